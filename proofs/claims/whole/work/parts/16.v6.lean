section
variable {p : Program} {l : Launch} {e : Env} {R : Room} {s : State} {m : MethodId} {args : Array Value} {below : List Frame} {meth : Method} {c : Code} {D : va_G} {tys : List (ClassId × FieldType)} {A : Nat → Prop} {cc : ByteArray} {nL cs sl : Nat} {own : String} {Ts : List Cond} {ret : Option FieldType} {Q : State → Prop} {pc : Nat} {lv : List (Nat × Value)} {st : List Value} {ws : va_W}
/-- the table ABOVE -/
theorem v_getA (G : Gx p R s m args meth c D tys A cc nL own Ts ret) {index : Nat} (hw : Cond.fieldLink own index "SupperLight" "ABOVE" "[I" ∈ Ts) (d : decode cc pc = .ok (.getstatic index, 3)) (kk : ∀ t : Nat, va_T .int t 6 (fun j => .int (jAbove j)) A s s.heap → V p l e R s m args below meth c D A nL cs sl Q (pc + 3) lv (.ref t :: st) ws) : V p l e R s m args below meth c D A nL cs sl Q pc lv st ws := by
  obtain ⟨hx, hb, hml, hown, hts, hr, hlk, hK, hE, hA⟩ := G
  intro H locs ls hP hD hS hl
  obtain ⟨t, h1, h2⟩ := hE.2.1
  exact va_gets hx hb h1 hS hown (hts _ hw) (fun _ h9 => h9) d (kk t h2 H locs ls hP hD hS hl)
theorem v_tali (G : Gx p R s m args meth c D tys A cc nL own Ts ret) {t : Nat} {z v : Int} (hT : va_T .int t 6 (fun j => .int (jAbove j)) A s s.heap) (hz : 0 ≤ z ∧ z < 6) (hv : jAbove z.toNat = jI v) (d : decode cc pc = .ok (.iaload, 1)) (kk : V p l e R s m args below meth c D A nL cs sl Q (pc + 1) lv (.int (jI v) :: st) ws) : V p l e R s m args below meth c D A nL cs sl Q pc lv (.int (jI z) :: .ref t :: st) ws := by
  obtain ⟨hx, hb, hml, hown, hts, hr, hlk, hK, hE, hA⟩ := G
  intro H locs ls hP hD hS hl
  exact va_ti hx hb hT hS (jI_in hz.1 (by omega) (by omega)) (by show Value.int (jAbove _) = _; rw [jI_clampN hz.1 (by omega), hv]) d (kk H locs ls hP hD hS hl)
theorem v_copyi (G : Gx p R s m args meth c D tys A cc nL own Ts ret) {index q0 q1 a0 a1 n0 n1 : Nat} {cA : ClassId} {f g g' : Int → Int} {sp dp n : Int} {ws' : va_W} (h1 : Cond.methodLink own index arraycopyName ∈ Ts) (h2 : Cond.native arraycopyName ∈ Ts) (h3 : Cond.static arraycopyName ∈ Ts) (h4 : Cond.initialized "java/lang/System" ∈ Ts) (ha0 : ws[q0]? = some (a0, .inl (cA, n0, .inl (jA f)))) (ha1 : ws[q1]? = some (a1, .inl (cA, n1, .inl (jA g)))) (ht : tys[0]? = some (cA, .int)) (hz : 0 ≤ sp ∧ 0 ≤ dp ∧ 0 ≤ n ∧ sp + n ≤ n0 ∧ dp + n ≤ n1 ∧ (n0 : Int) ≤ 100000 ∧ (n1 : Int) ≤ 100000) (hg : ∀ j : Int, 0 ≤ j → j < n1 → (if dp ≤ j ∧ j < dp + n then f (sp + (j - dp)) else g j) = g' j) (hR : 1 ≤ R.frames ∧ (st.map fun v => v.category).sum + (nativeFrameWords "java/lang/System" "arraycopy" 5 + 11) ≤ R.locals) (hws : ws.set q1 (a1, .inl (cA, n1, .inl (jA g'))) = ws') (d : decode cc pc = .ok (.invokestatic index, 3)) (kk : V p l e R s m args below meth c D A nL cs sl Q (pc + 3) lv st ws') : V p l e R s m args below meth c D A nL cs sl Q pc lv (.int (jI n) :: .int (jI dp) :: .ref a1 :: .int (jI sp) :: .ref a0 :: st) ws := by
  have G0 := G
  obtain ⟨hx, hb, hml, hown, hts, hr, hlk, hK, hE, hA⟩ := G
  intro H locs ls hP hD hS hl
  have nn : ∀ z : Int, 0 ≤ z → z ≤ 2147483647 → ¬ jI z < 0 := by
    intro z z0 z1 q
    rw [← jI_0, jI_lt ⟨by omega, by omega⟩ ⟨by omega, by omega⟩] at q
    omega
  have c1 := jI_clamp (z := sp) hz.1 (by omega)
  have c2 := jI_clamp (z := dp) hz.2.1 (by omega)
  have c3 := jI_clamp (z := n) hz.2.2.1 (by omega)
  refine va_copyi hx hb (hml.trans hl.1.symm) hown (hts _ h1) (hts _ h2) (hts _ h3) (hts _ h4) hK hP hD hS q0 q1 0 0 ha0 ha1 ht ht rfl (nn sp hz.1 (by omega)) (nn dp hz.2.1 (by omega)) (nn n hz.2.2.1 (by omega)) (by omega) (by omega) (fun _ _ => rfl) hR.1 hR.2 d (fun H1 locs1 hP1 hD1 hS1 => ?_)
  refine v_cell (g := fun j => if dp ≤ j ∧ j < dp + n then f (sp + (j - dp)) else g j) (g' := g') (q0 := q1) (a := a1) (n := n1) (cA := cA) (ws := ws.set q1 (a1, .inl (cA, n1, .inl (jA (fun j => if dp ≤ j ∧ j < dp + n then f (sp + (j - dp)) else g j))))) (by rw [List.getElem?_set_self (List.getElem?_eq_some_iff.mp ha1).1]) hg (by rw [List.set_set]; exact hws) kk H1 locs1 ls ?_ ?_ hS1 hl
  · have ef : va_cpy (jA f) (jA g) (jI sp).toNatClampNeg (jI dp).toNatClampNeg (jI n).toNatClampNeg = jA (fun j => if dp ≤ j ∧ j < dp + n then f (sp + (j - dp)) else g j) := by
      funext k
      unfold va_cpy jA
      dsimp only
      by_cases q : (jI dp).toNatClampNeg ≤ k ∧ k < (jI dp).toNatClampNeg + (jI n).toNatClampNeg
      · rw [if_pos q, if_pos (by omega)]
        congr 2
        omega
      · rw [if_neg q, if_neg (by omega)]
    rw [← ef]
    exact hP1
  · have ef : va_cpy (jA f) (jA g) (jI sp).toNatClampNeg (jI dp).toNatClampNeg (jI n).toNatClampNeg = jA (fun j => if dp ≤ j ∧ j < dp + n then f (sp + (j - dp)) else g j) := by
      funext k
      unfold va_cpy jA
      dsimp only
      by_cases q : (jI dp).toNatClampNeg ≤ k ∧ k < (jI dp).toNatClampNeg + (jI n).toNatClampNeg
      · rw [if_pos q, if_pos (by omega)]
        congr 2
        omega
      · rw [if_neg q, if_neg (by omega)]
    rw [← ef]
    exact hD1
theorem v_copyl (G : Gx p R s m args meth c D tys A cc nL own Ts ret) {index q0 q1 a0 a1 n0 n1 : Nat} {cA : ClassId} {f g g' : Int → Int64} {sp dp n : Int} {ws' : va_W} (h1 : Cond.methodLink own index arraycopyName ∈ Ts) (h2 : Cond.native arraycopyName ∈ Ts) (h3 : Cond.static arraycopyName ∈ Ts) (h4 : Cond.initialized "java/lang/System" ∈ Ts) (ha0 : ws[q0]? = some (a0, .inl (cA, n0, .inr (.inl (jLA f))))) (ha1 : ws[q1]? = some (a1, .inl (cA, n1, .inr (.inl (jLA g))))) (ht : tys[1]? = some (cA, .long)) (hz : 0 ≤ sp ∧ 0 ≤ dp ∧ 0 ≤ n ∧ sp + n ≤ n0 ∧ dp + n ≤ n1 ∧ (n0 : Int) ≤ 100000 ∧ (n1 : Int) ≤ 100000) (hg : ∀ j : Int, 0 ≤ j → j < n1 → (if dp ≤ j ∧ j < dp + n then f (sp + (j - dp)) else g j) = g' j) (hR : 1 ≤ R.frames ∧ (st.map fun v => v.category).sum + (nativeFrameWords "java/lang/System" "arraycopy" 5 + 11) ≤ R.locals) (hws : ws.set q1 (a1, .inl (cA, n1, .inr (.inl (jLA g')))) = ws') (d : decode cc pc = .ok (.invokestatic index, 3)) (kk : V p l e R s m args below meth c D A nL cs sl Q (pc + 3) lv st ws') : V p l e R s m args below meth c D A nL cs sl Q pc lv (.int (jI n) :: .int (jI dp) :: .ref a1 :: .int (jI sp) :: .ref a0 :: st) ws := by
  obtain ⟨hx, hb, hml, hown, hts, hr, hlk, hK, hE, hA⟩ := G
  intro H locs ls hP hD hS hl
  have nn : ∀ z : Int, 0 ≤ z → z ≤ 2147483647 → ¬ jI z < 0 := by
    intro z z0 z1 q
    rw [← jI_0, jI_lt ⟨by omega, by omega⟩ ⟨by omega, by omega⟩] at q
    omega
  have c1 := jI_clamp (z := sp) hz.1 (by omega)
  have c2 := jI_clamp (z := dp) hz.2.1 (by omega)
  have c3 := jI_clamp (z := n) hz.2.2.1 (by omega)
  have ef : va_cpy (jLA f) (jLA g) (jI sp).toNatClampNeg (jI dp).toNatClampNeg (jI n).toNatClampNeg = jLA (fun j => if dp ≤ j ∧ j < dp + n then f (sp + (j - dp)) else g j) := by
    funext k
    unfold va_cpy jLA
    dsimp only
    by_cases q : (jI dp).toNatClampNeg ≤ k ∧ k < (jI dp).toNatClampNeg + (jI n).toNatClampNeg
    · rw [if_pos q, if_pos (by omega)]
      congr 1
      omega
    · rw [if_neg q, if_neg (by omega)]
  refine va_copyl hx hb (hml.trans hl.1.symm) hown (hts _ h1) (hts _ h2) (hts _ h3) (hts _ h4) hK hP hD hS q0 q1 1 1 ha0 ha1 ht ht rfl (nn sp hz.1 (by omega)) (nn dp hz.2.1 (by omega)) (nn n hz.2.2.1 (by omega)) (by omega) (by omega) (fun _ _ => rfl) hR.1 hR.2 d (fun H1 locs1 hP1 hD1 hS1 => ?_)
  rw [ef] at hP1 hD1
  exact v_cellL (g := fun j => if dp ≤ j ∧ j < dp + n then f (sp + (j - dp)) else g j) (g' := g') (q0 := q1) (a := a1) (n := n1) (cA := cA) (ws := ws.set q1 (a1, .inl (cA, n1, .inr (.inl (jLA (fun j => if dp ≤ j ∧ j < dp + n then f (sp + (j - dp)) else g j)))))) (by rw [List.getElem?_set_self (List.getElem?_eq_some_iff.mp ha1).1]) hg (by rw [List.set_set]; exact hws) kk H1 locs1 ls hP1 hD1 hS1 hl
/-- behind a call over one cell: the others stay -/
theorem jOne {D : va_G} {ws : va_W} {H H1 : Heap} {A : Nat → Prop} {q0 a : Nat} {c0 c1 : va_E} (he : ws[q0]? = some (a, c0)) (hP : va_P D vwCl ws H) (hD : va_D A ws) (hk : ∀ q : Nat, q < H.size → ¬ va_A [(a, c0)] H.size q → H1[q]? = H[q]?) (h1 : va_P D vwCl [(a, c1)] H1) : va_P D vwCl (ws.set q0 (a, c1)) H1 := by
  intro k q hq
  by_cases h : q0 = k
  · subst h
    rw [List.getElem?_set_self (List.getElem?_eq_some_iff.mp he).1] at hq
    cases hq
    exact h1 0 _ rfl
  · rw [List.getElem?_set_ne h] at hq
    refine (hP k q hq).kept (hk q.1 (hP k q hq).lt (fun z => ?_))
    rcases z with ⟨i, e, hi⟩ | z
    · have : i = 0 := by
        rcases i with _ | i
        · rfl
        · simp at hi
      subst this
      have e2 : (q.1, e) = (a, c0) := (Option.some.inj hi).symm
      exact h (hD.1 q0 k (a, c0) q he hq (congrArg Prod.fst e2).symm)
    · exact Nat.lt_irrefl _ (Nat.lt_of_lt_of_le (hP k q hq).lt z)
theorem jOneD {A : Nat → Prop} {ws : va_W} {q0 a : Nat} {c0 : va_E} (he : ws[q0]? = some (a, c0)) (hD : va_D A ws) : va_D A [(a, c0)] := by
  refine ⟨fun i j p q hi hj _ => ?_, fun k q hk => ?_⟩
  · have h1 := (List.getElem?_eq_some_iff.mp hi).1
    have h2 := (List.getElem?_eq_some_iff.mp hj).1
    simp at h1 h2
    omega
  · have h1 := (List.getElem?_eq_some_iff.mp hk).1
    simp at h1
    subst h1
    cases hk
    exact hD.2 q0 _ he
theorem v_ciA (G : Gx p R s m args meth c D tys A cc nL own Ts ret) {a0 q0 : Nat} {c0 : va_E} {S : Type} {post : Int32 → S → Prop} {rest : List Value} {a : Array Value} (he : ws[q0]? = some (a0, c0)) (hr1 : Rn p l e R s m args below meth c D A nL cs sl pc st rest [(a0, c0)] (fun sz => va_Qi post (jB D (fun _ => [(a0, c0)]) (va_A [(a0, c0)] sz)) (va_A [(a0, c0)] sz) a)) (kk : ∀ (r : Int32) (u : S), post r u → V p l e R s m args below meth c D A nL cs sl Q (pc + 3) lv (.int r :: rest) ws) : V p l e R s m args below meth c D A nL cs sl Q pc lv st ws := by
  obtain ⟨hx, hb, hml, hown, hts, hr, hlk, hK, hE, hA⟩ := G
  intro H locs ls hP hD hS hl
  have hDc := jOneD he hD
  have hPc : va_P D vwCl [(a0, c0)] H := fun k q hk => by
    have h1 := (List.getElem?_eq_some_iff.mp hk).1
    simp at h1
    subst h1
    cases hk
    exact hP q0 _ he
  have hF : ∀ q, va_A [(a0, c0)] H.size q → A q := by
    intro q h
    rcases h with ⟨k, e, h⟩ | h
    · exact hDc.2 k (q, e) h
    · exact hA q (Nat.le_trans hS.1 h)
  refine va_calli (hr1 H locs ls hPc hDc hF hS hl.1) hS (fun q _ h => hF q h) hF (fun r u t H1 locs1 ht hvm hp hB hz hk hS1 => ?_)
  obtain ⟨hP1, -⟩ := hB
  rw [ht] at hP1
  have e2 : ws.set q0 (a0, c0) = ws := by
    obtain ⟨h1, h2⟩ := List.getElem?_eq_some_iff.mp he
    rw [← h2]
    exact List.set_getElem_self h1
  have hP2 := jOne he hP hD hk hP1
  rw [e2] at hP2
  exact kk r u hp H1 locs1 ls hP2 hD hS1 hl
theorem v_cvA (G : Gx p R s m args meth c D tys A cc nL own Ts ret) {a0 q0 : Nat} {c0 c1 : va_E} {ws' : va_W} {S : Type} {post : S → Prop} {rest : List Value} {a : Array Value} (he : ws[q0]? = some (a0, c0)) (hws : ws.set q0 (a0, c1) = ws') (hr1 : Rn p l e R s m args below meth c D A nL cs sl pc st rest [(a0, c0)] (fun sz => va_Qv post (jB D (fun _ => [(a0, c1)]) (va_A [(a0, c0)] sz)) (va_A [(a0, c0)] sz) a)) (kk : ∀ (u : S), post u → V p l e R s m args below meth c D A nL cs sl Q (pc + 3) lv rest ws') : V p l e R s m args below meth c D A nL cs sl Q pc lv st ws := by
  obtain ⟨hx, hb, hml, hown, hts, hr, hlk, hK, hE, hA⟩ := G
  intro H locs ls hP hD hS hl
  have hDc := jOneD he hD
  have hPc : va_P D vwCl [(a0, c0)] H := fun k q hk => by
    have h1 := (List.getElem?_eq_some_iff.mp hk).1
    simp at h1
    subst h1
    cases hk
    exact hP q0 _ he
  have hF : ∀ q, va_A [(a0, c0)] H.size q → A q := by
    intro q h
    rcases h with ⟨k, e, h⟩ | h
    · exact hDc.2 k (q, e) h
    · exact hA q (Nat.le_trans hS.1 h)
  refine va_callv (hr1 H locs ls hPc hDc hF hS hl.1) hS (fun q _ h => hF q h) hF (fun u t H1 locs1 ht hvm hp hB hz hk hS1 => ?_)
  obtain ⟨hP1, -⟩ := hB
  rw [ht] at hP1
  have hP2 := jOne he hP hD hk hP1
  rw [hws] at hP2
  have hD2 := hD.set (e := c1) he
  rw [hws] at hD2
  exact kk u hp H1 locs1 ls hP2 hD2 hS1 hl
end

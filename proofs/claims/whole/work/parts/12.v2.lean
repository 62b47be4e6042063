theorem arrV_cg {cA : ClassId} {n : Nat} {f f' : Nat → Value} (h : ∀ j : Nat, j < n → f j = f' j) : arrV cA n f = arrV cA n f' := by
  unfold arrV
  congr 2
  funext j
  exact h j.val j.isLt
theorem jSub {ws wc : va_W} {is : List Nat} (h : is.map (fun i => ws[i]?) = wc.map some) : is.filterMap (fun i => ws[i]?) = wc := by
  have e : is.filterMap (fun i => ws[i]?) = (is.map (fun i => ws[i]?)).filterMap id := by rw [List.filterMap_map]; rfl
  rw [e, h, List.filterMap_map]
  exact List.filterMap_some
section
variable {p : Program} {l : Launch} {e : Env} {R : Room} {s : State} {m : MethodId} {args : Array Value} {below : List Frame} {meth : Method} {c : Code} {D : va_G} {tys : List (ClassId × FieldType)} {A : Nat → Prop} {cc : ByteArray} {nL cs sl : Nat} {own : String} {Ts : List Cond} {ret : Option FieldType} {Q : State → Prop} {pc : Nat} {lv : List (Nat × Value)} {st : List Value} {ws : va_W}
theorem v_cell {q0 a n : Nat} {cA : ClassId} {g g' : Int → Int} {ws' : va_W} (ha : ws[q0]? = some (a, .inl (cA, n, .inl (jA g)))) (hg : ∀ j : Int, 0 ≤ j → j < n → g j = g' j) (hws : ws.set q0 (a, .inl (cA, n, .inl (jA g'))) = ws') (kk : V p l e R s m args below meth c D A nL cs sl Q pc lv st ws') : V p l e R s m args below meth c D A nL cs sl Q pc lv st ws := by
  intro H locs ls hP hD hS hl
  subst hws
  refine kk H locs ls (fun k q hk => ?_) (hD.set ha) hS hl
  by_cases h : q0 = k
  · subst h
    rw [List.getElem?_set_self (by exact (List.getElem?_eq_some_iff.mp ha).1)] at hk
    cases hk
    have h1 : H[a]? = some (vp_cell cA (n, .inl (jA g))) := hP q0 _ ha
    show H[a]? = some (vp_cell cA (n, .inl (jA g')))
    rw [h1, vp_cell_i, vp_cell_i]
    exact congrArg some (arrV_cg (fun j hj => by unfold jA; rw [hg (j : Int) (by omega) (by omega)]))
  · rw [List.getElem?_set_ne h] at hk
    exact hP k q hk
theorem v_cellL {q0 a n : Nat} {cA : ClassId} {g g' : Int → Int64} {ws' : va_W} (ha : ws[q0]? = some (a, .inl (cA, n, .inr (.inl (jLA g))))) (hg : ∀ j : Int, 0 ≤ j → j < n → g j = g' j) (hws : ws.set q0 (a, .inl (cA, n, .inr (.inl (jLA g')))) = ws') (kk : V p l e R s m args below meth c D A nL cs sl Q pc lv st ws') : V p l e R s m args below meth c D A nL cs sl Q pc lv st ws := by
  intro H locs ls hP hD hS hl
  subst hws
  refine kk H locs ls (fun k q hk => ?_) (hD.set ha) hS hl
  by_cases h : q0 = k
  · subst h
    rw [List.getElem?_set_self (by exact (List.getElem?_eq_some_iff.mp ha).1)] at hk
    cases hk
    have h1 : H[a]? = some (vp_cell cA (n, .inr (.inl (jLA g)))) := hP q0 _ ha
    show H[a]? = some (vp_cell cA (n, .inr (.inl (jLA g'))))
    rw [h1, vp_cell_l, vp_cell_l]
    exact congrArg some (arrV_cg (fun j hj => by unfold jLA; rw [hg (j : Int) (by omega) (by omega)]))
  · rw [List.getElem?_set_ne h] at hk
    exact hP k q hk
theorem v_iast (G : Gx p R s m args meth c D tys A cc nL own Ts ret) {q0 t0 a n : Nat} {cA : ClassId} {g : Int → Int} {z x : Int} {ws' : va_W} (ha : ws[q0]? = some (a, .inl (cA, n, .inl (jA g)))) (ht : tys[t0]? = some (cA, .int)) (hz : 0 ≤ z ∧ z < n ∧ (n : Int) ≤ 2147483647) (hws : ws.set q0 (a, .inl (cA, n, .inl (jA (uI g z x)))) = ws') (d : decode cc pc = .ok (.iastore, 1)) (kk : V p l e R s m args below meth c D A nL cs sl Q (pc + 1) lv st ws') : V p l e R s m args below meth c D A nL cs sl Q pc lv (.int (jI x) :: .int (jI z) :: .ref a :: st) ws := by
  obtain ⟨hx, hb, hml, hown, hts, hr, hlk, hK, hE, hA⟩ := G
  intro H locs ls hP hD hS hl
  refine va_iast hx hb hK hP hD hS q0 t0 ha ht (jI_in hz.1 hz.2.1 (by omega)) d (fun H locs hP hD hS => ?_)
  rw [jA_up hz.1 (by omega), hws] at hP hD
  exact kk H locs ls hP hD hS hl
theorem v_bast (G : Gx p R s m args meth c D tys A cc nL own Ts ret) {q0 t0 a n : Nat} {cA : ClassId} {g : Int → Int} {z x : Int} {ws' : va_W} (ha : ws[q0]? = some (a, .inl (cA, n, .inl (jA g)))) (ht : tys[t0]? = some (cA, .byte)) (hz : 0 ≤ z ∧ z < n ∧ (n : Int) ≤ 2147483647) (hx1 : vp_nar .byte (jI x) = jI x) (hws : ws.set q0 (a, .inl (cA, n, .inl (jA (uI g z x)))) = ws') (d : decode cc pc = .ok (.bastore, 1)) (kk : V p l e R s m args below meth c D A nL cs sl Q (pc + 1) lv st ws') : V p l e R s m args below meth c D A nL cs sl Q pc lv (.int (jI x) :: .int (jI z) :: .ref a :: st) ws := by
  obtain ⟨hx, hb, hml, hown, hts, hr, hlk, hK, hE, hA⟩ := G
  intro H locs ls hP hD hS hl
  refine va_bast hx hb hK hP hD hS q0 t0 ha ht (jI_in hz.1 hz.2.1 (by omega)) d (fun H locs hP hD hS => ?_)
  rw [hx1, jA_up hz.1 (by omega), hws] at hP hD
  exact kk H locs ls hP hD hS hl
theorem v_bald (G : Gx p R s m args meth c D tys A cc nL own Ts ret) {q0 t0 a n : Nat} {cA : ClassId} {g : Int → Int} {z : Int} (ha : ws[q0]? = some (a, .inl (cA, n, .inl (jA g)))) (ht : tys[t0]? = some (cA, .byte)) (hz : 0 ≤ z ∧ z < n ∧ (n : Int) ≤ 2147483647) (d : decode cc pc = .ok (.baload, 1)) (kk : V p l e R s m args below meth c D A nL cs sl Q (pc + 1) lv (.int (jI (g z)) :: st) ws) : V p l e R s m args below meth c D A nL cs sl Q pc lv (.int (jI z) :: .ref a :: st) ws := by
  obtain ⟨hx, hb, hml, hown, hts, hr, hlk, hK, hE, hA⟩ := G
  intro H locs ls hP hD hS hl
  refine va_bald hx hb hK hP q0 t0 ha ht (jI_in hz.1 hz.2.1 (by omega)) d ?_
  rw [jA_at hz.1 (by omega)]
  exact kk H locs ls hP hD hS hl
theorem v_last (G : Gx p R s m args meth c D tys A cc nL own Ts ret) {q0 t0 a n : Nat} {cA : ClassId} {g : Int → Int64} {z : Int} {x : Int64} {ws' : va_W} (ha : ws[q0]? = some (a, .inl (cA, n, .inr (.inl (jLA g))))) (ht : tys[t0]? = some (cA, .long)) (hz : 0 ≤ z ∧ z < n ∧ (n : Int) ≤ 2147483647) (hws : ws.set q0 (a, .inl (cA, n, .inr (.inl (jLA (uL g z x))))) = ws') (d : decode cc pc = .ok (.lastore, 1)) (kk : V p l e R s m args below meth c D A nL cs sl Q (pc + 1) lv st ws') : V p l e R s m args below meth c D A nL cs sl Q pc lv (.long x :: .int (jI z) :: .ref a :: st) ws := by
  obtain ⟨hx, hb, hml, hown, hts, hr, hlk, hK, hE, hA⟩ := G
  intro H locs ls hP hD hS hl
  refine va_last hx hb hK hP hD hS q0 t0 ha ht (jI_in hz.1 hz.2.1 (by omega)) d (fun H locs hP hD hS => ?_)
  rw [jLA_up hz.1 (by omega), hws] at hP hD
  exact kk H locs ls hP hD hS hl
theorem v_aald (G : Gx p R s m args meth c D tys A cc nL own Ts ret) {q0 t0 a n y : Nat} {cA : ClassId} {C : String} {f : Nat → Option Nat} {z : Int} (ha : ws[q0]? = some (a, .inl (cA, n, .inr (.inr (.inr (.inr f)))))) (ht : tys[t0]? = some (cA, .object C)) (hz : 0 ≤ z ∧ z < n ∧ (n : Int) ≤ 2147483647) (hf : f z.toNat = some y) (d : decode cc pc = .ok (.aaload, 1)) (kk : V p l e R s m args below meth c D A nL cs sl Q (pc + 1) lv (.ref y :: st) ws) : V p l e R s m args below meth c D A nL cs sl Q pc lv (.int (jI z) :: .ref a :: st) ws := by
  obtain ⟨hx, hb, hml, hown, hts, hr, hlk, hK, hE, hA⟩ := G
  intro H locs ls hP hD hS hl
  refine va_aldq hx hb hK hP q0 t0 ha ht (jI_in hz.1 hz.2.1 (by omega)) d ?_
  rw [jI_clampN hz.1 (by omega), hf]
  exact kk H locs ls hP hD hS hl
theorem v_alen (G : Gx p R s m args meth c D tys A cc nL own Ts ret) {q0 t0 a : Nat} {cA : ClassId} {x : vp_A} {ty : FieldType} {z : Int} (ha : ws[q0]? = some (a, .inl (cA, x))) (ht : tys[t0]? = some (cA, ty)) (hz : (x.1 : Int) = z) (d : decode cc pc = .ok (.arraylength, 1)) (kk : V p l e R s m args below meth c D A nL cs sl Q (pc + 1) lv (.int (jI z) :: st) ws) : V p l e R s m args below meth c D A nL cs sl Q pc lv (.ref a :: st) ws := by
  obtain ⟨hx, hb, hml, hown, hts, hr, hlk, hK, hE, hA⟩ := G
  intro H locs ls hP hD hS hl
  exact va_alen hx hb hK hP q0 t0 ha ht (by rw [← hz]; exact Int32.ofInt_eq_ofNat.symm) d (kk H locs ls hP hD hS hl)
theorem v_lcmp (G : Gx p R s m args meth c D tys A cc nL own Ts ret) {x y : Int64} (d : decode cc pc = .ok (.lcmp, 1)) (kk : V p l e R s m args below meth c D A nL cs sl Q (pc + 1) lv (.int (lg_cmp x y) :: st) ws) : V p l e R s m args below meth c D A nL cs sl Q pc lv (.long y :: .long x :: st) ws := by
  obtain ⟨hx, hb, hml, hown, hts, hr, hlk, hK, hE, hA⟩ := G
  intro H locs ls hP hD hS hl
  exact W.lcmp hx hb d (kk H locs ls hP hD hS hl)
theorem jI_max {a b z : Int} (h : (-2147483648 ≤ a ∧ a ≤ 2147483647) ∧ -2147483648 ≤ b ∧ b ≤ 2147483647) (hz : (a < b → b = z) ∧ (b ≤ a → a = z)) : (if jI a < jI b then jI b else jI a) = jI z := by
  by_cases q : a < b
  · rw [if_pos ((jI_lt h.1 h.2).mpr q), hz.1 q]
  · rw [if_neg (fun r => q ((jI_lt h.1 h.2).mp r)), hz.2 (by omega)]
theorem jI_min {a b z : Int} (h : (-2147483648 ≤ a ∧ a ≤ 2147483647) ∧ -2147483648 ≤ b ∧ b ≤ 2147483647) (hz : (b < a → b = z) ∧ (a ≤ b → a = z)) : (if jI b < jI a then jI b else jI a) = jI z := by
  by_cases q : b < a
  · rw [if_pos ((jI_lt h.2 h.1).mpr q), hz.1 q]
  · rw [if_neg (fun r => q ((jI_lt h.2 h.1).mp r)), hz.2 (by omega)]
theorem jI_abs {a z : Int} (h : -2147483647 ≤ a ∧ a ≤ 2147483647) (hz : (0 ≤ a → a = z) ∧ (a < 0 → -a = z)) : (if 0 ≤ jI a then jI a else 0 - jI a) = jI z := by
  have e0 : (0 : Int32) = jI 0 := jI_0.symm
  rw [e0]
  by_cases q : 0 ≤ a
  · rw [if_pos ((jI_le ⟨by omega, by omega⟩ ⟨by omega, by omega⟩).mpr q), hz.1 q]
  · rw [if_neg (fun r => q ((jI_le ⟨by omega, by omega⟩ ⟨by omega, by omega⟩).mp r)), jI_sub, show (0 - a) = -a by omega, hz.2 (by omega)]
theorem v_mmax (G : Gx p R s m args meth c D tys A cc nL own Ts ret) {index : Nat} {a b z : Int} (h1 : Cond.methodLink own index Lib.Math.max.name ∈ Ts) (h2 : Cond.static Lib.Math.max.name ∈ Ts) (h3 : Cond.initialized "java/lang/Math" ∈ Ts) (h4 : Cond.code Lib.Math.max.name Lib.Math.max.code 2 (some .int) ∈ Ts) (hR : 1 ≤ R.frames ∧ (st.map fun v => v.category).sum + 13 ≤ R.locals ∧ cs ≤ R.cells ∧ sl ≤ R.slots) (hq : (-2147483648 ≤ a ∧ a ≤ 2147483647) ∧ -2147483648 ≤ b ∧ b ≤ 2147483647) (hz : (a < b → b = z) ∧ (b ≤ a → a = z)) (d : decode cc pc = .ok (.invokestatic index, 3)) (kk : V p l e R s m args below meth c D A nL cs sl Q (pc + 3) lv (.int (jI z) :: st) ws) : V p l e R s m args below meth c D A nL cs sl Q pc lv (.int (jI b) :: .int (jI a) :: st) ws := by
  obtain ⟨hx, hb, hml, hown, hts, hr, hlk, hK, hE, hA⟩ := G
  intro H locs ls hP hD hS hl
  refine va_mmax hx hb (hml.trans hl.1.symm) hown (hts _ h1) (hts _ h2) (hts _ h3) (hts _ h4) hR.1 hR.2.1 hR.2.2.1 hR.2.2.2 d ?_
  rw [jI_max hq hz]
  exact kk H locs ls hP hD hS hl
theorem v_mmin (G : Gx p R s m args meth c D tys A cc nL own Ts ret) {index : Nat} {a b z : Int} (h1 : Cond.methodLink own index Lib.Math.min.name ∈ Ts) (h2 : Cond.static Lib.Math.min.name ∈ Ts) (h3 : Cond.initialized "java/lang/Math" ∈ Ts) (h4 : Cond.code Lib.Math.min.name Lib.Math.min.code 2 (some .int) ∈ Ts) (hR : 1 ≤ R.frames ∧ (st.map fun v => v.category).sum + 13 ≤ R.locals ∧ cs ≤ R.cells ∧ sl ≤ R.slots) (hq : (-2147483648 ≤ a ∧ a ≤ 2147483647) ∧ -2147483648 ≤ b ∧ b ≤ 2147483647) (hz : (b < a → b = z) ∧ (a ≤ b → a = z)) (d : decode cc pc = .ok (.invokestatic index, 3)) (kk : V p l e R s m args below meth c D A nL cs sl Q (pc + 3) lv (.int (jI z) :: st) ws) : V p l e R s m args below meth c D A nL cs sl Q pc lv (.int (jI b) :: .int (jI a) :: st) ws := by
  obtain ⟨hx, hb, hml, hown, hts, hr, hlk, hK, hE, hA⟩ := G
  intro H locs ls hP hD hS hl
  refine va_mmin hx hb (hml.trans hl.1.symm) hown (hts _ h1) (hts _ h2) (hts _ h3) (hts _ h4) hR.1 hR.2.1 hR.2.2.1 hR.2.2.2 d ?_
  rw [jI_min hq hz]
  exact kk H locs ls hP hD hS hl
theorem v_mabs (G : Gx p R s m args meth c D tys A cc nL own Ts ret) {index : Nat} {a z : Int} (h1 : Cond.methodLink own index Lib.Math.abs.name ∈ Ts) (h2 : Cond.static Lib.Math.abs.name ∈ Ts) (h3 : Cond.initialized "java/lang/Math" ∈ Ts) (h4 : Cond.code Lib.Math.abs.name Lib.Math.abs.code 1 (some .int) ∈ Ts) (hR : 1 ≤ R.frames ∧ (st.map fun v => v.category).sum + 13 ≤ R.locals ∧ cs ≤ R.cells ∧ sl ≤ R.slots) (hq : -2147483647 ≤ a ∧ a ≤ 2147483647) (hz : (0 ≤ a → a = z) ∧ (a < 0 → -a = z)) (d : decode cc pc = .ok (.invokestatic index, 3)) (kk : V p l e R s m args below meth c D A nL cs sl Q (pc + 3) lv (.int (jI z) :: st) ws) : V p l e R s m args below meth c D A nL cs sl Q pc lv (.int (jI a) :: st) ws := by
  obtain ⟨hx, hb, hml, hown, hts, hr, hlk, hK, hE, hA⟩ := G
  intro H locs ls hP hD hS hl
  refine va_mabs hx hb (hml.trans hl.1.symm) hown (hts _ h1) (hts _ h2) (hts _ h3) (hts _ h4) hR.1 hR.2.1 hR.2.2.1 hR.2.2.2 d ?_
  rw [jI_abs hq hz]
  exact kk H locs ls hP hD hS hl
/-- a contract's start: arguments, the world, its surroundings -/
def jP (D : va_G) (tys : List (ClassId × FieldType)) (as : List Value) (ws : va_W) (sz : Nat) : Array Value → State → Prop := va_Pc as (fun U => U.heap.size = sz ∧ va_P D vwCl ws U.heap ∧ va_K D vwCl tys U ∧ va_D (fun _ => True) ws ∧ jE (va_A ws sz) U U.heap)
theorem jP_blind {as : List Value} {sz : Nat} : FrameBlind (jP D tys as ws sz) := by
  intro a U g mk q
  obtain ⟨q0, q1, qP, qK, qD, qE⟩ := q
  exact ⟨q0, q1, qP, va_K.moved (u := U) (U := U.calling g mk a) (Vm.Alike.refl U.vm) qK, qD, qE.calling⟩
theorem jP_pre {as : List Value} {wc : va_W} {H : Heap} {locs : List Loc} {U : State} (hK : va_K D vwCl tys s) (hE : jE A s s.heap) (hP : va_P D vwCl wc H) (hD : va_D A wc) (hF : ∀ q, va_A wc H.size q → A q) (hS : va_S A s.heap H locs) (hU : U.heap = H) (hW : s.WarmedH U.vm) : jP D tys as wc H.size as.toArray U :=
  ⟨rfl, by rw [hU], by rw [hU]; exact hP, va_K.moved hW.alike hK, hD.weaken (fun _ _ _ _ => trivial), hE.call hS hF hW hU⟩
/-- a contract's end: the world behind it -/
def jB (D : va_G) {S : Type} (w1 : S → va_W) (A : Nat → Prop) : S → State → Prop := fun u t => va_P D vwCl (w1 u) t.heap ∧ va_D A (w1 u)
def Ci (l : Launch) (y : MethodName) (wy : List Cond) (rm : Room) (D : va_G) (tys : List (ClassId × FieldType)) (as : List Value) (ws : va_W) {S : Type} (w1 : S → va_W) (post : Int32 → S → Prop) : Prop := ∀ sz : Nat, Met l y wy rm (jP D tys as ws sz) (va_Qi post (jB D w1 (va_A ws sz)) (va_A ws sz)) 0 0 (va_A ws sz)
def Cl (l : Launch) (y : MethodName) (wy : List Cond) (rm : Room) (D : va_G) (tys : List (ClassId × FieldType)) (as : List Value) (ws : va_W) {S : Type} (w1 : S → va_W) (post : Int64 → S → Prop) : Prop := ∀ sz : Nat, Met l y wy rm (jP D tys as ws sz) (va_Ql post (jB D w1 (va_A ws sz)) (va_A ws sz)) 0 0 (va_A ws sz)
def Cv (l : Launch) (y : MethodName) (wy : List Cond) (rm : Room) (D : va_G) (tys : List (ClassId × FieldType)) (as : List Value) (ws : va_W) {S : Type} (w1 : S → va_W) (post : S → Prop) : Prop := ∀ sz : Nat, Met l y wy rm (jP D tys as ws sz) (va_Qv post (jB D w1 (va_A ws sz)) (va_A ws sz)) 0 0 (va_A ws sz)
def Cr (l : Launch) (y : MethodName) (wy : List Cond) (rm : Room) (D : va_G) (tys : List (ClassId × FieldType)) (as : List Value) (ws : va_W) (post : State → Nat → Prop) : Prop := ∀ sz : Nat, Met l y wy rm (jP D tys as ws sz) (va_Qr (fun _ : Unit => True) (fun _ a t => post t a ∧ jB D (fun _ : Unit => ws) (va_A ws sz) () t) (va_A ws sz)) 0 0 (va_A ws sz)
theorem Ci.mk {y : MethodName} {wy wy' : List Cond} {rm : Room} {as : List Value} {maxL : Nat} {rt : FieldType} {S : Type} {w1 : S → va_W} {post : Int32 → S → Prop} (hy : plainName y.cls = true) (hw : wy = Cond.code y cc maxL (some rt) :: wy') (hn : (lg_sl as).length ≤ maxL) (hlv : lv_args 0 as = lv)
    (body : ∀ (p : Program) (e : Env) (s : State) (m : MethodId) (below : List Frame) (meth : Method) (c : Code) (A : Nat → Prop), Gx p rm s m as.toArray meth c D tys A cc maxL y.cls wy (some rt) → meth.name = y.name → V p l e rm s m as.toArray below meth c D A maxL 0 0 (MQ below (va_Qi post (jB D w1 A) A) as.toArray s 0 0 A) 0 lv [] ws) : Ci l y wy rm D tys as ws w1 post := by
  intro sz
  refine Met.ofW (cc := cc) (maxL := maxL) (ret := some rt) hy hw ?_
  intro p e s m args below meth c s₁ B hml hv
  obtain ⟨rfl, hsz, hP, hK, hD0, hE⟩ := hv
  subst hsz
  have hD := hD0.self (sz := s.heap.size)
  have hl := lv_entry as (n := maxL) hn
  rw [hlv] at hl
  rw [lg_entry_eq]
  exact body p e s m below meth c _ ⟨B.exec, B.bytes, hml, findClass_of_methodNamed B.named, atoms_spec (ws := wy) B.pre, B.returns, B.notSynchronized, hK, hE, fun q h => Or.inr h⟩ (name_of_methodNamed B.named B.method).1 s.heap [] _ hP hD va_S.rf hl
theorem Cl.mk {y : MethodName} {wy wy' : List Cond} {rm : Room} {as : List Value} {maxL : Nat} {S : Type} {w1 : S → va_W} {post : Int64 → S → Prop} (hy : plainName y.cls = true) (hw : wy = Cond.code y cc maxL (some .long) :: wy') (hn : (lg_sl as).length ≤ maxL) (hlv : lv_args 0 as = lv)
    (body : ∀ (p : Program) (e : Env) (s : State) (m : MethodId) (below : List Frame) (meth : Method) (c : Code) (A : Nat → Prop), Gx p rm s m as.toArray meth c D tys A cc maxL y.cls wy (some .long) → meth.name = y.name → V p l e rm s m as.toArray below meth c D A maxL 0 0 (MQ below (va_Ql post (jB D w1 A) A) as.toArray s 0 0 A) 0 lv [] ws) : Cl l y wy rm D tys as ws w1 post := by
  intro sz
  refine Met.ofW (cc := cc) (maxL := maxL) (ret := some .long) hy hw ?_
  intro p e s m args below meth c s₁ B hml hv
  obtain ⟨rfl, hsz, hP, hK, hD0, hE⟩ := hv
  subst hsz
  have hD := hD0.self (sz := s.heap.size)
  have hl := lv_entry as (n := maxL) hn
  rw [hlv] at hl
  rw [lg_entry_eq]
  exact body p e s m below meth c _ ⟨B.exec, B.bytes, hml, findClass_of_methodNamed B.named, atoms_spec (ws := wy) B.pre, B.returns, B.notSynchronized, hK, hE, fun q h => Or.inr h⟩ (name_of_methodNamed B.named B.method).1 s.heap [] _ hP hD va_S.rf hl
theorem Cv.mk {y : MethodName} {wy wy' : List Cond} {rm : Room} {as : List Value} {maxL : Nat} {S : Type} {w1 : S → va_W} {post : S → Prop} (hy : plainName y.cls = true) (hw : wy = Cond.code y cc maxL (none) :: wy') (hn : (lg_sl as).length ≤ maxL) (hlv : lv_args 0 as = lv)
    (body : ∀ (p : Program) (e : Env) (s : State) (m : MethodId) (below : List Frame) (meth : Method) (c : Code) (A : Nat → Prop), Gx p rm s m as.toArray meth c D tys A cc maxL y.cls wy (none) → meth.name = y.name → V p l e rm s m as.toArray below meth c D A maxL 0 0 (MQ below (va_Qv post (jB D w1 A) A) as.toArray s 0 0 A) 0 lv [] ws) : Cv l y wy rm D tys as ws w1 post := by
  intro sz
  refine Met.ofW (cc := cc) (maxL := maxL) (ret := none) hy hw ?_
  intro p e s m args below meth c s₁ B hml hv
  obtain ⟨rfl, hsz, hP, hK, hD0, hE⟩ := hv
  subst hsz
  have hD := hD0.self (sz := s.heap.size)
  have hl := lv_entry as (n := maxL) hn
  rw [hlv] at hl
  rw [lg_entry_eq]
  exact body p e s m below meth c _ ⟨B.exec, B.bytes, hml, findClass_of_methodNamed B.named, atoms_spec (ws := wy) B.pre, B.returns, B.notSynchronized, hK, hE, fun q h => Or.inr h⟩ (name_of_methodNamed B.named B.method).1 s.heap [] _ hP hD va_S.rf hl
theorem Cr.mk {y : MethodName} {wy wy' : List Cond} {rm : Room} {as : List Value} {maxL : Nat} {rt : FieldType} {post : State → Nat → Prop} (hy : plainName y.cls = true) (hw : wy = Cond.code y cc maxL (some rt) :: wy') (hn : (lg_sl as).length ≤ maxL) (hlv : lv_args 0 as = lv)
    (body : ∀ (p : Program) (e : Env) (s : State) (m : MethodId) (below : List Frame) (meth : Method) (c : Code) (A : Nat → Prop), Gx p rm s m as.toArray meth c D tys A cc maxL y.cls wy (some rt) → V p l e rm s m as.toArray below meth c D A maxL 0 0 (MQ below (va_Qr (fun _ : Unit => True) (fun _ a t => post t a ∧ jB D (fun _ : Unit => ws) A () t) A) as.toArray s 0 0 A) 0 lv [] ws) : Cr l y wy rm D tys as ws post := by
  intro sz
  refine Met.ofW (cc := cc) (maxL := maxL) (ret := some rt) hy hw ?_
  intro p e s m args below meth c s₁ B hml hv
  obtain ⟨rfl, hsz, hP, hK, hD0, hE⟩ := hv
  subst hsz
  have hD := hD0.self (sz := s.heap.size)
  have hl := lv_entry as (n := maxL) hn
  rw [hlv] at hl
  rw [lg_entry_eq]
  exact body p e s m below meth c _ ⟨B.exec, B.bytes, hml, findClass_of_methodNamed B.named, atoms_spec (ws := wy) B.pre, B.returns, B.notSynchronized, hK, hE, fun q h => Or.inr h⟩ s.heap [] _ hP hD va_S.rf hl
theorem v_iret (G : Gx p R s m args meth c D tys A cc nL own Ts (some .int)) {S : Type} {w1 : S → va_W} {post : Int32 → S → Prop} (u : S) {r : Int32} (hp : post r u) (hw : ws = w1 u) (d : decode cc pc = .ok (.ireturn, 1)) : V p l e R s m args below meth c D A nL cs sl (MQ below (va_Qi post (jB D w1 A) A) args s cs sl A) pc lv [.int r] ws := by
  obtain ⟨hx, hb, hml, hown, hts, hr, hlk, hK, hE, hA⟩ := G
  intro H locs ls hP hD hS hl
  exact W.iret hx hb hr (fun t ht hW => ⟨⟨r, u, rfl, hp, by rw [ht, ← hw]; exact hP, by rw [← hw]; exact hD⟩, hS.F ht⟩) hS.2.2 d hlk
theorem v_zret {rt : FieldType} (G : Gx p R s m args meth c D tys A cc nL own Ts (some rt)) {S : Type} {w1 : S → va_W} {post : Int32 → S → Prop} (u : S) {r : Int32} (hn : narrow rt (.int r) = .int r) (hp : post r u) (hw : ws = w1 u) (d : decode cc pc = .ok (.ireturn, 1)) : V p l e R s m args below meth c D A nL cs sl (MQ below (va_Qi post (jB D w1 A) A) args s cs sl A) pc lv [.int r] ws := by
  obtain ⟨hx, hb, hml, hown, hts, hr, hlk, hK, hE, hA⟩ := G
  intro H locs ls hP hD hS hl
  exact W.zret hx hb hr hn (fun t ht hW => ⟨⟨r, u, rfl, hp, by rw [ht, ← hw]; exact hP, by rw [← hw]; exact hD⟩, hS.F ht⟩) hS.2.2 d hlk
theorem v_lret (G : Gx p R s m args meth c D tys A cc nL own Ts (some .long)) {S : Type} {w1 : S → va_W} {post : Int64 → S → Prop} (u : S) {r : Int64} (hp : post r u) (hw : ws = w1 u) (d : decode cc pc = .ok (.lreturn, 1)) : V p l e R s m args below meth c D A nL cs sl (MQ below (va_Ql post (jB D w1 A) A) args s cs sl A) pc lv [.long r] ws := by
  obtain ⟨hx, hb, hml, hown, hts, hr, hlk, hK, hE, hA⟩ := G
  intro H locs ls hP hD hS hl
  exact W.lret hx hb hr (fun t ht hW => ⟨⟨r, u, rfl, hp, by rw [ht, ← hw]; exact hP, by rw [← hw]; exact hD⟩, hS.F ht⟩) hS.2.2 d hlk
theorem v_vret (G : Gx p R s m args meth c D tys A cc nL own Ts none) {S : Type} {w1 : S → va_W} {post : S → Prop} (u : S) (hp : post u) (hw : ws = w1 u) (d : decode cc pc = .ok (.return_, 1)) : V p l e R s m args below meth c D A nL cs sl (MQ below (va_Qv post (jB D w1 A) A) args s cs sl A) pc lv [] ws := by
  obtain ⟨hx, hb, hml, hown, hts, hr, hlk, hK, hE, hA⟩ := G
  intro H locs ls hP hD hS hl
  exact W.vret hx hb hr (fun t ht hW => ⟨⟨u, rfl, hp, by rw [ht, ← hw]; exact hP, by rw [← hw]; exact hD⟩, hS.F ht⟩) hS.2.2 d hlk
theorem v_aret {rt : FieldType} (G : Gx p R s m args meth c D tys A cc nL own Ts (some rt)) (hrt : (∃ n, rt = .object n) ∨ ∃ t, rt = .array t) {post : State → Nat → Prop} {r : Nat} (hp : ∀ t : State, s.WarmedH t.vm → post t r) (d : decode cc pc = .ok (.areturn, 1)) : V p l e R s m args below meth c D A nL cs sl (MQ below (va_Qr (fun _ : Unit => True) (fun _ a t => post t a ∧ jB D (fun _ : Unit => ws) A () t) A) args s cs sl A) pc lv [.ref r] ws := by
  obtain ⟨hx, hb, hml, hown, hts, hr, hlk, hK, hE, hA⟩ := G
  intro H locs ls hP hD hS hl
  exact W.aret hx hb hr hrt (Or.inr ⟨r, rfl⟩) (fun t ht hW => ⟨⟨(), r, rfl, trivial, hp t hW, by rw [ht]; exact hP, hD⟩, hS.F ht⟩) hS.2.2 d hlk
theorem nb_b2 (P : Prop) : narrow .boolean (.int (jI (b2 P))) = .int (jI (b2 P)) := by
  rcases Classical.em P with h | h
  · rw [b2_t h]; decide
  · rw [b2_f h]; decide
theorem nb_1 : narrow .boolean (.int (jI 1)) = .int (jI 1) := by decide
theorem nb_0 : narrow .boolean (.int (jI 0)) = .int (jI 0) := by decide
/-- a call over the cells wc -/
def Rn (p : Program) (l : Launch) (e : Env) (R : Room) (s : State) (m : MethodId) (args : Array Value) (below : List Frame) (meth : Method) (c : Code) (D : va_G) (A : Nat → Prop) (nL cs sl pc : Nat) (st rest : List Value) (wc : va_W) (Qa : Nat → State → Outcome → State → Prop) : Prop :=
  ∀ (H : Heap) (locs : List Loc) (ls : Array Slot), va_P D vwCl wc H → va_D A wc → (∀ q, va_A wc H.size q → A q) → va_S A s.heap H locs → ls.size = nL → va_Run p l e R s m args below meth c H locs cs sl 0 0 (F0 m pc ls st) rest (Qa H.size) (va_A wc H.size)
theorem rn_V (G : Gx p R s m args meth c D tys A cc nL own Ts ret) {y : MethodName} {wy wy' : List Cond} {rm : Room} {wc : va_W} {Qc : Nat → Array Value → State → Outcome → State → Prop} {As rest : List Value} {bytes : ByteArray} {maxL n index : Nat} {rt : Option FieldType} {b q0 ci N : Nat} {C : String} {T : u_T} {fs : List Value} (hM : ∀ sz, Met l y wy rm (jP D tys (.ref b :: As) wc sz) (Qc sz) 0 0 (va_A wc sz)) (hg : GoodIn Ts (wsV own index C y wy)) (hwy : wy = Cond.code y bytes maxL rt :: wy') (hd : y.cls = C ∧ y.cls ≠ "java/lang/invoke/MethodHandle" ∧ y.cls ≠ "java/lang/invoke/VarHandle" ∧ (parseMethodDescriptor y.desc).map (fun d => d.parameters.length) = some n) (hR : rm.cells = 0 ∧ rm.slots = 0 ∧ rm.frames + 1 ≤ R.frames ∧ 8 + (maxL + 11) + rm.locals ≤ R.locals) (hn : As.length = n) (hst : st = As.reverse ++ .ref b :: rest) (hW : (rest.map fun v => v.category).sum ≤ 8) (hf : cs ≤ R.cells ∧ sl ≤ R.slots) (he : wc[q0]? = some (b, .inr (ci, fs))) (hc : vwCl[ci]? = some (C, T, N)) (d : decode cc pc = .ok (.invokevirtual index, 3)) : Rn p l e R s m args below meth c D A nL cs sl pc st rest wc (fun sz => Qc sz (Value.ref b :: As).toArray) := by
  obtain ⟨hx, hb, hml, hown, hts, hr, hlk, hK, hE, hA⟩ := G
  intro H locs ls hP hD hF hS hls
  exact va_runV ⟨hx, hb, hml, hown, hts⟩ (hM H.size) (cwV n hts hg hwy hR.1 hR.2.1 hd ⟨hR.2.2.1, hR.2.2.2⟩) ⟨jP_blind, va_recv hK hP hc he, fun U hU hW9 => jP_pre hK hE hP hD hF hS hU hW9⟩ rfl hn hls hst (lv_room hW) d hf
theorem rn_S (G : Gx p R s m args meth c D tys A cc nL own Ts ret) {y : MethodName} {wy wy' : List Cond} {rm : Room} {wc : va_W} {Qc : Nat → Array Value → State → Outcome → State → Prop} {As rest : List Value} {bytes : ByteArray} {maxL n index : Nat} {rt : Option FieldType} (hM : ∀ sz, Met l y wy rm (jP D tys As wc sz) (Qc sz) 0 0 (va_A wc sz)) (hg : GoodIn Ts (va_wsS own index y wy)) (hwy : wy = Cond.code y bytes maxL rt :: wy') (hd : y.cls ≠ "java/lang/invoke/MethodHandle" ∧ y.cls ≠ "java/lang/invoke/VarHandle" ∧ (parseMethodDescriptor y.desc).map (fun d => d.parameters.length) = some n) (hR : rm.cells = 0 ∧ rm.slots = 0 ∧ rm.frames + 1 ≤ R.frames ∧ 8 + (maxL + 11) + rm.locals ≤ R.locals) (hn : As.length = n) (hst : st = As.reverse ++ rest) (hW : (rest.map fun v => v.category).sum ≤ 8) (hf : cs ≤ R.cells ∧ sl ≤ R.slots) (d : decode cc pc = .ok (.invokestatic index, 3)) : Rn p l e R s m args below meth c D A nL cs sl pc st rest wc (fun sz => Qc sz As.toArray) := by
  obtain ⟨hx, hb, hml, hown, hts, hr, hlk, hK, hE, hA⟩ := G
  intro H locs ls hP hD hF hS hls
  exact va_runS ⟨hx, hb, hml, hown, hts⟩ (hM H.size) (va_cwS n hts hg hwy hR.1 hR.2.1 hd ⟨hR.2.2.1, hR.2.2.2⟩) ⟨jP_blind, fun U hU hW9 => jP_pre hK hE hP hD hF hS hU hW9⟩ rfl hn hls hst (lv_room hW) d hf
theorem rn_N (G : Gx p R s m args meth c D tys A cc nL own Ts ret) {y : MethodName} {wy wy' : List Cond} {rm : Room} {wc : va_W} {Qc : Nat → Array Value → State → Outcome → State → Prop} {As rest : List Value} {bytes : ByteArray} {maxL n index : Nat} {rt : Option FieldType} {host : String} (hM : ∀ sz, Met l y wy rm (jP D tys As wc sz) (Qc sz) 0 0 (va_A wc sz)) (hg : GoodIn Ts wy) (hwy : wy = Cond.code y bytes maxL rt :: wy') (hnl : Cond.methodLinkNest own index y host ∈ jLinks) (h1 : Cond.initialized y.cls ∈ Ts) (h2 : Cond.static y ∈ Ts) (hd : y.cls ≠ "java/lang/invoke/MethodHandle" ∧ y.cls ≠ "java/lang/invoke/VarHandle" ∧ (parseMethodDescriptor y.desc).map (fun d => d.parameters.length) = some n) (hR : rm.cells = 0 ∧ rm.slots = 0 ∧ rm.frames + 1 ≤ R.frames ∧ 8 + (maxL + 11) + rm.locals ≤ R.locals) (hn : As.length = n) (hst : st = As.reverse ++ rest) (hW : (rest.map fun v => v.category).sum ≤ 8) (hf : cs ≤ R.cells ∧ sl ≤ R.slots) (d : decode cc pc = .ok (.invokestatic index, 3)) : Rn p l e R s m args below meth c D A nL cs sl pc st rest wc (fun sz => Qc sz As.toArray) := by
  obtain ⟨hx, hb, hml, hown, hts, hr, hlk, hK, hE, hA⟩ := G
  intro H locs ls hP hD hF hS hls
  exact va_runSN ⟨hx, hb, hml, hown, hts⟩ (hM H.size) ⟨va_cnB n hts hg hwy hR.1 hR.2.1 (hE.1 _ hnl) (hts _ h1) hd ⟨hR.2.2.1, hR.2.2.2⟩, hts _ h2, trivial⟩ ⟨jP_blind, fun U hU hW9 => jP_pre hK hE hP hD hF hS hU hW9⟩ rfl hn hls hst (lv_room hW) d hf
theorem v_ciF (G : Gx p R s m args meth c D tys A cc nL own Ts ret) {S : Type} {w1 : S → va_W} {post : Int32 → S → Prop} {rest : List Value} {a : Array Value} (hr1 : Rn p l e R s m args below meth c D A nL cs sl pc st rest ws (fun sz => va_Qi post (jB D w1 (va_A ws sz)) (va_A ws sz) a)) (kk : ∀ (r : Int32) (u : S), post r u → V p l e R s m args below meth c D A nL cs sl Q (pc + 3) lv (.int r :: rest) (w1 u)) : V p l e R s m args below meth c D A nL cs sl Q pc lv st ws := by
  obtain ⟨hx, hb, hml, hown, hts, hr, hlk, hK, hE, hA⟩ := G
  intro H locs ls hP hD hS hl
  have hF : ∀ q, va_A ws H.size q → A q := by
    intro q h
    rcases h with ⟨k, e, h⟩ | h
    · exact hD.2 k (q, e) h
    · exact hA q (Nat.le_trans hS.1 h)
  refine va_calli (hr1 H locs ls hP hD hF hS hl.1) hS (fun q _ h => hF q h) hF (fun r u t H1 locs1 ht hvm hp hB hz hk hS1 => ?_)
  obtain ⟨hP1, hD1⟩ := hB
  rw [ht] at hP1
  exact kk r u hp H1 locs1 ls hP1 (hD1.weaken (fun _ q _ h => hF q.1 h)) hS1 hl
theorem v_ciN (G : Gx p R s m args meth c D tys A cc nL own Ts ret) {S : Type} {w1 : S → va_W} {post : Int32 → S → Prop} {rest : List Value} {a : Array Value} (hr1 : Rn p l e R s m args below meth c D A nL cs sl pc st rest [] (fun sz => va_Qi post (jB D w1 (va_A [] sz)) (va_A [] sz) a)) (kk : ∀ (r : Int32) (u : S), post r u → V p l e R s m args below meth c D A nL cs sl Q (pc + 3) lv (.int r :: rest) ws) : V p l e R s m args below meth c D A nL cs sl Q pc lv st ws := by
  obtain ⟨hx, hb, hml, hown, hts, hr, hlk, hK, hE, hA⟩ := G
  intro H locs ls hP hD hS hl
  have h0 : ∀ q, va_A [] H.size q → H.size ≤ q := by
    intro q h
    rcases h with ⟨k, e, h⟩ | h
    · simp at h
    · exact h
  have hF : ∀ q, va_A [] H.size q → A q := fun q h => hA q (Nat.le_trans hS.1 (h0 q h))
  refine va_calli (hr1 H locs ls (fun k q h => by simp at h) ⟨fun i j p q h => by simp at h, fun k q h => by simp at h⟩ hF hS hl.1) hS (fun q _ h => hF q h) hF (fun r u t H1 locs1 ht hvm hp hB hz hk hS1 => ?_)
  exact kk r u hp H1 locs1 ls (hP.kept (fun k q hq => hk q.1 (hP k q hq).lt (fun h => Nat.lt_irrefl _ (Nat.lt_of_lt_of_le (hP k q hq).lt (h0 _ h))))) hD hS1 hl
theorem v_ciP (G : Gx p R s m args meth c D tys A cc nL own Ts ret) {S : Type} {w1 w2 : S → va_W} {wc wr : va_W} {post : Int32 → S → Prop} {rest : List Value} {a : Array Value} (hr1 : Rn p l e R s m args below meth c D A nL cs sl pc st rest wc (fun sz => va_Qi post (jB D w1 (va_A wc sz)) (va_A wc sz) a)) (isC isR perm : List Nat) (hC : isC.map (fun i => ws[i]?) = wc.map some) (hR : isR.map (fun i => ws[i]?) = wr.map some) (hn : va_nd isC = true ∧ va_nd isR = true ∧ va_nd perm = true ∧ (isR.all fun i => !isC.contains i) = true) (hw : ∀ u, perm.map (fun i => (wr ++ w1 u)[i]?) = (w2 u).map some) (kk : ∀ (r : Int32) (u : S), post r u → V p l e R s m args below meth c D A nL cs sl Q (pc + 3) lv (.int r :: rest) (w2 u)) : V p l e R s m args below meth c D A nL cs sl Q pc lv st ws := by
  obtain ⟨hx, hb, hml, hown, hts, hr, hlk, hK, hE, hA⟩ := G
  intro H locs ls hP hD hS hl
  have hF := va_free (wc := wc) hD hS hA isC hC
  have hPc : va_P D vwCl wc H := hP.sub isC (jSub hC)
  have hDc : va_D A wc := hD.sub isC hn.1 hC
  refine va_calli (hr1 H locs ls hPc hDc hF hS hl.1) hS (fun q _ h => hF q h) hF (fun r u t H1 locs1 ht hvm hp hB hz hk hS1 => ?_)
  obtain ⟨hP1, hD1⟩ := hB
  rw [ht] at hP1
  obtain ⟨hP2, hD2⟩ := va_join hP hD isC isR hC hR hn.2.1 (fun i hi => by have := List.all_eq_true.mp hn.2.2.2 i hi; simpa using this) hk hF hP1 hD1
  exact kk r u hp H1 locs1 ls (hP2.sub perm (jSub (hw u))) (hD2.sub perm hn.2.2.1 (hw u)) hS1 hl
theorem v_clF (G : Gx p R s m args meth c D tys A cc nL own Ts ret) {S : Type} {w1 : S → va_W} {post : Int64 → S → Prop} {rest : List Value} {a : Array Value} (hr1 : Rn p l e R s m args below meth c D A nL cs sl pc st rest ws (fun sz => va_Ql post (jB D w1 (va_A ws sz)) (va_A ws sz) a)) (kk : ∀ (r : Int64) (u : S), post r u → V p l e R s m args below meth c D A nL cs sl Q (pc + 3) lv (.long r :: rest) (w1 u)) : V p l e R s m args below meth c D A nL cs sl Q pc lv st ws := by
  obtain ⟨hx, hb, hml, hown, hts, hr, hlk, hK, hE, hA⟩ := G
  intro H locs ls hP hD hS hl
  have hF : ∀ q, va_A ws H.size q → A q := by
    intro q h
    rcases h with ⟨k, e, h⟩ | h
    · exact hD.2 k (q, e) h
    · exact hA q (Nat.le_trans hS.1 h)
  refine va_calll (hr1 H locs ls hP hD hF hS hl.1) hS (fun q _ h => hF q h) hF (fun r u t H1 locs1 ht hvm hp hB hz hk hS1 => ?_)
  obtain ⟨hP1, hD1⟩ := hB
  rw [ht] at hP1
  exact kk r u hp H1 locs1 ls hP1 (hD1.weaken (fun _ q _ h => hF q.1 h)) hS1 hl
theorem v_clN (G : Gx p R s m args meth c D tys A cc nL own Ts ret) {S : Type} {w1 : S → va_W} {post : Int64 → S → Prop} {rest : List Value} {a : Array Value} (hr1 : Rn p l e R s m args below meth c D A nL cs sl pc st rest [] (fun sz => va_Ql post (jB D w1 (va_A [] sz)) (va_A [] sz) a)) (kk : ∀ (r : Int64) (u : S), post r u → V p l e R s m args below meth c D A nL cs sl Q (pc + 3) lv (.long r :: rest) ws) : V p l e R s m args below meth c D A nL cs sl Q pc lv st ws := by
  obtain ⟨hx, hb, hml, hown, hts, hr, hlk, hK, hE, hA⟩ := G
  intro H locs ls hP hD hS hl
  have h0 : ∀ q, va_A [] H.size q → H.size ≤ q := by
    intro q h
    rcases h with ⟨k, e, h⟩ | h
    · simp at h
    · exact h
  have hF : ∀ q, va_A [] H.size q → A q := fun q h => hA q (Nat.le_trans hS.1 (h0 q h))
  refine va_calll (hr1 H locs ls (fun k q h => by simp at h) ⟨fun i j p q h => by simp at h, fun k q h => by simp at h⟩ hF hS hl.1) hS (fun q _ h => hF q h) hF (fun r u t H1 locs1 ht hvm hp hB hz hk hS1 => ?_)
  exact kk r u hp H1 locs1 ls (hP.kept (fun k q hq => hk q.1 (hP k q hq).lt (fun h => Nat.lt_irrefl _ (Nat.lt_of_lt_of_le (hP k q hq).lt (h0 _ h))))) hD hS1 hl
theorem v_clP (G : Gx p R s m args meth c D tys A cc nL own Ts ret) {S : Type} {w1 w2 : S → va_W} {wc wr : va_W} {post : Int64 → S → Prop} {rest : List Value} {a : Array Value} (hr1 : Rn p l e R s m args below meth c D A nL cs sl pc st rest wc (fun sz => va_Ql post (jB D w1 (va_A wc sz)) (va_A wc sz) a)) (isC isR perm : List Nat) (hC : isC.map (fun i => ws[i]?) = wc.map some) (hR : isR.map (fun i => ws[i]?) = wr.map some) (hn : va_nd isC = true ∧ va_nd isR = true ∧ va_nd perm = true ∧ (isR.all fun i => !isC.contains i) = true) (hw : ∀ u, perm.map (fun i => (wr ++ w1 u)[i]?) = (w2 u).map some) (kk : ∀ (r : Int64) (u : S), post r u → V p l e R s m args below meth c D A nL cs sl Q (pc + 3) lv (.long r :: rest) (w2 u)) : V p l e R s m args below meth c D A nL cs sl Q pc lv st ws := by
  obtain ⟨hx, hb, hml, hown, hts, hr, hlk, hK, hE, hA⟩ := G
  intro H locs ls hP hD hS hl
  have hF := va_free (wc := wc) hD hS hA isC hC
  have hPc : va_P D vwCl wc H := hP.sub isC (jSub hC)
  have hDc : va_D A wc := hD.sub isC hn.1 hC
  refine va_calll (hr1 H locs ls hPc hDc hF hS hl.1) hS (fun q _ h => hF q h) hF (fun r u t H1 locs1 ht hvm hp hB hz hk hS1 => ?_)
  obtain ⟨hP1, hD1⟩ := hB
  rw [ht] at hP1
  obtain ⟨hP2, hD2⟩ := va_join hP hD isC isR hC hR hn.2.1 (fun i hi => by have := List.all_eq_true.mp hn.2.2.2 i hi; simpa using this) hk hF hP1 hD1
  exact kk r u hp H1 locs1 ls (hP2.sub perm (jSub (hw u))) (hD2.sub perm hn.2.2.1 (hw u)) hS1 hl
theorem v_cvF (G : Gx p R s m args meth c D tys A cc nL own Ts ret) {S : Type} {w1 : S → va_W} {post : S → Prop} {rest : List Value} {a : Array Value} (hr1 : Rn p l e R s m args below meth c D A nL cs sl pc st rest ws (fun sz => va_Qv post (jB D w1 (va_A ws sz)) (va_A ws sz) a)) (kk : ∀ (u : S), post u → V p l e R s m args below meth c D A nL cs sl Q (pc + 3) lv rest (w1 u)) : V p l e R s m args below meth c D A nL cs sl Q pc lv st ws := by
  obtain ⟨hx, hb, hml, hown, hts, hr, hlk, hK, hE, hA⟩ := G
  intro H locs ls hP hD hS hl
  have hF : ∀ q, va_A ws H.size q → A q := by
    intro q h
    rcases h with ⟨k, e, h⟩ | h
    · exact hD.2 k (q, e) h
    · exact hA q (Nat.le_trans hS.1 h)
  refine va_callv (hr1 H locs ls hP hD hF hS hl.1) hS (fun q _ h => hF q h) hF (fun u t H1 locs1 ht hvm hp hB hz hk hS1 => ?_)
  obtain ⟨hP1, hD1⟩ := hB
  rw [ht] at hP1
  exact kk u hp H1 locs1 ls hP1 (hD1.weaken (fun _ q _ h => hF q.1 h)) hS1 hl
theorem v_cvN (G : Gx p R s m args meth c D tys A cc nL own Ts ret) {S : Type} {w1 : S → va_W} {post : S → Prop} {rest : List Value} {a : Array Value} (hr1 : Rn p l e R s m args below meth c D A nL cs sl pc st rest [] (fun sz => va_Qv post (jB D w1 (va_A [] sz)) (va_A [] sz) a)) (kk : ∀ (u : S), post u → V p l e R s m args below meth c D A nL cs sl Q (pc + 3) lv rest ws) : V p l e R s m args below meth c D A nL cs sl Q pc lv st ws := by
  obtain ⟨hx, hb, hml, hown, hts, hr, hlk, hK, hE, hA⟩ := G
  intro H locs ls hP hD hS hl
  have h0 : ∀ q, va_A [] H.size q → H.size ≤ q := by
    intro q h
    rcases h with ⟨k, e, h⟩ | h
    · simp at h
    · exact h
  have hF : ∀ q, va_A [] H.size q → A q := fun q h => hA q (Nat.le_trans hS.1 (h0 q h))
  refine va_callv (hr1 H locs ls (fun k q h => by simp at h) ⟨fun i j p q h => by simp at h, fun k q h => by simp at h⟩ hF hS hl.1) hS (fun q _ h => hF q h) hF (fun u t H1 locs1 ht hvm hp hB hz hk hS1 => ?_)
  exact kk u hp H1 locs1 ls (hP.kept (fun k q hq => hk q.1 (hP k q hq).lt (fun h => Nat.lt_irrefl _ (Nat.lt_of_lt_of_le (hP k q hq).lt (h0 _ h))))) hD hS1 hl
theorem v_cvP (G : Gx p R s m args meth c D tys A cc nL own Ts ret) {S : Type} {w1 w2 : S → va_W} {wc wr : va_W} {post : S → Prop} {rest : List Value} {a : Array Value} (hr1 : Rn p l e R s m args below meth c D A nL cs sl pc st rest wc (fun sz => va_Qv post (jB D w1 (va_A wc sz)) (va_A wc sz) a)) (isC isR perm : List Nat) (hC : isC.map (fun i => ws[i]?) = wc.map some) (hR : isR.map (fun i => ws[i]?) = wr.map some) (hn : va_nd isC = true ∧ va_nd isR = true ∧ va_nd perm = true ∧ (isR.all fun i => !isC.contains i) = true) (hw : ∀ u, perm.map (fun i => (wr ++ w1 u)[i]?) = (w2 u).map some) (kk : ∀ (u : S), post u → V p l e R s m args below meth c D A nL cs sl Q (pc + 3) lv rest (w2 u)) : V p l e R s m args below meth c D A nL cs sl Q pc lv st ws := by
  obtain ⟨hx, hb, hml, hown, hts, hr, hlk, hK, hE, hA⟩ := G
  intro H locs ls hP hD hS hl
  have hF := va_free (wc := wc) hD hS hA isC hC
  have hPc : va_P D vwCl wc H := hP.sub isC (jSub hC)
  have hDc : va_D A wc := hD.sub isC hn.1 hC
  refine va_callv (hr1 H locs ls hPc hDc hF hS hl.1) hS (fun q _ h => hF q h) hF (fun u t H1 locs1 ht hvm hp hB hz hk hS1 => ?_)
  obtain ⟨hP1, hD1⟩ := hB
  rw [ht] at hP1
  obtain ⟨hP2, hD2⟩ := va_join hP hD isC isR hC hR hn.2.1 (fun i hi => by have := List.all_eq_true.mp hn.2.2.2 i hi; simpa using this) hk hF hP1 hD1
  exact kk u hp H1 locs1 ls (hP2.sub perm (jSub (hw u))) (hD2.sub perm hn.2.2.1 (hw u)) hS1 hl
theorem v_crF (G : Gx p R s m args meth c D tys A cc nL own Ts ret) {post : State → Nat → Prop} {rest : List Value} {a : Array Value} (hr1 : Rn p l e R s m args below meth c D A nL cs sl pc st rest ws (fun sz => va_Qr (fun _ : Unit => True) (fun _ a t => post t a ∧ jB D (fun _ : Unit => ws) (va_A ws sz) () t) (va_A ws sz) a)) (kk : ∀ (r : Nat) (t : State), s.vm.Alike t.vm → post t r → V p l e R s m args below meth c D A nL cs sl Q (pc + 3) lv (.ref r :: rest) ws) : V p l e R s m args below meth c D A nL cs sl Q pc lv st ws := by
  obtain ⟨hx, hb, hml, hown, hts, hr, hlk, hK, hE, hA⟩ := G
  intro H locs ls hP hD hS hl
  have hF : ∀ q, va_A ws H.size q → A q := by
    intro q h
    rcases h with ⟨k, e, h⟩ | h
    · exact hD.2 k (q, e) h
    · exact hA q (Nat.le_trans hS.1 h)
  refine va_callr (hr1 H locs ls hP hD hF hS hl.1) hS (fun q _ h => hF q h) hF (fun u r t H1 locs1 ht hvm _ hB hz hk hS1 => ?_)
  obtain ⟨hp, hP1, hD1⟩ := hB
  rw [ht] at hP1
  exact kk r t hvm hp H1 locs1 ls hP1 (hD1.weaken (fun _ q _ h => hF q.1 h)) hS1 hl
theorem v_crN (G : Gx p R s m args meth c D tys A cc nL own Ts ret) {post : State → Nat → Prop} {rest : List Value} {a : Array Value} (hr1 : Rn p l e R s m args below meth c D A nL cs sl pc st rest [] (fun sz => va_Qr (fun _ : Unit => True) (fun _ a t => post t a ∧ jB D (fun _ : Unit => []) (va_A [] sz) () t) (va_A [] sz) a)) (kk : ∀ (r : Nat) (t : State), s.vm.Alike t.vm → post t r → V p l e R s m args below meth c D A nL cs sl Q (pc + 3) lv (.ref r :: rest) ws) : V p l e R s m args below meth c D A nL cs sl Q pc lv st ws := by
  obtain ⟨hx, hb, hml, hown, hts, hr, hlk, hK, hE, hA⟩ := G
  intro H locs ls hP hD hS hl
  have h0 : ∀ q, va_A [] H.size q → H.size ≤ q := by
    intro q h
    rcases h with ⟨k, e, h⟩ | h
    · simp at h
    · exact h
  have hF : ∀ q, va_A [] H.size q → A q := fun q h => hA q (Nat.le_trans hS.1 (h0 q h))
  refine va_callr (hr1 H locs ls (fun k q h => by simp at h) ⟨fun i j p q h => by simp at h, fun k q h => by simp at h⟩ hF hS hl.1) hS (fun q _ h => hF q h) hF (fun u r t H1 locs1 ht hvm _ hB hz hk hS1 => ?_)
  exact kk r t hvm hB.1 H1 locs1 ls (hP.kept (fun k q hq => hk q.1 (hP k q hq).lt (fun h => Nat.lt_irrefl _ (Nat.lt_of_lt_of_le (hP k q hq).lt (h0 _ h))))) hD hS1 hl
end

/-! constructors: rows of making, calls of constructors -/
section
variable {p : Program} {l : Launch} {e : Env} {R : Room} {s : State} {m : MethodId} {args : Array Value} {below : List Frame} {meth : Method} {c : Code} {D : va_G} {tys : List (ClassId × FieldType)} {A : Nat → Prop} {cc : ByteArray} {nL cs sl : Nat} {own : String} {Ts : List Cond} {ret : Option FieldType} {Q : State → Prop} {pc : Nat} {lv : List (Nat × Value)} {st : List Value} {ws : va_W} {cI cL cB cS : ClassId} {X : (Nat → Prop) → State → Prop}
def Cn (l : Launch) (y : MethodName) (wy : List Cond) (rm : Room) (D : va_G) (tys : List (ClassId × FieldType)) (as : List Value) (ws : va_W) (mc ms : Nat) {S : Type} (w1 : S → va_W) (post : S → Prop) : Prop := ∀ sz : Nat, Met l y wy rm (jP D tys as ws sz) (va_Qv post (jB D w1 (va_A ws sz)) (va_A ws sz)) mc ms (va_A ws sz)
theorem Cn.mk {y : MethodName} {wy wy' : List Cond} {rm : Room} {as : List Value} {maxL mc ms : Nat} {S : Type} {w1 : S → va_W} {post : S → Prop} (hy : plainName y.cls = true) (hw : wy = Cond.code y cc maxL (none) :: wy') (hn : (lg_sl as).length ≤ maxL) (hlv : lv_args 0 as = lv)
    (body : ∀ (p : Program) (e : Env) (s : State) (m : MethodId) (below : List Frame) (meth : Method) (c : Code) (A : Nat → Prop), Gx p rm s m as.toArray meth c D tys A cc maxL y.cls wy (none) → meth.name = y.name → V p l e rm s m as.toArray below meth c D A maxL 0 0 (MQ below (va_Qv post (jB D w1 A) A) as.toArray s mc ms A) 0 lv [] ws) : Cn l y wy rm D tys as ws mc ms w1 post := by
  intro sz
  refine Met.ofW (cc := cc) (maxL := maxL) (ret := none) hy hw ?_
  intro p e s m args below meth c s₁ B hml hv
  obtain ⟨rfl, hsz, hP, hK, hD0, hE⟩ := hv
  subst hsz
  have hD := hD0.self (sz := s.heap.size)
  have hl := lv_entry as (n := maxL) hn
  rw [hlv] at hl
  rw [lg_entry_eq]
  exact body p e s m below meth c _ ⟨B.exec, B.bytes, hml, findClass_of_methodNamed B.named, atoms_spec (ws := wy) B.pre, B.returns, B.notSynchronized, hK, hE, fun q h => Or.inr h⟩ (name_of_methodNamed B.named B.method).1 s.heap [] _ hP hD va_S.rf hl
theorem v_obj (G : Gx p R s m args meth c D tys A cc nL own Ts ret) {index a : Nat} (h1 : Cond.methodLink own index objectInit ∈ Ts) (h2 : Cond.instanceMethod objectInit ∈ Ts) (h3 : Cond.code objectInit ⟨#[0xb1]⟩ 1 none ∈ Ts) (hR : 1 ≤ R.frames ∧ (st.map fun v => v.category).sum + 12 ≤ R.locals) (d : decode cc pc = .ok (.invokespecial index, 3)) (kk : V p l e R s m args below meth c D A nL cs sl Q (pc + 3) lv st ws) : V p l e R s m args below meth c D A nL cs sl Q pc lv (.ref a :: st) ws := by
  obtain ⟨hx, hb, hml, hown, hts, hr, hlk, hK, hE, hA⟩ := G
  intro H locs ls hP hD hS hl
  exact W.objInit hx hb hown (hts _ h1) (hts _ h2) (hts _ h3) rfl (by rw [hml]; exact hl.1) rfl d hR.1 (by show 2 * 0 + _ + 12 ≤ _; omega) (kk H locs ls hP hD hS hl)
theorem v_new (G : Gx p R s m args meth c D tys A cc nL own Ts ret) {ci N index : Nat} {C : String} {T : u_T} {fs : List Value} (hin : ∀ w ∈ u_ws C T N, w ∈ Ts) (ty0 : Nat → FieldType) (hty : ∀ k, k < N → parseFieldDescriptor (T k).2.2.1 = some (ty0 k)) (h1 : Cond.classLink own index C ∈ Ts) (h2 : Cond.instantiable C N ∈ Ts) (h3 : Cond.initialized C ∈ Ts) (hc : vwCl[ci]? = some (C, T, N)) (hfs : ∀ j, j < N → defaultValue (ty0 j) = vp_V fs j) (hR : cs + 1 ≤ R.cells ∧ sl + N ≤ R.slots) (d : decode cc pc = .ok (.new index, 3)) (kk : ∀ q : Nat, V p l e R s m args below meth c D A nL (cs + 1) (sl + N) Q (pc + 3) lv (.ref q :: st) (ws ++ [(q, .inr (ci, fs))])) : V p l e R s m args below meth c D A nL cs sl Q pc lv st ws := by
  obtain ⟨hx, hb, hml, hown, hts, hr, hlk, hK, hE, hA⟩ := G
  intro H locs ls hP hD hS hl
  exact va_new hx hb hts hin ty0 hty hown (hts _ h1) (hts _ h2) (hts _ h3) hK hP hD hS hA hc hfs hR.1 hR.2 d (fun q H1 hP1 hD1 hS1 => kk q H1 locs ls hP1 hD1 hS1 hl)
theorem ra_uniq {U : State} {x y : ClassId} {n : String} (h1 : U.vm.findClass n = some x) (h2 : U.vm.findClass n = some y) : x = y := Option.some.inj (h1.symm.trans h2)
theorem v_newaI (G : Gx p R s m args meth c D (jT cI cL cB cS) A cc nL own Ts ret) {n : Int} {N : Nat} (hw : Cond.arrayClass .int ∈ Ts) (hn : n = (N : Int)) (hN : N ≤ 1000) (hR : cs + 1 ≤ R.cells ∧ sl + N ≤ R.slots) (d : decode cc pc = .ok (.newarray .int, 2)) (kk : ∀ q : Nat, V p l e R s m args below meth c D A nL (cs + 1) (sl + N) Q (pc + 2) lv (.ref q :: st) (ws ++ [(q, .inl (cI, N, .inl (jA (fun _ => 0))))])) : V p l e R s m args below meth c D A nL cs sl Q pc lv (.int (jI n) :: st) ws := by
  obtain ⟨hx, hb, hml, hown, hts, hr, hlk, hK, hE, hA⟩ := G
  intro H locs ls hP hD hS hl
  subst hn
  refine va_newa (atype := .int) (ty := .int) (N' := N) (a0 := (N, .inl (jA (fun _ => 0)))) hx hb (hts _ hw) rfl hK hP hD hS hA (fun cA => arrV_cg (fun j _ => congrArg Value.int jI_0)) (fun q => by rw [← jI_0, jI_lt ⟨by omega, by omega⟩ ⟨by omega, by omega⟩] at q; omega) (by rw [jI_clampN (by omega) (by omega)]; omega) (by show N * 4 ≤ _; omega) hR.1 hR.2 d (fun q cA H1 hK1 hP1 hD1 hS1 => ?_)
  obtain rfl : cA = cI := ra_uniq (hK1.2 4 _ rfl).2 (hK.2 0 _ rfl).2
  exact kk q H1 locs ls hP1 hD1 hS1 hl
theorem v_newaL (G : Gx p R s m args meth c D (jT cI cL cB cS) A cc nL own Ts ret) {n : Int} {N : Nat} (hw : Cond.arrayClass .long ∈ Ts) (hn : n = (N : Int)) (hN : N ≤ 1000) (hR : cs + 1 ≤ R.cells ∧ sl + N ≤ R.slots) (d : decode cc pc = .ok (.newarray .long, 2)) (kk : ∀ q : Nat, V p l e R s m args below meth c D A nL (cs + 1) (sl + N) Q (pc + 2) lv (.ref q :: st) (ws ++ [(q, .inl (cL, N, .inr (.inl (jLA (fun _ => jL 0)))))])) : V p l e R s m args below meth c D A nL cs sl Q pc lv (.int (jI n) :: st) ws := by
  obtain ⟨hx, hb, hml, hown, hts, hr, hlk, hK, hE, hA⟩ := G
  intro H locs ls hP hD hS hl
  subst hn
  refine va_newa (atype := .long) (ty := .long) (N' := N) (a0 := (N, .inr (.inl (jLA (fun _ => jL 0))))) hx hb (hts _ hw) rfl hK hP hD hS hA (fun cA => arrV_cg (fun j _ => congrArg Value.long (show jL 0 = 0 by decide))) (fun q => by rw [← jI_0, jI_lt ⟨by omega, by omega⟩ ⟨by omega, by omega⟩] at q; omega) (by rw [jI_clampN (by omega) (by omega)]; omega) (by show N * 8 ≤ _; omega) hR.1 hR.2 d (fun q cA H1 hK1 hP1 hD1 hS1 => ?_)
  obtain rfl : cA = cL := ra_uniq (hK1.2 4 _ rfl).2 (hK.2 1 _ rfl).2
  exact kk q H1 locs ls hP1 hD1 hS1 hl
theorem v_newaB (G : Gx p R s m args meth c D (jT cI cL cB cS) A cc nL own Ts ret) {n : Int} {N : Nat} (hw : Cond.arrayClass .byte ∈ Ts) (hn : n = (N : Int)) (hN : N ≤ 1000) (hR : cs + 1 ≤ R.cells ∧ sl + N ≤ R.slots) (d : decode cc pc = .ok (.newarray .byte, 2)) (kk : ∀ q : Nat, V p l e R s m args below meth c D A nL (cs + 1) (sl + N) Q (pc + 2) lv (.ref q :: st) (ws ++ [(q, .inl (cB, N, .inl (jA (fun _ => 0))))])) : V p l e R s m args below meth c D A nL cs sl Q pc lv (.int (jI n) :: st) ws := by
  obtain ⟨hx, hb, hml, hown, hts, hr, hlk, hK, hE, hA⟩ := G
  intro H locs ls hP hD hS hl
  subst hn
  refine va_newa (atype := .byte) (ty := .byte) (N' := N) (a0 := (N, .inl (jA (fun _ => 0)))) hx hb (hts _ hw) rfl hK hP hD hS hA (fun cA => arrV_cg (fun j _ => congrArg Value.int jI_0)) (fun q => by rw [← jI_0, jI_lt ⟨by omega, by omega⟩ ⟨by omega, by omega⟩] at q; omega) (by rw [jI_clampN (by omega) (by omega)]; omega) (by show N * 1 ≤ _; omega) hR.1 hR.2 d (fun q cA H1 hK1 hP1 hD1 hS1 => ?_)
  obtain rfl : cA = cB := ra_uniq (hK1.2 4 _ rfl).2 (hK.2 2 _ rfl).2
  exact kk q H1 locs ls hP1 hD1 hS1 hl
theorem v_newq (G : Gx p R s m args meth c D (jT cI cL cB cS) A cc nL own Ts ret) {n : Int} {N index : Nat} (h1 : Cond.classLink own index RX3 ∈ Ts) (ho : va_AO RX3 s) (hn : n = (N : Int)) (hN : N ≤ 1000) (hR : cs + 1 ≤ R.cells ∧ sl + N ≤ R.slots) (d : decode cc pc = .ok (.anewarray index, 3)) (kk : ∀ q : Nat, V p l e R s m args below meth c D A nL (cs + 1) (sl + N) Q (pc + 3) lv (.ref q :: st) (ws ++ [(q, .inl (cS, N, .inr (.inr (.inr (.inr (fun _ => none))))))])) : V p l e R s m args below meth c D A nL cs sl Q pc lv (.int (jI n) :: st) ws := by
  obtain ⟨hx, hb, hml, hown, hts, hr, hlk, hK, hE, hA⟩ := G
  intro H locs ls hP hD hS hl
  subst hn
  refine va_newq (C := RX3) (N' := N) hx hb hown (hts _ h1) ho hK hP hD hS hA (fun q => by rw [← jI_0, jI_lt ⟨by omega, by omega⟩ ⟨by omega, by omega⟩] at q; omega) (by rw [jI_clampN (by omega) (by omega)]; omega) (by omega) hR.1 hR.2 d (fun q cA H1 hK1 hP1 hD1 hS1 => ?_)
  obtain ⟨kA, comp, -, -, -, e1⟩ := (hK1.2 4 _ rfl).2
  obtain ⟨kA', comp', -, -, -, e2⟩ := (hK.2 3 _ rfl).2
  obtain rfl : cA = cS := ra_uniq e1 e2
  exact kk q H1 locs ls hP1 hD1 hS1 hl
theorem v_aast (G : Gx p R s m args meth c D tys A cc nL own Ts ret) {q0 t0 qk ci a n v : Nat} {cA : ClassId} {r : vw_C} {vs : List Value} {f g : Nat → Option Nat} {z : Int} {ws' : va_W} (ha : ws[q0]? = some (a, .inl (cA, n, .inr (.inr (.inr (.inr f)))))) (ht : tys[t0]? = some (cA, .object r.1)) (hv : ws[qk]? = some (v, .inr (ci, vs))) (hc : vwCl[ci]? = some r) (hz : 0 ≤ z ∧ z < n ∧ (n : Int) ≤ 2147483647) (hg : va_up f z.toNat (some v) = g) (hws : ws.set q0 (a, .inl (cA, n, .inr (.inr (.inr (.inr g))))) = ws') (d : decode cc pc = .ok (.aastore, 1)) (kk : V p l e R s m args below meth c D A nL cs sl Q (pc + 1) lv st ws') : V p l e R s m args below meth c D A nL cs sl Q pc lv (.ref v :: .int (jI z) :: .ref a :: st) ws := by
  obtain ⟨hx, hb, hml, hown, hts, hr, hlk, hK, hE, hA⟩ := G
  intro H locs ls hP hD hS hl
  subst hws hg
  refine va_astq hx hb hK hP hD hS q0 t0 qk ci ha ht hv hc (jI_in hz.1 hz.2.1 (by omega)) d (fun H1 locs1 hP1 hD1 hS1 => ?_)
  rw [jI_clampN hz.1 (by omega)] at hP1 hD1
  exact kk H1 locs1 ls hP1 hD1 hS1 hl
/-- a call that makes cells -/
def RnM (p : Program) (l : Launch) (e : Env) (R : Room) (s : State) (m : MethodId) (args : Array Value) (below : List Frame) (meth : Method) (c : Code) (D : va_G) (A : Nat → Prop) (nL cs sl mc ms pc : Nat) (st rest : List Value) (wc : va_W) (Qa : Nat → State → Outcome → State → Prop) : Prop :=
  ∀ (H : Heap) (locs : List Loc) (ls : Array Slot), va_P D vwCl wc H → va_D A wc → (∀ q, va_A wc H.size q → A q) → va_S A s.heap H locs → ls.size = nL → va_Run p l e R s m args below meth c H locs cs sl mc ms (F0 m pc ls st) rest (Qa H.size) (va_A wc H.size)
theorem rn_I (G : Gx p R s m args meth c D tys A cc nL own Ts ret) {y : MethodName} {wy wy' : List Cond} {rm : Room} {wc : va_W} {mc ms : Nat} {Qc : Nat → Array Value → State → Outcome → State → Prop} {As rest : List Value} {bytes : ByteArray} {maxL n index b : Nat} (hM : ∀ sz, Met l y wy rm (jP D tys (.ref b :: As) wc sz) (Qc sz) mc ms (va_A wc sz)) (hg : GoodIn Ts wy) (hwy : wy = Cond.code y bytes maxL none :: wy') (h1 : Cond.initialized y.cls ∈ Ts) (h2 : Cond.methodLink own index y ∈ Ts) (h3 : Cond.instanceMethod y ∈ Ts) (hy : y.name = "<init>") (hd : y.cls ≠ "java/lang/invoke/MethodHandle" ∧ y.cls ≠ "java/lang/invoke/VarHandle" ∧ (parseMethodDescriptor y.desc).map (fun d => d.parameters.length) = some n) (hR : rm.cells = mc ∧ rm.slots = ms ∧ rm.frames + 1 ≤ R.frames ∧ 8 + (maxL + 11) + rm.locals ≤ R.locals) (hn : As.length = n) (hst : st = As.reverse ++ .ref b :: rest) (hW : (rest.map fun v => v.category).sum ≤ 8) (hf : cs + mc ≤ R.cells ∧ sl + ms ≤ R.slots) (d : decode cc pc = .ok (.invokespecial index, 3)) : RnM p l e R s m args below meth c D A nL cs sl mc ms pc st rest wc (fun sz => Qc sz (Value.ref b :: As).toArray) := by
  obtain ⟨hx, hb, hml, hown, hts, hr, hlk, hK, hE, hA⟩ := G
  intro H locs ls hP hD hF hS hls
  exact va_runI ⟨hx, hb, hml, hown, hts⟩ (hM H.size) (cwI n hts hg hwy hR.1 hR.2.1 (hts _ h1) (hts _ h2) (hts _ h3) hy hd ⟨hR.2.2.1, hR.2.2.2⟩) ⟨jP_blind, fun U hU hW9 => jP_pre hK hE hP hD hF hS hU hW9⟩ rfl hn hls hst (lv_room hW) d hf
theorem rn_IN (G : Gx p R s m args meth c D tys A cc nL own Ts ret) {y : MethodName} {wy wy' : List Cond} {rm : Room} {wc : va_W} {mc ms : Nat} {Qc : Nat → Array Value → State → Outcome → State → Prop} {As rest : List Value} {bytes : ByteArray} {maxL n index b : Nat} {host : String} (hM : ∀ sz, Met l y wy rm (jP D tys (.ref b :: As) wc sz) (Qc sz) mc ms (va_A wc sz)) (hg : GoodIn Ts wy) (hwy : wy = Cond.code y bytes maxL none :: wy') (hnl : Cond.methodLinkNest own index y host ∈ jLinks) (h1 : Cond.initialized y.cls ∈ Ts) (h3 : Cond.instanceMethod y ∈ Ts) (hy : y.name = "<init>") (hd : y.cls ≠ "java/lang/invoke/MethodHandle" ∧ y.cls ≠ "java/lang/invoke/VarHandle" ∧ (parseMethodDescriptor y.desc).map (fun d => d.parameters.length) = some n) (hR : rm.cells = mc ∧ rm.slots = ms ∧ rm.frames + 1 ≤ R.frames ∧ 8 + (maxL + 11) + rm.locals ≤ R.locals) (hn : As.length = n) (hst : st = As.reverse ++ .ref b :: rest) (hW : (rest.map fun v => v.category).sum ≤ 8) (hf : cs + mc ≤ R.cells ∧ sl + ms ≤ R.slots) (d : decode cc pc = .ok (.invokespecial index, 3)) : RnM p l e R s m args below meth c D A nL cs sl mc ms pc st rest wc (fun sz => Qc sz (Value.ref b :: As).toArray) := by
  obtain ⟨hx, hb, hml, hown, hts, hr, hlk, hK, hE, hA⟩ := G
  intro H locs ls hP hD hF hS hls
  exact va_runIN ⟨hx, hb, hml, hown, hts⟩ (hM H.size) ⟨va_cnB n hts hg hwy hR.1 hR.2.1 (hE.1 _ hnl) (hts _ h1) hd ⟨hR.2.2.1, hR.2.2.2⟩, hy, hts _ h3⟩ ⟨jP_blind, fun U hU hW9 => jP_pre hK hE hP hD hF hS hU hW9⟩ rfl hn hls hst (lv_room hW) d hf
theorem v_init (G : Gx p R s m args meth c D tys A cc nL own Ts ret) {q mc ms : Nat} {c0 : va_E} {w0 : va_W} {S : Type} {w1 : S → va_W} {post : S → Prop} {rest : List Value} {a : Array Value} (hr1 : RnM p l e R s m args below meth c D A nL cs sl mc ms pc st rest [(q, c0)] (fun sz => va_Qv post (jB D w1 (va_A [(q, c0)] sz)) (va_A [(q, c0)] sz) a)) (kk : ∀ (u : S), post u → V p l e R s m args below meth c D A nL (cs + mc) (sl + ms) Q (pc + 3) lv rest (w0 ++ w1 u)) : V p l e R s m args below meth c D A nL cs sl Q pc lv st (w0 ++ [(q, c0)]) := by
  refine v_perm (ws' := [(q, c0)] ++ w0) List.perm_append_comm ?_
  have hC := rg_l [(q, c0)] w0
  have hR := rg_r [(q, c0)] w0
  have n1 : va_nd (List.range [(q, c0)].length) = true := nd_of List.nodup_range
  have n2 : va_nd ((List.range w0.length).map (fun i => [(q, c0)].length + i)) = true := nd_of (nd_map _ _)
  obtain ⟨hx, hb, hml, hown, hts, hr, hlk, hK, hE, hA⟩ := G
  intro H locs ls hP hD hS hl
  have hF := va_free (wc := [(q, c0)]) hD hS hA _ hC
  have hPc : va_P D vwCl [(q, c0)] H := hP.sub _ (jSub hC)
  have hDc : va_D A [(q, c0)] := hD.sub _ n1 hC
  refine va_callv (hr1 H locs ls hPc hDc hF hS hl.1) hS (fun q _ h => hF q h) hF (fun u t H1 locs1 ht hvm hp hB hz hk hS1 => ?_)
  obtain ⟨hP1, hD1⟩ := hB
  rw [ht] at hP1
  obtain ⟨hP2, hD2⟩ := va_join hP hD _ _ hC hR n2 (fun i hi => by
    obtain ⟨x, x1, x2⟩ := List.mem_map.mp hi
    intro y
    have := List.mem_range.mp y
    omega) hk hF hP1 hD1
  exact kk u hp H1 locs1 ls hP2 hD2 hS1 hl
end

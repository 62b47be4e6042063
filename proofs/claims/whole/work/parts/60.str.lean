/-! text constants: contracts that ask more of the state; String.length, String.charAt -/
def Xs (X : (Nat → Prop) → State → Prop) : Prop :=
  (∀ (A B : Nat → Prop) (s U : State) (H : Heap) (locs : List Loc), X A s → va_S A s.heap H locs → (∀ q, B q → A q) → s.WarmedH U.vm → U.heap = H → X B U) ∧ ∀ (A : Nat → Prop) (U : State) (g : JFrame) (mk : MethodId) (a : Array Value), X A U → X A (U.calling g mk a)
def xStr (q : Nat) (bs : List Int32) : (Nat → Prop) → State → Prop := fun A U => jStr q bs A U U.heap
def xT (v n : Nat) (f : Nat → Value) : (Nat → Prop) → State → Prop := fun A U => va_T .byte v n f A U U.heap
def xR (own : String) (k : Nat) (tx : String) (q : Nat) : (Nat → Prop) → State → Prop := fun _ U => vk_R own k tx q U
theorem xStr_s (q : Nat) (bs : List Int32) : Xs (xStr q bs) := by
  refine ⟨fun A B s U H locs h hS hAB hW hU => ?_, fun A U g mk a h => ?_⟩
  · have hq : ∀ a : Nat, a < s.heap.size → ¬ A a → U.heap[a]? = s.heap[a]? := fun a ha hn => by rw [hU]; exact hS.2.1 a ha hn
    exact ((jStr.moved hW.alike h).kept hq).narrow hAB
  · have ha : U.vm.Alike (U.calling g mk a).vm := Vm.Alike.refl U.vm
    exact jStr.moved ha h
theorem xT_s (v n : Nat) (f : Nat → Value) : Xs (xT v n f) := by
  refine ⟨fun A B s U H locs h hS hAB hW hU => ?_, fun A U g mk a h => ?_⟩
  · have hq : ∀ a : Nat, a < s.heap.size → ¬ A a → U.heap[a]? = s.heap[a]? := fun a ha hn => by rw [hU]; exact hS.2.1 a ha hn
    exact ((va_T.moved hW.alike h).kept hq).narrow hAB
  · have ha : U.vm.Alike (U.calling g mk a).vm := Vm.Alike.refl U.vm
    exact va_T.moved ha h
theorem xR_s (own : String) (k : Nat) (tx : String) (q : Nat) : Xs (xR own k tx q) := ⟨fun _ _ _ _ _ _ h _ _ hW _ => vk_R.warm hW h, fun _ _ _ _ _ h => vk_R.same rfl h⟩
section
variable {p : Program} {l : Launch} {e : Env} {R : Room} {s : State} {m : MethodId} {args : Array Value} {below : List Frame} {meth : Method} {c : Code} {D : va_G} {tys : List (ClassId × FieldType)} {A : Nat → Prop} {cc : ByteArray} {nL cs sl : Nat} {own : String} {Ts : List Cond} {ret : Option FieldType} {Q : State → Prop} {pc : Nat} {lv : List (Nat × Value)} {st : List Value} {ws : va_W} {X : (Nat → Prop) → State → Prop}
def jPx (X : (Nat → Prop) → State → Prop) (D : va_G) (tys : List (ClassId × FieldType)) (as : List Value) (ws : va_W) (sz : Nat) : Array Value → State → Prop := va_Pc as (fun U => (U.heap.size = sz ∧ va_P D vwCl ws U.heap ∧ va_K D vwCl tys U ∧ va_D (fun _ => True) ws ∧ jE (va_A ws sz) U U.heap) ∧ X (va_A ws sz) U)
theorem jPx_blind {as : List Value} {sz : Nat} (hX : Xs X) : FrameBlind (jPx X D tys as ws sz) := by
  intro a U g mk q
  obtain ⟨q0, ⟨q1, qP, qK, qD, qE⟩, qX⟩ := q
  exact ⟨q0, ⟨q1, qP, va_K.moved (u := U) (U := U.calling g mk a) (Vm.Alike.refl U.vm) qK, qD, qE.calling⟩, hX.2 _ U g mk a qX⟩
theorem jPx_pre {as : List Value} {wc : va_W} {H : Heap} {locs : List Loc} {U : State} (hX : Xs X) (hx : X A s) (hK : va_K D vwCl tys s) (hE : jE A s s.heap) (hP : va_P D vwCl wc H) (hD : va_D A wc) (hF : ∀ q, va_A wc H.size q → A q) (hS : va_S A s.heap H locs) (hU : U.heap = H) (hW : s.WarmedH U.vm) : jPx X D tys as wc H.size as.toArray U :=
  ⟨rfl, ⟨by rw [hU], by rw [hU]; exact hP, va_K.moved hW.alike hK, hD.weaken (fun _ _ _ _ => trivial), hE.call hS hF hW hU⟩, hX.1 A _ s U H locs hx hS hF hW hU⟩
def CiX (X : (Nat → Prop) → State → Prop) (l : Launch) (y : MethodName) (wy : List Cond) (rm : Room) (D : va_G) (tys : List (ClassId × FieldType)) (as : List Value) (ws : va_W) {S : Type} (w1 : S → va_W) (post : Int32 → S → Prop) : Prop := ∀ sz : Nat, Met l y wy rm (jPx X D tys as ws sz) (va_Qi post (jB D w1 (va_A ws sz)) (va_A ws sz)) 0 0 (va_A ws sz)
def CrX (X : (Nat → Prop) → State → Prop) (l : Launch) (y : MethodName) (wy : List Cond) (rm : Room) (D : va_G) (tys : List (ClassId × FieldType)) (as : List Value) (ws : va_W) (post : State → Nat → Prop) : Prop := ∀ sz : Nat, Met l y wy rm (jPx X D tys as ws sz) (va_Qr (fun _ : Unit => True) (fun _ a t => post t a ∧ jB D (fun _ : Unit => ws) (va_A ws sz) () t) (va_A ws sz)) 0 0 (va_A ws sz)
theorem CiX.mk {y : MethodName} {wy wy' : List Cond} {rm : Room} {as : List Value} {maxL : Nat} {rt : FieldType} {S : Type} {w1 : S → va_W} {post : Int32 → S → Prop} (hy : plainName y.cls = true) (hw : wy = Cond.code y cc maxL (some rt) :: wy') (hn : (lg_sl as).length ≤ maxL) (hlv : lv_args 0 as = lv)
    (body : ∀ (p : Program) (e : Env) (s : State) (m : MethodId) (below : List Frame) (meth : Method) (c : Code) (A : Nat → Prop), Gx p rm s m as.toArray meth c D tys A cc maxL y.cls wy (some rt) → X A s → V p l e rm s m as.toArray below meth c D A maxL 0 0 (MQ below (va_Qi post (jB D w1 A) A) as.toArray s 0 0 A) 0 lv [] ws) : CiX X l y wy rm D tys as ws w1 post := by
  intro sz
  refine Met.ofW (cc := cc) (maxL := maxL) (ret := some rt) hy hw ?_
  intro p e s m args below meth c s₁ B hml hv
  obtain ⟨rfl, ⟨hsz, hP, hK, hD0, hE⟩, hx⟩ := hv
  subst hsz
  have hD := hD0.self (sz := s.heap.size)
  have hl := lv_entry as (n := maxL) hn
  rw [hlv] at hl
  rw [lg_entry_eq]
  exact body p e s m below meth c _ ⟨B.exec, B.bytes, hml, findClass_of_methodNamed B.named, atoms_spec (ws := wy) B.pre, B.returns, B.notSynchronized, hK, hE, fun q h => Or.inr h⟩ hx s.heap [] _ hP hD va_S.rf hl
theorem CrX.mk {y : MethodName} {wy wy' : List Cond} {rm : Room} {as : List Value} {maxL : Nat} {rt : FieldType} {post : State → Nat → Prop} (hy : plainName y.cls = true) (hw : wy = Cond.code y cc maxL (some rt) :: wy') (hn : (lg_sl as).length ≤ maxL) (hlv : lv_args 0 as = lv)
    (body : ∀ (p : Program) (e : Env) (s : State) (m : MethodId) (below : List Frame) (meth : Method) (c : Code) (A : Nat → Prop), Gx p rm s m as.toArray meth c D tys A cc maxL y.cls wy (some rt) → X A s → V p l e rm s m as.toArray below meth c D A maxL 0 0 (MQ below (va_Qr (fun _ : Unit => True) (fun _ a t => post t a ∧ jB D (fun _ : Unit => ws) A () t) A) as.toArray s 0 0 A) 0 lv [] ws) : CrX X l y wy rm D tys as ws post := by
  intro sz
  refine Met.ofW (cc := cc) (maxL := maxL) (ret := some rt) hy hw ?_
  intro p e s m args below meth c s₁ B hml hv
  obtain ⟨rfl, ⟨hsz, hP, hK, hD0, hE⟩, hx⟩ := hv
  subst hsz
  have hD := hD0.self (sz := s.heap.size)
  have hl := lv_entry as (n := maxL) hn
  rw [hlv] at hl
  rw [lg_entry_eq]
  exact body p e s m below meth c _ ⟨B.exec, B.bytes, hml, findClass_of_methodNamed B.named, atoms_spec (ws := wy) B.pre, B.returns, B.notSynchronized, hK, hE, fun q h => Or.inr h⟩ hx s.heap [] _ hP hD va_S.rf hl
theorem rn_VX (hX : Xs X) (hxs : X A s) (G : Gx p R s m args meth c D tys A cc nL own Ts ret) {y : MethodName} {wy wy' : List Cond} {rm : Room} {wc : va_W} {Qc : Nat → Array Value → State → Outcome → State → Prop} {As rest : List Value} {bytes : ByteArray} {maxL n index : Nat} {rt : Option FieldType} {b q0 ci N : Nat} {C : String} {T : u_T} {fs : List Value} (hM : ∀ sz, Met l y wy rm (jPx X D tys (.ref b :: As) wc sz) (Qc sz) 0 0 (va_A wc sz)) (hg : GoodIn Ts (wsV own index C y wy)) (hwy : wy = Cond.code y bytes maxL rt :: wy') (hd : y.cls = C ∧ y.cls ≠ "java/lang/invoke/MethodHandle" ∧ y.cls ≠ "java/lang/invoke/VarHandle" ∧ (parseMethodDescriptor y.desc).map (fun d => d.parameters.length) = some n) (hR : rm.cells = 0 ∧ rm.slots = 0 ∧ rm.frames + 1 ≤ R.frames ∧ 8 + (maxL + 11) + rm.locals ≤ R.locals) (hn : As.length = n) (hst : st = As.reverse ++ .ref b :: rest) (hW : (rest.map fun v => v.category).sum ≤ 8) (hf : cs ≤ R.cells ∧ sl ≤ R.slots) (he : wc[q0]? = some (b, .inr (ci, fs))) (hc : vwCl[ci]? = some (C, T, N)) (d : decode cc pc = .ok (.invokevirtual index, 3)) : Rn p l e R s m args below meth c D A nL cs sl pc st rest wc (fun sz => Qc sz (Value.ref b :: As).toArray) := by
  obtain ⟨hx, hb, hml, hown, hts, hr, hlk, hK, hE, hA⟩ := G
  intro H locs ls hP hD hF hS hls
  exact va_runV ⟨hx, hb, hml, hown, hts⟩ (hM H.size) (cwV n hts hg hwy hR.1 hR.2.1 hd ⟨hR.2.2.1, hR.2.2.2⟩) ⟨jPx_blind hX, va_recv hK hP hc he, fun U hU hW9 => jPx_pre hX hxs hK hE hP hD hF hS hU hW9⟩ rfl hn hls hst (lv_room hW) d hf
theorem rn_SX (hX : Xs X) (hxs : X A s) (G : Gx p R s m args meth c D tys A cc nL own Ts ret) {y : MethodName} {wy wy' : List Cond} {rm : Room} {wc : va_W} {Qc : Nat → Array Value → State → Outcome → State → Prop} {As rest : List Value} {bytes : ByteArray} {maxL n index : Nat} {rt : Option FieldType} (hM : ∀ sz, Met l y wy rm (jPx X D tys As wc sz) (Qc sz) 0 0 (va_A wc sz)) (hg : GoodIn Ts (va_wsS own index y wy)) (hwy : wy = Cond.code y bytes maxL rt :: wy') (hd : y.cls ≠ "java/lang/invoke/MethodHandle" ∧ y.cls ≠ "java/lang/invoke/VarHandle" ∧ (parseMethodDescriptor y.desc).map (fun d => d.parameters.length) = some n) (hR : rm.cells = 0 ∧ rm.slots = 0 ∧ rm.frames + 1 ≤ R.frames ∧ 8 + (maxL + 11) + rm.locals ≤ R.locals) (hn : As.length = n) (hst : st = As.reverse ++ rest) (hW : (rest.map fun v => v.category).sum ≤ 8) (hf : cs ≤ R.cells ∧ sl ≤ R.slots) (d : decode cc pc = .ok (.invokestatic index, 3)) : Rn p l e R s m args below meth c D A nL cs sl pc st rest wc (fun sz => Qc sz As.toArray) := by
  obtain ⟨hx, hb, hml, hown, hts, hr, hlk, hK, hE, hA⟩ := G
  intro H locs ls hP hD hF hS hls
  exact va_runS ⟨hx, hb, hml, hown, hts⟩ (hM H.size) (va_cwS n hts hg hwy hR.1 hR.2.1 hd ⟨hR.2.2.1, hR.2.2.2⟩) ⟨jPx_blind hX, fun U hU hW9 => jPx_pre hX hxs hK hE hP hD hF hS hU hW9⟩ rfl hn hls hst (lv_room hW) d hf
theorem rn_VS {b : Nat} {bs : List Int32} (hxs : jStr b bs A s s.heap) (G : Gx p R s m args meth c D tys A cc nL own Ts ret) {y : MethodName} {wy wy' : List Cond} {rm : Room} {wc : va_W} {Qc : Nat → Array Value → State → Outcome → State → Prop} {As rest : List Value} {bytes : ByteArray} {maxL n index : Nat} {rt : Option FieldType} (hM : ∀ sz, Met l y wy rm (jPx (xStr b bs) D tys (.ref b :: As) wc sz) (Qc sz) 0 0 (va_A wc sz)) (hg : GoodIn Ts (wsV own index "java/lang/String" y wy)) (hwy : wy = Cond.code y bytes maxL rt :: wy') (hd : y.cls = "java/lang/String" ∧ y.cls ≠ "java/lang/invoke/MethodHandle" ∧ y.cls ≠ "java/lang/invoke/VarHandle" ∧ (parseMethodDescriptor y.desc).map (fun d => d.parameters.length) = some n) (hR : rm.cells = 0 ∧ rm.slots = 0 ∧ rm.frames + 1 ≤ R.frames ∧ 8 + (maxL + 11) + rm.locals ≤ R.locals) (hn : As.length = n) (hst : st = As.reverse ++ .ref b :: rest) (hW : (rest.map fun v => v.category).sum ≤ 8) (hf : cs ≤ R.cells ∧ sl ≤ R.slots) (d : decode cc pc = .ok (.invokevirtual index, 3)) : Rn p l e R s m args below meth c D A nL cs sl pc st rest wc (fun sz => Qc sz (Value.ref b :: As).toArray) := by
  obtain ⟨hx, hb, hml, hown, hts, hr, hlk, hK, hE, hA⟩ := G
  intro H locs ls hP hD hF hS hls
  exact va_runV ⟨hx, hb, hml, hown, hts⟩ (hM H.size) (cwV n hts hg hwy hR.1 hR.2.1 hd ⟨hR.2.2.1, hR.2.2.2⟩) ⟨jPx_blind (xStr_s b bs), va_Orecv hxs.1 hS, fun U hU hW9 => jPx_pre (xStr_s b bs) hxs hK hE hP hD hF hS hU hW9⟩ rfl hn hls hst (lv_room hW) d hf
/-- a text constant -/
theorem v_ldcS (G : Gx p R s m args meth c D tys A cc nL own Ts ret) {index : Nat} {tx : String} {bs : List Int32} (hx : (own, index, tx, bs) ∈ jStrL) (d : decode cc pc = .ok (.ldc index, 2)) (kk : ∀ q : Nat, vk_R own index tx q s → jStr q bs A s s.heap → V p l e R s m args below meth c D A nL cs sl Q (pc + 2) lv (.ref q :: st) ws) : V p l e R s m args below meth c D A nL cs sl Q pc lv st ws := by
  obtain ⟨hx0, hb, hml, hown, hts, hr, hlk, hK, hE, hA⟩ := G
  intro H locs ls hP hD hS hl
  obtain ⟨q, h1, h2⟩ := hE.2.2.2.2 _ hx
  exact va_ldcS hx0 hb hown h1 d (kk q h1 h2 H locs ls hP hD hS hl)
theorem v_ldcR (G : Gx p R s m args meth c D tys A cc nL own Ts ret) {index q : Nat} {tx : String} (hx : vk_R own index tx q s) (d : decode cc pc = .ok (.ldc index, 2)) (kk : V p l e R s m args below meth c D A nL cs sl Q (pc + 2) lv (.ref q :: st) ws) : V p l e R s m args below meth c D A nL cs sl Q pc lv st ws := by
  obtain ⟨hx0, hb, hml, hown, hts, hr, hlk, hK, hE, hA⟩ := G
  intro H locs ls hP hD hS hl
  exact va_ldcS hx0 hb hown hx d (kk H locs ls hP hD hS hl)
theorem v_getC (G : Gx p R s m args meth c D tys A cc nL own Ts ret) {index : Nat} (hw : Cond.fieldLink own index "java/lang/String" "COMPACT_STRINGS" "Z" ∈ Ts) (d : decode cc pc = .ok (.getstatic index, 3)) (kk : V p l e R s m args below meth c D A nL cs sl Q (pc + 3) lv (.int (jI 1) :: st) ws) : V p l e R s m args below meth c D A nL cs sl Q pc lv st ws := by
  obtain ⟨hx, hb, hml, hown, hts, hr, hlk, hK, hE, hA⟩ := G
  intro H locs ls hP hD hS hl
  exact va_gets hx hb hE.2.2.1 hS hown (hts _ hw) (fun _ h9 => h9) d (kk H locs ls hP hD hS hl)
theorem v_getQ (G : Gx p R s m args meth c D tys A cc nL own Ts ret) {index : Nat} (hw : Cond.fieldLink own index "jdk/internal/util/Preconditions" "SIOOBE_FORMATTER" "Ljava/util/function/BiFunction;" ∈ Ts) (d : decode cc pc = .ok (.getstatic index, 3)) (kk : ∀ v : Value, (v = .null ∨ ∃ t : Nat, v = .ref t) → V p l e R s m args below meth c D A nL cs sl Q (pc + 3) lv (v :: st) ws) : V p l e R s m args below meth c D A nL cs sl Q pc lv st ws := by
  obtain ⟨hx, hb, hml, hown, hts, hr, hlk, hK, hE, hA⟩ := G
  intro H locs ls hP hD hS hl
  rcases hE.2.2.2.1 with h | ⟨t, h⟩
  · exact va_gets hx hb h hS hown (hts _ hw) (fun _ h9 => h9) d (kk .null (Or.inl rfl) H locs ls hP hD hS hl)
  · exact va_gets hx hb h hS hown (hts _ hw) (fun _ h9 => h9) d (kk (.ref t) (Or.inr ⟨t, rfl⟩) H locs ls hP hD hS hl)
theorem v_sfld (G : Gx p R s m args meth c D tys A cc nL own Ts ret) {n d0 : String} {q index : Nat} {v : Value} (hF : va_OF "java/lang/String" n d0 v q A s s.heap) (hw : Cond.fieldLink own index "java/lang/String" n d0 ∈ Ts) (d : decode cc pc = .ok (.getfield index, 3)) (kk : V p l e R s m args below meth c D A nL cs sl Q (pc + 3) lv (v :: st) ws) : V p l e R s m args below meth c D A nL cs sl Q pc lv (.ref q :: st) ws := by
  obtain ⟨hx, hb, hml, hown, hts, hr, hlk, hK, hE, hA⟩ := G
  intro H locs ls hP hD hS hl
  exact vk_getf hx hb hF hS hown (hts _ hw) (fun _ h9 => h9) d (kk H locs ls hP hD hS hl)
theorem v_tlen (G : Gx p R s m args meth c D tys A cc nL own Ts ret) {t N : Nat} {f : Nat → Value} (hT : va_T .byte t N f A s s.heap) (d : decode cc pc = .ok (.arraylength, 1)) (kk : V p l e R s m args below meth c D A nL cs sl Q (pc + 1) lv (.int (jI (N : Int)) :: st) ws) : V p l e R s m args below meth c D A nL cs sl Q pc lv (.ref t :: st) ws := by
  obtain ⟨hx, hb, hml, hown, hts, hr, hlk, hK, hE, hA⟩ := G
  intro H locs ls hP hD hS hl
  exact va_tlen hx hb hT hS (Int32.ofInt_eq_ofNat.symm) d (kk H locs ls hP hD hS hl)
theorem v_talb (G : Gx p R s m args meth c D tys A cc nL own Ts ret) {t N : Nat} {f : Nat → Value} {z : Int} {v : Int32} (hT : va_T .byte t N f A s s.heap) (hz : 0 ≤ z ∧ z < N ∧ (N : Int) ≤ 2147483647) (hv : f z.toNat = .int v) (d : decode cc pc = .ok (.baload, 1)) (kk : V p l e R s m args below meth c D A nL cs sl Q (pc + 1) lv (.int v :: st) ws) : V p l e R s m args below meth c D A nL cs sl Q pc lv (.int (jI z) :: .ref t :: st) ws := by
  obtain ⟨hx, hb, hml, hown, hts, hr, hlk, hK, hE, hA⟩ := G
  intro H locs ls hP hD hS hl
  exact va_tb hx hb hT hS (jI_in hz.1 hz.2.1 (by omega)) (by rw [jI_clampN hz.1 (by omega), hv]) d (kk H locs ls hP hD hS hl)
/-- void calls of no cells -/
theorem ch_n : ∀ x : Nat, x < 128 → ((jI (x : Int) &&& jI 255).toUInt32 % 65536).toInt32 = jI (x : Int) ∧ narrow .char (.int (jI (x : Int))) = .int (jI (x : Int)) := by decide +kernel
theorem ch_z {x : Int} (h : 0 ≤ x ∧ x ≤ 127) : ((jI x &&& jI 255).toUInt32 % 65536).toInt32 = jI x ∧ narrow .char (.int (jI x)) = .int (jI x) := by
  have e := ch_n x.toNat (by omega)
  rwa [Int.toNat_of_nonneg h.1] at e
end
section
variable {l : Launch} {D : va_G} {tys : List (ClassId × FieldType)}
theorem c_J3_checkIndex {z n : Int} {v : Value} (hv : v = .null ∨ ∃ t : Nat, v = .ref t) (hz : 0 ≤ z ∧ z < n ∧ n ≤ 100000) : Ci l yJ3_checkIndex_8e157 wsJ3_checkIndex_8e157 { frames := 0, cells := 0, slots := 0, locals := 0 } D tys [.int (jI z), .int (jI n), v] [] (S := Unit) (fun _ => []) (fun r _ => r = jI z) := by
  rcases hv with rfl | ⟨t, rfl⟩
  · refine Ci.mk (cc := cJ3_checkIndex_8e157) (maxL := 3) (rt := .int) (by decide) rfl (Nat.le_of_ble_eq_true rfl) rfl ?_
    intro p_ e_ s_ m_ b_ me_ c_ A_ G hnm
    refine v_iload_n (j := 0) (x := jI z) G dJ3_checkIndex_8e157_0 rfl rfl ?_
    refine v_if_lt (a := z) (tgt := 9) G dJ3_checkIndex_8e157_1 (by decide) (by omega) (fun h => by exfalso; omega) (fun h => ?_)
    refine v_iload_n (j := 0) (x := jI z) G dJ3_checkIndex_8e157_4 rfl rfl ?_
    refine v_iload_n (j := 1) (x := jI n) G dJ3_checkIndex_8e157_5 rfl rfl ?_
    refine v_icmp_lt (a := z) (b := n) (tgt := 16) G dJ3_checkIndex_8e157_6 (by decide) (by omega) (fun h => ?_) (fun h => by exfalso; omega)
    refine v_iload_n (j := 0) (x := jI z) G dJ3_checkIndex_8e157_16 rfl rfl ?_
    exact v_iret G () rfl rfl dJ3_checkIndex_8e157_17
  · refine Ci.mk (cc := cJ3_checkIndex_8e157) (maxL := 3) (rt := .int) (by decide) rfl (Nat.le_of_ble_eq_true rfl) rfl ?_
    intro p_ e_ s_ m_ b_ me_ c_ A_ G hnm
    refine v_iload_n (j := 0) (x := jI z) G dJ3_checkIndex_8e157_0 rfl rfl ?_
    refine v_if_lt (a := z) (tgt := 9) G dJ3_checkIndex_8e157_1 (by decide) (by omega) (fun h => by exfalso; omega) (fun h => ?_)
    refine v_iload_n (j := 0) (x := jI z) G dJ3_checkIndex_8e157_4 rfl rfl ?_
    refine v_iload_n (j := 1) (x := jI n) G dJ3_checkIndex_8e157_5 rfl rfl ?_
    refine v_icmp_lt (a := z) (b := n) (tgt := 16) G dJ3_checkIndex_8e157_6 (by decide) (by omega) (fun h => ?_) (fun h => by exfalso; omega)
    refine v_iload_n (j := 0) (x := jI z) G dJ3_checkIndex_8e157_16 rfl rfl ?_
    exact v_iret G () rfl rfl dJ3_checkIndex_8e157_17
set_option maxRecDepth 100000 in
theorem c_J0_checkIndex {z n : Int} (hz : 0 ≤ z ∧ z < n ∧ n ≤ 100000) : Cv l yJ0_checkIndex_df160 wsJ0_checkIndex_df160 { frames := 1, cells := 0, slots := 0, locals := 22 } D tys [.int (jI z), .int (jI n)] [] (S := Unit) (fun _ => []) (fun _ => True) := by
  refine Cv.mk (cc := cJ0_checkIndex_df160) (maxL := 2) (by decide) rfl (Nat.le_of_ble_eq_true rfl) rfl ?_
  intro p_ e_ s_ m_ b_ me_ c_ A_ G hnm
  have q_0 : Cond.fieldLink RJ0 1053 "jdk/internal/util/Preconditions" "SIOOBE_FORMATTER" "Ljava/util/function/BiFunction;" ∈ wsJ0_checkIndex_df160 := List.mem_of_getElem? (i := 1) rfl
  refine v_iload_n (j := 0) (x := jI z) G dJ0_checkIndex_df160_0 rfl rfl ?_
  refine v_iload_n (j := 1) (x := jI n) G dJ0_checkIndex_df160_1 rfl rfl ?_
  refine v_getQ G q_0 dJ0_checkIndex_df160_2 (fun v hv => ?_)
  refine v_ciN G (rn_S (As := [.int (jI z), .int (jI n), v]) (rest := []) G (c_J3_checkIndex hv hz) gJ0_checkIndex_df160_J3_checkIndex_8e157 rfl hdJ3_checkIndex_8e157 ⟨rfl, rfl, Nat.le_of_ble_eq_true rfl, Nat.le_of_ble_eq_true rfl⟩ rfl rfl (Nat.le_of_ble_eq_true rfl) ⟨Nat.zero_le _, Nat.zero_le _⟩ dJ0_checkIndex_df160_5) (fun r u h => ?_)
  refine v_pop G dJ0_checkIndex_df160_8 rfl ?_
  exact v_vret G () trivial rfl dJ0_checkIndex_df160_9
set_option maxRecDepth 100000 in
theorem c_J1_charAt {v : Nat} {bs : List Int32} {z x : Int} (hz : 0 ≤ z ∧ z < bs.length ∧ (bs.length : Int) ≤ 100) (hx : 0 ≤ x ∧ x ≤ 127) (he : bs.getD z.toNat 0 = jI x) : CiX (xT v bs.length (fun j => .int (bs.getD j 0))) l yJ1_charAt_3b067 wsJ1_charAt_3b067 { frames := 2, cells := 0, slots := 0, locals := 43 } D tys [.ref v, .int (jI z)] [] (S := Unit) (fun _ => []) (fun r _ => r = jI x) := by
  refine CiX.mk (cc := cJ1_charAt_3b067) (maxL := 2) (rt := .char) (by decide) rfl (Nat.le_of_ble_eq_true rfl) rfl ?_
  intro p_ e_ s_ m_ b_ me_ c_ A_ G hX
  have hc := ch_z hx
  refine v_iload_n (j := 1) (x := jI z) G dJ1_charAt_3b067_0 rfl rfl ?_
  refine v_aload_n (j := 0) (x := v) G dJ1_charAt_3b067_1 rfl rfl ?_
  refine v_tlen G hX dJ1_charAt_3b067_2 ?_
  refine v_cvN G (rn_S (As := [.int (jI z), .int (jI (bs.length : Int))]) (rest := []) G (c_J0_checkIndex (by omega)) gJ1_charAt_3b067_J0_checkIndex_df160 rfl hdJ0_checkIndex_df160 ⟨rfl, rfl, Nat.le_of_ble_eq_true rfl, Nat.le_of_ble_eq_true rfl⟩ rfl rfl (Nat.le_of_ble_eq_true rfl) ⟨Nat.zero_le _, Nat.zero_le _⟩ dJ1_charAt_3b067_3) (fun u h => ?_)
  refine v_aload_n (j := 0) (x := v) G dJ1_charAt_3b067_6 rfl rfl ?_
  refine v_iload_n (j := 1) (x := jI z) G dJ1_charAt_3b067_7 rfl rfl ?_
  refine v_talb (z := z) (v := jI x) G hX (by omega) (congrArg Value.int he) dJ1_charAt_3b067_8 ?_
  refine v_sipush G dJ1_charAt_3b067_9 (by decide) ?_
  refine v_iand (v := jI x &&& jI 255) G dJ1_charAt_3b067_12 rfl ?_
  refine v_i2c (v := ((jI x &&& jI 255).toUInt32 % 65536).toInt32) G dJ1_charAt_3b067_13 rfl ?_
  refine v_top hc.1 ?_
  exact v_zret G () hc.2 rfl rfl dJ1_charAt_3b067_14
theorem nby_0 : narrow .byte (.int (jI 0)) = .int (jI 0) := by decide
set_option maxRecDepth 100000 in
theorem c_J0_coder {q : Nat} {bs : List Int32} : CiX (xStr q bs) l yJ0_coder_7d493 wsJ0_coder_7d493 { frames := 0, cells := 0, slots := 0, locals := 0 } D tys [.ref q] [] (S := Unit) (fun _ => []) (fun r _ => r = jI 0) := by
  refine CiX.mk (cc := cJ0_coder_7d493) (maxL := 1) (rt := .byte) (by decide) rfl (Nat.le_of_ble_eq_true rfl) rfl ?_
  intro p_ e_ s_ m_ b_ me_ c_ A_ G hX
  have q_0 : Cond.fieldLink RJ0 38 "java/lang/String" "COMPACT_STRINGS" "Z" ∈ wsJ0_coder_7d493 := List.mem_of_getElem? (i := 1) rfl
  have q_1 : Cond.fieldLink RJ0 15 "java/lang/String" "coder" "B" ∈ wsJ0_coder_7d493 := List.mem_of_getElem? (i := 2) rfl
  refine v_getC G q_0 dJ0_coder_7d493_0 ?_
  refine v_if_eq (a := 1) (tgt := 13) G dJ0_coder_7d493_3 (by decide) (by omega) (fun h => by exfalso; omega) (fun h => ?_)
  refine v_aload_n (j := 0) (x := q) G dJ0_coder_7d493_6 rfl rfl ?_
  refine v_sfld (v := .int (jI 0)) G hX.2.1 q_1 dJ0_coder_7d493_7 ?_
  refine v_goto (tgt := 14) G dJ0_coder_7d493_10 (by decide) ?_
  exact v_zret G () nby_0 rfl rfl dJ0_coder_7d493_14
set_option maxRecDepth 100000 in
theorem c_J0_isLatin1 {q : Nat} {bs : List Int32} : CiX (xStr q bs) l yJ0_isLatin1_aae02 wsJ0_isLatin1_aae02 { frames := 0, cells := 0, slots := 0, locals := 0 } D tys [.ref q] [] (S := Unit) (fun _ => []) (fun r _ => r = jI 1) := by
  refine CiX.mk (cc := cJ0_isLatin1_aae02) (maxL := 1) (rt := .boolean) (by decide) rfl (Nat.le_of_ble_eq_true rfl) rfl ?_
  intro p_ e_ s_ m_ b_ me_ c_ A_ G hX
  have q_0 : Cond.fieldLink RJ0 38 "java/lang/String" "COMPACT_STRINGS" "Z" ∈ wsJ0_isLatin1_aae02 := List.mem_of_getElem? (i := 1) rfl
  have q_1 : Cond.fieldLink RJ0 15 "java/lang/String" "coder" "B" ∈ wsJ0_isLatin1_aae02 := List.mem_of_getElem? (i := 2) rfl
  refine v_getC G q_0 dJ0_isLatin1_aae02_0 ?_
  refine v_if_eq (a := 1) (tgt := 17) G dJ0_isLatin1_aae02_3 (by decide) (by omega) (fun h => by exfalso; omega) (fun h => ?_)
  refine v_aload_n (j := 0) (x := q) G dJ0_isLatin1_aae02_6 rfl rfl ?_
  refine v_sfld (v := .int (jI 0)) G hX.2.1 q_1 dJ0_isLatin1_aae02_7 ?_
  refine v_if_ne (a := 0) (tgt := 17) G dJ0_isLatin1_aae02_10 (by decide) (by omega) (fun h => by exfalso; omega) (fun h => ?_)
  refine v_iconst G dJ0_isLatin1_aae02_13 ?_
  refine v_goto (tgt := 18) G dJ0_isLatin1_aae02_14 (by decide) ?_
  exact v_zret G () nb_1 rfl rfl dJ0_isLatin1_aae02_18
theorem shr_0 (n : Nat) (h : (n : Int) ≤ 100) : jI (n : Int) >>> (jI 0 &&& 31) = jI (n : Int) := by
  have e := jI_shrI (x := (n : Int)) (k := 0) (by omega) (by omega)
  rw [e]
  congr 1
  simp
set_option maxRecDepth 100000 in
theorem c_J0_length {q : Nat} {bs : List Int32} (hn : (bs.length : Int) ≤ 100) : CiX (xStr q bs) l yJ0_length_8abf5 wsJ0_length_8abf5 { frames := 1, cells := 0, slots := 0, locals := 20 } D tys [.ref q] [] (S := Unit) (fun _ => []) (fun r _ => r = jI (bs.length : Int)) := by
  refine CiX.mk (cc := cJ0_length_8abf5) (maxL := 1) (rt := .int) (by decide) rfl (Nat.le_of_ble_eq_true rfl) rfl ?_
  intro p_ e_ s_ m_ b_ me_ c_ A_ G hX
  have q_0 : Cond.fieldLink RJ0 9 "java/lang/String" "value" "[B" ∈ wsJ0_length_8abf5 := List.mem_of_getElem? (i := 1) rfl
  obtain ⟨v, hv, hT⟩ := hX.2.2
  refine v_aload_n (j := 0) (x := q) G dJ0_length_8abf5_0 rfl rfl ?_
  refine v_sfld (v := .ref v) G hv q_0 dJ0_length_8abf5_1 ?_
  refine v_tlen G hT dJ0_length_8abf5_4 ?_
  refine v_aload_n (j := 0) (x := q) G dJ0_length_8abf5_5 rfl rfl ?_
  refine v_ciN G (rn_VS (bs := bs) (As := []) (rest := [.int (jI (bs.length : Int))]) hX G c_J0_coder gJ0_length_8abf5_J0_coder_7d493 rfl hdJ0_coder_7d493 ⟨rfl, rfl, Nat.le_of_ble_eq_true rfl, Nat.le_of_ble_eq_true rfl⟩ rfl rfl (Nat.le_of_ble_eq_true rfl) ⟨Nat.zero_le _, Nat.zero_le _⟩ dJ0_length_8abf5_6) (fun r u h => ?_)
  have h : r = jI 0 := h
  subst h
  refine v_ishr (v := jI (bs.length : Int) >>> (jI 0 &&& 31)) G dJ0_length_8abf5_9 rfl ?_
  refine v_top (shr_0 _ hn) ?_
  exact v_iret G () rfl rfl dJ0_length_8abf5_10
set_option maxRecDepth 100000 in
theorem c_J0_charAt {q : Nat} {bs : List Int32} {z x : Int} (hz : 0 ≤ z ∧ z < bs.length ∧ (bs.length : Int) ≤ 100) (hx : 0 ≤ x ∧ x ≤ 127) (he : bs.getD z.toNat 0 = jI x) : CiX (xStr q bs) l yJ0_charAt_5068e wsJ0_charAt_5068e { frames := 3, cells := 0, slots := 0, locals := 64 } D tys [.ref q, .int (jI z)] [] (S := Unit) (fun _ => []) (fun r _ => r = jI x) := by
  refine CiX.mk (cc := cJ0_charAt_5068e) (maxL := 2) (rt := .char) (by decide) rfl (Nat.le_of_ble_eq_true rfl) rfl ?_
  intro p_ e_ s_ m_ b_ me_ c_ A_ G hX
  have q_0 : Cond.fieldLink RJ0 9 "java/lang/String" "value" "[B" ∈ wsJ0_charAt_5068e := List.mem_of_getElem? (i := 1) rfl
  obtain ⟨v, hv, hT⟩ := hX.2.2
  refine v_aload_n (j := 0) (x := q) G dJ0_charAt_5068e_0 rfl rfl ?_
  refine v_ciN G (rn_VS (bs := bs) (As := []) (rest := []) hX G c_J0_isLatin1 gJ0_charAt_5068e_J0_isLatin1_aae02 rfl hdJ0_isLatin1_aae02 ⟨rfl, rfl, Nat.le_of_ble_eq_true rfl, Nat.le_of_ble_eq_true rfl⟩ rfl rfl (Nat.le_of_ble_eq_true rfl) ⟨Nat.zero_le _, Nat.zero_le _⟩ dJ0_charAt_5068e_1) (fun r u h => ?_)
  have h : r = jI 1 := h
  subst h
  refine v_if_eq (a := 1) (tgt := 16) G dJ0_charAt_5068e_4 (by decide) (by omega) (fun h => by exfalso; omega) (fun h => ?_)
  refine v_aload_n (j := 0) (x := q) G dJ0_charAt_5068e_7 rfl rfl ?_
  refine v_sfld (v := .ref v) G hv q_0 dJ0_charAt_5068e_8 ?_
  refine v_iload_n (j := 1) (x := jI z) G dJ0_charAt_5068e_11 rfl rfl ?_
  refine v_ciN G (rn_SX (xT_s v bs.length (fun j => .int (bs.getD j 0))) hT (As := [.ref v, .int (jI z)]) (rest := []) G (c_J1_charAt hz hx he) gJ0_charAt_5068e_J1_charAt_3b067 rfl hdJ1_charAt_3b067 ⟨rfl, rfl, Nat.le_of_ble_eq_true rfl, Nat.le_of_ble_eq_true rfl⟩ rfl rfl (Nat.le_of_ble_eq_true rfl) ⟨Nat.zero_le _, Nat.zero_le _⟩ dJ0_charAt_5068e_12) (fun r u h => ?_)
  have h : r = jI x := h
  subst h
  exact v_zret G () (ch_z hx).2 rfl rfl dJ0_charAt_5068e_15
end

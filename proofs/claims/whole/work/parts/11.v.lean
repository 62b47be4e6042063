/-! the walk's own judgement: locals, stack and world as lists; the heap is hidden -/
def jLinks : List Cond := [.methodLinkNest RX0 41 yX8_isUnder RX8, .methodLinkNest RX0 60 yX8_stepsBetween RX8, .methodLinkNest RX0 66 yX8_sumOf RX8, .methodLinkNest RX2 11 yX7_init RX8, .methodLinkNest RX2 20 yX5_init RX8, .methodLinkNest RX2 52 yX8_isKind RX8, .methodLinkNest RX2 110 yX8_within RX8, .methodLinkNest RX6 24 yX8_stepsBetween RX8, .methodLinkNest RX7 73 yX8_towards RX8, .methodLinkNest RX7 81 yX8_within RX8, .methodLinkNest RX8 9 yX7_init RX8, .methodLinkNest RX8 28 yX0_init RX8, .methodLinkNest RX8 35 yX4_init RX8, .methodLinkNest RX8 42 yX2_init RX8, .methodLinkNest RX8 53 yX3_init RX8, .methodLinkNest RX8 56 yX1_init RX8, .methodLinkNest RX8 63 yX6_init RX8]
/-- the text constants: class, entry, text, bytes -/
def jStrL : List (String × Nat × String × List Int32) := [(RX5, 80, "person", [112, 101, 114, 115, 111, 110]), (RX5, 82, "singer", [115, 105, 110, 103, 101, 114]), (RX5, 84, "thief", [116, 104, 105, 101, 102]), (RX5, 86, "herd", [104, 101, 114, 100]), (RX5, 88, "choir", [99, 104, 111, 105, 114]), (RX5, 90, "faster", [102, 97, 115, 116, 101, 114]), (RX5, 92, "at", [97, 116]), (RX5, 94, "goes", [103, 111, 101, 115]), (RX5, 96, "meal", [109, 101, 97, 108]), (RX5, 98, "fasts", [102, 97, 115, 116, 115]), (RX5, 100, "bowl", [98, 111, 119, 108]), (RX5, 102, "task", [116, 97, 115, 107]), (RX5, 104, "hour", [104, 111, 117, 114]), (RX5, 106, "need", [110, 101, 101, 100]), (RX5, 108, "eat", [101, 97, 116]), (RX9, 229, "person", [112, 101, 114, 115, 111, 110]), (RX9, 231, "singer", [115, 105, 110, 103, 101, 114]), (RX9, 233, "thief", [116, 104, 105, 101, 102]), (RX9, 235, "herd", [104, 101, 114, 100]), (RX9, 237, "choir", [99, 104, 111, 105, 114]), (RX9, 239, "faster", [102, 97, 115, 116, 101, 114]), (RX9, 247, "at", [97, 116]), (RX9, 252, "goes", [103, 111, 101, 115]), (RX9, 258, "meal", [109, 101, 97, 108]), (RX9, 260, "fasts", [102, 97, 115, 116, 115]), (RX9, 277, "bowl", [98, 111, 119, 108]), (RX9, 272, "task", [116, 97, 115, 107]), (RX9, 262, "hour", [104, 111, 117, 114]), (RX9, 263, "need", [110, 101, 101, 100]), (RX9, 282, "eat", [101, 97, 116])]
def jAbove (j : Nat) : Int32 := if j = 0 then -1 else if j = 4 then 1 else if j = 5 then 2 else 0
/-- a text constant at q -/
def jStr (q : Nat) (bs : List Int32) (A : Nat → Prop) (U : State) (H : Heap) : Prop := va_O "java/lang/String" q A U H ∧ va_OF "java/lang/String" "coder" "B" (.int 0) q A U H ∧ ∃ v : Nat, va_OF "java/lang/String" "value" "[B" (.ref v) q A U H ∧ va_T .byte v bs.length (fun j => .int (bs.getD j 0)) A U H
/-- what no method changes: nest links, the table ABOVE, what String asks, the text constants -/
def jE (A : Nat → Prop) (U : State) (H : Heap) : Prop :=
  (∀ w ∈ jLinks, va_Nw w U) ∧ (∃ t : Nat, va_Z "SupperLight" "ABOVE" "[I" (.ref t) A U H ∧ va_T .int t 6 (fun j => .int (jAbove j)) A U H) ∧
  va_Z "java/lang/String" "COMPACT_STRINGS" "Z" (.int 1) A U H ∧ va_Zq "jdk/internal/util/Preconditions" "SIOOBE_FORMATTER" "Ljava/util/function/BiFunction;" A U H ∧
  ∀ x ∈ jStrL, ∃ q : Nat, vk_R x.1 x.2.1 x.2.2.1 q U ∧ jStr q x.2.2.2 A U H
theorem jLinks_warm {s U : State} (hW : s.WarmedH U.vm) (h : ∀ w ∈ jLinks, va_Nw w s) : ∀ w ∈ jLinks, va_Nw w U := by
  intro w hw
  have h1 := h w hw
  simp only [jLinks, List.mem_cons, List.not_mem_nil, or_false] at hw
  rcases hw with rfl | rfl | rfl | rfl | rfl | rfl | rfl | rfl | rfl | rfl | rfl | rfl | rfl | rfl | rfl | rfl | rfl <;> exact va_Nw.warmM hW h1
theorem jLinks_same {u U : State} (hv : u.vm = U.vm) (h : ∀ w ∈ jLinks, va_Nw w u) : ∀ w ∈ jLinks, va_Nw w U := by
  intro w hw
  have h1 := h w hw
  simp only [jLinks, List.mem_cons, List.not_mem_nil, or_false] at hw
  rcases hw with rfl | rfl | rfl | rfl | rfl | rfl | rfl | rfl | rfl | rfl | rfl | rfl | rfl | rfl | rfl | rfl | rfl <;> exact va_Nw.same rfl hv h1
theorem jStr.moved {q : Nat} {bs : List Int32} {A : Nat → Prop} {u U : State} {H : Heap} (hvm : u.vm.Alike U.vm) (h : jStr q bs A u H) : jStr q bs A U H := by
  obtain ⟨h1, h2, v, h3, h4⟩ := h
  exact ⟨va_O.moved hvm h1, va_OF.moved hvm h2, v, va_OF.moved hvm h3, va_T.moved hvm h4⟩
theorem jStr.kept {q : Nat} {bs : List Int32} {A : Nat → Prop} {U : State} {H H1 : Heap} (h : jStr q bs A U H) (hq : ∀ a : Nat, a < H.size → ¬ A a → H1[a]? = H[a]?) : jStr q bs A U H1 := by
  obtain ⟨h1, h2, v, h3, h4⟩ := h
  exact ⟨h1.kept hq, h2.kept hq, v, h3.kept hq, h4.kept hq⟩
theorem jStr.narrow {q : Nat} {bs : List Int32} {A B : Nat → Prop} {U : State} {H : Heap} (h : jStr q bs A U H) (hAB : ∀ q, B q → A q) : jStr q bs B U H := by
  obtain ⟨h1, h2, v, h3, h4⟩ := h
  exact ⟨h1.narrow hAB, h2.narrow hAB, v, h3.narrow hAB, h4.narrow hAB⟩
/-- the surroundings at a call -/
theorem jE.call {A B : Nat → Prop} {s U : State} {H : Heap} {locs : List Loc} (h : jE A s s.heap) (hS : va_S A s.heap H locs) (hAB : ∀ q, B q → A q) (hW : s.WarmedH U.vm) (hU : U.heap = H) : jE B U U.heap := by
  obtain ⟨h1, ⟨t, h2, h3⟩, h4, h5, h6⟩ := h
  have hq : ∀ a : Nat, a < s.heap.size → ¬ A a → U.heap[a]? = s.heap[a]? := fun a ha hn => by rw [hU]; exact hS.2.1 a ha hn
  refine ⟨jLinks_warm hW h1, ⟨t, ((va_Z.moved hW.alike h2).kept hq).narrow hAB, ((va_T.moved hW.alike h3).kept hq).narrow hAB⟩, ((va_Z.moved hW.alike h4).kept hq).narrow hAB, ((va_Zq.moved hW.alike h5).kept hq).narrow hAB, fun x hx => ?_⟩
  obtain ⟨q, hr, hs⟩ := h6 x hx
  exact ⟨q, vk_R.warm hW hr, ((jStr.moved hW.alike hs).kept hq).narrow hAB⟩
theorem jE.calling {A : Nat → Prop} {U : State} {g : JFrame} {mk : MethodId} {a : Array Value} (h : jE A U U.heap) : jE A (U.calling g mk a) (U.calling g mk a).heap := by
  obtain ⟨h1, ⟨t, h2, h3⟩, h4, h5, h6⟩ := h
  have hv : U.vm = (U.calling g mk a).vm := rfl
  have ha : U.vm.Alike (U.calling g mk a).vm := Vm.Alike.refl U.vm
  refine ⟨jLinks_same hv h1, ⟨t, va_Z.moved ha h2, va_T.moved ha h3⟩, va_Z.moved ha h4, va_Zq.moved ha h5, fun x hx => ?_⟩
  obtain ⟨q, hr, hs⟩ := h6 x hx
  exact ⟨q, vk_R.same rfl hr, jStr.moved ha hs⟩
/-- what a walk knows all the time -/
def Gx (p : Program) (R : Room) (s : State) (m : MethodId) (args : Array Value) (meth : Method) (c : Code) (D : va_G) (tys : List (ClassId × FieldType)) (A : Nat → Prop) (cc : ByteArray) (nL : Nat) (own : String) (Ts : List Cond) (ret : Option FieldType) : Prop :=
  p.tables.exec = Jvm.exec ∧ c.code = cc ∧ c.maxLocals = nL ∧ s.vm.findClass own = some m.cls ∧ (∀ w ∈ Ts, w.before args s = true) ∧ meth.sig.returnType = ret ∧ meth.locks = false ∧ va_K D vwCl tys s ∧ jE A s s.heap ∧ ∀ q, s.heap.size ≤ q → A q
def V (p : Program) (l : Launch) (e : Env) (R : Room) (s : State) (m : MethodId) (args : Array Value) (below : List Frame) (meth : Method) (c : Code) (D : va_G) (A : Nat → Prop) (nL cs sl : Nat) (Q : State → Prop) (pc : Nat) (lv : List (Nat × Value)) (st : List Value) (ws : va_W) : Prop :=
  ∀ (H : Heap) (locs : List Loc) (ls : Array Slot), va_P D vwCl ws H → va_D A ws → va_S A s.heap H locs → lv_has ls nL lv → W p l e R s m args below meth c H locs cs sl Q (F0 m pc ls st)
section
variable {p : Program} {l : Launch} {e : Env} {R : Room} {s : State} {m : MethodId} {args : Array Value} {below : List Frame} {meth : Method} {c : Code} {D : va_G} {tys : List (ClassId × FieldType)} {A : Nat → Prop} {cc : ByteArray} {nL cs sl : Nat} {own : String} {Ts : List Cond} {ret : Option FieldType} {Q : State → Prop} {pc : Nat} {lv : List (Nat × Value)} {st : List Value} {ws : va_W}
theorem v_iconst (G : Gx p R s m args meth c D tys A cc nL own Ts ret) {n : Int} (d : decode cc pc = .ok (.iconst n, 1)) (kk : V p l e R s m args below meth c D A nL cs sl Q (pc + 1) lv (.int (jI n) :: st) ws) : V p l e R s m args below meth c D A nL cs sl Q pc lv st ws := by
  obtain ⟨hx, hb, hml, hown, hts, hr, hlk, hK, hE, hA⟩ := G
  intro H locs ls hP hD hS hl
  exact lv_iconst hx hb d rfl (kk H locs ls hP hD hS hl)
theorem v_bipush (G : Gx p R s m args meth c D tys A cc nL own Ts ret) {n : Int} (d : decode cc pc = .ok (.bipush n, 2)) (hn : (Int8.ofInt n).toInt32 = jI n) (kk : V p l e R s m args below meth c D A nL cs sl Q (pc + 2) lv (.int (jI n) :: st) ws) : V p l e R s m args below meth c D A nL cs sl Q pc lv st ws := by
  obtain ⟨hx, hb, hml, hown, hts, hr, hlk, hK, hE, hA⟩ := G
  intro H locs ls hP hD hS hl
  exact lv_bipush hx hb d hn (kk H locs ls hP hD hS hl)
theorem v_sipush (G : Gx p R s m args meth c D tys A cc nL own Ts ret) {n : Int} (d : decode cc pc = .ok (.sipush n, 3)) (hn : (Int16.ofInt n).toInt32 = jI n) (kk : V p l e R s m args below meth c D A nL cs sl Q (pc + 3) lv (.int (jI n) :: st) ws) : V p l e R s m args below meth c D A nL cs sl Q pc lv st ws := by
  obtain ⟨hx, hb, hml, hown, hts, hr, hlk, hK, hE, hA⟩ := G
  intro H locs ls hP hD hS hl
  exact lv_sipush hx hb d hn (kk H locs ls hP hD hS hl)
theorem v_ldc (G : Gx p R s m args meth c D tys A cc nL own Ts ret) {index : Nat} {v : Int32} {z : Int} (hw : Cond.constant own index v ∈ Ts) (hz : v = jI z) (d : decode cc pc = .ok (.ldc index, 2)) (kk : V p l e R s m args below meth c D A nL cs sl Q (pc + 2) lv (.int (jI z) :: st) ws) : V p l e R s m args below meth c D A nL cs sl Q pc lv st ws := by
  obtain ⟨hx, hb, hml, hown, hts, hr, hlk, hK, hE, hA⟩ := G
  intro H locs ls hP hD hS hl
  subst hz
  exact lv_ldc hx hb hown (hts _ hw) d (kk H locs ls hP hD hS hl)
theorem v_ldcw (G : Gx p R s m args meth c D tys A cc nL own Ts ret) {index : Nat} {v : Int32} {z : Int} (hw : Cond.constant own index v ∈ Ts) (hz : v = jI z) (d : decode cc pc = .ok (.ldc_w index, 3)) (kk : V p l e R s m args below meth c D A nL cs sl Q (pc + 3) lv (.int (jI z) :: st) ws) : V p l e R s m args below meth c D A nL cs sl Q pc lv st ws := by
  obtain ⟨hx, hb, hml, hown, hts, hr, hlk, hK, hE, hA⟩ := G
  intro H locs ls hP hD hS hl
  subst hz
  exact lv_ldcw hx hb hown (hts _ hw) d (kk H locs ls hP hD hS hl)
theorem v_lconst (G : Gx p R s m args meth c D tys A cc nL own Ts ret) {n : Fin 2} {z : Int} (d : decode cc pc = .ok (.lconst n, 1)) (hz : Int64.ofNat (n : Nat) = jL z) (kk : V p l e R s m args below meth c D A nL cs sl Q (pc + 1) lv (.long (jL z) :: st) ws) : V p l e R s m args below meth c D A nL cs sl Q pc lv st ws := by
  obtain ⟨hx, hb, hml, hown, hts, hr, hlk, hK, hE, hA⟩ := G
  intro H locs ls hP hD hS hl
  exact lv_lconst hx hb d hz (kk H locs ls hP hD hS hl)
theorem v_ldc2 (G : Gx p R s m args meth c D tys A cc nL own Ts ret) {index : Nat} {v : Int64} {z : Int} (hw : Cond.constantLong own index v ∈ Ts) (hz : v = jL z) (d : decode cc pc = .ok (.ldc2_w index, 3)) (kk : V p l e R s m args below meth c D A nL cs sl Q (pc + 3) lv (.long (jL z) :: st) ws) : V p l e R s m args below meth c D A nL cs sl Q pc lv st ws := by
  obtain ⟨hx, hb, hml, hown, hts, hr, hlk, hK, hE, hA⟩ := G
  intro H locs ls hP hD hS hl
  subst hz
  exact lv_ldc2 hx hb hown (hts _ hw) d (kk H locs ls hP hD hS hl)
theorem v_iload_n (G : Gx p R s m args meth c D tys A cc nL own Ts ret) {k : Fin 4} {i j : Nat} {x : Int32} (d : decode cc pc = .ok (.iload_n k, 1)) (hi : (k : Nat) = i) (h : lv[j]? = some (i, .int x)) (kk : V p l e R s m args below meth c D A nL cs sl Q (pc + 1) lv (.int x :: st) ws) : V p l e R s m args below meth c D A nL cs sl Q pc lv st ws := by
  obtain ⟨hx, hb, hml, hown, hts, hr, hlk, hK, hE, hA⟩ := G
  intro H locs ls hP hD hS hl
  exact lv_iload_n hx hb d hi (lv_at hl j h) (kk H locs ls hP hD hS hl)
theorem v_iload (G : Gx p R s m args meth c D tys A cc nL own Ts ret) {i j : Nat} {x : Int32} (d : decode cc pc = .ok (.iload i, 2)) (h : lv[j]? = some (i, .int x)) (kk : V p l e R s m args below meth c D A nL cs sl Q (pc + 2) lv (.int x :: st) ws) : V p l e R s m args below meth c D A nL cs sl Q pc lv st ws := by
  obtain ⟨hx, hb, hml, hown, hts, hr, hlk, hK, hE, hA⟩ := G
  intro H locs ls hP hD hS hl
  exact lv_iload hx hb d (lv_at hl j h) (kk H locs ls hP hD hS hl)
theorem v_aload_n (G : Gx p R s m args meth c D tys A cc nL own Ts ret) {k : Fin 4} {i j : Nat} {x : Nat} (d : decode cc pc = .ok (.aload_n k, 1)) (hi : (k : Nat) = i) (h : lv[j]? = some (i, .ref x)) (kk : V p l e R s m args below meth c D A nL cs sl Q (pc + 1) lv (.ref x :: st) ws) : V p l e R s m args below meth c D A nL cs sl Q pc lv st ws := by
  obtain ⟨hx, hb, hml, hown, hts, hr, hlk, hK, hE, hA⟩ := G
  intro H locs ls hP hD hS hl
  exact lv_aload_n hx hb d hi (lv_at hl j h) (kk H locs ls hP hD hS hl)
theorem v_aload (G : Gx p R s m args meth c D tys A cc nL own Ts ret) {i j : Nat} {x : Nat} (d : decode cc pc = .ok (.aload i, 2)) (h : lv[j]? = some (i, .ref x)) (kk : V p l e R s m args below meth c D A nL cs sl Q (pc + 2) lv (.ref x :: st) ws) : V p l e R s m args below meth c D A nL cs sl Q pc lv st ws := by
  obtain ⟨hx, hb, hml, hown, hts, hr, hlk, hK, hE, hA⟩ := G
  intro H locs ls hP hD hS hl
  exact lv_aload hx hb d (lv_at hl j h) (kk H locs ls hP hD hS hl)
theorem v_lload_n (G : Gx p R s m args meth c D tys A cc nL own Ts ret) {k : Fin 4} {i j : Nat} {x : Int64} (d : decode cc pc = .ok (.lload_n k, 1)) (hi : (k : Nat) = i) (h : lv[j]? = some (i, .long x)) (kk : V p l e R s m args below meth c D A nL cs sl Q (pc + 1) lv (.long x :: st) ws) : V p l e R s m args below meth c D A nL cs sl Q pc lv st ws := by
  obtain ⟨hx, hb, hml, hown, hts, hr, hlk, hK, hE, hA⟩ := G
  intro H locs ls hP hD hS hl
  exact lv_lload_n hx hb d hi (lv_at hl j h) (kk H locs ls hP hD hS hl)
theorem v_lload (G : Gx p R s m args meth c D tys A cc nL own Ts ret) {i j : Nat} {x : Int64} (d : decode cc pc = .ok (.lload i, 2)) (h : lv[j]? = some (i, .long x)) (kk : V p l e R s m args below meth c D A nL cs sl Q (pc + 2) lv (.long x :: st) ws) : V p l e R s m args below meth c D A nL cs sl Q pc lv st ws := by
  obtain ⟨hx, hb, hml, hown, hts, hr, hlk, hK, hE, hA⟩ := G
  intro H locs ls hP hD hS hl
  exact lv_lload hx hb d (lv_at hl j h) (kk H locs ls hP hD hS hl)
theorem v_istore_n (G : Gx p R s m args meth c D tys A cc nL own Ts ret) {k : Fin 4} {i : Nat} {x : Int32} {lv' : List (Nat × Value)} (d : decode cc pc = .ok (.istore_n k, 1)) (hi : (k : Nat) = i) (hn : i < nL) (hv : (i, Value.int x) :: lv.filter (fun q => !(q.1 == i) && !(q.1 + 1 == i && q.2.category == 2)) = lv') (kk : V p l e R s m args below meth c D A nL cs sl Q (pc + 1) lv' st ws) : V p l e R s m args below meth c D A nL cs sl Q pc lv (.int x :: st) ws := by
  obtain ⟨hx, hb, hml, hown, hts, hr, hlk, hK, hE, hA⟩ := G
  intro H locs ls hP hD hS hl
  exact lv_istore_n hx hb d hi hl hn hv (fun ls hl => kk H locs ls hP hD hS hl)
theorem v_istore (G : Gx p R s m args meth c D tys A cc nL own Ts ret) {i : Nat} {x : Int32} {lv' : List (Nat × Value)} (d : decode cc pc = .ok (.istore i, 2)) (hn : i < nL) (hv : (i, Value.int x) :: lv.filter (fun q => !(q.1 == i) && !(q.1 + 1 == i && q.2.category == 2)) = lv') (kk : V p l e R s m args below meth c D A nL cs sl Q (pc + 2) lv' st ws) : V p l e R s m args below meth c D A nL cs sl Q pc lv (.int x :: st) ws := by
  obtain ⟨hx, hb, hml, hown, hts, hr, hlk, hK, hE, hA⟩ := G
  intro H locs ls hP hD hS hl
  exact lv_istore hx hb d hl hn hv (fun ls hl => kk H locs ls hP hD hS hl)
theorem v_astore_n (G : Gx p R s m args meth c D tys A cc nL own Ts ret) {k : Fin 4} {i : Nat} {x : Nat} {lv' : List (Nat × Value)} (d : decode cc pc = .ok (.astore_n k, 1)) (hi : (k : Nat) = i) (hn : i < nL) (hv : (i, Value.ref x) :: lv.filter (fun q => !(q.1 == i) && !(q.1 + 1 == i && q.2.category == 2)) = lv') (kk : V p l e R s m args below meth c D A nL cs sl Q (pc + 1) lv' st ws) : V p l e R s m args below meth c D A nL cs sl Q pc lv (.ref x :: st) ws := by
  obtain ⟨hx, hb, hml, hown, hts, hr, hlk, hK, hE, hA⟩ := G
  intro H locs ls hP hD hS hl
  exact lv_astore_n hx hb d hi hl hn hv (fun ls hl => kk H locs ls hP hD hS hl)
theorem v_astore (G : Gx p R s m args meth c D tys A cc nL own Ts ret) {i : Nat} {x : Nat} {lv' : List (Nat × Value)} (d : decode cc pc = .ok (.astore i, 2)) (hn : i < nL) (hv : (i, Value.ref x) :: lv.filter (fun q => !(q.1 == i) && !(q.1 + 1 == i && q.2.category == 2)) = lv') (kk : V p l e R s m args below meth c D A nL cs sl Q (pc + 2) lv' st ws) : V p l e R s m args below meth c D A nL cs sl Q pc lv (.ref x :: st) ws := by
  obtain ⟨hx, hb, hml, hown, hts, hr, hlk, hK, hE, hA⟩ := G
  intro H locs ls hP hD hS hl
  exact lv_astore hx hb d hl hn hv (fun ls hl => kk H locs ls hP hD hS hl)
theorem v_lstore_n (G : Gx p R s m args meth c D tys A cc nL own Ts ret) {k : Fin 4} {i : Nat} {x : Int64} {lv' : List (Nat × Value)} (d : decode cc pc = .ok (.lstore_n k, 1)) (hi : (k : Nat) = i) (hn : i + 1 < nL) (hv : (i, Value.long x) :: lv.filter (fun q => !(q.1 == i) && (!(q.1 == i + 1) && !(q.1 + 1 == i && q.2.category == 2))) = lv') (kk : V p l e R s m args below meth c D A nL cs sl Q (pc + 1) lv' st ws) : V p l e R s m args below meth c D A nL cs sl Q pc lv (.long x :: st) ws := by
  obtain ⟨hx, hb, hml, hown, hts, hr, hlk, hK, hE, hA⟩ := G
  intro H locs ls hP hD hS hl
  exact lv_lstore_n hx hb d hi hl hn hv (fun ls hl => kk H locs ls hP hD hS hl)
theorem v_lstore (G : Gx p R s m args meth c D tys A cc nL own Ts ret) {i : Nat} {x : Int64} {lv' : List (Nat × Value)} (d : decode cc pc = .ok (.lstore i, 2)) (hn : i + 1 < nL) (hv : (i, Value.long x) :: lv.filter (fun q => !(q.1 == i) && (!(q.1 == i + 1) && !(q.1 + 1 == i && q.2.category == 2))) = lv') (kk : V p l e R s m args below meth c D A nL cs sl Q (pc + 2) lv' st ws) : V p l e R s m args below meth c D A nL cs sl Q pc lv (.long x :: st) ws := by
  obtain ⟨hx, hb, hml, hown, hts, hr, hlk, hK, hE, hA⟩ := G
  intro H locs ls hP hD hS hl
  exact lv_lstore hx hb d hl hn hv (fun ls hl => kk H locs ls hP hD hS hl)
theorem v_iinc (G : Gx p R s m args meth c D tys A cc nL own Ts ret) {i k : Nat} {n z z' : Int} {lv' : List (Nat × Value)} (d : decode cc pc = .ok (.iinc i n, 3)) (hk : lv[k]? = some (i, .int (jI z))) (hz : z + n = z') (hn : i < nL) (hv : (i, Value.int (jI z')) :: lv.filter (fun q => !(q.1 == i) && !(q.1 + 1 == i && q.2.category == 2)) = lv') (kk : V p l e R s m args below meth c D A nL cs sl Q (pc + 3) lv' st ws) : V p l e R s m args below meth c D A nL cs sl Q pc lv st ws := by
  obtain ⟨hx, hb, hml, hown, hts, hr, hlk, hK, hE, hA⟩ := G
  intro H locs ls hP hD hS hl
  exact lv_iinc hx hb d hl hk (by rw [← hz]; exact jI_add z n) hn hv (fun ls hl => kk H locs ls hP hD hS hl)
theorem v_iadd (G : Gx p R s m args meth c D tys A cc nL own Ts ret) {a b z : Int} (d : decode cc pc = .ok (.iadd, 1)) (hz : a + b = z) (kk : V p l e R s m args below meth c D A nL cs sl Q (pc + 1) lv (.int (jI z) :: st) ws) : V p l e R s m args below meth c D A nL cs sl Q pc lv (.int (jI b) :: .int (jI a) :: st) ws := by
  obtain ⟨hx, hb, hml, hown, hts, hr, hlk, hK, hE, hA⟩ := G
  intro H locs ls hP hD hS hl
  refine lv_iadd hx hb d ?_
  rw [jI_add, hz]
  exact kk H locs ls hP hD hS hl
theorem v_isub (G : Gx p R s m args meth c D tys A cc nL own Ts ret) {a b z : Int} (d : decode cc pc = .ok (.isub, 1)) (hz : a - b = z) (kk : V p l e R s m args below meth c D A nL cs sl Q (pc + 1) lv (.int (jI z) :: st) ws) : V p l e R s m args below meth c D A nL cs sl Q pc lv (.int (jI b) :: .int (jI a) :: st) ws := by
  obtain ⟨hx, hb, hml, hown, hts, hr, hlk, hK, hE, hA⟩ := G
  intro H locs ls hP hD hS hl
  refine lv_isub hx hb d ?_
  rw [jI_sub, hz]
  exact kk H locs ls hP hD hS hl
theorem v_imul (G : Gx p R s m args meth c D tys A cc nL own Ts ret) {a b z : Int} (d : decode cc pc = .ok (.imul, 1)) (hz : a * b = z) (kk : V p l e R s m args below meth c D A nL cs sl Q (pc + 1) lv (.int (jI z) :: st) ws) : V p l e R s m args below meth c D A nL cs sl Q pc lv (.int (jI b) :: .int (jI a) :: st) ws := by
  obtain ⟨hx, hb, hml, hown, hts, hr, hlk, hK, hE, hA⟩ := G
  intro H locs ls hP hD hS hl
  refine lv_imul hx hb d ?_
  rw [jI_mul, hz]
  exact kk H locs ls hP hD hS hl
theorem v_ineg (G : Gx p R s m args meth c D tys A cc nL own Ts ret) {a z : Int} (d : decode cc pc = .ok (.ineg, 1)) (hz : -a = z) (kk : V p l e R s m args below meth c D A nL cs sl Q (pc + 1) lv (.int (jI z) :: st) ws) : V p l e R s m args below meth c D A nL cs sl Q pc lv (.int (jI a) :: st) ws := by
  obtain ⟨hx, hb, hml, hown, hts, hr, hlk, hK, hE, hA⟩ := G
  intro H locs ls hP hD hS hl
  refine lv_ineg hx hb d ?_
  rw [jI_neg, hz]
  exact kk H locs ls hP hD hS hl
theorem v_idiv (G : Gx p R s m args meth c D tys A cc nL own Ts ret) {a b z : Int} (d : decode cc pc = .ok (.idiv, 1)) (hq : (0 ≤ a ∧ a ≤ 2147483647) ∧ 0 < b ∧ b ≤ 2147483647) (hz : a / b = z) (kk : V p l e R s m args below meth c D A nL cs sl Q (pc + 1) lv (.int (jI z) :: st) ws) : V p l e R s m args below meth c D A nL cs sl Q pc lv (.int (jI b) :: .int (jI a) :: st) ws := by
  obtain ⟨hx, hb, hml, hown, hts, hr, hlk, hK, hE, hA⟩ := G
  intro H locs ls hP hD hS hl
  refine lv_idiv hx hb d (fun h => ?_) ?_
  · rw [← jI_0, jI_eq ⟨by omega, by omega⟩ ⟨by omega, by omega⟩] at h
    omega
  · rw [jI_div hq.1 hq.2, hz]
    exact kk H locs ls hP hD hS hl
theorem v_irem (G : Gx p R s m args meth c D tys A cc nL own Ts ret) {a b z : Int} (d : decode cc pc = .ok (.irem, 1)) (hq : (0 ≤ a ∧ a ≤ 2147483647) ∧ 0 < b ∧ b ≤ 2147483647) (hz : a % b = z) (kk : V p l e R s m args below meth c D A nL cs sl Q (pc + 1) lv (.int (jI z) :: st) ws) : V p l e R s m args below meth c D A nL cs sl Q pc lv (.int (jI b) :: .int (jI a) :: st) ws := by
  obtain ⟨hx, hb, hml, hown, hts, hr, hlk, hK, hE, hA⟩ := G
  intro H locs ls hP hD hS hl
  refine lv_irem hx hb d (fun h => ?_) ?_
  · rw [← jI_0, jI_eq ⟨by omega, by omega⟩ ⟨by omega, by omega⟩] at h
    omega
  · rw [jI_rem hq.1 hq.2, hz]
    exact kk H locs ls hP hD hS hl
theorem v_ishl (G : Gx p R s m args meth c D tys A cc nL own Ts ret) {x y v : Int32} (d : decode cc pc = .ok (.ishl, 1)) (hv : x <<< (y &&& 31) = v) (kk : V p l e R s m args below meth c D A nL cs sl Q (pc + 1) lv (.int v :: st) ws) : V p l e R s m args below meth c D A nL cs sl Q pc lv (.int y :: .int x :: st) ws := by
  obtain ⟨hx, hb, hml, hown, hts, hr, hlk, hK, hE, hA⟩ := G
  intro H locs ls hP hD hS hl
  subst hv
  exact lv_ishl hx hb d (kk H locs ls hP hD hS hl)
theorem v_ishr (G : Gx p R s m args meth c D tys A cc nL own Ts ret) {x y v : Int32} (d : decode cc pc = .ok (.ishr, 1)) (hv : x >>> (y &&& 31) = v) (kk : V p l e R s m args below meth c D A nL cs sl Q (pc + 1) lv (.int v :: st) ws) : V p l e R s m args below meth c D A nL cs sl Q pc lv (.int y :: .int x :: st) ws := by
  obtain ⟨hx, hb, hml, hown, hts, hr, hlk, hK, hE, hA⟩ := G
  intro H locs ls hP hD hS hl
  subst hv
  exact lv_ishr hx hb d (kk H locs ls hP hD hS hl)
theorem v_iushr (G : Gx p R s m args meth c D tys A cc nL own Ts ret) {x y v : Int32} (d : decode cc pc = .ok (.iushr, 1)) (hv : (x.toUInt32 >>> (y.toUInt32 &&& Int32.toUInt32 31)).toInt32 = v) (kk : V p l e R s m args below meth c D A nL cs sl Q (pc + 1) lv (.int v :: st) ws) : V p l e R s m args below meth c D A nL cs sl Q pc lv (.int y :: .int x :: st) ws := by
  obtain ⟨hx, hb, hml, hown, hts, hr, hlk, hK, hE, hA⟩ := G
  intro H locs ls hP hD hS hl
  exact lv_iushr hx hb d hv (kk H locs ls hP hD hS hl)
theorem v_iand (G : Gx p R s m args meth c D tys A cc nL own Ts ret) {x y v : Int32} (d : decode cc pc = .ok (.iand, 1)) (hv : x &&& y = v) (kk : V p l e R s m args below meth c D A nL cs sl Q (pc + 1) lv (.int v :: st) ws) : V p l e R s m args below meth c D A nL cs sl Q pc lv (.int y :: .int x :: st) ws := by
  obtain ⟨hx, hb, hml, hown, hts, hr, hlk, hK, hE, hA⟩ := G
  intro H locs ls hP hD hS hl
  subst hv
  exact lv_iand hx hb d (kk H locs ls hP hD hS hl)
theorem v_ior (G : Gx p R s m args meth c D tys A cc nL own Ts ret) {x y v : Int32} (d : decode cc pc = .ok (.ior, 1)) (hv : x ||| y = v) (kk : V p l e R s m args below meth c D A nL cs sl Q (pc + 1) lv (.int v :: st) ws) : V p l e R s m args below meth c D A nL cs sl Q pc lv (.int y :: .int x :: st) ws := by
  obtain ⟨hx, hb, hml, hown, hts, hr, hlk, hK, hE, hA⟩ := G
  intro H locs ls hP hD hS hl
  subst hv
  exact lv_ior hx hb d (kk H locs ls hP hD hS hl)
theorem v_ixor (G : Gx p R s m args meth c D tys A cc nL own Ts ret) {x y v : Int32} (d : decode cc pc = .ok (.ixor, 1)) (hv : x ^^^ y = v) (kk : V p l e R s m args below meth c D A nL cs sl Q (pc + 1) lv (.int v :: st) ws) : V p l e R s m args below meth c D A nL cs sl Q pc lv (.int y :: .int x :: st) ws := by
  obtain ⟨hx, hb, hml, hown, hts, hr, hlk, hK, hE, hA⟩ := G
  intro H locs ls hP hD hS hl
  subst hv
  exact lv_ixor hx hb d (kk H locs ls hP hD hS hl)
theorem v_ladd (G : Gx p R s m args meth c D tys A cc nL own Ts ret) {x y v : Int64} (d : decode cc pc = .ok (.ladd, 1)) (hv : x + y = v) (kk : V p l e R s m args below meth c D A nL cs sl Q (pc + 1) lv (.long v :: st) ws) : V p l e R s m args below meth c D A nL cs sl Q pc lv (.long y :: .long x :: st) ws := by
  obtain ⟨hx, hb, hml, hown, hts, hr, hlk, hK, hE, hA⟩ := G
  intro H locs ls hP hD hS hl
  subst hv
  exact lv_ladd hx hb d (kk H locs ls hP hD hS hl)
theorem v_lsub (G : Gx p R s m args meth c D tys A cc nL own Ts ret) {x y v : Int64} (d : decode cc pc = .ok (.lsub, 1)) (hv : x - y = v) (kk : V p l e R s m args below meth c D A nL cs sl Q (pc + 1) lv (.long v :: st) ws) : V p l e R s m args below meth c D A nL cs sl Q pc lv (.long y :: .long x :: st) ws := by
  obtain ⟨hx, hb, hml, hown, hts, hr, hlk, hK, hE, hA⟩ := G
  intro H locs ls hP hD hS hl
  subst hv
  exact lv_lsub hx hb d (kk H locs ls hP hD hS hl)
theorem v_lmul (G : Gx p R s m args meth c D tys A cc nL own Ts ret) {x y v : Int64} (d : decode cc pc = .ok (.lmul, 1)) (hv : x * y = v) (kk : V p l e R s m args below meth c D A nL cs sl Q (pc + 1) lv (.long v :: st) ws) : V p l e R s m args below meth c D A nL cs sl Q pc lv (.long y :: .long x :: st) ws := by
  obtain ⟨hx, hb, hml, hown, hts, hr, hlk, hK, hE, hA⟩ := G
  intro H locs ls hP hD hS hl
  subst hv
  exact lv_lmul hx hb d (kk H locs ls hP hD hS hl)
theorem v_lor (G : Gx p R s m args meth c D tys A cc nL own Ts ret) {x y v : Int64} (d : decode cc pc = .ok (.lor, 1)) (hv : x ||| y = v) (kk : V p l e R s m args below meth c D A nL cs sl Q (pc + 1) lv (.long v :: st) ws) : V p l e R s m args below meth c D A nL cs sl Q pc lv (.long y :: .long x :: st) ws := by
  obtain ⟨hx, hb, hml, hown, hts, hr, hlk, hK, hE, hA⟩ := G
  intro H locs ls hP hD hS hl
  subst hv
  exact lv_lor hx hb d (kk H locs ls hP hD hS hl)
theorem v_land (G : Gx p R s m args meth c D tys A cc nL own Ts ret) {x y v : Int64} (d : decode cc pc = .ok (.land, 1)) (hv : x &&& y = v) (kk : V p l e R s m args below meth c D A nL cs sl Q (pc + 1) lv (.long v :: st) ws) : V p l e R s m args below meth c D A nL cs sl Q pc lv (.long y :: .long x :: st) ws := by
  obtain ⟨hx, hb, hml, hown, hts, hr, hlk, hK, hE, hA⟩ := G
  intro H locs ls hP hD hS hl
  subst hv
  exact lv_land hx hb d (kk H locs ls hP hD hS hl)
theorem v_lshl (G : Gx p R s m args meth c D tys A cc nL own Ts ret) {x v : Int64} {y : Int32} (d : decode cc pc = .ok (.lshl, 1)) (hv : x <<< (y.toInt64 &&& 63) = v) (kk : V p l e R s m args below meth c D A nL cs sl Q (pc + 1) lv (.long v :: st) ws) : V p l e R s m args below meth c D A nL cs sl Q pc lv (.int y :: .long x :: st) ws := by
  obtain ⟨hx, hb, hml, hown, hts, hr, hlk, hK, hE, hA⟩ := G
  intro H locs ls hP hD hS hl
  exact lv_lshl hx hb d hv (kk H locs ls hP hD hS hl)
theorem v_i2l (G : Gx p R s m args meth c D tys A cc nL own Ts ret) {x : Int32} {v : Int64} (d : decode cc pc = .ok (.i2l, 1)) (hv : x.toInt64 = v) (kk : V p l e R s m args below meth c D A nL cs sl Q (pc + 1) lv (.long v :: st) ws) : V p l e R s m args below meth c D A nL cs sl Q pc lv (.int x :: st) ws := by
  obtain ⟨hx, hb, hml, hown, hts, hr, hlk, hK, hE, hA⟩ := G
  intro H locs ls hP hD hS hl
  exact lv_i2l hx hb d hv (kk H locs ls hP hD hS hl)
theorem v_l2i (G : Gx p R s m args meth c D tys A cc nL own Ts ret) {x : Int64} {v : Int32} (d : decode cc pc = .ok (.l2i, 1)) (hv : x.toInt32 = v) (kk : V p l e R s m args below meth c D A nL cs sl Q (pc + 1) lv (.int v :: st) ws) : V p l e R s m args below meth c D A nL cs sl Q pc lv (.long x :: st) ws := by
  obtain ⟨hx, hb, hml, hown, hts, hr, hlk, hK, hE, hA⟩ := G
  intro H locs ls hP hD hS hl
  exact lv_l2i hx hb d hv (kk H locs ls hP hD hS hl)
theorem v_i2b (G : Gx p R s m args meth c D tys A cc nL own Ts ret) {x v : Int32} (d : decode cc pc = .ok (.i2b, 1)) (hv : x.toInt8.toInt32 = v) (kk : V p l e R s m args below meth c D A nL cs sl Q (pc + 1) lv (.int v :: st) ws) : V p l e R s m args below meth c D A nL cs sl Q pc lv (.int x :: st) ws := by
  obtain ⟨hx, hb, hml, hown, hts, hr, hlk, hK, hE, hA⟩ := G
  intro H locs ls hP hD hS hl
  exact lv_i2b hx hb d hv (kk H locs ls hP hD hS hl)
theorem v_i2s (G : Gx p R s m args meth c D tys A cc nL own Ts ret) {x v : Int32} (d : decode cc pc = .ok (.i2s, 1)) (hv : x.toInt16.toInt32 = v) (kk : V p l e R s m args below meth c D A nL cs sl Q (pc + 1) lv (.int v :: st) ws) : V p l e R s m args below meth c D A nL cs sl Q pc lv (.int x :: st) ws := by
  obtain ⟨hx, hb, hml, hown, hts, hr, hlk, hK, hE, hA⟩ := G
  intro H locs ls hP hD hS hl
  exact lv_i2s hx hb d hv (kk H locs ls hP hD hS hl)
theorem v_i2c (G : Gx p R s m args meth c D tys A cc nL own Ts ret) {x v : Int32} (d : decode cc pc = .ok (.i2c, 1)) (hv : (x.toUInt32 % 65536).toInt32 = v) (kk : V p l e R s m args below meth c D A nL cs sl Q (pc + 1) lv (.int v :: st) ws) : V p l e R s m args below meth c D A nL cs sl Q pc lv (.int x :: st) ws := by
  obtain ⟨hx, hb, hml, hown, hts, hr, hlk, hK, hE, hA⟩ := G
  intro H locs ls hP hD hS hl
  exact lv_i2c hx hb d hv (kk H locs ls hP hD hS hl)
theorem v_dup (G : Gx p R s m args meth c D tys A cc nL own Ts ret) {v : Value} (d : decode cc pc = .ok (.dup, 1)) (hv : v.category = 1) (kk : V p l e R s m args below meth c D A nL cs sl Q (pc + 1) lv (v :: v :: st) ws) : V p l e R s m args below meth c D A nL cs sl Q pc lv (v :: st) ws := by
  obtain ⟨hx, hb, hml, hown, hts, hr, hlk, hK, hE, hA⟩ := G
  intro H locs ls hP hD hS hl
  exact lv_dup hx hb d hv (kk H locs ls hP hD hS hl)
theorem v_pop (G : Gx p R s m args meth c D tys A cc nL own Ts ret) {v : Value} (d : decode cc pc = .ok (.pop, 1)) (hv : v.category = 1) (kk : V p l e R s m args below meth c D A nL cs sl Q (pc + 1) lv st ws) : V p l e R s m args below meth c D A nL cs sl Q pc lv (v :: st) ws := by
  obtain ⟨hx, hb, hml, hown, hts, hr, hlk, hK, hE, hA⟩ := G
  intro H locs ls hP hD hS hl
  exact lv_pop hx hb d hv (kk H locs ls hP hD hS hl)
theorem v_dup2 (G : Gx p R s m args meth c D tys A cc nL own Ts ret) {va vb : Value} (d : decode cc pc = .ok (.dup2, 1)) (hva : va.category = 1) (hvb : vb.category = 1) (kk : V p l e R s m args below meth c D A nL cs sl Q (pc + 1) lv (va :: vb :: va :: vb :: st) ws) : V p l e R s m args below meth c D A nL cs sl Q pc lv (va :: vb :: st) ws := by
  obtain ⟨hx, hb, hml, hown, hts, hr, hlk, hK, hE, hA⟩ := G
  intro H locs ls hP hD hS hl
  exact lv_dup2_11 hx hb d hva hvb (kk H locs ls hP hD hS hl)
theorem v_goto (G : Gx p R s m args meth c D tys A cc nL own Ts ret) {off : Int} {tgt : Nat} (d : decode cc pc = .ok (.goto off, 3)) (ht : (pc : Int) + off = (tgt : Int)) (kk : V p l e R s m args below meth c D A nL cs sl Q tgt lv st ws) : V p l e R s m args below meth c D A nL cs sl Q pc lv st ws := by
  obtain ⟨hx, hb, hml, hown, hts, hr, hlk, hK, hE, hA⟩ := G
  intro H locs ls hP hD hS hl
  exact lv_goto hx hb d ht (kk H locs ls hP hD hS hl)
theorem jI_ge' {a b : Int} (ha : -2147483648 ≤ a ∧ a ≤ 2147483647) (hb : -2147483648 ≤ b ∧ b ≤ 2147483647) : ¬ jI a < jI b ↔ b ≤ a := by rw [jI_lt ha hb]; omega
theorem v_icmp_eq (G : Gx p R s m args meth c D tys A cc nL own Ts ret) {a b : Int} {off : Int} {tgt : Nat} (d : decode cc pc = .ok (.if_icmp .eq off, 3)) (ht : (pc : Int) + off = (tgt : Int)) (hq : (-2147483648 ≤ a ∧ a ≤ 2147483647) ∧ -2147483648 ≤ b ∧ b ≤ 2147483647) (kt : a = b → V p l e R s m args below meth c D A nL cs sl Q tgt lv st ws) (kf : a ≠ b → V p l e R s m args below meth c D A nL cs sl Q (pc + 3) lv st ws) : V p l e R s m args below meth c D A nL cs sl Q pc lv (.int (jI b) :: .int (jI a) :: st) ws := by
  obtain ⟨hx, hb, hml, hown, hts, hr, hlk, hK, hE, hA⟩ := G
  intro H locs ls hP hD hS hl
  refine lv_icmp_eq hx hb d ht (fun h => ?_) (fun h => ?_)
  · (first | rw [jI_eq hq.1 hq.2] at h | rw [Ne, jI_eq hq.1 hq.2] at h | rw [jI_lt hq.1 hq.2] at h | rw [jI_le hq.1 hq.2] at h | rw [jI_lt hq.2 hq.1] at h | rw [jI_le hq.2 hq.1] at h | rw [GT.gt, jI_lt hq.2 hq.1] at h | rw [GE.ge, jI_le hq.2 hq.1] at h)
    exact kt (by omega) H locs ls hP hD hS hl
  · (first | rw [jI_eq hq.1 hq.2] at h | rw [Ne, jI_eq hq.1 hq.2] at h | rw [jI_lt hq.1 hq.2] at h | rw [jI_le hq.1 hq.2] at h | rw [jI_lt hq.2 hq.1] at h | rw [jI_le hq.2 hq.1] at h | rw [GT.gt, jI_lt hq.2 hq.1] at h | rw [GE.ge, jI_le hq.2 hq.1] at h)
    exact kf (by omega) H locs ls hP hD hS hl
theorem v_if_eq (G : Gx p R s m args meth c D tys A cc nL own Ts ret) {a : Int} {off : Int} {tgt : Nat} (d : decode cc pc = .ok (.ifCond .eq off, 3)) (ht : (pc : Int) + off = (tgt : Int)) (hq : -2147483648 ≤ a ∧ a ≤ 2147483647) (kt : a = 0 → V p l e R s m args below meth c D A nL cs sl Q tgt lv st ws) (kf : a ≠ 0 → V p l e R s m args below meth c D A nL cs sl Q (pc + 3) lv st ws) : V p l e R s m args below meth c D A nL cs sl Q pc lv (.int (jI a) :: st) ws := by
  obtain ⟨hx, hb, hml, hown, hts, hr, hlk, hK, hE, hA⟩ := G
  intro H locs ls hP hD hS hl
  refine lv_if_eq hx hb d ht (fun h => ?_) (fun h => ?_)
  · (first | rw [← jI_0, jI_eq hq (show (-2147483648 : Int) ≤ 0 ∧ (0 : Int) ≤ 2147483647 by decide)] at h | rw [← jI_0, Ne, jI_eq hq (show (-2147483648 : Int) ≤ 0 ∧ (0 : Int) ≤ 2147483647 by decide)] at h | rw [← jI_0, jI_lt hq (show (-2147483648 : Int) ≤ 0 ∧ (0 : Int) ≤ 2147483647 by decide)] at h | rw [← jI_0, jI_le hq (show (-2147483648 : Int) ≤ 0 ∧ (0 : Int) ≤ 2147483647 by decide)] at h | rw [← jI_0, jI_lt (show (-2147483648 : Int) ≤ 0 ∧ (0 : Int) ≤ 2147483647 by decide) hq] at h | rw [← jI_0, jI_le (show (-2147483648 : Int) ≤ 0 ∧ (0 : Int) ≤ 2147483647 by decide) hq] at h | rw [← jI_0, GT.gt, jI_lt (show (-2147483648 : Int) ≤ 0 ∧ (0 : Int) ≤ 2147483647 by decide) hq] at h | rw [← jI_0, GE.ge, jI_le (show (-2147483648 : Int) ≤ 0 ∧ (0 : Int) ≤ 2147483647 by decide) hq] at h)
    exact kt (by omega) H locs ls hP hD hS hl
  · (first | rw [← jI_0, jI_eq hq (show (-2147483648 : Int) ≤ 0 ∧ (0 : Int) ≤ 2147483647 by decide)] at h | rw [← jI_0, Ne, jI_eq hq (show (-2147483648 : Int) ≤ 0 ∧ (0 : Int) ≤ 2147483647 by decide)] at h | rw [← jI_0, jI_lt hq (show (-2147483648 : Int) ≤ 0 ∧ (0 : Int) ≤ 2147483647 by decide)] at h | rw [← jI_0, jI_le hq (show (-2147483648 : Int) ≤ 0 ∧ (0 : Int) ≤ 2147483647 by decide)] at h | rw [← jI_0, jI_lt (show (-2147483648 : Int) ≤ 0 ∧ (0 : Int) ≤ 2147483647 by decide) hq] at h | rw [← jI_0, jI_le (show (-2147483648 : Int) ≤ 0 ∧ (0 : Int) ≤ 2147483647 by decide) hq] at h | rw [← jI_0, GT.gt, jI_lt (show (-2147483648 : Int) ≤ 0 ∧ (0 : Int) ≤ 2147483647 by decide) hq] at h | rw [← jI_0, GE.ge, jI_le (show (-2147483648 : Int) ≤ 0 ∧ (0 : Int) ≤ 2147483647 by decide) hq] at h)
    exact kf (by omega) H locs ls hP hD hS hl
theorem v_icmp_ne (G : Gx p R s m args meth c D tys A cc nL own Ts ret) {a b : Int} {off : Int} {tgt : Nat} (d : decode cc pc = .ok (.if_icmp .ne off, 3)) (ht : (pc : Int) + off = (tgt : Int)) (hq : (-2147483648 ≤ a ∧ a ≤ 2147483647) ∧ -2147483648 ≤ b ∧ b ≤ 2147483647) (kt : a ≠ b → V p l e R s m args below meth c D A nL cs sl Q tgt lv st ws) (kf : a = b → V p l e R s m args below meth c D A nL cs sl Q (pc + 3) lv st ws) : V p l e R s m args below meth c D A nL cs sl Q pc lv (.int (jI b) :: .int (jI a) :: st) ws := by
  obtain ⟨hx, hb, hml, hown, hts, hr, hlk, hK, hE, hA⟩ := G
  intro H locs ls hP hD hS hl
  refine lv_icmp_ne hx hb d ht (fun h => ?_) (fun h => ?_)
  · (first | rw [jI_eq hq.1 hq.2] at h | rw [Ne, jI_eq hq.1 hq.2] at h | rw [jI_lt hq.1 hq.2] at h | rw [jI_le hq.1 hq.2] at h | rw [jI_lt hq.2 hq.1] at h | rw [jI_le hq.2 hq.1] at h | rw [GT.gt, jI_lt hq.2 hq.1] at h | rw [GE.ge, jI_le hq.2 hq.1] at h)
    exact kt (by omega) H locs ls hP hD hS hl
  · (first | rw [jI_eq hq.1 hq.2] at h | rw [Ne, jI_eq hq.1 hq.2] at h | rw [jI_lt hq.1 hq.2] at h | rw [jI_le hq.1 hq.2] at h | rw [jI_lt hq.2 hq.1] at h | rw [jI_le hq.2 hq.1] at h | rw [GT.gt, jI_lt hq.2 hq.1] at h | rw [GE.ge, jI_le hq.2 hq.1] at h)
    exact kf (by omega) H locs ls hP hD hS hl
theorem v_if_ne (G : Gx p R s m args meth c D tys A cc nL own Ts ret) {a : Int} {off : Int} {tgt : Nat} (d : decode cc pc = .ok (.ifCond .ne off, 3)) (ht : (pc : Int) + off = (tgt : Int)) (hq : -2147483648 ≤ a ∧ a ≤ 2147483647) (kt : a ≠ 0 → V p l e R s m args below meth c D A nL cs sl Q tgt lv st ws) (kf : a = 0 → V p l e R s m args below meth c D A nL cs sl Q (pc + 3) lv st ws) : V p l e R s m args below meth c D A nL cs sl Q pc lv (.int (jI a) :: st) ws := by
  obtain ⟨hx, hb, hml, hown, hts, hr, hlk, hK, hE, hA⟩ := G
  intro H locs ls hP hD hS hl
  refine lv_if_ne hx hb d ht (fun h => ?_) (fun h => ?_)
  · (first | rw [← jI_0, jI_eq hq (show (-2147483648 : Int) ≤ 0 ∧ (0 : Int) ≤ 2147483647 by decide)] at h | rw [← jI_0, Ne, jI_eq hq (show (-2147483648 : Int) ≤ 0 ∧ (0 : Int) ≤ 2147483647 by decide)] at h | rw [← jI_0, jI_lt hq (show (-2147483648 : Int) ≤ 0 ∧ (0 : Int) ≤ 2147483647 by decide)] at h | rw [← jI_0, jI_le hq (show (-2147483648 : Int) ≤ 0 ∧ (0 : Int) ≤ 2147483647 by decide)] at h | rw [← jI_0, jI_lt (show (-2147483648 : Int) ≤ 0 ∧ (0 : Int) ≤ 2147483647 by decide) hq] at h | rw [← jI_0, jI_le (show (-2147483648 : Int) ≤ 0 ∧ (0 : Int) ≤ 2147483647 by decide) hq] at h | rw [← jI_0, GT.gt, jI_lt (show (-2147483648 : Int) ≤ 0 ∧ (0 : Int) ≤ 2147483647 by decide) hq] at h | rw [← jI_0, GE.ge, jI_le (show (-2147483648 : Int) ≤ 0 ∧ (0 : Int) ≤ 2147483647 by decide) hq] at h)
    exact kt (by omega) H locs ls hP hD hS hl
  · (first | rw [← jI_0, jI_eq hq (show (-2147483648 : Int) ≤ 0 ∧ (0 : Int) ≤ 2147483647 by decide)] at h | rw [← jI_0, Ne, jI_eq hq (show (-2147483648 : Int) ≤ 0 ∧ (0 : Int) ≤ 2147483647 by decide)] at h | rw [← jI_0, jI_lt hq (show (-2147483648 : Int) ≤ 0 ∧ (0 : Int) ≤ 2147483647 by decide)] at h | rw [← jI_0, jI_le hq (show (-2147483648 : Int) ≤ 0 ∧ (0 : Int) ≤ 2147483647 by decide)] at h | rw [← jI_0, jI_lt (show (-2147483648 : Int) ≤ 0 ∧ (0 : Int) ≤ 2147483647 by decide) hq] at h | rw [← jI_0, jI_le (show (-2147483648 : Int) ≤ 0 ∧ (0 : Int) ≤ 2147483647 by decide) hq] at h | rw [← jI_0, GT.gt, jI_lt (show (-2147483648 : Int) ≤ 0 ∧ (0 : Int) ≤ 2147483647 by decide) hq] at h | rw [← jI_0, GE.ge, jI_le (show (-2147483648 : Int) ≤ 0 ∧ (0 : Int) ≤ 2147483647 by decide) hq] at h)
    exact kf (by omega) H locs ls hP hD hS hl
theorem v_icmp_lt (G : Gx p R s m args meth c D tys A cc nL own Ts ret) {a b : Int} {off : Int} {tgt : Nat} (d : decode cc pc = .ok (.if_icmp .lt off, 3)) (ht : (pc : Int) + off = (tgt : Int)) (hq : (-2147483648 ≤ a ∧ a ≤ 2147483647) ∧ -2147483648 ≤ b ∧ b ≤ 2147483647) (kt : a < b → V p l e R s m args below meth c D A nL cs sl Q tgt lv st ws) (kf : b ≤ a → V p l e R s m args below meth c D A nL cs sl Q (pc + 3) lv st ws) : V p l e R s m args below meth c D A nL cs sl Q pc lv (.int (jI b) :: .int (jI a) :: st) ws := by
  obtain ⟨hx, hb, hml, hown, hts, hr, hlk, hK, hE, hA⟩ := G
  intro H locs ls hP hD hS hl
  refine lv_icmp_lt hx hb d ht (fun h => ?_) (fun h => ?_)
  · (first | rw [jI_eq hq.1 hq.2] at h | rw [Ne, jI_eq hq.1 hq.2] at h | rw [jI_lt hq.1 hq.2] at h | rw [jI_le hq.1 hq.2] at h | rw [jI_lt hq.2 hq.1] at h | rw [jI_le hq.2 hq.1] at h | rw [GT.gt, jI_lt hq.2 hq.1] at h | rw [GE.ge, jI_le hq.2 hq.1] at h)
    exact kt (by omega) H locs ls hP hD hS hl
  · (first | rw [jI_eq hq.1 hq.2] at h | rw [Ne, jI_eq hq.1 hq.2] at h | rw [jI_lt hq.1 hq.2] at h | rw [jI_le hq.1 hq.2] at h | rw [jI_lt hq.2 hq.1] at h | rw [jI_le hq.2 hq.1] at h | rw [GT.gt, jI_lt hq.2 hq.1] at h | rw [GE.ge, jI_le hq.2 hq.1] at h)
    exact kf (by omega) H locs ls hP hD hS hl
theorem v_if_lt (G : Gx p R s m args meth c D tys A cc nL own Ts ret) {a : Int} {off : Int} {tgt : Nat} (d : decode cc pc = .ok (.ifCond .lt off, 3)) (ht : (pc : Int) + off = (tgt : Int)) (hq : -2147483648 ≤ a ∧ a ≤ 2147483647) (kt : a < 0 → V p l e R s m args below meth c D A nL cs sl Q tgt lv st ws) (kf : 0 ≤ a → V p l e R s m args below meth c D A nL cs sl Q (pc + 3) lv st ws) : V p l e R s m args below meth c D A nL cs sl Q pc lv (.int (jI a) :: st) ws := by
  obtain ⟨hx, hb, hml, hown, hts, hr, hlk, hK, hE, hA⟩ := G
  intro H locs ls hP hD hS hl
  refine lv_if_lt hx hb d ht (fun h => ?_) (fun h => ?_)
  · (first | rw [← jI_0, jI_eq hq (show (-2147483648 : Int) ≤ 0 ∧ (0 : Int) ≤ 2147483647 by decide)] at h | rw [← jI_0, Ne, jI_eq hq (show (-2147483648 : Int) ≤ 0 ∧ (0 : Int) ≤ 2147483647 by decide)] at h | rw [← jI_0, jI_lt hq (show (-2147483648 : Int) ≤ 0 ∧ (0 : Int) ≤ 2147483647 by decide)] at h | rw [← jI_0, jI_le hq (show (-2147483648 : Int) ≤ 0 ∧ (0 : Int) ≤ 2147483647 by decide)] at h | rw [← jI_0, jI_lt (show (-2147483648 : Int) ≤ 0 ∧ (0 : Int) ≤ 2147483647 by decide) hq] at h | rw [← jI_0, jI_le (show (-2147483648 : Int) ≤ 0 ∧ (0 : Int) ≤ 2147483647 by decide) hq] at h | rw [← jI_0, GT.gt, jI_lt (show (-2147483648 : Int) ≤ 0 ∧ (0 : Int) ≤ 2147483647 by decide) hq] at h | rw [← jI_0, GE.ge, jI_le (show (-2147483648 : Int) ≤ 0 ∧ (0 : Int) ≤ 2147483647 by decide) hq] at h)
    exact kt (by omega) H locs ls hP hD hS hl
  · (first | rw [← jI_0, jI_eq hq (show (-2147483648 : Int) ≤ 0 ∧ (0 : Int) ≤ 2147483647 by decide)] at h | rw [← jI_0, Ne, jI_eq hq (show (-2147483648 : Int) ≤ 0 ∧ (0 : Int) ≤ 2147483647 by decide)] at h | rw [← jI_0, jI_lt hq (show (-2147483648 : Int) ≤ 0 ∧ (0 : Int) ≤ 2147483647 by decide)] at h | rw [← jI_0, jI_le hq (show (-2147483648 : Int) ≤ 0 ∧ (0 : Int) ≤ 2147483647 by decide)] at h | rw [← jI_0, jI_lt (show (-2147483648 : Int) ≤ 0 ∧ (0 : Int) ≤ 2147483647 by decide) hq] at h | rw [← jI_0, jI_le (show (-2147483648 : Int) ≤ 0 ∧ (0 : Int) ≤ 2147483647 by decide) hq] at h | rw [← jI_0, GT.gt, jI_lt (show (-2147483648 : Int) ≤ 0 ∧ (0 : Int) ≤ 2147483647 by decide) hq] at h | rw [← jI_0, GE.ge, jI_le (show (-2147483648 : Int) ≤ 0 ∧ (0 : Int) ≤ 2147483647 by decide) hq] at h)
    exact kf (by omega) H locs ls hP hD hS hl
theorem v_icmp_ge (G : Gx p R s m args meth c D tys A cc nL own Ts ret) {a b : Int} {off : Int} {tgt : Nat} (d : decode cc pc = .ok (.if_icmp .ge off, 3)) (ht : (pc : Int) + off = (tgt : Int)) (hq : (-2147483648 ≤ a ∧ a ≤ 2147483647) ∧ -2147483648 ≤ b ∧ b ≤ 2147483647) (kt : b ≤ a → V p l e R s m args below meth c D A nL cs sl Q tgt lv st ws) (kf : a < b → V p l e R s m args below meth c D A nL cs sl Q (pc + 3) lv st ws) : V p l e R s m args below meth c D A nL cs sl Q pc lv (.int (jI b) :: .int (jI a) :: st) ws := by
  obtain ⟨hx, hb, hml, hown, hts, hr, hlk, hK, hE, hA⟩ := G
  intro H locs ls hP hD hS hl
  refine lv_icmp_ge hx hb d ht (fun h => ?_) (fun h => ?_)
  · (first | rw [jI_eq hq.1 hq.2] at h | rw [Ne, jI_eq hq.1 hq.2] at h | rw [jI_lt hq.1 hq.2] at h | rw [jI_le hq.1 hq.2] at h | rw [jI_lt hq.2 hq.1] at h | rw [jI_le hq.2 hq.1] at h | rw [GT.gt, jI_lt hq.2 hq.1] at h | rw [GE.ge, jI_le hq.2 hq.1] at h)
    exact kt (by omega) H locs ls hP hD hS hl
  · (first | rw [jI_eq hq.1 hq.2] at h | rw [Ne, jI_eq hq.1 hq.2] at h | rw [jI_lt hq.1 hq.2] at h | rw [jI_le hq.1 hq.2] at h | rw [jI_lt hq.2 hq.1] at h | rw [jI_le hq.2 hq.1] at h | rw [GT.gt, jI_lt hq.2 hq.1] at h | rw [GE.ge, jI_le hq.2 hq.1] at h)
    exact kf (by omega) H locs ls hP hD hS hl
theorem v_if_ge (G : Gx p R s m args meth c D tys A cc nL own Ts ret) {a : Int} {off : Int} {tgt : Nat} (d : decode cc pc = .ok (.ifCond .ge off, 3)) (ht : (pc : Int) + off = (tgt : Int)) (hq : -2147483648 ≤ a ∧ a ≤ 2147483647) (kt : 0 ≤ a → V p l e R s m args below meth c D A nL cs sl Q tgt lv st ws) (kf : a < 0 → V p l e R s m args below meth c D A nL cs sl Q (pc + 3) lv st ws) : V p l e R s m args below meth c D A nL cs sl Q pc lv (.int (jI a) :: st) ws := by
  obtain ⟨hx, hb, hml, hown, hts, hr, hlk, hK, hE, hA⟩ := G
  intro H locs ls hP hD hS hl
  refine lv_if_ge hx hb d ht (fun h => ?_) (fun h => ?_)
  · (first | rw [← jI_0, jI_eq hq (show (-2147483648 : Int) ≤ 0 ∧ (0 : Int) ≤ 2147483647 by decide)] at h | rw [← jI_0, Ne, jI_eq hq (show (-2147483648 : Int) ≤ 0 ∧ (0 : Int) ≤ 2147483647 by decide)] at h | rw [← jI_0, jI_lt hq (show (-2147483648 : Int) ≤ 0 ∧ (0 : Int) ≤ 2147483647 by decide)] at h | rw [← jI_0, jI_le hq (show (-2147483648 : Int) ≤ 0 ∧ (0 : Int) ≤ 2147483647 by decide)] at h | rw [← jI_0, jI_lt (show (-2147483648 : Int) ≤ 0 ∧ (0 : Int) ≤ 2147483647 by decide) hq] at h | rw [← jI_0, jI_le (show (-2147483648 : Int) ≤ 0 ∧ (0 : Int) ≤ 2147483647 by decide) hq] at h | rw [← jI_0, GT.gt, jI_lt (show (-2147483648 : Int) ≤ 0 ∧ (0 : Int) ≤ 2147483647 by decide) hq] at h | rw [← jI_0, GE.ge, jI_le (show (-2147483648 : Int) ≤ 0 ∧ (0 : Int) ≤ 2147483647 by decide) hq] at h)
    exact kt (by omega) H locs ls hP hD hS hl
  · (first | rw [← jI_0, jI_eq hq (show (-2147483648 : Int) ≤ 0 ∧ (0 : Int) ≤ 2147483647 by decide)] at h | rw [← jI_0, Ne, jI_eq hq (show (-2147483648 : Int) ≤ 0 ∧ (0 : Int) ≤ 2147483647 by decide)] at h | rw [← jI_0, jI_lt hq (show (-2147483648 : Int) ≤ 0 ∧ (0 : Int) ≤ 2147483647 by decide)] at h | rw [← jI_0, jI_le hq (show (-2147483648 : Int) ≤ 0 ∧ (0 : Int) ≤ 2147483647 by decide)] at h | rw [← jI_0, jI_lt (show (-2147483648 : Int) ≤ 0 ∧ (0 : Int) ≤ 2147483647 by decide) hq] at h | rw [← jI_0, jI_le (show (-2147483648 : Int) ≤ 0 ∧ (0 : Int) ≤ 2147483647 by decide) hq] at h | rw [← jI_0, GT.gt, jI_lt (show (-2147483648 : Int) ≤ 0 ∧ (0 : Int) ≤ 2147483647 by decide) hq] at h | rw [← jI_0, GE.ge, jI_le (show (-2147483648 : Int) ≤ 0 ∧ (0 : Int) ≤ 2147483647 by decide) hq] at h)
    exact kf (by omega) H locs ls hP hD hS hl
theorem v_icmp_gt (G : Gx p R s m args meth c D tys A cc nL own Ts ret) {a b : Int} {off : Int} {tgt : Nat} (d : decode cc pc = .ok (.if_icmp .gt off, 3)) (ht : (pc : Int) + off = (tgt : Int)) (hq : (-2147483648 ≤ a ∧ a ≤ 2147483647) ∧ -2147483648 ≤ b ∧ b ≤ 2147483647) (kt : b < a → V p l e R s m args below meth c D A nL cs sl Q tgt lv st ws) (kf : a ≤ b → V p l e R s m args below meth c D A nL cs sl Q (pc + 3) lv st ws) : V p l e R s m args below meth c D A nL cs sl Q pc lv (.int (jI b) :: .int (jI a) :: st) ws := by
  obtain ⟨hx, hb, hml, hown, hts, hr, hlk, hK, hE, hA⟩ := G
  intro H locs ls hP hD hS hl
  refine lv_icmp_gt hx hb d ht (fun h => ?_) (fun h => ?_)
  · (first | rw [jI_eq hq.1 hq.2] at h | rw [Ne, jI_eq hq.1 hq.2] at h | rw [jI_lt hq.1 hq.2] at h | rw [jI_le hq.1 hq.2] at h | rw [jI_lt hq.2 hq.1] at h | rw [jI_le hq.2 hq.1] at h | rw [GT.gt, jI_lt hq.2 hq.1] at h | rw [GE.ge, jI_le hq.2 hq.1] at h)
    exact kt (by omega) H locs ls hP hD hS hl
  · (first | rw [jI_eq hq.1 hq.2] at h | rw [Ne, jI_eq hq.1 hq.2] at h | rw [jI_lt hq.1 hq.2] at h | rw [jI_le hq.1 hq.2] at h | rw [jI_lt hq.2 hq.1] at h | rw [jI_le hq.2 hq.1] at h | rw [GT.gt, jI_lt hq.2 hq.1] at h | rw [GE.ge, jI_le hq.2 hq.1] at h)
    exact kf (by omega) H locs ls hP hD hS hl
theorem v_if_gt (G : Gx p R s m args meth c D tys A cc nL own Ts ret) {a : Int} {off : Int} {tgt : Nat} (d : decode cc pc = .ok (.ifCond .gt off, 3)) (ht : (pc : Int) + off = (tgt : Int)) (hq : -2147483648 ≤ a ∧ a ≤ 2147483647) (kt : 0 < a → V p l e R s m args below meth c D A nL cs sl Q tgt lv st ws) (kf : a ≤ 0 → V p l e R s m args below meth c D A nL cs sl Q (pc + 3) lv st ws) : V p l e R s m args below meth c D A nL cs sl Q pc lv (.int (jI a) :: st) ws := by
  obtain ⟨hx, hb, hml, hown, hts, hr, hlk, hK, hE, hA⟩ := G
  intro H locs ls hP hD hS hl
  refine lv_if_gt hx hb d ht (fun h => ?_) (fun h => ?_)
  · (first | rw [← jI_0, jI_eq hq (show (-2147483648 : Int) ≤ 0 ∧ (0 : Int) ≤ 2147483647 by decide)] at h | rw [← jI_0, Ne, jI_eq hq (show (-2147483648 : Int) ≤ 0 ∧ (0 : Int) ≤ 2147483647 by decide)] at h | rw [← jI_0, jI_lt hq (show (-2147483648 : Int) ≤ 0 ∧ (0 : Int) ≤ 2147483647 by decide)] at h | rw [← jI_0, jI_le hq (show (-2147483648 : Int) ≤ 0 ∧ (0 : Int) ≤ 2147483647 by decide)] at h | rw [← jI_0, jI_lt (show (-2147483648 : Int) ≤ 0 ∧ (0 : Int) ≤ 2147483647 by decide) hq] at h | rw [← jI_0, jI_le (show (-2147483648 : Int) ≤ 0 ∧ (0 : Int) ≤ 2147483647 by decide) hq] at h | rw [← jI_0, GT.gt, jI_lt (show (-2147483648 : Int) ≤ 0 ∧ (0 : Int) ≤ 2147483647 by decide) hq] at h | rw [← jI_0, GE.ge, jI_le (show (-2147483648 : Int) ≤ 0 ∧ (0 : Int) ≤ 2147483647 by decide) hq] at h)
    exact kt (by omega) H locs ls hP hD hS hl
  · (first | rw [← jI_0, jI_eq hq (show (-2147483648 : Int) ≤ 0 ∧ (0 : Int) ≤ 2147483647 by decide)] at h | rw [← jI_0, Ne, jI_eq hq (show (-2147483648 : Int) ≤ 0 ∧ (0 : Int) ≤ 2147483647 by decide)] at h | rw [← jI_0, jI_lt hq (show (-2147483648 : Int) ≤ 0 ∧ (0 : Int) ≤ 2147483647 by decide)] at h | rw [← jI_0, jI_le hq (show (-2147483648 : Int) ≤ 0 ∧ (0 : Int) ≤ 2147483647 by decide)] at h | rw [← jI_0, jI_lt (show (-2147483648 : Int) ≤ 0 ∧ (0 : Int) ≤ 2147483647 by decide) hq] at h | rw [← jI_0, jI_le (show (-2147483648 : Int) ≤ 0 ∧ (0 : Int) ≤ 2147483647 by decide) hq] at h | rw [← jI_0, GT.gt, jI_lt (show (-2147483648 : Int) ≤ 0 ∧ (0 : Int) ≤ 2147483647 by decide) hq] at h | rw [← jI_0, GE.ge, jI_le (show (-2147483648 : Int) ≤ 0 ∧ (0 : Int) ≤ 2147483647 by decide) hq] at h)
    exact kf (by omega) H locs ls hP hD hS hl
theorem v_icmp_le (G : Gx p R s m args meth c D tys A cc nL own Ts ret) {a b : Int} {off : Int} {tgt : Nat} (d : decode cc pc = .ok (.if_icmp .le off, 3)) (ht : (pc : Int) + off = (tgt : Int)) (hq : (-2147483648 ≤ a ∧ a ≤ 2147483647) ∧ -2147483648 ≤ b ∧ b ≤ 2147483647) (kt : a ≤ b → V p l e R s m args below meth c D A nL cs sl Q tgt lv st ws) (kf : b < a → V p l e R s m args below meth c D A nL cs sl Q (pc + 3) lv st ws) : V p l e R s m args below meth c D A nL cs sl Q pc lv (.int (jI b) :: .int (jI a) :: st) ws := by
  obtain ⟨hx, hb, hml, hown, hts, hr, hlk, hK, hE, hA⟩ := G
  intro H locs ls hP hD hS hl
  refine lv_icmp_le hx hb d ht (fun h => ?_) (fun h => ?_)
  · (first | rw [jI_eq hq.1 hq.2] at h | rw [Ne, jI_eq hq.1 hq.2] at h | rw [jI_lt hq.1 hq.2] at h | rw [jI_le hq.1 hq.2] at h | rw [jI_lt hq.2 hq.1] at h | rw [jI_le hq.2 hq.1] at h | rw [GT.gt, jI_lt hq.2 hq.1] at h | rw [GE.ge, jI_le hq.2 hq.1] at h)
    exact kt (by omega) H locs ls hP hD hS hl
  · (first | rw [jI_eq hq.1 hq.2] at h | rw [Ne, jI_eq hq.1 hq.2] at h | rw [jI_lt hq.1 hq.2] at h | rw [jI_le hq.1 hq.2] at h | rw [jI_lt hq.2 hq.1] at h | rw [jI_le hq.2 hq.1] at h | rw [GT.gt, jI_lt hq.2 hq.1] at h | rw [GE.ge, jI_le hq.2 hq.1] at h)
    exact kf (by omega) H locs ls hP hD hS hl
theorem v_if_le (G : Gx p R s m args meth c D tys A cc nL own Ts ret) {a : Int} {off : Int} {tgt : Nat} (d : decode cc pc = .ok (.ifCond .le off, 3)) (ht : (pc : Int) + off = (tgt : Int)) (hq : -2147483648 ≤ a ∧ a ≤ 2147483647) (kt : a ≤ 0 → V p l e R s m args below meth c D A nL cs sl Q tgt lv st ws) (kf : 0 < a → V p l e R s m args below meth c D A nL cs sl Q (pc + 3) lv st ws) : V p l e R s m args below meth c D A nL cs sl Q pc lv (.int (jI a) :: st) ws := by
  obtain ⟨hx, hb, hml, hown, hts, hr, hlk, hK, hE, hA⟩ := G
  intro H locs ls hP hD hS hl
  refine lv_if_le hx hb d ht (fun h => ?_) (fun h => ?_)
  · (first | rw [← jI_0, jI_eq hq (show (-2147483648 : Int) ≤ 0 ∧ (0 : Int) ≤ 2147483647 by decide)] at h | rw [← jI_0, Ne, jI_eq hq (show (-2147483648 : Int) ≤ 0 ∧ (0 : Int) ≤ 2147483647 by decide)] at h | rw [← jI_0, jI_lt hq (show (-2147483648 : Int) ≤ 0 ∧ (0 : Int) ≤ 2147483647 by decide)] at h | rw [← jI_0, jI_le hq (show (-2147483648 : Int) ≤ 0 ∧ (0 : Int) ≤ 2147483647 by decide)] at h | rw [← jI_0, jI_lt (show (-2147483648 : Int) ≤ 0 ∧ (0 : Int) ≤ 2147483647 by decide) hq] at h | rw [← jI_0, jI_le (show (-2147483648 : Int) ≤ 0 ∧ (0 : Int) ≤ 2147483647 by decide) hq] at h | rw [← jI_0, GT.gt, jI_lt (show (-2147483648 : Int) ≤ 0 ∧ (0 : Int) ≤ 2147483647 by decide) hq] at h | rw [← jI_0, GE.ge, jI_le (show (-2147483648 : Int) ≤ 0 ∧ (0 : Int) ≤ 2147483647 by decide) hq] at h)
    exact kt (by omega) H locs ls hP hD hS hl
  · (first | rw [← jI_0, jI_eq hq (show (-2147483648 : Int) ≤ 0 ∧ (0 : Int) ≤ 2147483647 by decide)] at h | rw [← jI_0, Ne, jI_eq hq (show (-2147483648 : Int) ≤ 0 ∧ (0 : Int) ≤ 2147483647 by decide)] at h | rw [← jI_0, jI_lt hq (show (-2147483648 : Int) ≤ 0 ∧ (0 : Int) ≤ 2147483647 by decide)] at h | rw [← jI_0, jI_le hq (show (-2147483648 : Int) ≤ 0 ∧ (0 : Int) ≤ 2147483647 by decide)] at h | rw [← jI_0, jI_lt (show (-2147483648 : Int) ≤ 0 ∧ (0 : Int) ≤ 2147483647 by decide) hq] at h | rw [← jI_0, jI_le (show (-2147483648 : Int) ≤ 0 ∧ (0 : Int) ≤ 2147483647 by decide) hq] at h | rw [← jI_0, GT.gt, jI_lt (show (-2147483648 : Int) ≤ 0 ∧ (0 : Int) ≤ 2147483647 by decide) hq] at h | rw [← jI_0, GE.ge, jI_le (show (-2147483648 : Int) ≤ 0 ∧ (0 : Int) ≤ 2147483647 by decide) hq] at h)
    exact kf (by omega) H locs ls hP hD hS hl
theorem v_ifb_eq (G : Gx p R s m args meth c D tys A cc nL own Ts ret) {P : Prop} {off : Int} {tgt : Nat} (d : decode cc pc = .ok (.ifCond .eq off, 3)) (ht : (pc : Int) + off = (tgt : Int)) (kt : ¬ P → V p l e R s m args below meth c D A nL cs sl Q tgt lv st ws) (kf : P → V p l e R s m args below meth c D A nL cs sl Q (pc + 3) lv st ws) : V p l e R s m args below meth c D A nL cs sl Q pc lv (.int (jI (b2 P)) :: st) ws := by
  obtain ⟨hx, hb, hml, hown, hts, hr, hlk, hK, hE, hA⟩ := G
  intro H locs ls hP hD hS hl
  refine v_if_eq (G := ⟨hx, hb, hml, hown, hts, hr, hlk, hK, hE, hA⟩) d ht (by have := b2_r P; omega) (fun h => kt ?_) (fun h => kf ?_) H locs ls hP hD hS hl
  · intro q
    rw [b2_t q] at h
    omega
  · exact Classical.byContradiction (fun q => by rw [b2_f q] at h; omega)
theorem v_ifb_ne (G : Gx p R s m args meth c D tys A cc nL own Ts ret) {P : Prop} {off : Int} {tgt : Nat} (d : decode cc pc = .ok (.ifCond .ne off, 3)) (ht : (pc : Int) + off = (tgt : Int)) (kt : P → V p l e R s m args below meth c D A nL cs sl Q tgt lv st ws) (kf : ¬ P → V p l e R s m args below meth c D A nL cs sl Q (pc + 3) lv st ws) : V p l e R s m args below meth c D A nL cs sl Q pc lv (.int (jI (b2 P)) :: st) ws := by
  obtain ⟨hx, hb, hml, hown, hts, hr, hlk, hK, hE, hA⟩ := G
  intro H locs ls hP hD hS hl
  refine v_if_ne (G := ⟨hx, hb, hml, hown, hts, hr, hlk, hK, hE, hA⟩) d ht (by have := b2_r P; omega) (fun h => kt ?_) (fun h => kf ?_) H locs ls hP hD hS hl
  · exact Classical.byContradiction (fun q => by rw [b2_f q] at h; omega)
  · intro q
    rw [b2_t q] at h
    omega
theorem v_ricmp_eq (G : Gx p R s m args meth c D tys A cc nL own Ts ret) {x y : Int32} {off : Int} {tgt : Nat} (d : decode cc pc = .ok (.if_icmp .eq off, 3)) (ht : (pc : Int) + off = (tgt : Int)) (kt : x = y → V p l e R s m args below meth c D A nL cs sl Q tgt lv st ws) (kf : ¬ x = y → V p l e R s m args below meth c D A nL cs sl Q (pc + 3) lv st ws) : V p l e R s m args below meth c D A nL cs sl Q pc lv (.int y :: .int x :: st) ws := by
  obtain ⟨hx, hb, hml, hown, hts, hr, hlk, hK, hE, hA⟩ := G
  intro H locs ls hP hD hS hl
  exact lv_icmp_eq hx hb d ht (fun h => kt (by first | exact h | exact (fun q => h q)) H locs ls hP hD hS hl) (fun h => kf (by first | exact h | exact Classical.not_not.mp h | exact (fun q => h q)) H locs ls hP hD hS hl)
theorem v_ricmp_ne (G : Gx p R s m args meth c D tys A cc nL own Ts ret) {x y : Int32} {off : Int} {tgt : Nat} (d : decode cc pc = .ok (.if_icmp .ne off, 3)) (ht : (pc : Int) + off = (tgt : Int)) (kt : ¬ x = y → V p l e R s m args below meth c D A nL cs sl Q tgt lv st ws) (kf : x = y → V p l e R s m args below meth c D A nL cs sl Q (pc + 3) lv st ws) : V p l e R s m args below meth c D A nL cs sl Q pc lv (.int y :: .int x :: st) ws := by
  obtain ⟨hx, hb, hml, hown, hts, hr, hlk, hK, hE, hA⟩ := G
  intro H locs ls hP hD hS hl
  exact lv_icmp_ne hx hb d ht (fun h => kt (by first | exact h | exact (fun q => h q)) H locs ls hP hD hS hl) (fun h => kf (by first | exact h | exact Classical.not_not.mp h | exact (fun q => h q)) H locs ls hP hD hS hl)
theorem v_riadd (G : Gx p R s m args meth c D tys A cc nL own Ts ret) {x y v : Int32} (d : decode cc pc = .ok (.iadd, 1)) (hv : x + y = v) (kk : V p l e R s m args below meth c D A nL cs sl Q (pc + 1) lv (.int v :: st) ws) : V p l e R s m args below meth c D A nL cs sl Q pc lv (.int y :: .int x :: st) ws := by
  obtain ⟨hx, hb, hml, hown, hts, hr, hlk, hK, hE, hA⟩ := G
  intro H locs ls hP hD hS hl
  subst hv
  exact lv_iadd hx hb d (kk H locs ls hP hD hS hl)
theorem v_risub (G : Gx p R s m args meth c D tys A cc nL own Ts ret) {x y v : Int32} (d : decode cc pc = .ok (.isub, 1)) (hv : x - y = v) (kk : V p l e R s m args below meth c D A nL cs sl Q (pc + 1) lv (.int v :: st) ws) : V p l e R s m args below meth c D A nL cs sl Q pc lv (.int y :: .int x :: st) ws := by
  obtain ⟨hx, hb, hml, hown, hts, hr, hlk, hK, hE, hA⟩ := G
  intro H locs ls hP hD hS hl
  subst hv
  exact lv_isub hx hb d (kk H locs ls hP hD hS hl)
theorem v_top {x y : Int32} (h : x = y) (kk : V p l e R s m args below meth c D A nL cs sl Q pc lv (.int y :: st) ws) : V p l e R s m args below meth c D A nL cs sl Q pc lv (.int x :: st) ws := h ▸ kk
theorem v_topl {x y : Int64} (h : x = y) (kk : V p l e R s m args below meth c D A nL cs sl Q pc lv (.long y :: st) ws) : V p l e R s m args below meth c D A nL cs sl Q pc lv (.long x :: st) ws := h ▸ kk
theorem v_topj {x y : Int} (h : x = y) (kk : V p l e R s m args below meth c D A nL cs sl Q pc lv (.int (jI y) :: st) ws) : V p l e R s m args below meth c D A nL cs sl Q pc lv (.int (jI x) :: st) ws := h ▸ kk
theorem v_world {ws' : va_W} (h : ws = ws') (kk : V p l e R s m args below meth c D A nL cs sl Q pc lv st ws') : V p l e R s m args below meth c D A nL cs sl Q pc lv st ws := h ▸ kk
theorem v_locs {lv' : List (Nat × Value)} (ks : List Nat) (h : lv_pick lv ks = lv') (kk : V p l e R s m args below meth c D A nL cs sl Q pc lv' st ws) : V p l e R s m args below meth c D A nL cs sl Q pc lv st ws := fun H locs ls hP hD hS hl => kk H locs ls hP hD hS (lv_sub hl ks h)
theorem v_eqs {lv' : List (Nat × Value)} {st' : List Value} {ws' : va_W} (h1 : lv = lv') (h2 : st = st') (h3 : ws = ws') (kk : V p l e R s m args below meth c D A nL cs sl Q pc lv' st' ws') : V p l e R s m args below meth c D A nL cs sl Q pc lv st ws := h1 ▸ h2 ▸ h3 ▸ kk
theorem v_widen {k n : Nat} (h1 : cs ≤ k) (h2 : sl ≤ n) (kk : V p l e R s m args below meth c D A nL k n Q pc lv st ws) : V p l e R s m args below meth c D A nL cs sl Q pc lv st ws := fun H locs ls hP hD hS hl => W.widen h1 h2 (kk H locs ls hP hD hS hl)
theorem v_get (G : Gx p R s m args meth c D tys A cc nL own Ts ret) {ci N k q0 index a : Nat} {ref C : String} {T : u_T} {fs : List Value} {v : Value} (hin : ∀ w ∈ u_ws C T N, w ∈ Ts) (he : ws[q0]? = some (a, .inr (ci, fs))) (hc : vwCl[ci]? = some (C, T, N)) (hk : k < N) (hw : Cond.fieldLink own index ref (T k).2.1 (T k).2.2.1 ∈ Ts) (hsame : (T k).1 = ref) (hv : fs[k]? = some v) (d : decode cc pc = .ok (.getfield index, 3)) (kk : V p l e R s m args below meth c D A nL cs sl Q (pc + 3) lv (v :: st) ws) : V p l e R s m args below meth c D A nL cs sl Q pc lv (.ref a :: st) ws := by
  obtain ⟨hx, hb, hml, hown, hts, hr, hlk, hK, hE, hA⟩ := G
  intro H locs ls hP hD hS hl
  exact va_get hx hb hts hin hown hK hP q0 he hc k hk (hts _ hw) (fun _ h9 => by rw [← hsame]; exact h9) hv d (kk H locs ls hP hD hS hl)
theorem v_put (G : Gx p R s m args meth c D tys A cc nL own Ts ret) {ci N k q0 index a : Nat} {ref C : String} {T : u_T} {fs : List Value} {v : Value} {ty : FieldType} {ws' : va_W} (hin : ∀ w ∈ u_ws C T N, w ∈ Ts) (ty0 : Nat → FieldType) (hty : ∀ k, k < N → parseFieldDescriptor (T k).2.2.1 = some (ty0 k)) (hnm : ∀ a, a < N → ∀ b, b < N → a ≠ b → (T a).2.1 ≠ (T b).2.1) (he : ws[q0]? = some (a, .inr (ci, fs))) (hc : vwCl[ci]? = some (C, T, N)) (hk : k < N) (hw : Cond.fieldLink own index ref (T k).2.1 (T k).2.2.1 ∈ Ts) (hsame : (T k).1 = ref) (hfin : (T k).2.2.2 = false) (hd : ty0 k = ty) (hn : narrow ty v = v) (hfit : fits ty v = true) (hlen : k < fs.length) (hws : ws.set q0 (a, .inr (ci, fs.set k v)) = ws') (d : decode cc pc = .ok (.putfield index, 3)) (kk : V p l e R s m args below meth c D A nL cs sl Q (pc + 3) lv st ws') : V p l e R s m args below meth c D A nL cs sl Q pc lv (v :: .ref a :: st) ws := by
  obtain ⟨hx, hb, hml, hown, hts, hr, hlk, hK, hE, hA⟩ := G
  intro H locs ls hP hD hS hl
  subst hws
  exact va_put hx hb hts hin ty0 hty hnm hown hK hP hD hS q0 he hc k hk (hts _ hw) (fun _ h9 => by rw [← hsame]; exact h9) hfin (by rw [← hd]; exact hty k hk) hn hfit hlen d (fun H locs hP hD hS => kk H locs ls hP hD hS hl)
theorem v_putF (G : Gx p R s m args meth c D tys A cc nL own Ts ret) {ci N k q0 index a : Nat} {ref C : String} {T : u_T} {fs : List Value} {v : Value} {ty : FieldType} {ws' : va_W} (hin2 : meth.name = "<init>") (hin : ∀ w ∈ u_ws C T N, w ∈ Ts) (ty0 : Nat → FieldType) (hty : ∀ k, k < N → parseFieldDescriptor (T k).2.2.1 = some (ty0 k)) (hnm : ∀ a, a < N → ∀ b, b < N → a ≠ b → (T a).2.1 ≠ (T b).2.1) (he : ws[q0]? = some (a, .inr (ci, fs))) (hc : vwCl[ci]? = some (C, T, N)) (hk : k < N) (hw : Cond.fieldLink own index ref (T k).2.1 (T k).2.2.1 ∈ Ts) (hsame : (T k).1 = ref) (hfin : (T k).2.2.2 = true) (hdecl : (T k).1 = own) (hd : ty0 k = ty) (hn : narrow ty v = v) (hfit : fits ty v = true) (hlen : k < fs.length) (hws : ws.set q0 (a, .inr (ci, fs.set k v)) = ws') (d : decode cc pc = .ok (.putfield index, 3)) (kk : V p l e R s m args below meth c D A nL cs sl Q (pc + 3) lv st ws') : V p l e R s m args below meth c D A nL cs sl Q pc lv (v :: .ref a :: st) ws := by
  obtain ⟨hx, hb, hml, hown, hts, hr, hlk, hK, hE, hA⟩ := G
  intro H locs ls hP hD hS hl
  subst hws
  exact va_putF hx hb hts hin ty0 hty hnm hown hK hP hD hS q0 he hc k hk (hts _ hw) (fun _ h9 => by rw [← hsame]; exact h9) hfin hin2 hdecl (by rw [← hd]; exact hty k hk) hn hfit hlen d (fun H locs hP hD hS => kk H locs ls hP hD hS hl)
theorem v_iald (G : Gx p R s m args meth c D tys A cc nL own Ts ret) {q0 t0 a n : Nat} {cA : ClassId} {g : Int → Int} {z : Int} (ha : ws[q0]? = some (a, .inl (cA, n, .inl (jA g)))) (ht : tys[t0]? = some (cA, .int)) (hz : 0 ≤ z ∧ z < n ∧ (n : Int) ≤ 2147483647) (d : decode cc pc = .ok (.iaload, 1)) (kk : V p l e R s m args below meth c D A nL cs sl Q (pc + 1) lv (.int (jI (g z)) :: st) ws) : V p l e R s m args below meth c D A nL cs sl Q pc lv (.int (jI z) :: .ref a :: st) ws := by
  obtain ⟨hx, hb, hml, hown, hts, hr, hlk, hK, hE, hA⟩ := G
  intro H locs ls hP hD hS hl
  refine va_iald hx hb hK hP q0 t0 ha ht (jI_in hz.1 hz.2.1 (by omega)) d ?_
  rw [jA_at hz.1 (by omega)]
  exact kk H locs ls hP hD hS hl
theorem v_lald (G : Gx p R s m args meth c D tys A cc nL own Ts ret) {q0 t0 a n : Nat} {cA : ClassId} {g : Int → Int64} {z : Int} (ha : ws[q0]? = some (a, .inl (cA, n, .inr (.inl (jLA g))))) (ht : tys[t0]? = some (cA, .long)) (hz : 0 ≤ z ∧ z < n ∧ (n : Int) ≤ 2147483647) (d : decode cc pc = .ok (.laload, 1)) (kk : V p l e R s m args below meth c D A nL cs sl Q (pc + 1) lv (.long (g z) :: st) ws) : V p l e R s m args below meth c D A nL cs sl Q pc lv (.int (jI z) :: .ref a :: st) ws := by
  obtain ⟨hx, hb, hml, hown, hts, hr, hlk, hK, hE, hA⟩ := G
  intro H locs ls hP hD hS hl
  refine va_lald hx hb hK hP q0 t0 ha ht (jI_in hz.1 hz.2.1 (by omega)) d ?_
  rw [jLA_at hz.1 (by omega)]
  exact kk H locs ls hP hD hS hl

end

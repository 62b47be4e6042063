/-! constructors -/
def W0 : WT := (0, fun _ => 0, 0, fun _ => 0, fun _ => 0, fun _ => 0, fun _ => 0, fun _ => 0, 0, fun _ => 0, fun _ => 0, fun _ => 0)
def G0 : GT := (0, fun _ => 0, fun _ => 0, fun _ => 0, fun _ => 0)
def T0 : (Int → Int) × Int := (fun _ => 0, 0)
def K0 : (Int → Int) × (Int → Int) × (Int → Int) × Int := (fun _ => 0, fun _ => 0, fun _ => 0, 0)
def X0 : Int × Int × (Int → Int64) := (0, 0, fun _ => jL 0)
def L0 : (Int → Int64) × (Int → Int) := (fun _ => jL 0, fun _ => 0)
def Y0 : (Int → Int) × (Int → Int) := (fun _ => 0, fun _ => 0)
theorem upS1 (v : Nat) : va_up (fun _ => none) ((0 : Int).toNat) (some v) = fun j => ([some v] : List (Option Nat)).getD j none := by
  funext j
  rcases j with _ | j <;> rfl
theorem upS2 (a v : Nat) : va_up (fun j => ([some a] : List (Option Nat)).getD j none) ((1 : Int).toNat) (some v) = fun j => ([some a, some v] : List (Option Nat)).getD j none := by
  funext j
  rcases j with _ | _ | j <;> rfl
theorem upS3 (a b v : Nat) : va_up (fun j => ([some a, some b] : List (Option Nat)).getD j none) ((2 : Int).toNat) (some v) = fun j => ([some a, some b, some v] : List (Option Nat)).getD j none := by
  funext j
  rcases j with _ | _ | _ | j <;> rfl
theorem upS4 (a b c v : Nat) : va_up (fun j => ([some a, some b, some c] : List (Option Nat)).getD j none) ((3 : Int).toNat) (some v) = fun j => ([some a, some b, some c, some v] : List (Option Nat)).getD j none := by
  funext j
  rcases j with _ | _ | _ | _ | j <;> rfl
theorem hdiX0_init : yX0_init.cls ≠ "java/lang/invoke/MethodHandle" ∧ yX0_init.cls ≠ "java/lang/invoke/VarHandle" ∧ (parseMethodDescriptor yX0_init.desc).map (fun d => d.parameters.length) = some 0 := by decide +kernel
theorem hdiX1_init : yX1_init.cls ≠ "java/lang/invoke/MethodHandle" ∧ yX1_init.cls ≠ "java/lang/invoke/VarHandle" ∧ (parseMethodDescriptor yX1_init.desc).map (fun d => d.parameters.length) = some 0 := by decide +kernel
theorem hdiX2_init : yX2_init.cls ≠ "java/lang/invoke/MethodHandle" ∧ yX2_init.cls ≠ "java/lang/invoke/VarHandle" ∧ (parseMethodDescriptor yX2_init.desc).map (fun d => d.parameters.length) = some 0 := by decide +kernel
theorem hdiX3_init : yX3_init.cls ≠ "java/lang/invoke/MethodHandle" ∧ yX3_init.cls ≠ "java/lang/invoke/VarHandle" ∧ (parseMethodDescriptor yX3_init.desc).map (fun d => d.parameters.length) = some 0 := by decide +kernel
theorem hdiX4_init : yX4_init.cls ≠ "java/lang/invoke/MethodHandle" ∧ yX4_init.cls ≠ "java/lang/invoke/VarHandle" ∧ (parseMethodDescriptor yX4_init.desc).map (fun d => d.parameters.length) = some 0 := by decide +kernel
theorem hdiX5_init : yX5_init.cls ≠ "java/lang/invoke/MethodHandle" ∧ yX5_init.cls ≠ "java/lang/invoke/VarHandle" ∧ (parseMethodDescriptor yX5_init.desc).map (fun d => d.parameters.length) = some 0 := by decide +kernel
theorem hdiX6_init : yX6_init.cls ≠ "java/lang/invoke/MethodHandle" ∧ yX6_init.cls ≠ "java/lang/invoke/VarHandle" ∧ (parseMethodDescriptor yX6_init.desc).map (fun d => d.parameters.length) = some 0 := by decide +kernel
theorem hdiX7_init : yX7_init.cls ≠ "java/lang/invoke/MethodHandle" ∧ yX7_init.cls ≠ "java/lang/invoke/VarHandle" ∧ (parseMethodDescriptor yX7_init.desc).map (fun d => d.parameters.length) = some 0 := by decide +kernel
theorem hdiX8_init : yX8_init.cls ≠ "java/lang/invoke/MethodHandle" ∧ yX8_init.cls ≠ "java/lang/invoke/VarHandle" ∧ (parseMethodDescriptor yX8_init.desc).map (fun d => d.parameters.length) = some 0 := by decide +kernel
theorem hdiX9_init : yX9_init.cls ≠ "java/lang/invoke/MethodHandle" ∧ yX9_init.cls ≠ "java/lang/invoke/VarHandle" ∧ (parseMethodDescriptor yX9_init.desc).map (fun d => d.parameters.length) = some 0 := by decide +kernel
section
variable {p : Program} {l : Launch} {e : Env} {R : Room} {s : State} {m : MethodId} {args : Array Value} {below : List Frame} {meth : Method} {c : Code} {D : va_G} {tys : List (ClassId × FieldType)} {A : Nat → Prop} {cc : ByteArray} {nL cs sl : Nat} {own : String} {Ts : List Cond} {ret : Option FieldType} {Q : State → Prop} {pc : Nat} {lv : List (Nat × Value)} {st : List Value} {ws : va_W} {X : (Nat → Prop) → State → Prop}
theorem xAO_s : Xs (fun _ U => va_AO RX3 U) := ⟨fun _ _ _ _ _ _ h _ _ hW _ => va_AO.moved hW.alike h, fun _ U _ _ _ h => va_AO.moved (Vm.Alike.refl U.vm) h⟩
def CnX (X : (Nat → Prop) → State → Prop) (l : Launch) (y : MethodName) (wy : List Cond) (rm : Room) (D : va_G) (tys : List (ClassId × FieldType)) (as : List Value) (ws : va_W) (mc ms : Nat) {S : Type} (w1 : S → va_W) (post : S → Prop) : Prop := ∀ sz : Nat, Met l y wy rm (jPx X D tys as ws sz) (va_Qv post (jB D w1 (va_A ws sz)) (va_A ws sz)) mc ms (va_A ws sz)
theorem CnX.mk {y : MethodName} {wy wy' : List Cond} {rm : Room} {as : List Value} {maxL mc ms : Nat} {S : Type} {w1 : S → va_W} {post : S → Prop} (hy : plainName y.cls = true) (hw : wy = Cond.code y cc maxL (none) :: wy') (hn : (lg_sl as).length ≤ maxL) (hlv : lv_args 0 as = lv)
    (body : ∀ (p : Program) (e : Env) (s : State) (m : MethodId) (below : List Frame) (meth : Method) (c : Code) (A : Nat → Prop), Gx p rm s m as.toArray meth c D tys A cc maxL y.cls wy (none) → meth.name = y.name → X A s → V p l e rm s m as.toArray below meth c D A maxL 0 0 (MQ below (va_Qv post (jB D w1 A) A) as.toArray s mc ms A) 0 lv [] ws) : CnX X l y wy rm D tys as ws mc ms w1 post := by
  intro sz
  refine Met.ofW (cc := cc) (maxL := maxL) (ret := none) hy hw ?_
  intro p e s m args below meth c s₁ B hml hv
  obtain ⟨rfl, ⟨hsz, hP, hK, hD0, hE⟩, hx⟩ := hv
  subst hsz
  have hD := hD0.self (sz := s.heap.size)
  have hl := lv_entry as (n := maxL) hn
  rw [hlv] at hl
  rw [lg_entry_eq]
  exact body p e s m below meth c _ ⟨B.exec, B.bytes, hml, findClass_of_methodNamed B.named, atoms_spec (ws := wy) B.pre, B.returns, B.notSynchronized, hK, hE, fun q h => Or.inr h⟩ (name_of_methodNamed B.named B.method).1 hx s.heap [] _ hP hD va_S.rf hl
theorem rn_IX (hX : Xs X) (hxs : X A s) (G : Gx p R s m args meth c D tys A cc nL own Ts ret) {y : MethodName} {wy wy' : List Cond} {rm : Room} {wc : va_W} {mc ms : Nat} {Qc : Nat → Array Value → State → Outcome → State → Prop} {As rest : List Value} {bytes : ByteArray} {maxL n index b : Nat} (hM : ∀ sz, Met l y wy rm (jPx X D tys (.ref b :: As) wc sz) (Qc sz) mc ms (va_A wc sz)) (hg : GoodIn Ts wy) (hwy : wy = Cond.code y bytes maxL none :: wy') (h1 : Cond.initialized y.cls ∈ Ts) (h2 : Cond.methodLink own index y ∈ Ts) (h3 : Cond.instanceMethod y ∈ Ts) (hy : y.name = "<init>") (hd : y.cls ≠ "java/lang/invoke/MethodHandle" ∧ y.cls ≠ "java/lang/invoke/VarHandle" ∧ (parseMethodDescriptor y.desc).map (fun d => d.parameters.length) = some n) (hR : rm.cells = mc ∧ rm.slots = ms ∧ rm.frames + 1 ≤ R.frames ∧ 8 + (maxL + 11) + rm.locals ≤ R.locals) (hn : As.length = n) (hst : st = As.reverse ++ .ref b :: rest) (hW : (rest.map fun v => v.category).sum ≤ 8) (hf : cs + mc ≤ R.cells ∧ sl + ms ≤ R.slots) (d : decode cc pc = .ok (.invokespecial index, 3)) : RnM p l e R s m args below meth c D A nL cs sl mc ms pc st rest wc (fun sz => Qc sz (Value.ref b :: As).toArray) := by
  obtain ⟨hx, hb, hml, hown, hts, hr, hlk, hK, hE, hA⟩ := G
  intro H locs ls hP hD hF hS hls
  exact va_runI ⟨hx, hb, hml, hown, hts⟩ (hM H.size) (cwI n hts hg hwy hR.1 hR.2.1 (hts _ h1) (hts _ h2) (hts _ h3) hy hd ⟨hR.2.2.1, hR.2.2.2⟩) ⟨jPx_blind hX, fun U hU hW9 => jPx_pre hX hxs hK hE hP hD hF hS hU hW9⟩ rfl hn hls hst (lv_room hW) d hf
end
section
variable {l : Launch} {D : va_G} {cI cL cB cS : ClassId}
set_option maxHeartbeats 8000000 in
set_option maxRecDepth 100000 in
theorem c_X7_init {h0 : Nat} : Cn l yX7_init wsX7_init { frames := 1, cells := 9, slots := 90, locals := 20 } D (jT cI cL cB cS) [.ref h0] [(h0, .inr (7, [.int 0, .null, .int 0, .null, .null, .null, .null, .null, .int 0, .null, .null, .null]))] 9 90 (S := Nat → Nat) (fun u => gW cI u W0) (fun u => u 0 = h0) := by
  refine Cn.mk (cc := cX7_init) (maxL := 1) (by decide) rfl (Nat.le_of_ble_eq_true rfl) rfl ?_
  intro p_ e_ s_ m_ b_ me_ c_ A_ G hnm
  have q_0 : Cond.methodLink RX7 3 objectInit ∈ wsX7_init := List.mem_of_getElem? (i := 1) rfl
  have q_1 : Cond.instanceMethod objectInit ∈ wsX7_init := List.mem_of_getElem? (i := 2) rfl
  have q_2 : Cond.code objectInit ⟨#[0xb1]⟩ 1 none ∈ wsX7_init := List.mem_of_getElem? (i := 3) rfl
  have k_X7 : ∀ w ∈ u_ws RX7 TX7 12, w ∈ wsX7_init := fun _ h => List.mem_cons_of_mem _ (List.mem_append_right _ h)
  have q_4 : Cond.fieldLink RX7 9 "SupperLight$World" "hour" "I" ∈ wsX7_init := List.mem_of_getElem? (i := 4) rfl
  have q_5 : Cond.arrayClass .int ∈ wsX7_init := List.mem_of_getElem? (i := 5) rfl
  have q_6 : Cond.fieldLink RX7 15 "SupperLight$World" "bowls" "[I" ∈ wsX7_init := List.mem_of_getElem? (i := 6) rfl
  have q_7 : Cond.fieldLink RX7 19 "SupperLight$World" "beings" "I" ∈ wsX7_init := List.mem_of_getElem? (i := 7) rfl
  have q_8 : Cond.fieldLink RX7 22 "SupperLight$World" "kinds" "[I" ∈ wsX7_init := List.mem_of_getElem? (i := 8) rfl
  have q_9 : Cond.fieldLink RX7 25 "SupperLight$World" "ats" "[I" ∈ wsX7_init := List.mem_of_getElem? (i := 9) rfl
  have q_10 : Cond.fieldLink RX7 28 "SupperLight$World" "goals" "[I" ∈ wsX7_init := List.mem_of_getElem? (i := 10) rfl
  have q_11 : Cond.fieldLink RX7 31 "SupperLight$World" "meals" "[I" ∈ wsX7_init := List.mem_of_getElem? (i := 11) rfl
  have q_12 : Cond.fieldLink RX7 34 "SupperLight$World" "fasts" "[I" ∈ wsX7_init := List.mem_of_getElem? (i := 12) rfl
  have q_13 : Cond.fieldLink RX7 37 "SupperLight$World" "tasks" "I" ∈ wsX7_init := List.mem_of_getElem? (i := 13) rfl
  have q_14 : Cond.fieldLink RX7 40 "SupperLight$World" "taskPlaces" "[I" ∈ wsX7_init := List.mem_of_getElem? (i := 14) rfl
  have q_15 : Cond.fieldLink RX7 43 "SupperLight$World" "taskHours" "[I" ∈ wsX7_init := List.mem_of_getElem? (i := 15) rfl
  have q_16 : Cond.fieldLink RX7 46 "SupperLight$World" "taskNeeds" "[I" ∈ wsX7_init := List.mem_of_getElem? (i := 16) rfl
  refine v_aload_n (j := 0) (x := h0) G dX7_init_0 rfl rfl ?_
  refine v_obj G q_0 q_1 q_2 ⟨Nat.le_of_ble_eq_true rfl, Nat.le_of_ble_eq_true rfl⟩ dX7_init_1 ?_
  refine v_aload_n (j := 0) (x := h0) G dX7_init_4 rfl rfl ?_
  refine v_iconst G dX7_init_5 ?_
  refine v_put (q0 := 0) (k := 0) (ty := .int) (ws' := [(h0, .inr (7, [.int (jI 0), .null, .int 0, .null, .null, .null, .null, .null, .int 0, .null, .null, .null]))]) G k_X7 tyX7 tyX7_ok nmX7 rfl rfl (by decide) q_4 rfl rfl rfl rfl rfl (Nat.le_of_ble_eq_true rfl) rfl dX7_init_6 ?_
  refine v_aload_n (j := 0) (x := h0) G dX7_init_9 rfl rfl ?_
  refine v_bipush G dX7_init_10 (by decide) ?_
  refine v_newaI (n := 16) (N := 16) G q_5 rfl (by decide) ⟨Nat.le_of_ble_eq_true rfl, Nat.le_of_ble_eq_true rfl⟩ dX7_init_12 (fun q1 => ?_)
  refine v_putF (q0 := 0) (k := 1) (ty := .array .int) (ws' := ([(h0, .inr (7, [.int (jI 0), .ref q1, .int 0, .null, .null, .null, .null, .null, .int 0, .null, .null, .null]))] ++ [(q1, .inl (cI, 16, .inl (jA (fun _ => 0))))])) G hnm k_X7 tyX7 tyX7_ok nmX7 rfl rfl (by decide) q_6 rfl rfl rfl rfl rfl rfl (Nat.le_of_ble_eq_true rfl) rfl dX7_init_14 ?_
  refine v_aload_n (j := 0) (x := h0) G dX7_init_17 rfl rfl ?_
  refine v_iconst G dX7_init_18 ?_
  refine v_put (q0 := 0) (k := 2) (ty := .int) (ws' := ([(h0, .inr (7, [.int (jI 0), .ref q1, .int (jI 0), .null, .null, .null, .null, .null, .int 0, .null, .null, .null]))] ++ [(q1, .inl (cI, 16, .inl (jA (fun _ => 0))))])) G k_X7 tyX7 tyX7_ok nmX7 rfl rfl (by decide) q_7 rfl rfl rfl rfl rfl (Nat.le_of_ble_eq_true rfl) rfl dX7_init_19 ?_
  refine v_aload_n (j := 0) (x := h0) G dX7_init_22 rfl rfl ?_
  refine v_bipush G dX7_init_23 (by decide) ?_
  refine v_newaI (n := 10) (N := 10) G q_5 rfl (by decide) ⟨Nat.le_of_ble_eq_true rfl, Nat.le_of_ble_eq_true rfl⟩ dX7_init_25 (fun q2 => ?_)
  refine v_putF (q0 := 0) (k := 3) (ty := .array .int) (ws' := (([(h0, .inr (7, [.int (jI 0), .ref q1, .int (jI 0), .ref q2, .null, .null, .null, .null, .int 0, .null, .null, .null]))] ++ [(q1, .inl (cI, 16, .inl (jA (fun _ => 0))))]) ++ [(q2, .inl (cI, 10, .inl (jA (fun _ => 0))))])) G hnm k_X7 tyX7 tyX7_ok nmX7 rfl rfl (by decide) q_8 rfl rfl rfl rfl rfl rfl (Nat.le_of_ble_eq_true rfl) rfl dX7_init_27 ?_
  refine v_aload_n (j := 0) (x := h0) G dX7_init_30 rfl rfl ?_
  refine v_bipush G dX7_init_31 (by decide) ?_
  refine v_newaI (n := 10) (N := 10) G q_5 rfl (by decide) ⟨Nat.le_of_ble_eq_true rfl, Nat.le_of_ble_eq_true rfl⟩ dX7_init_33 (fun q3 => ?_)
  refine v_putF (q0 := 0) (k := 4) (ty := .array .int) (ws' := ((([(h0, .inr (7, [.int (jI 0), .ref q1, .int (jI 0), .ref q2, .ref q3, .null, .null, .null, .int 0, .null, .null, .null]))] ++ [(q1, .inl (cI, 16, .inl (jA (fun _ => 0))))]) ++ [(q2, .inl (cI, 10, .inl (jA (fun _ => 0))))]) ++ [(q3, .inl (cI, 10, .inl (jA (fun _ => 0))))])) G hnm k_X7 tyX7 tyX7_ok nmX7 rfl rfl (by decide) q_9 rfl rfl rfl rfl rfl rfl (Nat.le_of_ble_eq_true rfl) rfl dX7_init_35 ?_
  refine v_aload_n (j := 0) (x := h0) G dX7_init_38 rfl rfl ?_
  refine v_bipush G dX7_init_39 (by decide) ?_
  refine v_newaI (n := 10) (N := 10) G q_5 rfl (by decide) ⟨Nat.le_of_ble_eq_true rfl, Nat.le_of_ble_eq_true rfl⟩ dX7_init_41 (fun q4 => ?_)
  refine v_putF (q0 := 0) (k := 5) (ty := .array .int) (ws' := (((([(h0, .inr (7, [.int (jI 0), .ref q1, .int (jI 0), .ref q2, .ref q3, .ref q4, .null, .null, .int 0, .null, .null, .null]))] ++ [(q1, .inl (cI, 16, .inl (jA (fun _ => 0))))]) ++ [(q2, .inl (cI, 10, .inl (jA (fun _ => 0))))]) ++ [(q3, .inl (cI, 10, .inl (jA (fun _ => 0))))]) ++ [(q4, .inl (cI, 10, .inl (jA (fun _ => 0))))])) G hnm k_X7 tyX7 tyX7_ok nmX7 rfl rfl (by decide) q_10 rfl rfl rfl rfl rfl rfl (Nat.le_of_ble_eq_true rfl) rfl dX7_init_43 ?_
  refine v_aload_n (j := 0) (x := h0) G dX7_init_46 rfl rfl ?_
  refine v_bipush G dX7_init_47 (by decide) ?_
  refine v_newaI (n := 10) (N := 10) G q_5 rfl (by decide) ⟨Nat.le_of_ble_eq_true rfl, Nat.le_of_ble_eq_true rfl⟩ dX7_init_49 (fun q5 => ?_)
  refine v_putF (q0 := 0) (k := 6) (ty := .array .int) (ws' := ((((([(h0, .inr (7, [.int (jI 0), .ref q1, .int (jI 0), .ref q2, .ref q3, .ref q4, .ref q5, .null, .int 0, .null, .null, .null]))] ++ [(q1, .inl (cI, 16, .inl (jA (fun _ => 0))))]) ++ [(q2, .inl (cI, 10, .inl (jA (fun _ => 0))))]) ++ [(q3, .inl (cI, 10, .inl (jA (fun _ => 0))))]) ++ [(q4, .inl (cI, 10, .inl (jA (fun _ => 0))))]) ++ [(q5, .inl (cI, 10, .inl (jA (fun _ => 0))))])) G hnm k_X7 tyX7 tyX7_ok nmX7 rfl rfl (by decide) q_11 rfl rfl rfl rfl rfl rfl (Nat.le_of_ble_eq_true rfl) rfl dX7_init_51 ?_
  refine v_aload_n (j := 0) (x := h0) G dX7_init_54 rfl rfl ?_
  refine v_bipush G dX7_init_55 (by decide) ?_
  refine v_newaI (n := 10) (N := 10) G q_5 rfl (by decide) ⟨Nat.le_of_ble_eq_true rfl, Nat.le_of_ble_eq_true rfl⟩ dX7_init_57 (fun q6 => ?_)
  refine v_putF (q0 := 0) (k := 7) (ty := .array .int) (ws' := (((((([(h0, .inr (7, [.int (jI 0), .ref q1, .int (jI 0), .ref q2, .ref q3, .ref q4, .ref q5, .ref q6, .int 0, .null, .null, .null]))] ++ [(q1, .inl (cI, 16, .inl (jA (fun _ => 0))))]) ++ [(q2, .inl (cI, 10, .inl (jA (fun _ => 0))))]) ++ [(q3, .inl (cI, 10, .inl (jA (fun _ => 0))))]) ++ [(q4, .inl (cI, 10, .inl (jA (fun _ => 0))))]) ++ [(q5, .inl (cI, 10, .inl (jA (fun _ => 0))))]) ++ [(q6, .inl (cI, 10, .inl (jA (fun _ => 0))))])) G hnm k_X7 tyX7 tyX7_ok nmX7 rfl rfl (by decide) q_12 rfl rfl rfl rfl rfl rfl (Nat.le_of_ble_eq_true rfl) rfl dX7_init_59 ?_
  refine v_aload_n (j := 0) (x := h0) G dX7_init_62 rfl rfl ?_
  refine v_iconst G dX7_init_63 ?_
  refine v_put (q0 := 0) (k := 8) (ty := .int) (ws' := (((((([(h0, .inr (7, [.int (jI 0), .ref q1, .int (jI 0), .ref q2, .ref q3, .ref q4, .ref q5, .ref q6, .int (jI 0), .null, .null, .null]))] ++ [(q1, .inl (cI, 16, .inl (jA (fun _ => 0))))]) ++ [(q2, .inl (cI, 10, .inl (jA (fun _ => 0))))]) ++ [(q3, .inl (cI, 10, .inl (jA (fun _ => 0))))]) ++ [(q4, .inl (cI, 10, .inl (jA (fun _ => 0))))]) ++ [(q5, .inl (cI, 10, .inl (jA (fun _ => 0))))]) ++ [(q6, .inl (cI, 10, .inl (jA (fun _ => 0))))])) G k_X7 tyX7 tyX7_ok nmX7 rfl rfl (by decide) q_13 rfl rfl rfl rfl rfl (Nat.le_of_ble_eq_true rfl) rfl dX7_init_64 ?_
  refine v_aload_n (j := 0) (x := h0) G dX7_init_67 rfl rfl ?_
  refine v_bipush G dX7_init_68 (by decide) ?_
  refine v_newaI (n := 8) (N := 8) G q_5 rfl (by decide) ⟨Nat.le_of_ble_eq_true rfl, Nat.le_of_ble_eq_true rfl⟩ dX7_init_70 (fun q7 => ?_)
  refine v_putF (q0 := 0) (k := 9) (ty := .array .int) (ws' := ((((((([(h0, .inr (7, [.int (jI 0), .ref q1, .int (jI 0), .ref q2, .ref q3, .ref q4, .ref q5, .ref q6, .int (jI 0), .ref q7, .null, .null]))] ++ [(q1, .inl (cI, 16, .inl (jA (fun _ => 0))))]) ++ [(q2, .inl (cI, 10, .inl (jA (fun _ => 0))))]) ++ [(q3, .inl (cI, 10, .inl (jA (fun _ => 0))))]) ++ [(q4, .inl (cI, 10, .inl (jA (fun _ => 0))))]) ++ [(q5, .inl (cI, 10, .inl (jA (fun _ => 0))))]) ++ [(q6, .inl (cI, 10, .inl (jA (fun _ => 0))))]) ++ [(q7, .inl (cI, 8, .inl (jA (fun _ => 0))))])) G hnm k_X7 tyX7 tyX7_ok nmX7 rfl rfl (by decide) q_14 rfl rfl rfl rfl rfl rfl (Nat.le_of_ble_eq_true rfl) rfl dX7_init_72 ?_
  refine v_aload_n (j := 0) (x := h0) G dX7_init_75 rfl rfl ?_
  refine v_bipush G dX7_init_76 (by decide) ?_
  refine v_newaI (n := 8) (N := 8) G q_5 rfl (by decide) ⟨Nat.le_of_ble_eq_true rfl, Nat.le_of_ble_eq_true rfl⟩ dX7_init_78 (fun q8 => ?_)
  refine v_putF (q0 := 0) (k := 10) (ty := .array .int) (ws' := (((((((([(h0, .inr (7, [.int (jI 0), .ref q1, .int (jI 0), .ref q2, .ref q3, .ref q4, .ref q5, .ref q6, .int (jI 0), .ref q7, .ref q8, .null]))] ++ [(q1, .inl (cI, 16, .inl (jA (fun _ => 0))))]) ++ [(q2, .inl (cI, 10, .inl (jA (fun _ => 0))))]) ++ [(q3, .inl (cI, 10, .inl (jA (fun _ => 0))))]) ++ [(q4, .inl (cI, 10, .inl (jA (fun _ => 0))))]) ++ [(q5, .inl (cI, 10, .inl (jA (fun _ => 0))))]) ++ [(q6, .inl (cI, 10, .inl (jA (fun _ => 0))))]) ++ [(q7, .inl (cI, 8, .inl (jA (fun _ => 0))))]) ++ [(q8, .inl (cI, 8, .inl (jA (fun _ => 0))))])) G hnm k_X7 tyX7 tyX7_ok nmX7 rfl rfl (by decide) q_15 rfl rfl rfl rfl rfl rfl (Nat.le_of_ble_eq_true rfl) rfl dX7_init_80 ?_
  refine v_aload_n (j := 0) (x := h0) G dX7_init_83 rfl rfl ?_
  refine v_bipush G dX7_init_84 (by decide) ?_
  refine v_newaI (n := 8) (N := 8) G q_5 rfl (by decide) ⟨Nat.le_of_ble_eq_true rfl, Nat.le_of_ble_eq_true rfl⟩ dX7_init_86 (fun q9 => ?_)
  refine v_putF (q0 := 0) (k := 11) (ty := .array .int) (ws' := ((((((((([(h0, .inr (7, [.int (jI 0), .ref q1, .int (jI 0), .ref q2, .ref q3, .ref q4, .ref q5, .ref q6, .int (jI 0), .ref q7, .ref q8, .ref q9]))] ++ [(q1, .inl (cI, 16, .inl (jA (fun _ => 0))))]) ++ [(q2, .inl (cI, 10, .inl (jA (fun _ => 0))))]) ++ [(q3, .inl (cI, 10, .inl (jA (fun _ => 0))))]) ++ [(q4, .inl (cI, 10, .inl (jA (fun _ => 0))))]) ++ [(q5, .inl (cI, 10, .inl (jA (fun _ => 0))))]) ++ [(q6, .inl (cI, 10, .inl (jA (fun _ => 0))))]) ++ [(q7, .inl (cI, 8, .inl (jA (fun _ => 0))))]) ++ [(q8, .inl (cI, 8, .inl (jA (fun _ => 0))))]) ++ [(q9, .inl (cI, 8, .inl (jA (fun _ => 0))))])) G hnm k_X7 tyX7 tyX7_ok nmX7 rfl rfl (by decide) q_16 rfl rfl rfl rfl rfl rfl (Nat.le_of_ble_eq_true rfl) rfl dX7_init_88 ?_
  exact v_vret G (fun i => ([h0, q1, q2, q3, q4, q5, q6, q7, q8, q9] : List Nat).getD i 0) rfl rfl dX7_init_91

set_option maxHeartbeats 8000000 in
set_option maxRecDepth 100000 in
theorem c_X0_init {h0 : Nat} : Cn l yX0_init wsX0_init { frames := 1, cells := 4, slots := 52, locals := 20 } D (jT cI cL cB cS) [.ref h0] [(h0, .inr (0, [.int 0, .null, .null, .null, .null]))] 4 52 (S := Nat → Nat) (fun u => gG cI u G0) (fun u => u 0 = h0) := by
  refine Cn.mk (cc := cX0_init) (maxL := 1) (by decide) rfl (Nat.le_of_ble_eq_true rfl) rfl ?_
  intro p_ e_ s_ m_ b_ me_ c_ A_ G hnm
  have q_0 : Cond.methodLink RX0 3 objectInit ∈ wsX0_init := List.mem_of_getElem? (i := 1) rfl
  have q_1 : Cond.instanceMethod objectInit ∈ wsX0_init := List.mem_of_getElem? (i := 2) rfl
  have q_2 : Cond.code objectInit ⟨#[0xb1]⟩ 1 none ∈ wsX0_init := List.mem_of_getElem? (i := 3) rfl
  have k_X0 : ∀ w ∈ u_ws RX0 TX0 5, w ∈ wsX0_init := fun _ h => List.mem_cons_of_mem _ (List.mem_append_right _ h)
  have q_4 : Cond.fieldLink RX0 9 "SupperLight$Glow" "beings" "I" ∈ wsX0_init := List.mem_of_getElem? (i := 4) rfl
  have q_5 : Cond.arrayClass .int ∈ wsX0_init := List.mem_of_getElem? (i := 5) rfl
  have q_6 : Cond.fieldLink RX0 15 "SupperLight$Glow" "bowls" "[I" ∈ wsX0_init := List.mem_of_getElem? (i := 6) rfl
  have q_7 : Cond.fieldLink RX0 19 "SupperLight$Glow" "stands" "[I" ∈ wsX0_init := List.mem_of_getElem? (i := 7) rfl
  have q_8 : Cond.fieldLink RX0 22 "SupperLight$Glow" "shines" "[I" ∈ wsX0_init := List.mem_of_getElem? (i := 8) rfl
  have q_9 : Cond.fieldLink RX0 25 "SupperLight$Glow" "voices" "[I" ∈ wsX0_init := List.mem_of_getElem? (i := 9) rfl
  refine v_aload_n (j := 0) (x := h0) G dX0_init_0 rfl rfl ?_
  refine v_obj G q_0 q_1 q_2 ⟨Nat.le_of_ble_eq_true rfl, Nat.le_of_ble_eq_true rfl⟩ dX0_init_1 ?_
  refine v_aload_n (j := 0) (x := h0) G dX0_init_4 rfl rfl ?_
  refine v_iconst G dX0_init_5 ?_
  refine v_put (q0 := 0) (k := 0) (ty := .int) (ws' := [(h0, .inr (0, [.int (jI 0), .null, .null, .null, .null]))]) G k_X0 tyX0 tyX0_ok nmX0 rfl rfl (by decide) q_4 rfl rfl rfl rfl rfl (Nat.le_of_ble_eq_true rfl) rfl dX0_init_6 ?_
  refine v_aload_n (j := 0) (x := h0) G dX0_init_9 rfl rfl ?_
  refine v_bipush G dX0_init_10 (by decide) ?_
  refine v_newaI (n := 16) (N := 16) G q_5 rfl (by decide) ⟨Nat.le_of_ble_eq_true rfl, Nat.le_of_ble_eq_true rfl⟩ dX0_init_12 (fun q1 => ?_)
  refine v_putF (q0 := 0) (k := 1) (ty := .array .int) (ws' := ([(h0, .inr (0, [.int (jI 0), .ref q1, .null, .null, .null]))] ++ [(q1, .inl (cI, 16, .inl (jA (fun _ => 0))))])) G hnm k_X0 tyX0 tyX0_ok nmX0 rfl rfl (by decide) q_6 rfl rfl rfl rfl rfl rfl (Nat.le_of_ble_eq_true rfl) rfl dX0_init_14 ?_
  refine v_aload_n (j := 0) (x := h0) G dX0_init_17 rfl rfl ?_
  refine v_bipush G dX0_init_18 (by decide) ?_
  refine v_newaI (n := 10) (N := 10) G q_5 rfl (by decide) ⟨Nat.le_of_ble_eq_true rfl, Nat.le_of_ble_eq_true rfl⟩ dX0_init_20 (fun q2 => ?_)
  refine v_putF (q0 := 0) (k := 2) (ty := .array .int) (ws' := (([(h0, .inr (0, [.int (jI 0), .ref q1, .ref q2, .null, .null]))] ++ [(q1, .inl (cI, 16, .inl (jA (fun _ => 0))))]) ++ [(q2, .inl (cI, 10, .inl (jA (fun _ => 0))))])) G hnm k_X0 tyX0 tyX0_ok nmX0 rfl rfl (by decide) q_7 rfl rfl rfl rfl rfl rfl (Nat.le_of_ble_eq_true rfl) rfl dX0_init_22 ?_
  refine v_aload_n (j := 0) (x := h0) G dX0_init_25 rfl rfl ?_
  refine v_bipush G dX0_init_26 (by decide) ?_
  refine v_newaI (n := 10) (N := 10) G q_5 rfl (by decide) ⟨Nat.le_of_ble_eq_true rfl, Nat.le_of_ble_eq_true rfl⟩ dX0_init_28 (fun q3 => ?_)
  refine v_putF (q0 := 0) (k := 3) (ty := .array .int) (ws' := ((([(h0, .inr (0, [.int (jI 0), .ref q1, .ref q2, .ref q3, .null]))] ++ [(q1, .inl (cI, 16, .inl (jA (fun _ => 0))))]) ++ [(q2, .inl (cI, 10, .inl (jA (fun _ => 0))))]) ++ [(q3, .inl (cI, 10, .inl (jA (fun _ => 0))))])) G hnm k_X0 tyX0 tyX0_ok nmX0 rfl rfl (by decide) q_8 rfl rfl rfl rfl rfl rfl (Nat.le_of_ble_eq_true rfl) rfl dX0_init_30 ?_
  refine v_aload_n (j := 0) (x := h0) G dX0_init_33 rfl rfl ?_
  refine v_bipush G dX0_init_34 (by decide) ?_
  refine v_newaI (n := 16) (N := 16) G q_5 rfl (by decide) ⟨Nat.le_of_ble_eq_true rfl, Nat.le_of_ble_eq_true rfl⟩ dX0_init_36 (fun q4 => ?_)
  refine v_putF (q0 := 0) (k := 4) (ty := .array .int) (ws' := (((([(h0, .inr (0, [.int (jI 0), .ref q1, .ref q2, .ref q3, .ref q4]))] ++ [(q1, .inl (cI, 16, .inl (jA (fun _ => 0))))]) ++ [(q2, .inl (cI, 10, .inl (jA (fun _ => 0))))]) ++ [(q3, .inl (cI, 10, .inl (jA (fun _ => 0))))]) ++ [(q4, .inl (cI, 16, .inl (jA (fun _ => 0))))])) G hnm k_X0 tyX0 tyX0_ok nmX0 rfl rfl (by decide) q_9 rfl rfl rfl rfl rfl rfl (Nat.le_of_ble_eq_true rfl) rfl dX0_init_38 ?_
  exact v_vret G (fun i => ([h0, q1, q2, q3, q4] : List Nat).getD i 0) rfl rfl dX0_init_41

set_option maxHeartbeats 8000000 in
set_option maxRecDepth 100000 in
theorem c_X4_init {h0 : Nat} : Cn l yX4_init wsX4_init { frames := 1, cells := 1, slots := 120, locals := 20 } D (jT cI cL cB cS) [.ref h0] [(h0, .inr (4, [.null, .int 0]))] 1 120 (S := Nat → Nat) (fun u => gT cB u T0) (fun u => u 0 = h0) := by
  refine Cn.mk (cc := cX4_init) (maxL := 1) (by decide) rfl (Nat.le_of_ble_eq_true rfl) rfl ?_
  intro p_ e_ s_ m_ b_ me_ c_ A_ G hnm
  have q_0 : Cond.methodLink RX4 3 objectInit ∈ wsX4_init := List.mem_of_getElem? (i := 1) rfl
  have q_1 : Cond.instanceMethod objectInit ∈ wsX4_init := List.mem_of_getElem? (i := 2) rfl
  have q_2 : Cond.code objectInit ⟨#[0xb1]⟩ 1 none ∈ wsX4_init := List.mem_of_getElem? (i := 3) rfl
  have q_3 : Cond.arrayClass .byte ∈ wsX4_init := List.mem_of_getElem? (i := 4) rfl
  have k_X4 : ∀ w ∈ u_ws RX4 TX4 2, w ∈ wsX4_init := fun _ h => List.mem_cons_of_mem _ (List.mem_append_right _ h)
  have q_5 : Cond.fieldLink RX4 9 "SupperLight$Tape" "bytes" "[B" ∈ wsX4_init := List.mem_of_getElem? (i := 5) rfl
  have q_6 : Cond.fieldLink RX4 15 "SupperLight$Tape" "size" "I" ∈ wsX4_init := List.mem_of_getElem? (i := 6) rfl
  refine v_aload_n (j := 0) (x := h0) G dX4_init_0 rfl rfl ?_
  refine v_obj G q_0 q_1 q_2 ⟨Nat.le_of_ble_eq_true rfl, Nat.le_of_ble_eq_true rfl⟩ dX4_init_1 ?_
  refine v_aload_n (j := 0) (x := h0) G dX4_init_4 rfl rfl ?_
  refine v_bipush G dX4_init_5 (by decide) ?_
  refine v_newaB (n := 120) (N := 120) G q_3 rfl (by decide) ⟨Nat.le_of_ble_eq_true rfl, Nat.le_of_ble_eq_true rfl⟩ dX4_init_7 (fun q1 => ?_)
  refine v_putF (q0 := 0) (k := 0) (ty := .array .byte) (ws' := ([(h0, .inr (4, [.ref q1, .int 0]))] ++ [(q1, .inl (cB, 120, .inl (jA (fun _ => 0))))])) G hnm k_X4 tyX4 tyX4_ok nmX4 rfl rfl (by decide) q_5 rfl rfl rfl rfl rfl rfl (Nat.le_of_ble_eq_true rfl) rfl dX4_init_9 ?_
  refine v_aload_n (j := 0) (x := h0) G dX4_init_12 rfl rfl ?_
  refine v_iconst G dX4_init_13 ?_
  refine v_put (q0 := 0) (k := 1) (ty := .int) (ws' := ([(h0, .inr (4, [.ref q1, .int (jI 0)]))] ++ [(q1, .inl (cB, 120, .inl (jA (fun _ => 0))))])) G k_X4 tyX4 tyX4_ok nmX4 rfl rfl (by decide) q_6 rfl rfl rfl rfl rfl (Nat.le_of_ble_eq_true rfl) rfl dX4_init_14 ?_
  exact v_vret G (fun i => ([h0, q1] : List Nat).getD i 0) rfl rfl dX4_init_17

set_option maxHeartbeats 8000000 in
set_option maxRecDepth 100000 in
theorem c_X5_init {h0 : Nat} : Cn l yX5_init wsX5_init { frames := 1, cells := 3, slots := 363, locals := 20 } D (jT cI cL cB cS) [.ref h0] [(h0, .inr (5, [.null, .null, .null, .int 0]))] 3 363 (S := Nat → Nat) (fun u => gK cI u K0) (fun u => u 0 = h0) := by
  refine Cn.mk (cc := cX5_init) (maxL := 1) (by decide) rfl (Nat.le_of_ble_eq_true rfl) rfl ?_
  intro p_ e_ s_ m_ b_ me_ c_ A_ G hnm
  have q_0 : Cond.methodLink RX5 3 objectInit ∈ wsX5_init := List.mem_of_getElem? (i := 1) rfl
  have q_1 : Cond.instanceMethod objectInit ∈ wsX5_init := List.mem_of_getElem? (i := 2) rfl
  have q_2 : Cond.code objectInit ⟨#[0xb1]⟩ 1 none ∈ wsX5_init := List.mem_of_getElem? (i := 3) rfl
  have q_3 : Cond.arrayClass .int ∈ wsX5_init := List.mem_of_getElem? (i := 4) rfl
  have k_X5 : ∀ w ∈ u_ws RX5 TX5 4, w ∈ wsX5_init := fun _ h => List.mem_cons_of_mem _ (List.mem_append_right _ h)
  have q_5 : Cond.fieldLink RX5 9 "SupperLight$Tokens" "codes" "[I" ∈ wsX5_init := List.mem_of_getElem? (i := 5) rfl
  have q_6 : Cond.fieldLink RX5 15 "SupperLight$Tokens" "values" "[I" ∈ wsX5_init := List.mem_of_getElem? (i := 6) rfl
  have q_7 : Cond.fieldLink RX5 18 "SupperLight$Tokens" "starts" "[I" ∈ wsX5_init := List.mem_of_getElem? (i := 7) rfl
  have q_8 : Cond.fieldLink RX5 21 "SupperLight$Tokens" "tokens" "I" ∈ wsX5_init := List.mem_of_getElem? (i := 8) rfl
  refine v_aload_n (j := 0) (x := h0) G dX5_init_0 rfl rfl ?_
  refine v_obj G q_0 q_1 q_2 ⟨Nat.le_of_ble_eq_true rfl, Nat.le_of_ble_eq_true rfl⟩ dX5_init_1 ?_
  refine v_aload_n (j := 0) (x := h0) G dX5_init_4 rfl rfl ?_
  refine v_bipush G dX5_init_5 (by decide) ?_
  refine v_newaI (n := 121) (N := 121) G q_3 rfl (by decide) ⟨Nat.le_of_ble_eq_true rfl, Nat.le_of_ble_eq_true rfl⟩ dX5_init_7 (fun q1 => ?_)
  refine v_putF (q0 := 0) (k := 0) (ty := .array .int) (ws' := ([(h0, .inr (5, [.ref q1, .null, .null, .int 0]))] ++ [(q1, .inl (cI, 121, .inl (jA (fun _ => 0))))])) G hnm k_X5 tyX5 tyX5_ok nmX5 rfl rfl (by decide) q_5 rfl rfl rfl rfl rfl rfl (Nat.le_of_ble_eq_true rfl) rfl dX5_init_9 ?_
  refine v_aload_n (j := 0) (x := h0) G dX5_init_12 rfl rfl ?_
  refine v_bipush G dX5_init_13 (by decide) ?_
  refine v_newaI (n := 121) (N := 121) G q_3 rfl (by decide) ⟨Nat.le_of_ble_eq_true rfl, Nat.le_of_ble_eq_true rfl⟩ dX5_init_15 (fun q2 => ?_)
  refine v_putF (q0 := 0) (k := 1) (ty := .array .int) (ws' := (([(h0, .inr (5, [.ref q1, .ref q2, .null, .int 0]))] ++ [(q1, .inl (cI, 121, .inl (jA (fun _ => 0))))]) ++ [(q2, .inl (cI, 121, .inl (jA (fun _ => 0))))])) G hnm k_X5 tyX5 tyX5_ok nmX5 rfl rfl (by decide) q_6 rfl rfl rfl rfl rfl rfl (Nat.le_of_ble_eq_true rfl) rfl dX5_init_17 ?_
  refine v_aload_n (j := 0) (x := h0) G dX5_init_20 rfl rfl ?_
  refine v_bipush G dX5_init_21 (by decide) ?_
  refine v_newaI (n := 121) (N := 121) G q_3 rfl (by decide) ⟨Nat.le_of_ble_eq_true rfl, Nat.le_of_ble_eq_true rfl⟩ dX5_init_23 (fun q3 => ?_)
  refine v_putF (q0 := 0) (k := 2) (ty := .array .int) (ws' := ((([(h0, .inr (5, [.ref q1, .ref q2, .ref q3, .int 0]))] ++ [(q1, .inl (cI, 121, .inl (jA (fun _ => 0))))]) ++ [(q2, .inl (cI, 121, .inl (jA (fun _ => 0))))]) ++ [(q3, .inl (cI, 121, .inl (jA (fun _ => 0))))])) G hnm k_X5 tyX5 tyX5_ok nmX5 rfl rfl (by decide) q_7 rfl rfl rfl rfl rfl rfl (Nat.le_of_ble_eq_true rfl) rfl dX5_init_25 ?_
  refine v_aload_n (j := 0) (x := h0) G dX5_init_28 rfl rfl ?_
  refine v_iconst G dX5_init_29 ?_
  refine v_put (q0 := 0) (k := 3) (ty := .int) (ws' := ((([(h0, .inr (5, [.ref q1, .ref q2, .ref q3, .int (jI 0)]))] ++ [(q1, .inl (cI, 121, .inl (jA (fun _ => 0))))]) ++ [(q2, .inl (cI, 121, .inl (jA (fun _ => 0))))]) ++ [(q3, .inl (cI, 121, .inl (jA (fun _ => 0))))])) G k_X5 tyX5 tyX5_ok nmX5 rfl rfl (by decide) q_8 rfl rfl rfl rfl rfl (Nat.le_of_ble_eq_true rfl) rfl dX5_init_30 ?_
  exact v_vret G (fun i => ([h0, q1, q2, q3] : List Nat).getD i 0) rfl rfl dX5_init_33

set_option maxHeartbeats 8000000 in
set_option maxRecDepth 100000 in
theorem c_X3_init {h0 : Nat} : Cn l yX3_init wsX3_init { frames := 1, cells := 1, slots := 40, locals := 20 } D (jT cI cL cB cS) [.ref h0] [(h0, .inr (3, [.int 0, .int 0, .null]))] 1 40 (S := Nat → Nat) (fun u => gX cL u X0) (fun u => u 0 = h0) := by
  refine Cn.mk (cc := cX3_init) (maxL := 1) (by decide) rfl (Nat.le_of_ble_eq_true rfl) rfl ?_
  intro p_ e_ s_ m_ b_ me_ c_ A_ G hnm
  have q_0 : Cond.methodLink RX3 3 objectInit ∈ wsX3_init := List.mem_of_getElem? (i := 1) rfl
  have q_1 : Cond.instanceMethod objectInit ∈ wsX3_init := List.mem_of_getElem? (i := 2) rfl
  have q_2 : Cond.code objectInit ⟨#[0xb1]⟩ 1 none ∈ wsX3_init := List.mem_of_getElem? (i := 3) rfl
  have k_X3 : ∀ w ∈ u_ws RX3 TX3 3, w ∈ wsX3_init := fun _ h => List.mem_cons_of_mem _ (List.mem_append_right _ h)
  have q_4 : Cond.fieldLink RX3 9 "SupperLight$Sheet" "bits" "I" ∈ wsX3_init := List.mem_of_getElem? (i := 4) rfl
  have q_5 : Cond.fieldLink RX3 15 "SupperLight$Sheet" "size" "I" ∈ wsX3_init := List.mem_of_getElem? (i := 5) rfl
  have q_6 : Cond.arrayClass .long ∈ wsX3_init := List.mem_of_getElem? (i := 6) rfl
  have q_7 : Cond.fieldLink RX3 18 "SupperLight$Sheet" "numbers" "[J" ∈ wsX3_init := List.mem_of_getElem? (i := 7) rfl
  refine v_aload_n (j := 0) (x := h0) G dX3_init_0 rfl rfl ?_
  refine v_obj G q_0 q_1 q_2 ⟨Nat.le_of_ble_eq_true rfl, Nat.le_of_ble_eq_true rfl⟩ dX3_init_1 ?_
  refine v_aload_n (j := 0) (x := h0) G dX3_init_4 rfl rfl ?_
  refine v_iconst G dX3_init_5 ?_
  refine v_put (q0 := 0) (k := 0) (ty := .int) (ws' := [(h0, .inr (3, [.int (jI 0), .int 0, .null]))]) G k_X3 tyX3 tyX3_ok nmX3 rfl rfl (by decide) q_4 rfl rfl rfl rfl rfl (Nat.le_of_ble_eq_true rfl) rfl dX3_init_6 ?_
  refine v_aload_n (j := 0) (x := h0) G dX3_init_9 rfl rfl ?_
  refine v_iconst G dX3_init_10 ?_
  refine v_put (q0 := 0) (k := 1) (ty := .int) (ws' := [(h0, .inr (3, [.int (jI 0), .int (jI 0), .null]))]) G k_X3 tyX3 tyX3_ok nmX3 rfl rfl (by decide) q_5 rfl rfl rfl rfl rfl (Nat.le_of_ble_eq_true rfl) rfl dX3_init_11 ?_
  refine v_aload_n (j := 0) (x := h0) G dX3_init_14 rfl rfl ?_
  refine v_bipush G dX3_init_15 (by decide) ?_
  refine v_newaL (n := 40) (N := 40) G q_6 rfl (by decide) ⟨Nat.le_of_ble_eq_true rfl, Nat.le_of_ble_eq_true rfl⟩ dX3_init_17 (fun q1 => ?_)
  refine v_putF (q0 := 0) (k := 2) (ty := .array .long) (ws' := ([(h0, .inr (3, [.int (jI 0), .int (jI 0), .ref q1]))] ++ [(q1, .inl (cL, 40, .inr (.inl (jLA (fun _ => jL 0)))))])) G hnm k_X3 tyX3 tyX3_ok nmX3 rfl rfl (by decide) q_7 rfl rfl rfl rfl rfl rfl (Nat.le_of_ble_eq_true rfl) rfl dX3_init_19 ?_
  exact v_vret G (fun i => ([h0, q1] : List Nat).getD i 0) rfl rfl dX3_init_22

set_option maxHeartbeats 8000000 in
set_option maxRecDepth 100000 in
theorem c_X1_init {h0 : Nat} : Cn l yX1_init wsX1_init { frames := 1, cells := 2, slots := 176, locals := 20 } D (jT cI cL cB cS) [.ref h0] [(h0, .inr (1, [.null, .null]))] 2 176 (S := Nat → Nat) (fun u => gL cI cL u L0) (fun u => u 0 = h0) := by
  refine Cn.mk (cc := cX1_init) (maxL := 1) (by decide) rfl (Nat.le_of_ble_eq_true rfl) rfl ?_
  intro p_ e_ s_ m_ b_ me_ c_ A_ G hnm
  have q_0 : Cond.methodLink RX1 3 objectInit ∈ wsX1_init := List.mem_of_getElem? (i := 1) rfl
  have q_1 : Cond.instanceMethod objectInit ∈ wsX1_init := List.mem_of_getElem? (i := 2) rfl
  have q_2 : Cond.code objectInit ⟨#[0xb1]⟩ 1 none ∈ wsX1_init := List.mem_of_getElem? (i := 3) rfl
  have q_3 : Cond.arrayClass .long ∈ wsX1_init := List.mem_of_getElem? (i := 4) rfl
  have k_X1 : ∀ w ∈ u_ws RX1 TX1 2, w ∈ wsX1_init := fun _ h => List.mem_cons_of_mem _ (List.mem_append_right _ h)
  have q_5 : Cond.fieldLink RX1 9 "SupperLight$LightReader" "lacks" "[J" ∈ wsX1_init := List.mem_of_getElem? (i := 5) rfl
  have q_6 : Cond.arrayClass .int ∈ wsX1_init := List.mem_of_getElem? (i := 6) rfl
  have q_7 : Cond.fieldLink RX1 15 "SupperLight$LightReader" "given" "[I" ∈ wsX1_init := List.mem_of_getElem? (i := 7) rfl
  refine v_aload_n (j := 0) (x := h0) G dX1_init_0 rfl rfl ?_
  refine v_obj G q_0 q_1 q_2 ⟨Nat.le_of_ble_eq_true rfl, Nat.le_of_ble_eq_true rfl⟩ dX1_init_1 ?_
  refine v_aload_n (j := 0) (x := h0) G dX1_init_4 rfl rfl ?_
  refine v_bipush G dX1_init_5 (by decide) ?_
  refine v_newaL (n := 16) (N := 16) G q_3 rfl (by decide) ⟨Nat.le_of_ble_eq_true rfl, Nat.le_of_ble_eq_true rfl⟩ dX1_init_7 (fun q1 => ?_)
  refine v_putF (q0 := 0) (k := 0) (ty := .array .long) (ws' := ([(h0, .inr (1, [.ref q1, .null]))] ++ [(q1, .inl (cL, 16, .inr (.inl (jLA (fun _ => jL 0)))))])) G hnm k_X1 tyX1 tyX1_ok nmX1 rfl rfl (by decide) q_5 rfl rfl rfl rfl rfl rfl (Nat.le_of_ble_eq_true rfl) rfl dX1_init_9 ?_
  refine v_aload_n (j := 0) (x := h0) G dX1_init_12 rfl rfl ?_
  refine v_sipush G dX1_init_13 (by decide) ?_
  refine v_newaI (n := 160) (N := 160) G q_6 rfl (by decide) ⟨Nat.le_of_ble_eq_true rfl, Nat.le_of_ble_eq_true rfl⟩ dX1_init_16 (fun q2 => ?_)
  refine v_putF (q0 := 0) (k := 1) (ty := .array .int) (ws' := (([(h0, .inr (1, [.ref q1, .ref q2]))] ++ [(q1, .inl (cL, 16, .inr (.inl (jLA (fun _ => jL 0)))))]) ++ [(q2, .inl (cI, 160, .inl (jA (fun _ => 0))))])) G hnm k_X1 tyX1 tyX1_ok nmX1 rfl rfl (by decide) q_7 rfl rfl rfl rfl rfl rfl (Nat.le_of_ble_eq_true rfl) rfl dX1_init_18 ?_
  exact v_vret G (fun i => ([h0, q1, q2] : List Nat).getD i 0) rfl rfl dX1_init_21

set_option maxHeartbeats 8000000 in
set_option maxRecDepth 100000 in
theorem c_X6_init {h0 : Nat} : Cn l yX6_init wsX6_init { frames := 1, cells := 2, slots := 32, locals := 20 } D (jT cI cL cB cS) [.ref h0] [(h0, .inr (6, [.null, .null]))] 2 32 (S := Nat → Nat) (fun u => gY cI u Y0) (fun u => u 0 = h0) := by
  refine Cn.mk (cc := cX6_init) (maxL := 1) (by decide) rfl (Nat.le_of_ble_eq_true rfl) rfl ?_
  intro p_ e_ s_ m_ b_ me_ c_ A_ G hnm
  have q_0 : Cond.methodLink RX6 3 objectInit ∈ wsX6_init := List.mem_of_getElem? (i := 1) rfl
  have q_1 : Cond.instanceMethod objectInit ∈ wsX6_init := List.mem_of_getElem? (i := 2) rfl
  have q_2 : Cond.code objectInit ⟨#[0xb1]⟩ 1 none ∈ wsX6_init := List.mem_of_getElem? (i := 3) rfl
  have q_3 : Cond.arrayClass .int ∈ wsX6_init := List.mem_of_getElem? (i := 4) rfl
  have k_X6 : ∀ w ∈ u_ws RX6 TX6 2, w ∈ wsX6_init := fun _ h => List.mem_cons_of_mem _ (List.mem_append_right _ h)
  have q_5 : Cond.fieldLink RX6 9 "SupperLight$Ways" "steps" "[I" ∈ wsX6_init := List.mem_of_getElem? (i := 5) rfl
  have q_6 : Cond.fieldLink RX6 15 "SupperLight$Ways" "queue" "[I" ∈ wsX6_init := List.mem_of_getElem? (i := 6) rfl
  refine v_aload_n (j := 0) (x := h0) G dX6_init_0 rfl rfl ?_
  refine v_obj G q_0 q_1 q_2 ⟨Nat.le_of_ble_eq_true rfl, Nat.le_of_ble_eq_true rfl⟩ dX6_init_1 ?_
  refine v_aload_n (j := 0) (x := h0) G dX6_init_4 rfl rfl ?_
  refine v_bipush G dX6_init_5 (by decide) ?_
  refine v_newaI (n := 16) (N := 16) G q_3 rfl (by decide) ⟨Nat.le_of_ble_eq_true rfl, Nat.le_of_ble_eq_true rfl⟩ dX6_init_7 (fun q1 => ?_)
  refine v_putF (q0 := 0) (k := 0) (ty := .array .int) (ws' := ([(h0, .inr (6, [.ref q1, .null]))] ++ [(q1, .inl (cI, 16, .inl (jA (fun _ => 0))))])) G hnm k_X6 tyX6 tyX6_ok nmX6 rfl rfl (by decide) q_5 rfl rfl rfl rfl rfl rfl (Nat.le_of_ble_eq_true rfl) rfl dX6_init_9 ?_
  refine v_aload_n (j := 0) (x := h0) G dX6_init_12 rfl rfl ?_
  refine v_bipush G dX6_init_13 (by decide) ?_
  refine v_newaI (n := 16) (N := 16) G q_3 rfl (by decide) ⟨Nat.le_of_ble_eq_true rfl, Nat.le_of_ble_eq_true rfl⟩ dX6_init_15 (fun q2 => ?_)
  refine v_putF (q0 := 0) (k := 1) (ty := .array .int) (ws' := (([(h0, .inr (6, [.ref q1, .ref q2]))] ++ [(q1, .inl (cI, 16, .inl (jA (fun _ => 0))))]) ++ [(q2, .inl (cI, 16, .inl (jA (fun _ => 0))))])) G hnm k_X6 tyX6 tyX6_ok nmX6 rfl rfl (by decide) q_6 rfl rfl rfl rfl rfl rfl (Nat.le_of_ble_eq_true rfl) rfl dX6_init_17 ?_
  exact v_vret G (fun i => ([h0, q1, q2] : List Nat).getD i 0) rfl rfl dX6_init_20

set_option maxHeartbeats 8000000 in
set_option maxRecDepth 100000 in
theorem c_X2_init {h0 : Nat} : Cn l yX2_init wsX2_init { frames := 2, cells := 14, slots := 469, locals := 40 } D (jT cI cL cB cS) [.ref h0] [(h0, .inr (2, [.null, .null, .int 0]))] 14 469 (S := Nat → Nat) (fun u => ([(u 0, .inr (2, [.ref (u 1), .ref (u 11), .int (jI 0)]))] ++ gW cI (fun i => u (1 + i)) W0 ++ gK cI (fun i => u (11 + i)) K0)) (fun u => u 0 = h0) := by
  refine Cn.mk (cc := cX2_init) (maxL := 1) (by decide) rfl (Nat.le_of_ble_eq_true rfl) rfl ?_
  intro p_ e_ s_ m_ b_ me_ c_ A_ G hnm
  have q_0 : Cond.methodLink RX2 3 objectInit ∈ wsX2_init := List.mem_of_getElem? (i := 1) rfl
  have q_1 : Cond.instanceMethod objectInit ∈ wsX2_init := List.mem_of_getElem? (i := 2) rfl
  have q_2 : Cond.code objectInit ⟨#[0xb1]⟩ 1 none ∈ wsX2_init := List.mem_of_getElem? (i := 3) rfl
  have k_X7 : ∀ w ∈ u_ws RX7 TX7 12, w ∈ wsX2_init := fun _ h => List.mem_cons_of_mem _ (List.mem_append_left _ (List.mem_append_left _ (List.mem_append_right _ h)))
  have q_4 : Cond.classLink RX2 9 RX7 ∈ wsX2_init := List.mem_of_getElem? (i := 4) rfl
  have q_5 : Cond.instantiable RX7 12 ∈ wsX2_init := List.mem_of_getElem? (i := 5) rfl
  have q_6 : Cond.initialized RX7 ∈ wsX2_init := List.mem_of_getElem? (i := 6) rfl
  have q_7 : Cond.instanceMethod yX7_init ∈ wsX2_init := List.mem_of_getElem? (i := 13) rfl
  have k_X2 : ∀ w ∈ u_ws RX2 TX2 3, w ∈ wsX2_init := fun _ h => List.mem_cons_of_mem _ (List.mem_append_left _ (List.mem_append_right _ h))
  have q_9 : Cond.fieldLink RX2 12 "SupperLight$NightReader" "draft" "LSupperLight$World;" ∈ wsX2_init := List.mem_of_getElem? (i := 7) rfl
  have k_X5 : ∀ w ∈ u_ws RX5 TX5 4, w ∈ wsX2_init := fun _ h => List.mem_cons_of_mem _ (List.mem_append_right _ h)
  have q_11 : Cond.classLink RX2 18 RX5 ∈ wsX2_init := List.mem_of_getElem? (i := 8) rfl
  have q_12 : Cond.instantiable RX5 4 ∈ wsX2_init := List.mem_of_getElem? (i := 9) rfl
  have q_13 : Cond.initialized RX5 ∈ wsX2_init := List.mem_of_getElem? (i := 10) rfl
  have q_14 : Cond.instanceMethod yX5_init ∈ wsX2_init := List.mem_of_getElem? (i := 29) rfl
  have q_15 : Cond.fieldLink RX2 21 "SupperLight$NightReader" "text" "LSupperLight$Tokens;" ∈ wsX2_init := List.mem_of_getElem? (i := 11) rfl
  have q_16 : Cond.fieldLink RX2 25 "SupperLight$NightReader" "next" "I" ∈ wsX2_init := List.mem_of_getElem? (i := 12) rfl
  refine v_aload_n (j := 0) (x := h0) G dX2_init_0 rfl rfl ?_
  refine v_obj G q_0 q_1 q_2 ⟨Nat.le_of_ble_eq_true rfl, Nat.le_of_ble_eq_true rfl⟩ dX2_init_1 ?_
  refine v_aload_n (j := 0) (x := h0) G dX2_init_4 rfl rfl ?_
  refine v_new (ci := 7) (fs := [.int 0, .null, .int 0, .null, .null, .null, .null, .null, .int 0, .null, .null, .null]) G k_X7 tyX7 tyX7_ok q_4 q_5 q_6 rfl (by decide) ⟨Nat.le_of_ble_eq_true rfl, Nat.le_of_ble_eq_true rfl⟩ dX2_init_5 (fun q1 => ?_)
  refine v_dup G dX2_init_8 rfl ?_
  refine v_init (cs := 1) (sl := 12) (w0 := [(h0, .inr (2, [.null, .null, .int 0]))]) G (rn_IN (As := []) (rest := [.ref q1, .ref h0]) G (c_X7_init (h0 := q1)) gX2_init_X7_init_n11 rfl (List.mem_of_getElem? (i := 3) rfl) q_6 q_7 rfl hdiX7_init ⟨rfl, rfl, Nat.le_of_ble_eq_true rfl, Nat.le_of_ble_eq_true rfl⟩ rfl rfl (Nat.le_of_ble_eq_true rfl) (by exact ⟨Nat.le_of_ble_eq_true rfl, Nat.le_of_ble_eq_true rfl⟩) dX2_init_9) (fun u2 hu3 => ?_)
  have hu3 : u2 0 = q1 := hu3
  subst hu3
  refine v_putF (q0 := 0) (k := 0) (ty := .object "SupperLight$World") (ws' := ([(h0, .inr (2, [.ref (u2 0), .null, .int 0]))] ++ gW cI u2 W0)) G hnm k_X2 tyX2 tyX2_ok nmX2 rfl rfl (by decide) q_9 rfl rfl rfl rfl rfl rfl (Nat.le_of_ble_eq_true rfl) rfl dX2_init_12 ?_
  refine v_aload_n (j := 0) (x := h0) G dX2_init_15 rfl rfl ?_
  refine v_new (ci := 5) (fs := [.null, .null, .null, .int 0]) G k_X5 tyX5 tyX5_ok q_11 q_12 q_13 rfl (by decide) ⟨Nat.le_of_ble_eq_true rfl, Nat.le_of_ble_eq_true rfl⟩ dX2_init_16 (fun q4 => ?_)
  refine v_dup G dX2_init_19 rfl ?_
  refine v_init (cs := 11) (sl := 106) (w0 := ([(h0, .inr (2, [.ref (u2 0), .null, .int 0]))] ++ gW cI u2 W0)) G (rn_IN (As := []) (rest := [.ref q4, .ref h0]) G (c_X5_init (h0 := q4)) gX2_init_X5_init_n20 rfl (List.mem_of_getElem? (i := 4) rfl) q_13 q_14 rfl hdiX5_init ⟨rfl, rfl, Nat.le_of_ble_eq_true rfl, Nat.le_of_ble_eq_true rfl⟩ rfl rfl (Nat.le_of_ble_eq_true rfl) (by exact ⟨Nat.le_of_ble_eq_true rfl, Nat.le_of_ble_eq_true rfl⟩) dX2_init_20) (fun u5 hu6 => ?_)
  have hu6 : u5 0 = q4 := hu6
  subst hu6
  refine v_putF (q0 := 0) (k := 1) (ty := .object "SupperLight$Tokens") (ws' := (([(h0, .inr (2, [.ref (u2 0), .ref (u5 0), .int 0]))] ++ gW cI u2 W0) ++ gK cI u5 K0)) G hnm k_X2 tyX2 tyX2_ok nmX2 rfl rfl (by decide) q_15 rfl rfl rfl rfl rfl rfl (Nat.le_of_ble_eq_true rfl) rfl dX2_init_23 ?_
  refine v_aload_n (j := 0) (x := h0) G dX2_init_26 rfl rfl ?_
  refine v_iconst G dX2_init_27 ?_
  refine v_put (q0 := 0) (k := 2) (ty := .int) (ws' := (([(h0, .inr (2, [.ref (u2 0), .ref (u5 0), .int (jI 0)]))] ++ gW cI u2 W0) ++ gK cI u5 K0)) G k_X2 tyX2 tyX2_ok nmX2 rfl rfl (by decide) q_16 rfl rfl rfl rfl rfl (Nat.le_of_ble_eq_true rfl) rfl dX2_init_28 ?_
  exact v_vret G (fun i => ([h0, u2 0, u2 1, u2 2, u2 3, u2 4, u2 5, u2 6, u2 7, u2 8, u2 9, u5 0, u5 1, u5 2, u5 3] : List Nat).getD i 0) rfl rfl dX2_init_31

set_option maxHeartbeats 8000000 in
set_option maxRecDepth 100000 in
theorem c_X9_init {h0 : Nat} : Cn l yX9_init wsX9_init { frames := 1, cells := 12, slots := 739, locals := 20 } D (jT cI cL cB cS) [.ref h0] [(h0, .inr (9, [.null, .null, .null, .null, .int 0, .null, .null, .null, .null, .int 0, .int 0, .int 0, .int 0, .null, .null, .null, .null]))] 12 739 (S := Nat → Nat) (fun u => wR cI cL u (fun _ => 0) (fun _ => 0) (fun _ => 0) (fun _ => 0) 0 (fun _ => 0) (fun _ => 0) (fun _ => 0) (fun _ => 0) 0 0 0 0 (fun _ => 0) (fun _ => 0) (fun _ => jL 0) (fun _ => jL 0)) (fun u => u 0 = h0) := by
  refine Cn.mk (cc := cX9_init) (maxL := 1) (by decide) rfl (Nat.le_of_ble_eq_true rfl) rfl ?_
  intro p_ e_ s_ m_ b_ me_ c_ A_ G hnm
  have q_0 : Cond.methodLink RX9 1 objectInit ∈ wsX9_init := List.mem_of_getElem? (i := 1) rfl
  have q_1 : Cond.instanceMethod objectInit ∈ wsX9_init := List.mem_of_getElem? (i := 2) rfl
  have q_2 : Cond.code objectInit ⟨#[0xb1]⟩ 1 none ∈ wsX9_init := List.mem_of_getElem? (i := 3) rfl
  have q_3 : Cond.arrayClass .int ∈ wsX9_init := List.mem_of_getElem? (i := 4) rfl
  have k_X9 : ∀ w ∈ u_ws RX9 TX9 17, w ∈ wsX9_init := fun _ h => List.mem_cons_of_mem _ (List.mem_append_right _ h)
  have q_5 : Cond.fieldLink RX9 9 "SupperLightModel" "s" "[I" ∈ wsX9_init := List.mem_of_getElem? (i := 5) rfl
  have q_6 : Cond.fieldLink RX9 13 "SupperLightModel" "kept" "[I" ∈ wsX9_init := List.mem_of_getElem? (i := 6) rfl
  have q_7 : Cond.fieldLink RX9 16 "SupperLightModel" "before" "[I" ∈ wsX9_init := List.mem_of_getElem? (i := 7) rfl
  have q_8 : Cond.fieldLink RX9 19 "SupperLightModel" "ahead" "[I" ∈ wsX9_init := List.mem_of_getElem? (i := 8) rfl
  have q_9 : Cond.fieldLink RX9 22 "SupperLightModel" "findings" "[I" ∈ wsX9_init := List.mem_of_getElem? (i := 9) rfl
  have q_10 : Cond.fieldLink RX9 25 "SupperLightModel" "steps" "[I" ∈ wsX9_init := List.mem_of_getElem? (i := 10) rfl
  have q_11 : Cond.fieldLink RX9 28 "SupperLightModel" "lights" "[I" ∈ wsX9_init := List.mem_of_getElem? (i := 11) rfl
  have q_12 : Cond.fieldLink RX9 31 "SupperLightModel" "tape" "[I" ∈ wsX9_init := List.mem_of_getElem? (i := 12) rfl
  have q_13 : Cond.fieldLink RX9 34 "SupperLightModel" "bits" "[I" ∈ wsX9_init := List.mem_of_getElem? (i := 13) rfl
  have q_14 : Cond.fieldLink RX9 37 "SupperLightModel" "longs" "[I" ∈ wsX9_init := List.mem_of_getElem? (i := 14) rfl
  have q_15 : Cond.arrayClass .long ∈ wsX9_init := List.mem_of_getElem? (i := 15) rfl
  have q_16 : Cond.fieldLink RX9 40 "SupperLightModel" "cells" "[J" ∈ wsX9_init := List.mem_of_getElem? (i := 16) rfl
  have q_17 : Cond.fieldLink RX9 44 "SupperLightModel" "between" "[J" ∈ wsX9_init := List.mem_of_getElem? (i := 17) rfl
  refine v_aload_n (j := 0) (x := h0) G dX9_init_0 rfl rfl ?_
  refine v_obj G q_0 q_1 q_2 ⟨Nat.le_of_ble_eq_true rfl, Nat.le_of_ble_eq_true rfl⟩ dX9_init_1 ?_
  refine v_aload_n (j := 0) (x := h0) G dX9_init_4 rfl rfl ?_
  refine v_bipush G dX9_init_5 (by decide) ?_
  refine v_newaI (n := 93) (N := 93) G q_3 rfl (by decide) ⟨Nat.le_of_ble_eq_true rfl, Nat.le_of_ble_eq_true rfl⟩ dX9_init_7 (fun q1 => ?_)
  refine v_putF (q0 := 0) (k := 0) (ty := .array .int) (ws' := ([(h0, .inr (9, [.ref q1, .null, .null, .null, .int 0, .null, .null, .null, .null, .int 0, .int 0, .int 0, .int 0, .null, .null, .null, .null]))] ++ [(q1, .inl (cI, 93, .inl (jA (fun _ => 0))))])) G hnm k_X9 tyX9 tyX9_ok nmX9 rfl rfl (by decide) q_5 rfl rfl rfl rfl rfl rfl (Nat.le_of_ble_eq_true rfl) rfl dX9_init_9 ?_
  refine v_aload_n (j := 0) (x := h0) G dX9_init_12 rfl rfl ?_
  refine v_bipush G dX9_init_13 (by decide) ?_
  refine v_newaI (n := 93) (N := 93) G q_3 rfl (by decide) ⟨Nat.le_of_ble_eq_true rfl, Nat.le_of_ble_eq_true rfl⟩ dX9_init_15 (fun q2 => ?_)
  refine v_putF (q0 := 0) (k := 1) (ty := .array .int) (ws' := (([(h0, .inr (9, [.ref q1, .ref q2, .null, .null, .int 0, .null, .null, .null, .null, .int 0, .int 0, .int 0, .int 0, .null, .null, .null, .null]))] ++ [(q1, .inl (cI, 93, .inl (jA (fun _ => 0))))]) ++ [(q2, .inl (cI, 93, .inl (jA (fun _ => 0))))])) G hnm k_X9 tyX9 tyX9_ok nmX9 rfl rfl (by decide) q_6 rfl rfl rfl rfl rfl rfl (Nat.le_of_ble_eq_true rfl) rfl dX9_init_17 ?_
  refine v_aload_n (j := 0) (x := h0) G dX9_init_20 rfl rfl ?_
  refine v_bipush G dX9_init_21 (by decide) ?_
  refine v_newaI (n := 93) (N := 93) G q_3 rfl (by decide) ⟨Nat.le_of_ble_eq_true rfl, Nat.le_of_ble_eq_true rfl⟩ dX9_init_23 (fun q3 => ?_)
  refine v_putF (q0 := 0) (k := 2) (ty := .array .int) (ws' := ((([(h0, .inr (9, [.ref q1, .ref q2, .ref q3, .null, .int 0, .null, .null, .null, .null, .int 0, .int 0, .int 0, .int 0, .null, .null, .null, .null]))] ++ [(q1, .inl (cI, 93, .inl (jA (fun _ => 0))))]) ++ [(q2, .inl (cI, 93, .inl (jA (fun _ => 0))))]) ++ [(q3, .inl (cI, 93, .inl (jA (fun _ => 0))))])) G hnm k_X9 tyX9 tyX9_ok nmX9 rfl rfl (by decide) q_7 rfl rfl rfl rfl rfl rfl (Nat.le_of_ble_eq_true rfl) rfl dX9_init_25 ?_
  refine v_aload_n (j := 0) (x := h0) G dX9_init_28 rfl rfl ?_
  refine v_bipush G dX9_init_29 (by decide) ?_
  refine v_newaI (n := 93) (N := 93) G q_3 rfl (by decide) ⟨Nat.le_of_ble_eq_true rfl, Nat.le_of_ble_eq_true rfl⟩ dX9_init_31 (fun q4 => ?_)
  refine v_putF (q0 := 0) (k := 3) (ty := .array .int) (ws' := (((([(h0, .inr (9, [.ref q1, .ref q2, .ref q3, .ref q4, .int 0, .null, .null, .null, .null, .int 0, .int 0, .int 0, .int 0, .null, .null, .null, .null]))] ++ [(q1, .inl (cI, 93, .inl (jA (fun _ => 0))))]) ++ [(q2, .inl (cI, 93, .inl (jA (fun _ => 0))))]) ++ [(q3, .inl (cI, 93, .inl (jA (fun _ => 0))))]) ++ [(q4, .inl (cI, 93, .inl (jA (fun _ => 0))))])) G hnm k_X9 tyX9 tyX9_ok nmX9 rfl rfl (by decide) q_8 rfl rfl rfl rfl rfl rfl (Nat.le_of_ble_eq_true rfl) rfl dX9_init_33 ?_
  refine v_aload_n (j := 0) (x := h0) G dX9_init_36 rfl rfl ?_
  refine v_bipush G dX9_init_37 (by decide) ?_
  refine v_newaI (n := 7) (N := 7) G q_3 rfl (by decide) ⟨Nat.le_of_ble_eq_true rfl, Nat.le_of_ble_eq_true rfl⟩ dX9_init_39 (fun q5 => ?_)
  refine v_putF (q0 := 0) (k := 5) (ty := .array .int) (ws' := ((((([(h0, .inr (9, [.ref q1, .ref q2, .ref q3, .ref q4, .int 0, .ref q5, .null, .null, .null, .int 0, .int 0, .int 0, .int 0, .null, .null, .null, .null]))] ++ [(q1, .inl (cI, 93, .inl (jA (fun _ => 0))))]) ++ [(q2, .inl (cI, 93, .inl (jA (fun _ => 0))))]) ++ [(q3, .inl (cI, 93, .inl (jA (fun _ => 0))))]) ++ [(q4, .inl (cI, 93, .inl (jA (fun _ => 0))))]) ++ [(q5, .inl (cI, 7, .inl (jA (fun _ => 0))))])) G hnm k_X9 tyX9 tyX9_ok nmX9 rfl rfl (by decide) q_9 rfl rfl rfl rfl rfl rfl (Nat.le_of_ble_eq_true rfl) rfl dX9_init_41 ?_
  refine v_aload_n (j := 0) (x := h0) G dX9_init_44 rfl rfl ?_
  refine v_bipush G dX9_init_45 (by decide) ?_
  refine v_newaI (n := 16) (N := 16) G q_3 rfl (by decide) ⟨Nat.le_of_ble_eq_true rfl, Nat.le_of_ble_eq_true rfl⟩ dX9_init_47 (fun q6 => ?_)
  refine v_putF (q0 := 0) (k := 6) (ty := .array .int) (ws' := (((((([(h0, .inr (9, [.ref q1, .ref q2, .ref q3, .ref q4, .int 0, .ref q5, .ref q6, .null, .null, .int 0, .int 0, .int 0, .int 0, .null, .null, .null, .null]))] ++ [(q1, .inl (cI, 93, .inl (jA (fun _ => 0))))]) ++ [(q2, .inl (cI, 93, .inl (jA (fun _ => 0))))]) ++ [(q3, .inl (cI, 93, .inl (jA (fun _ => 0))))]) ++ [(q4, .inl (cI, 93, .inl (jA (fun _ => 0))))]) ++ [(q5, .inl (cI, 7, .inl (jA (fun _ => 0))))]) ++ [(q6, .inl (cI, 16, .inl (jA (fun _ => 0))))])) G hnm k_X9 tyX9 tyX9_ok nmX9 rfl rfl (by decide) q_10 rfl rfl rfl rfl rfl rfl (Nat.le_of_ble_eq_true rfl) rfl dX9_init_49 ?_
  refine v_aload_n (j := 0) (x := h0) G dX9_init_52 rfl rfl ?_
  refine v_bipush G dX9_init_53 (by decide) ?_
  refine v_newaI (n := 16) (N := 16) G q_3 rfl (by decide) ⟨Nat.le_of_ble_eq_true rfl, Nat.le_of_ble_eq_true rfl⟩ dX9_init_55 (fun q7 => ?_)
  refine v_putF (q0 := 0) (k := 7) (ty := .array .int) (ws' := ((((((([(h0, .inr (9, [.ref q1, .ref q2, .ref q3, .ref q4, .int 0, .ref q5, .ref q6, .ref q7, .null, .int 0, .int 0, .int 0, .int 0, .null, .null, .null, .null]))] ++ [(q1, .inl (cI, 93, .inl (jA (fun _ => 0))))]) ++ [(q2, .inl (cI, 93, .inl (jA (fun _ => 0))))]) ++ [(q3, .inl (cI, 93, .inl (jA (fun _ => 0))))]) ++ [(q4, .inl (cI, 93, .inl (jA (fun _ => 0))))]) ++ [(q5, .inl (cI, 7, .inl (jA (fun _ => 0))))]) ++ [(q6, .inl (cI, 16, .inl (jA (fun _ => 0))))]) ++ [(q7, .inl (cI, 16, .inl (jA (fun _ => 0))))])) G hnm k_X9 tyX9 tyX9_ok nmX9 rfl rfl (by decide) q_11 rfl rfl rfl rfl rfl rfl (Nat.le_of_ble_eq_true rfl) rfl dX9_init_57 ?_
  refine v_aload_n (j := 0) (x := h0) G dX9_init_60 rfl rfl ?_
  refine v_bipush G dX9_init_61 (by decide) ?_
  refine v_newaI (n := 120) (N := 120) G q_3 rfl (by decide) ⟨Nat.le_of_ble_eq_true rfl, Nat.le_of_ble_eq_true rfl⟩ dX9_init_63 (fun q8 => ?_)
  refine v_putF (q0 := 0) (k := 8) (ty := .array .int) (ws' := (((((((([(h0, .inr (9, [.ref q1, .ref q2, .ref q3, .ref q4, .int 0, .ref q5, .ref q6, .ref q7, .ref q8, .int 0, .int 0, .int 0, .int 0, .null, .null, .null, .null]))] ++ [(q1, .inl (cI, 93, .inl (jA (fun _ => 0))))]) ++ [(q2, .inl (cI, 93, .inl (jA (fun _ => 0))))]) ++ [(q3, .inl (cI, 93, .inl (jA (fun _ => 0))))]) ++ [(q4, .inl (cI, 93, .inl (jA (fun _ => 0))))]) ++ [(q5, .inl (cI, 7, .inl (jA (fun _ => 0))))]) ++ [(q6, .inl (cI, 16, .inl (jA (fun _ => 0))))]) ++ [(q7, .inl (cI, 16, .inl (jA (fun _ => 0))))]) ++ [(q8, .inl (cI, 120, .inl (jA (fun _ => 0))))])) G hnm k_X9 tyX9 tyX9_ok nmX9 rfl rfl (by decide) q_12 rfl rfl rfl rfl rfl rfl (Nat.le_of_ble_eq_true rfl) rfl dX9_init_65 ?_
  refine v_aload_n (j := 0) (x := h0) G dX9_init_68 rfl rfl ?_
  refine v_iconst G dX9_init_69 ?_
  refine v_newaI (n := 4) (N := 4) G q_3 rfl (by decide) ⟨Nat.le_of_ble_eq_true rfl, Nat.le_of_ble_eq_true rfl⟩ dX9_init_70 (fun q9 => ?_)
  refine v_putF (q0 := 0) (k := 13) (ty := .array .int) (ws' := ((((((((([(h0, .inr (9, [.ref q1, .ref q2, .ref q3, .ref q4, .int 0, .ref q5, .ref q6, .ref q7, .ref q8, .int 0, .int 0, .int 0, .int 0, .ref q9, .null, .null, .null]))] ++ [(q1, .inl (cI, 93, .inl (jA (fun _ => 0))))]) ++ [(q2, .inl (cI, 93, .inl (jA (fun _ => 0))))]) ++ [(q3, .inl (cI, 93, .inl (jA (fun _ => 0))))]) ++ [(q4, .inl (cI, 93, .inl (jA (fun _ => 0))))]) ++ [(q5, .inl (cI, 7, .inl (jA (fun _ => 0))))]) ++ [(q6, .inl (cI, 16, .inl (jA (fun _ => 0))))]) ++ [(q7, .inl (cI, 16, .inl (jA (fun _ => 0))))]) ++ [(q8, .inl (cI, 120, .inl (jA (fun _ => 0))))]) ++ [(q9, .inl (cI, 4, .inl (jA (fun _ => 0))))])) G hnm k_X9 tyX9 tyX9_ok nmX9 rfl rfl (by decide) q_13 rfl rfl rfl rfl rfl rfl (Nat.le_of_ble_eq_true rfl) rfl dX9_init_72 ?_
  refine v_aload_n (j := 0) (x := h0) G dX9_init_75 rfl rfl ?_
  refine v_iconst G dX9_init_76 ?_
  refine v_newaI (n := 4) (N := 4) G q_3 rfl (by decide) ⟨Nat.le_of_ble_eq_true rfl, Nat.le_of_ble_eq_true rfl⟩ dX9_init_77 (fun q10 => ?_)
  refine v_putF (q0 := 0) (k := 14) (ty := .array .int) (ws' := (((((((((([(h0, .inr (9, [.ref q1, .ref q2, .ref q3, .ref q4, .int 0, .ref q5, .ref q6, .ref q7, .ref q8, .int 0, .int 0, .int 0, .int 0, .ref q9, .ref q10, .null, .null]))] ++ [(q1, .inl (cI, 93, .inl (jA (fun _ => 0))))]) ++ [(q2, .inl (cI, 93, .inl (jA (fun _ => 0))))]) ++ [(q3, .inl (cI, 93, .inl (jA (fun _ => 0))))]) ++ [(q4, .inl (cI, 93, .inl (jA (fun _ => 0))))]) ++ [(q5, .inl (cI, 7, .inl (jA (fun _ => 0))))]) ++ [(q6, .inl (cI, 16, .inl (jA (fun _ => 0))))]) ++ [(q7, .inl (cI, 16, .inl (jA (fun _ => 0))))]) ++ [(q8, .inl (cI, 120, .inl (jA (fun _ => 0))))]) ++ [(q9, .inl (cI, 4, .inl (jA (fun _ => 0))))]) ++ [(q10, .inl (cI, 4, .inl (jA (fun _ => 0))))])) G hnm k_X9 tyX9 tyX9_ok nmX9 rfl rfl (by decide) q_14 rfl rfl rfl rfl rfl rfl (Nat.le_of_ble_eq_true rfl) rfl dX9_init_79 ?_
  refine v_aload_n (j := 0) (x := h0) G dX9_init_82 rfl rfl ?_
  refine v_sipush G dX9_init_83 (by decide) ?_
  refine v_newaL (n := 160) (N := 160) G q_15 rfl (by decide) ⟨Nat.le_of_ble_eq_true rfl, Nat.le_of_ble_eq_true rfl⟩ dX9_init_86 (fun q11 => ?_)
  refine v_putF (q0 := 0) (k := 15) (ty := .array .long) (ws' := ((((((((((([(h0, .inr (9, [.ref q1, .ref q2, .ref q3, .ref q4, .int 0, .ref q5, .ref q6, .ref q7, .ref q8, .int 0, .int 0, .int 0, .int 0, .ref q9, .ref q10, .ref q11, .null]))] ++ [(q1, .inl (cI, 93, .inl (jA (fun _ => 0))))]) ++ [(q2, .inl (cI, 93, .inl (jA (fun _ => 0))))]) ++ [(q3, .inl (cI, 93, .inl (jA (fun _ => 0))))]) ++ [(q4, .inl (cI, 93, .inl (jA (fun _ => 0))))]) ++ [(q5, .inl (cI, 7, .inl (jA (fun _ => 0))))]) ++ [(q6, .inl (cI, 16, .inl (jA (fun _ => 0))))]) ++ [(q7, .inl (cI, 16, .inl (jA (fun _ => 0))))]) ++ [(q8, .inl (cI, 120, .inl (jA (fun _ => 0))))]) ++ [(q9, .inl (cI, 4, .inl (jA (fun _ => 0))))]) ++ [(q10, .inl (cI, 4, .inl (jA (fun _ => 0))))]) ++ [(q11, .inl (cL, 160, .inr (.inl (jLA (fun _ => jL 0)))))])) G hnm k_X9 tyX9 tyX9_ok nmX9 rfl rfl (by decide) q_16 rfl rfl rfl rfl rfl rfl (Nat.le_of_ble_eq_true rfl) rfl dX9_init_88 ?_
  refine v_aload_n (j := 0) (x := h0) G dX9_init_91 rfl rfl ?_
  refine v_bipush G dX9_init_92 (by decide) ?_
  refine v_newaL (n := 40) (N := 40) G q_15 rfl (by decide) ⟨Nat.le_of_ble_eq_true rfl, Nat.le_of_ble_eq_true rfl⟩ dX9_init_94 (fun q12 => ?_)
  refine v_putF (q0 := 0) (k := 16) (ty := .array .long) (ws' := (((((((((((([(h0, .inr (9, [.ref q1, .ref q2, .ref q3, .ref q4, .int 0, .ref q5, .ref q6, .ref q7, .ref q8, .int 0, .int 0, .int 0, .int 0, .ref q9, .ref q10, .ref q11, .ref q12]))] ++ [(q1, .inl (cI, 93, .inl (jA (fun _ => 0))))]) ++ [(q2, .inl (cI, 93, .inl (jA (fun _ => 0))))]) ++ [(q3, .inl (cI, 93, .inl (jA (fun _ => 0))))]) ++ [(q4, .inl (cI, 93, .inl (jA (fun _ => 0))))]) ++ [(q5, .inl (cI, 7, .inl (jA (fun _ => 0))))]) ++ [(q6, .inl (cI, 16, .inl (jA (fun _ => 0))))]) ++ [(q7, .inl (cI, 16, .inl (jA (fun _ => 0))))]) ++ [(q8, .inl (cI, 120, .inl (jA (fun _ => 0))))]) ++ [(q9, .inl (cI, 4, .inl (jA (fun _ => 0))))]) ++ [(q10, .inl (cI, 4, .inl (jA (fun _ => 0))))]) ++ [(q11, .inl (cL, 160, .inr (.inl (jLA (fun _ => jL 0)))))]) ++ [(q12, .inl (cL, 40, .inr (.inl (jLA (fun _ => jL 0)))))])) G hnm k_X9 tyX9 tyX9_ok nmX9 rfl rfl (by decide) q_17 rfl rfl rfl rfl rfl rfl (Nat.le_of_ble_eq_true rfl) rfl dX9_init_96 ?_
  exact v_vret G (fun i => ([h0, q1, q2, q3, q4, q5, q6, q7, q8, q9, q10, q11, q12] : List Nat).getD i 0) rfl rfl dX9_init_99
end

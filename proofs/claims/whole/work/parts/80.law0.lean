/-! the law: state, relation, script -/
abbrev CT : Type := (Int) × (WT) × (WT) × (WT) × (GT) × ((Int → Int) × Int) × (Int) × (WT) × ((Int → Int) × (Int → Int) × (Int → Int) × Int) × (Int × Int × (Int → Int64)) × (Int × Int × (Int → Int64)) × (Int × Int × (Int → Int64)) × (Int × Int × (Int → Int64)) × ((Int → Int64) × (Int → Int)) × ((Int → Int) × (Int → Int)) × (Int → Int) × (Int → Int)
abbrev RT : Type := (Int → Int) × (Int → Int) × (Int → Int) × (Int → Int) × (Int) × (Int → Int) × (Int → Int) × (Int → Int) × (Int → Int) × (Int) × (Int) × (Int) × (Int) × (Int → Int) × (Int → Int) × (Int → Int64) × (Int → Int64)
def lwW (cI cL cB cS : ClassId) (a rr : Nat → Nat) (ct : CT) (rt : RT) : va_W := (gS  a ct.1 ++ gW cI (fun i => a (1 + i)) ct.2.1 ++ gW cI (fun i => a (11 + i)) ct.2.2.1 ++ gW cI (fun i => a (21 + i)) ct.2.2.2.1 ++ gG cI (fun i => a (31 + i)) ct.2.2.2.2.1 ++ gT cB (fun i => a (36 + i)) ct.2.2.2.2.2.1 ++ gN  a ct.2.2.2.2.2.2.1 ++ gW cI (fun i => a (60 + i)) ct.2.2.2.2.2.2.2.1 ++ gK cI (fun i => a (39 + i)) ct.2.2.2.2.2.2.2.2.1 ++ gH cS a  ++ gX cL (fun i => a (44 + i)) ct.2.2.2.2.2.2.2.2.2.1 ++ gX cL (fun i => a (46 + i)) ct.2.2.2.2.2.2.2.2.2.2.1 ++ gX cL (fun i => a (48 + i)) ct.2.2.2.2.2.2.2.2.2.2.2.1 ++ gX cL (fun i => a (50 + i)) ct.2.2.2.2.2.2.2.2.2.2.2.2.1 ++ gL cI cL (fun i => a (52 + i)) ct.2.2.2.2.2.2.2.2.2.2.2.2.2.1 ++ gY cI (fun i => a (55 + i)) ct.2.2.2.2.2.2.2.2.2.2.2.2.2.2.1 ++ gI cI a ct.2.2.2.2.2.2.2.2.2.2.2.2.2.2.2.1 ++ gF cI a ct.2.2.2.2.2.2.2.2.2.2.2.2.2.2.2.2 ++ wR cI cL rr rt.1 rt.2.1 rt.2.2.1 rt.2.2.2.1 rt.2.2.2.2.1 rt.2.2.2.2.2.1 rt.2.2.2.2.2.2.1 rt.2.2.2.2.2.2.2.1 rt.2.2.2.2.2.2.2.2.1 rt.2.2.2.2.2.2.2.2.2.1 rt.2.2.2.2.2.2.2.2.2.2.1 rt.2.2.2.2.2.2.2.2.2.2.2.1 rt.2.2.2.2.2.2.2.2.2.2.2.2.1 rt.2.2.2.2.2.2.2.2.2.2.2.2.2.1 rt.2.2.2.2.2.2.2.2.2.2.2.2.2.2.1 rt.2.2.2.2.2.2.2.2.2.2.2.2.2.2.2.1 rt.2.2.2.2.2.2.2.2.2.2.2.2.2.2.2.2)
def JJ (ct : CT) (rt : RT) : Prop := J1 rt.1 ct.2.1 ∧ J2 ct.2.2.2.2.2.2.2.2.2.2.2.2.2.2.2.2 rt.2.2.2.2.2.1 ∧ J3 ct.1 rt.2.2.2.2.1 rt.2.1 ct.2.2.1 ∧ J4 ct.2.2.2.2.2.1 rt.2.2.2.2.2.2.2.2.1 rt.2.2.2.2.2.2.2.2.2.1 ∧ J5 rt.2.2.2.2.2.2.2.2.2.2.2.2.2.1 rt.2.2.2.2.2.2.2.2.2.2.2.2.2.2.1 rt.2.2.2.2.2.2.2.2.2.2.2.2.2.2.2.1 ct.2.2.2.2.2.2.2.2.2.1 ct.2.2.2.2.2.2.2.2.2.2.1 ct.2.2.2.2.2.2.2.2.2.2.2.1 ct.2.2.2.2.2.2.2.2.2.2.2.2.1
theorem lg_eq {x y : Int64} (h : x = y) : lg_cmp x y = jI 0 := by
  subst h
  rw [lg_lc]
  have q := lc_z x x
  exact congrArg jI (by omega)
section
variable {p : Program} {l : Launch} {e : Env} {R : Room} {s : State} {m : MethodId} {args : Array Value} {below : List Frame} {meth : Method} {c : Code} {D : va_G} {tys : List (ClassId × FieldType)} {A : Nat → Prop} {cc : ByteArray} {nL cs sl : Nat} {own : String} {Ts : List Cond} {ret : Option FieldType} {Q : State → Prop} {pc : Nat} {lv : List (Nat × Value)} {st : List Value} {ws : va_W}
theorem v_sld (G : Gx p R s m args meth c D tys A cc nL own Ts ret) {b L : Nat} {xs : Nat → Int32} {z : Int} {v : Int32} (hX : va_X b L xs s s.heap) (hbl : b < s.heap.size) (hbA : ¬ A b) (hz : (0 ≤ z ∧ z < L) ∧ (L : Int) ≤ 3072) (hv : xs z.toNat = v) (d : decode cc pc = .ok (.iaload, 1)) (kk : V p l e R s m args below meth c D A nL cs sl Q (pc + 1) lv (.int v :: st) ws) : V p l e R s m args below meth c D A nL cs sl Q pc lv (.int (jI z) :: .ref b :: st) ws := by
  obtain ⟨hx, hb, hml, hown, hts, hr, hlk, hK, hE, hA⟩ := G
  intro H locs ls hP hD hS hl
  refine va_sld hx hb hX hbl hbA hS (jI_in hz.1.1 hz.1.2 (by omega)) d ?_
  rw [jI_clampN hz.1.1 (by omega), hv]
  exact kk H locs ls hP hD hS hl
theorem v_slen (G : Gx p R s m args meth c D tys A cc nL own Ts ret) {b L : Nat} {xs : Nat → Int32} (hX : va_X b L xs s s.heap) (hbl : b < s.heap.size) (hbA : ¬ A b) (d : decode cc pc = .ok (.arraylength, 1)) (kk : V p l e R s m args below meth c D A nL cs sl Q (pc + 1) lv (.int (jI (L : Int)) :: st) ws) : V p l e R s m args below meth c D A nL cs sl Q pc lv (.ref b :: st) ws := by
  obtain ⟨hx, hb, hml, hown, hts, hr, hlk, hK, hE, hA⟩ := G
  intro H locs ls hP hD hS hl
  refine va_slen hx hb hX hbl hbA hS d ?_
  have q : Int32.ofNat L = jI (L : Int) := Int32.ofInt_eq_ofNat.symm
  rw [q]
  exact kk H locs ls hP hD hS hl
end

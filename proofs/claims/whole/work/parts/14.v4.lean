section
variable {p : Program} {l : Launch} {e : Env} {R : Room} {s : State} {m : MethodId} {args : Array Value} {below : List Frame} {meth : Method} {c : Code} {D : va_G} {tys : List (ClassId × FieldType)} {A : Nat → Prop} {cc : ByteArray} {nL cs sl : Nat} {own : String} {Ts : List Cond} {ret : Option FieldType} {Q : State → Prop} {pc : Nat} {lv : List (Nat × Value)} {st : List Value} {ws : va_W}
/-- the paths of a fork meet again -/
theorem v_cut {pc' : Nat} {lv' : List (Nat × Value)} {st' : List Value} {ws' : va_W} (J : V p l e R s m args below meth c D A nL cs sl Q pc' lv' st' ws') (k : V p l e R s m args below meth c D A nL cs sl Q pc' lv' st' ws' → V p l e R s m args below meth c D A nL cs sl Q pc lv st ws) : V p l e R s m args below meth c D A nL cs sl Q pc lv st ws := k J
end
theorem jI_shrI {x k : Int} (hx : 0 ≤ x ∧ x ≤ 2147483647) (hk : 0 ≤ k ∧ k < 32) : jI x >>> (jI k &&& 31) = jI (x / 2 ^ k.toNat) := by
  have h := jI_shr k.toNat hx (by omega)
  rwa [Int.toNat_of_nonneg hk.1] at h
def cpN (f g : Int → Int) (n : Nat) : Int → Int := fun j => if j < n then f j else g j
theorem cpN_s (f g : Int → Int) (n : Nat) : ∀ j : Int, 0 ≤ j → uI (cpN f g n) (n : Int) (f (n : Int)) j = cpN f g (n + 1) j := by
  intro j h0
  by_cases h : j = (n : Int)
  · subst h; rw [uI_s]; unfold cpN; rw [if_pos (by omega)]
  · rw [uI_n _ _ h]
    unfold cpN
    by_cases h2 : j < (n : Int)
    · rw [if_pos h2, if_pos (by omega)]
    · rw [if_neg h2, if_neg (by omega)]

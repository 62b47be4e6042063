section
variable {p : Program} {l : Launch} {e : Env} {R : Room} {s : State} {m : MethodId} {args : Array Value} {below : List Frame} {meth : Method} {c : Code} {D : va_G} {tys : List (ClassId × FieldType)} {A : Nat → Prop} {cc : ByteArray} {nL cs sl : Nat} {own : String} {Ts : List Cond} {ret : Option FieldType} {Q : State → Prop} {pc : Nat} {lv : List (Nat × Value)} {st : List Value} {ws : va_W}
theorem pm_P {ws ws' : va_W} {H : Heap} (h : List.Perm ws ws') (hP : va_P D vwCl ws H) : va_P D vwCl ws' H := by
  intro k q hq
  obtain ⟨i, hi⟩ := List.getElem?_of_mem (h.mem_iff.mpr (List.mem_of_getElem? hq))
  exact hP i q hi
theorem pm_D {ws ws' : va_W} (h : List.Perm ws ws') (hD : va_D A ws) : va_D A ws' := by
  have h1 : ws.Pairwise (fun p q => p.1 ≠ q.1) := by
    rw [List.pairwise_iff_getElem]
    intro i j hi hj hij e
    have := hD.1 i j ws[i] ws[j] (List.getElem?_eq_getElem hi) (List.getElem?_eq_getElem hj) e
    omega
  have h2 : ws'.Pairwise (fun p q => p.1 ≠ q.1) := (h.pairwise_iff (fun {x y} z => Ne.symm z)).mp h1
  rw [List.pairwise_iff_getElem] at h2
  refine ⟨fun i j p q hi hj e => ?_, fun k q hk => ?_⟩
  · obtain ⟨i1, i2⟩ := List.getElem?_eq_some_iff.mp hi
    obtain ⟨j1, j2⟩ := List.getElem?_eq_some_iff.mp hj
    subst i2 j2
    rcases Nat.lt_trichotomy i j with q | q | q
    · exact absurd e (h2 i j i1 j1 q)
    · exact q
    · exact absurd e.symm (h2 j i j1 i1 q)
  · obtain ⟨i, hi⟩ := List.getElem?_of_mem (h.mem_iff.mpr (List.mem_of_getElem? hk))
    exact hD.2 i q hi
/-- the world in another order -/
theorem v_perm {ws' : va_W} (h : List.Perm ws ws') (kk : V p l e R s m args below meth c D A nL cs sl Q pc lv st ws') : V p l e R s m args below meth c D A nL cs sl Q pc lv st ws := fun H locs ls hP hD hS hl => kk H locs ls (pm_P h hP) (pm_D h hD) hS hl
/-- groups side by side -/
def gcat : List va_W → va_W
  | [] => []
  | g :: gs => gs.foldl (fun x y => x ++ y) g
theorem gcat_f (gs : List va_W) : gcat gs = gs.flatten := by
  have k : ∀ (gs : List va_W) (g : va_W), gs.foldl (fun x y => x ++ y) g = g ++ gs.flatten := by
    intro gs
    induction gs with
    | nil => intro g; simp
    | cons h gs ih => intro g; rw [List.foldl_cons, ih, List.flatten_cons, List.append_assoc]
  cases gs with
  | nil => rfl
  | cons g gs => show gs.foldl _ g = _; rw [k, List.flatten_cons]
theorem v_grp (Gs Hs : List va_W) {ws' : va_W} (h1 : ws = gcat Gs) (h2 : ws' = gcat Hs) (hp : List.Perm Gs Hs) (kk : V p l e R s m args below meth c D A nL cs sl Q pc lv st ws') : V p l e R s m args below meth c D A nL cs sl Q pc lv st ws := by
  refine v_perm ?_ kk
  rw [h1, h2, gcat_f, gcat_f]
  exact hp.flatten
def pmv {α : Type} : List Nat → List α → List α
  | [], gs => gs
  | i :: is, gs => match gs[i]? with
    | none => gs
    | some g => g :: pmv is (gs.eraseIdx i)
theorem er_p {α : Type} : ∀ (l : List α) (i : Nat) (g : α), l[i]? = some g → (g :: l.eraseIdx i).Perm l
  | [], i, g, h => by simp at h
  | a :: l, 0, g, h => by
    have h : some a = some g := h
    cases h
    exact List.Perm.refl _
  | a :: l, i + 1, g, h => by
    have h : l[i]? = some g := by simpa using h
    exact (List.Perm.swap a g _).trans ((er_p l i g h).cons a)
theorem pmv_p {α : Type} : ∀ (is : List Nat) (gs : List α), (pmv is gs).Perm gs := by
  intro is
  induction is with
  | nil => intro gs; exact List.Perm.refl _
  | cons i is ih =>
    intro gs
    unfold pmv
    cases h : gs[i]? with
    | none => exact List.Perm.refl _
    | some g =>
      exact ((ih (gs.eraseIdx i)).cons _).trans (er_p gs i _ h)
theorem nd_of {l : List Nat} (h : l.Nodup) : va_nd l = true := by
  induction l with
  | nil => rfl
  | cons a l ih =>
    rw [List.nodup_cons] at h
    unfold va_nd
    rw [ih h.2]
    simp [h.1]
theorem rg_l (x y : va_W) : (List.range x.length).map (fun i => (x ++ y)[i]?) = x.map some := by
  apply List.ext_getElem
  · simp
  · intro i h1 h2
    simp at h1
    simp [List.getElem?_append_left h1]
theorem rg_r (x y : va_W) : ((List.range y.length).map (fun i => x.length + i)).map (fun i => (x ++ y)[i]?) = y.map some := by
  apply List.ext_getElem
  · simp
  · intro i h1 h2
    simp at h1
    simp [List.getElem?_append_right]
theorem rg_all (x : va_W) : (List.range x.length).map (fun i => x[i]?) = x.map some := by
  have := rg_l x []
  simpa using this
theorem g_split {is : List Nat} {Gs Cs Rs : List va_W} (h : pmv is Gs = Cs ++ Rs) : (gcat Gs).Perm (gcat Cs ++ Rs.flatten) := by
  rw [gcat_f, gcat_f, ← List.flatten_append, ← h]
  exact (pmv_p is Gs).symm.flatten
theorem nd_map (n k : Nat) : ((List.range n).map (fun i => k + i)).Nodup := by
  rw [List.nodup_iff_pairwise_ne, List.pairwise_map]
  exact List.nodup_range.imp (fun h e => h (by omega))
/-- a call over some groups of the world -/
theorem v_ciG (G : Gx p R s m args meth c D tys A cc nL own Ts ret) {S : Type} {w1 w2 : S → va_W} {wc : va_W} {post : Int32 → S → Prop} {rest : List Value} {a : Array Value} (Gs Cs Rs : List va_W) (G2 C2 : S → List va_W) (is : List Nat) (hr1 : Rn p l e R s m args below meth c D A nL cs sl pc st rest wc (fun sz => va_Qi post (jB D w1 (va_A wc sz)) (va_A wc sz) a)) (h1 : ws = gcat Gs) (h2 : wc = gcat Cs) (h3 : pmv is Gs = Cs ++ Rs) (h4 : ∀ u, w1 u = gcat (C2 u)) (h5 : ∀ u, w2 u = gcat (G2 u)) (h6 : ∀ u, pmv is (G2 u) = C2 u ++ Rs) (kk : ∀ (r : Int32) (u : S), post r u → V p l e R s m args below meth c D A nL cs sl Q (pc + 3) lv (.int r :: rest) (w2 u)) : V p l e R s m args below meth c D A nL cs sl Q pc lv st ws := by
  refine v_perm (ws' := wc ++ Rs.flatten) (by rw [h1, h2]; exact g_split h3) ?_
  have hC := rg_l wc Rs.flatten
  have hR := rg_r wc Rs.flatten
  have n1 : va_nd (List.range wc.length) = true := nd_of List.nodup_range
  have n2 : va_nd ((List.range Rs.flatten.length).map (fun i => wc.length + i)) = true := nd_of (nd_map _ _)
  obtain ⟨hx, hb, hml, hown, hts, hr, hlk, hK, hE, hA⟩ := G
  intro H locs ls hP hD hS hl
  have hF := va_free (wc := wc) hD hS hA _ hC
  have hPc : va_P D vwCl wc H := hP.sub _ (jSub hC)
  have hDc : va_D A wc := hD.sub _ n1 hC
  refine va_calli (hr1 H locs ls hPc hDc hF hS hl.1) hS (fun q _ h => hF q h) hF (fun r u t H1 locs1 ht hvm hp hB hz hk hS1 => ?_)
  obtain ⟨hP1, hD1⟩ := hB
  rw [ht] at hP1
  obtain ⟨hP2, hD2⟩ := va_join hP hD _ _ hC hR n2 (fun i hi => by
    obtain ⟨x, x1, x2⟩ := List.mem_map.mp hi
    intro y
    have := List.mem_range.mp y
    omega) hk hF hP1 hD1
  have hp2 : List.Perm (Rs.flatten ++ w1 u) (w2 u) := by
    rw [h5, h4]
    exact List.perm_append_comm.trans (g_split (h6 u)).symm
  exact kk r u hp H1 locs1 ls (pm_P hp2 hP2) (pm_D hp2 hD2) hS1 hl
/-- a call over some groups of the world -/
theorem v_clG (G : Gx p R s m args meth c D tys A cc nL own Ts ret) {S : Type} {w1 w2 : S → va_W} {wc : va_W} {post : Int64 → S → Prop} {rest : List Value} {a : Array Value} (Gs Cs Rs : List va_W) (G2 C2 : S → List va_W) (is : List Nat) (hr1 : Rn p l e R s m args below meth c D A nL cs sl pc st rest wc (fun sz => va_Ql post (jB D w1 (va_A wc sz)) (va_A wc sz) a)) (h1 : ws = gcat Gs) (h2 : wc = gcat Cs) (h3 : pmv is Gs = Cs ++ Rs) (h4 : ∀ u, w1 u = gcat (C2 u)) (h5 : ∀ u, w2 u = gcat (G2 u)) (h6 : ∀ u, pmv is (G2 u) = C2 u ++ Rs) (kk : ∀ (r : Int64) (u : S), post r u → V p l e R s m args below meth c D A nL cs sl Q (pc + 3) lv (.long r :: rest) (w2 u)) : V p l e R s m args below meth c D A nL cs sl Q pc lv st ws := by
  refine v_perm (ws' := wc ++ Rs.flatten) (by rw [h1, h2]; exact g_split h3) ?_
  have hC := rg_l wc Rs.flatten
  have hR := rg_r wc Rs.flatten
  have n1 : va_nd (List.range wc.length) = true := nd_of List.nodup_range
  have n2 : va_nd ((List.range Rs.flatten.length).map (fun i => wc.length + i)) = true := nd_of (nd_map _ _)
  obtain ⟨hx, hb, hml, hown, hts, hr, hlk, hK, hE, hA⟩ := G
  intro H locs ls hP hD hS hl
  have hF := va_free (wc := wc) hD hS hA _ hC
  have hPc : va_P D vwCl wc H := hP.sub _ (jSub hC)
  have hDc : va_D A wc := hD.sub _ n1 hC
  refine va_calll (hr1 H locs ls hPc hDc hF hS hl.1) hS (fun q _ h => hF q h) hF (fun r u t H1 locs1 ht hvm hp hB hz hk hS1 => ?_)
  obtain ⟨hP1, hD1⟩ := hB
  rw [ht] at hP1
  obtain ⟨hP2, hD2⟩ := va_join hP hD _ _ hC hR n2 (fun i hi => by
    obtain ⟨x, x1, x2⟩ := List.mem_map.mp hi
    intro y
    have := List.mem_range.mp y
    omega) hk hF hP1 hD1
  have hp2 : List.Perm (Rs.flatten ++ w1 u) (w2 u) := by
    rw [h5, h4]
    exact List.perm_append_comm.trans (g_split (h6 u)).symm
  exact kk r u hp H1 locs1 ls (pm_P hp2 hP2) (pm_D hp2 hD2) hS1 hl
/-- a call over some groups of the world -/
theorem v_cvG (G : Gx p R s m args meth c D tys A cc nL own Ts ret) {S : Type} {w1 w2 : S → va_W} {wc : va_W} {post : S → Prop} {rest : List Value} {a : Array Value} (Gs Cs Rs : List va_W) (G2 C2 : S → List va_W) (is : List Nat) (hr1 : Rn p l e R s m args below meth c D A nL cs sl pc st rest wc (fun sz => va_Qv post (jB D w1 (va_A wc sz)) (va_A wc sz) a)) (h1 : ws = gcat Gs) (h2 : wc = gcat Cs) (h3 : pmv is Gs = Cs ++ Rs) (h4 : ∀ u, w1 u = gcat (C2 u)) (h5 : ∀ u, w2 u = gcat (G2 u)) (h6 : ∀ u, pmv is (G2 u) = C2 u ++ Rs) (kk : ∀ (u : S), post u → V p l e R s m args below meth c D A nL cs sl Q (pc + 3) lv rest (w2 u)) : V p l e R s m args below meth c D A nL cs sl Q pc lv st ws := by
  refine v_perm (ws' := wc ++ Rs.flatten) (by rw [h1, h2]; exact g_split h3) ?_
  have hC := rg_l wc Rs.flatten
  have hR := rg_r wc Rs.flatten
  have n1 : va_nd (List.range wc.length) = true := nd_of List.nodup_range
  have n2 : va_nd ((List.range Rs.flatten.length).map (fun i => wc.length + i)) = true := nd_of (nd_map _ _)
  obtain ⟨hx, hb, hml, hown, hts, hr, hlk, hK, hE, hA⟩ := G
  intro H locs ls hP hD hS hl
  have hF := va_free (wc := wc) hD hS hA _ hC
  have hPc : va_P D vwCl wc H := hP.sub _ (jSub hC)
  have hDc : va_D A wc := hD.sub _ n1 hC
  refine va_callv (hr1 H locs ls hPc hDc hF hS hl.1) hS (fun q _ h => hF q h) hF (fun u t H1 locs1 ht hvm hp hB hz hk hS1 => ?_)
  obtain ⟨hP1, hD1⟩ := hB
  rw [ht] at hP1
  obtain ⟨hP2, hD2⟩ := va_join hP hD _ _ hC hR n2 (fun i hi => by
    obtain ⟨x, x1, x2⟩ := List.mem_map.mp hi
    intro y
    have := List.mem_range.mp y
    omega) hk hF hP1 hD1
  have hp2 : List.Perm (Rs.flatten ++ w1 u) (w2 u) := by
    rw [h5, h4]
    exact List.perm_append_comm.trans (g_split (h6 u)).symm
  exact kk u hp H1 locs1 ls (pm_P hp2 hP2) (pm_D hp2 hD2) hS1 hl
end

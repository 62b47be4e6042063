section
variable {l : Launch} {D : va_G} {cI cL cB cS : ClassId} {a : Nat → Nat} {w kp bf ah fd sp lt tp bt lg : Int → Int} {ik tn he ft vl : Int} {ce bw : Int → Int64}
def onI (x : Int32) : Nat → Int
  | 0 => 0
  | k + 1 => onI x k + (if (x.toUInt32 >>> ((jI (k : Int)).toUInt32 &&& Int32.toUInt32 31)).toInt32 &&& jI 1 = jI 1 then 1 else 0)
theorem bit01 (y : Int32) : y &&& jI 1 = jI (if y &&& jI 1 = jI 1 then 1 else 0) := by
  obtain ⟨j, hj, e⟩ := pk_andE y (m := jI 1) 1 (by decide)
  have h : j = 0 ∨ j = 1 := by omega
  rcases h with rfl | rfl
  · rw [e]; decide
  · rw [e]; decide
theorem onesN_j (x : Int32) : ∀ k : Nat, onesN x k = jI (onI x k) := by
  intro k
  induction k with
  | zero => rfl
  | succ k ih =>
    show onesN x k + _ = jI (onI x k + _)
    rw [ih]
    exact (congrArg (fun z => jI (onI x k) + z) (bit01 _)).trans (jI_add _ _)
theorem onI_r (x : Int32) : ∀ k : Nat, 0 ≤ onI x k ∧ onI x k ≤ k := by
  intro k
  induction k with
  | zero => exact ⟨Int.le_refl 0, Int.le_refl 0⟩
  | succ k ih => unfold onI; split <;> omega
/-- steps to the end, as they are told -/
def st0 (lt : Int → Int) (t v : Int) : Int → Int := fun j => if j = t ∧ lt j ≤ v then 0 else -1
def stQ (lt : Int → Int) (v : Int) (g : Int → Int) (n p : Int) : Nat → (Int → Int)
  | 0 => g
  | q + 1 => uI (stQ lt v g n p q) (q : Int) (if (stQ lt v g n p q) p = n ∧ apt p (q : Int) = 1 ∧ (stQ lt v g n p q) (q : Int) < 0 ∧ lt (q : Int) ≤ v then n + 1 else (stQ lt v g n p q) (q : Int))
def stP (lt : Int → Int) (v : Int) (g : Int → Int) (n : Int) : Nat → (Int → Int)
  | 0 => g
  | p + 1 => stQ lt v (stP lt v g n p) n (p : Int) 16
def stO (lt : Int → Int) (v : Int) (g : Int → Int) : Nat → (Int → Int)
  | 0 => g
  | n + 1 => stP lt v (stO lt v g n) (n : Int) 16
def sSt (lt : Int → Int) (t v : Int) : Int → Int := stO lt v (st0 lt t v) 16
def rgS (g : Int → Int) : Prop := ∀ j : Int, 0 ≤ j → j < 16 → -1 ≤ g j ∧ g j ≤ 16
theorem st0_r (lt : Int → Int) (t v : Int) : rgS (st0 lt t v) := by
  intro j _ _
  unfold st0
  split <;> omega
theorem stQ_r (lt : Int → Int) (v : Int) {g : Int → Int} (h : rgS g) (n : Nat) (hn : n < 16) (p : Int) : ∀ q : Nat, rgS (stQ lt v g (n : Int) p q) := by
  intro q
  induction q with
  | zero => exact h
  | succ q ih =>
    intro j h0 h1
    have i := ih j h0 h1
    show -1 ≤ uI _ _ _ j ∧ uI _ _ _ j ≤ 16
    unfold uI
    split
    · rename_i e
      subst e
      split <;> omega
    · exact i
theorem stP_r (lt : Int → Int) (v : Int) {g : Int → Int} (h : rgS g) (n : Nat) (hn : n < 16) : ∀ p : Nat, rgS (stP lt v g (n : Int) p) := by
  intro p
  induction p with
  | zero => exact h
  | succ p ih => exact stQ_r lt v ih n hn (p : Int) 16
theorem stO_r (lt : Int → Int) (v : Int) {g : Int → Int} (h : rgS g) : ∀ n : Nat, n ≤ 16 → rgS (stO lt v g n) := by
  intro n
  induction n with
  | zero => intro _; exact h
  | succ n ih => intro hn; exact stP_r lt v (ih (by omega)) n (by omega) 16
theorem sSt_r (lt : Int → Int) (t v x : Int) (h0 : 0 ≤ x) (h1 : x < 16) : -1 ≤ sSt lt t v x ∧ sSt lt t v x ≤ 16 := stO_r lt v (st0_r lt t v) 16 (by omega) x h0 h1
theorem apt_c (a b : Int) : apt a b = apt b a := by
  have h1 := jabs_z (a / 4 - b / 4)
  have h2 := jabs_z (a % 4 - b % 4)
  have h3 := jabs_z (b / 4 - a / 4)
  have h4 := jabs_z (b % 4 - a % 4)
  unfold apt
  omega
/-- each place but the end has one before it -/
def pdS (g : Int → Int) : Prop := ∀ j : Int, 0 ≤ j → j < 16 → 0 < g j → ∃ z : Int, 0 ≤ z ∧ z < 16 ∧ apt j z = 1 ∧ g z = g j - 1
theorem st0_p (lt : Int → Int) (t v : Int) : pdS (st0 lt t v) := by
  intro j _ _ h
  unfold st0 at h
  split at h <;> omega
theorem stQ_p (lt : Int → Int) (v : Int) {g : Int → Int} (h : pdS g) (n : Nat) (p : Int) (hp : 0 ≤ p ∧ p < 16) : ∀ q : Nat, q ≤ 16 → pdS (stQ lt v g (n : Int) p q) := by
  intro q
  induction q with
  | zero => intro _; exact h
  | succ q ih =>
    intro hq j h0 h1 hj
    have i := ih (by omega)
    generalize hg : stQ lt v g (n : Int) p q = k at i
    have e : stQ lt v g (n : Int) p (q + 1) = uI k (q : Int) (if k p = (n : Int) ∧ apt p (q : Int) = 1 ∧ k (q : Int) < 0 ∧ lt (q : Int) ≤ v then (n : Int) + 1 else k (q : Int)) := by rw [← hg]; rfl
    rw [e] at hj ⊢
    by_cases c : k p = (n : Int) ∧ apt p (q : Int) = 1 ∧ k (q : Int) < 0 ∧ lt (q : Int) ≤ v
    · rw [if_pos c] at hj ⊢
      by_cases hjq : j = (q : Int)
      · subst hjq
        have hpq : p ≠ (q : Int) := by intro z; rw [z] at c; omega
        refine ⟨p, hp.1, hp.2, by rw [apt_c]; exact c.2.1, ?_⟩
        rw [uI_s, uI_n _ _ hpq]
        omega
      · rw [uI_n _ _ hjq] at hj
        obtain ⟨z, z0, z1, z2, z3⟩ := i j h0 h1 hj
        have hzq : z ≠ (q : Int) := by intro y; rw [y] at z3; omega
        refine ⟨z, z0, z1, z2, ?_⟩
        rw [uI_n _ _ hzq, uI_n _ _ hjq]
        exact z3
    · rw [if_neg c] at hj ⊢
      have same : ∀ y : Int, uI k (q : Int) (k (q : Int)) y = k y := by
        intro y
        unfold uI
        split
        · rename_i e2; rw [e2]
        · rfl
      rw [same] at hj
      obtain ⟨z, z0, z1, z2, z3⟩ := i j h0 h1 hj
      exact ⟨z, z0, z1, z2, by rw [same, same]; exact z3⟩
theorem sSt_p (lt : Int → Int) (t v x : Int) (h0 : 0 ≤ x) (h1 : x < 16) (h : 0 < sSt lt t v x) : ∃ z : Int, 0 ≤ z ∧ z < 16 ∧ apt x z = 1 ∧ sSt lt t v z = sSt lt t v x - 1 := by
  have kP : ∀ (g : Int → Int), pdS g → ∀ (n p : Nat), p ≤ 16 → pdS (stP lt v g (n : Int) p) := by
    intro g hg n p
    induction p with
    | zero => intro _; exact hg
    | succ p ih => intro hp; exact stQ_p lt v (ih (by omega)) n (p : Int) ⟨by omega, by omega⟩ 16 (by omega)
  have kO : ∀ n : Nat, pdS (stO lt v (st0 lt t v) n) := by
    intro n
    induction n with
    | zero => exact st0_p lt t v
    | succ n ih => exact kP _ ih n 16 (by omega)
  exact kO 16 x h0 h1 h
def blN (f : Int → Int) (x t : Int) : Nat → Int
  | 0 => -1
  | k + 1 => if 0 ≤ sSt f t (f (k : Int)) x ∧ (blN f x t k < 0 ∨ f (k : Int) < blN f x t k) then f (k : Int) else blN f x t k
theorem blN_r {f : Int → Int} (x t : Int) (h : ∀ j : Int, 0 ≤ j → j < 16 → 0 ≤ f j ∧ f j ≤ 3069) : ∀ k : Nat, k ≤ 16 → -1 ≤ blN f x t k ∧ blN f x t k ≤ 3069 := by
  intro k
  induction k with
  | zero => intro _; exact ⟨Int.le_refl _, by show (-1 : Int) ≤ 3069; omega⟩
  | succ k ih =>
    intro hk
    have i := ih (by omega)
    have j := h (k : Int) (by omega) (by omega)
    unfold blN
    split <;> omega
theorem lsg_s {P : Nat → Prop} {N n x : Nat} (hn : n < N) (h : ¬ P n) (e : lstN P (N - n) n = x) : lstN P (N - (n + 1)) (n + 1) = x := by
  rw [show N - n = (N - (n + 1)) + 1 by omega] at e
  rw [← e]
  exact (if_neg h).symm
theorem lsg_i {P : Nat → Prop} {N n x : Nat} (e : lstN P (N - n) n = x) (hn : n < N) (h : P n) : x = n := by
  rw [show N - n = (N - (n + 1)) + 1 by omega] at e
  rw [← e]
  exact if_pos h
/-- the most, and where it is first -/
def msN (f : Int → Int) : Nat → Int
  | 0 => -1
  | k + 1 => if msN f k < f (k : Int) then f (k : Int) else msN f k
def bsN (f : Int → Int) : Nat → Int
  | 0 => 0
  | k + 1 => if msN f k < f (k : Int) then (k : Int) else bsN f k
theorem msN_r {f : Int → Int} {c : Int} (hc : 0 ≤ c) (h : ∀ j : Int, 0 ≤ f j ∧ f j ≤ c) : ∀ k : Nat, -1 ≤ msN f k ∧ msN f k ≤ c := by
  intro k
  induction k with
  | zero => exact ⟨Int.le_refl _, by show (-1 : Int) ≤ c; omega⟩
  | succ k ih => have j := h (k : Int); unfold msN; split <;> omega
def lsN (f : Int → Int) (c : Int) : Nat → Int
  | 0 => c
  | k + 1 => if f (k : Int) < lsN f c k then f (k : Int) else lsN f c k
def nsN (f : Int → Int) (c : Int) : Nat → Int
  | 0 => -1
  | k + 1 => if f (k : Int) < lsN f c k then (k : Int) else nsN f c k
theorem lsN_r {f : Int → Int} {c d : Int} (hc : 0 ≤ c ∧ c ≤ d) (h : ∀ j : Int, 0 ≤ f j ∧ f j ≤ d) : ∀ k : Nat, 0 ≤ lsN f c k ∧ lsN f c k ≤ d := by
  intro k
  induction k with
  | zero => exact hc
  | succ k ih => have j := h (k : Int); unfold lsN; split <;> omega
theorem nsN_r (f : Int → Int) (c : Int) : ∀ k : Nat, -1 ≤ nsN f c k ∧ nsN f c k < k + 1 := by
  intro k
  induction k with
  | zero => exact ⟨Int.le_refl _, by show (-1 : Int) < ((0 : Nat) : Int) + 1; omega⟩
  | succ k ih => unfold nsN; split <;> omega
def fdN (g : Int → Int) (v : Int) : Nat → Int
  | 0 => -1
  | k + 1 => if g (99 - (k : Int)) = v then 99 - (k : Int) else fdN g v k
theorem fdN_r (g : Int → Int) (v : Int) : ∀ k : Nat, k ≤ 100 → -1 ≤ fdN g v k ∧ fdN g v k ≤ 99 := by
  intro k
  induction k with
  | zero => intro _; exact ⟨Int.le_refl _, by show (-1 : Int) ≤ 99; omega⟩
  | succ k ih => intro hk; have i := ih (by omega); unfold fdN; split <;> omega
theorem eatW_0 {w : Int → Int} {b v : Int} (hb : 0 ≤ b) : eatW w b v 0 = w 0 := by
  unfold eatW
  rw [uI_n _ _ (by omega), uI_n _ _ (by omega)]
set_option maxHeartbeats 4000000 in
theorem c_X9_onesJ (x : Int32)  : Ci l yX9_ones wsX9_ones { frames := 0, cells := 0, slots := 0, locals := 0 } D (jT cI cL cB cS) [.int x] [] (S := Unit) (fun _ => []) (fun r _ => r = jI (onI x 32)) := by
  have h := c_X9_ones (l := l) (D := D) (cI := cI) (cL := cL) (cB := cB) (cS := cS) x
  rw [onesN_j] at h
  exact h

set_option maxHeartbeats 4000000 in
set_option maxRecDepth 100000 in
theorem c_X9_tellsLights  (hw : Wf w) : Cv l yX9_tellsLights wsX9_tellsLights { frames := 5, cells := 0, slots := 0, locals := 113 } D (jT cI cL cB cS) [.ref (a 0)] (wR cI cL a w kp bf ah ik fd sp lt tp tn he ft vl bt lg ce bw) (S := Unit) (fun _ => (wR cI cL a w kp bf ah ik fd sp (sLt w) tp tn he ft vl bt lg ce bw)) (fun _ => True) := by
  refine Cv.mk (cc := cX9_tellsLights) (maxL := 2) (by decide) rfl (Nat.le_of_ble_eq_true rfl) rfl ?_
  intro p_ e_ s_ m_ b_ me_ c_ A_ G hnm
  have k_X9 : ∀ w ∈ u_ws RX9 TX9 17, w ∈ wsX9_tellsLights := fun _ h => List.mem_cons_of_mem _ (List.mem_append_right _ h)
  have q_1 : Cond.fieldLink RX9 28 "SupperLightModel" "lights" "[I" ∈ wsX9_tellsLights := List.mem_of_getElem? (i := 1) rfl
  refine v_iconst G dX9_tellsLights_0 ?_
  refine v_istore_n (lv' := [(1, .int (jI 0)), (0, .ref (a 0))]) G dX9_tellsLights_1 rfl (by decide) rfl ?_
  refine v_cell (q0 := 7) (g := lt) (g' := cpN (sLt w) lt 0) (ws' := (wR cI cL a w kp bf ah ik fd sp (cpN (sLt w) lt 0) tp tn he ft vl bt lg ce bw)) rfl (fun j h0 _ => by unfold cpN; rw [if_neg (by omega)]) rfl ?_
  refine v_locs (lv' := [(1, .int (jI 0)), (0, .ref (a 0))]) [0, 1] rfl ?_
  refine v_loop1 (fun (k : Nat) => [(1, .int (jI (k : Int))), (0, .ref (a 0))]) (fun (k : Nat) => (wR cI cL a w kp bf ah ik fd sp (cpN (sLt w) lt k) tp tn he ft vl bt lg ce bw)) (fun (k : Nat) => (k : Int) ≤ 16) (fun (k : Nat) => 16 - k) 0 (by decide) rfl rfl ?_
  intro k I_1 ih_2
  refine v_iload_n (j := 0) (x := jI (k : Int)) G dX9_tellsLights_2 rfl rfl ?_
  refine v_bipush G dX9_tellsLights_3 (by decide) ?_
  refine v_icmp_ge (a := (k : Int)) (b := 16) (tgt := 25) G dX9_tellsLights_5 (by decide) (by omega) (fun c_3 => ?_) (fun c_3 => ?_)
  · skip
    refine v_cell (q0 := 7) (g := cpN (sLt w) lt k) (g' := sLt w) (ws' := (wR cI cL a w kp bf ah ik fd sp (sLt w) tp tn he ft vl bt lg ce bw)) rfl (fun j h0 _ => by unfold cpN; rw [if_pos (by omega)]) rfl ?_
    exact v_vret G () trivial rfl dX9_tellsLights_25
  · skip
    refine v_aload_n (j := 1) (x := a 0) G dX9_tellsLights_8 rfl rfl ?_
    refine v_get (q0 := 0) (k := 7) (v := .ref (a 7)) G k_X9 rfl rfl (by decide) q_1 rfl rfl dX9_tellsLights_9 ?_
    refine v_iload_n (j := 0) (x := jI (k : Int)) G dX9_tellsLights_12 rfl rfl ?_
    refine v_aload_n (j := 1) (x := a 0) G dX9_tellsLights_13 rfl rfl ?_
    refine v_iload_n (j := 0) (x := jI (k : Int)) G dX9_tellsLights_14 rfl rfl ?_
    refine v_ciF G (rn_V (As := [.int (jI (k : Int))]) (rest := [.int (jI (k : Int)), .ref (a 7)]) (q0 := 0) G (c_X9_lightOf (p := (k : Int)) (w := w) (kp := kp) (bf := bf) (ah := ah) (ik := ik) (fd := fd) (sp := sp) (lt := cpN (sLt w) lt k) (tp := tp) (tn := tn) (he := he) (ft := ft) (vl := vl) (bt := bt) (lg := lg) (ce := ce) (bw := bw) (a := a) (hw := hw) (hp := (by omega))) gX9_tellsLights_X9_lightOf rfl hdX9_lightOf ⟨rfl, rfl, Nat.le_of_ble_eq_true rfl, Nat.le_of_ble_eq_true rfl⟩ rfl rfl (Nat.le_of_ble_eq_true rfl) ⟨Nat.zero_le _, Nat.zero_le _⟩ rfl rfl dX9_tellsLights_15) (fun r_4 u_6 e_5 => ?_)
    have e_5 : r_4 = jI (sLt w (k : Int)) := e_5
    subst e_5
    refine v_world (ws' := (wR cI cL a w kp bf ah ik fd sp (cpN (sLt w) lt k) tp tn he ft vl bt lg ce bw)) rfl ?_
    refine v_iast (q0 := 7) (t0 := 0) (g := (cpN (sLt w) lt k)) (z := (k : Int)) (x := sLt w (k : Int)) (ws' := (wR cI cL a w kp bf ah ik fd sp (uI (cpN (sLt w) lt k) (k : Int) (sLt w (k : Int))) tp tn he ft vl bt lg ce bw)) G rfl rfl (by omega) rfl dX9_tellsLights_18 ?_
    refine v_cell (q0 := 7) (g := uI (cpN (sLt w) lt k) (k : Int) (sLt w (k : Int))) (g' := cpN (sLt w) lt (k + 1)) (ws' := (wR cI cL a w kp bf ah ik fd sp (cpN (sLt w) lt (k + 1)) tp tn he ft vl bt lg ce bw)) rfl (fun j h0 _ => cpN_s (sLt w) lt k j h0) rfl ?_
    refine v_iinc (k := 0) (z := (k : Int)) (z' := ((k + 1 : Nat) : Int)) (lv' := [(1, .int (jI ((k + 1 : Nat) : Int))), (0, .ref (a 0))]) G dX9_tellsLights_19 rfl (by omega) (by decide) rfl ?_
    refine v_goto (tgt := 2) G dX9_tellsLights_22 (by decide) ?_
    exact ih_2 (k + 1) (by omega) (by omega)

set_option maxHeartbeats 4000000 in
set_option maxRecDepth 100000 in
theorem c_X9_tellsSteps (t v : Int) (ht : (0 ≤ t ∧ t ≤ 15) ∧ (-2147483648 ≤ v ∧ v ≤ 2147483647)) (hl : ∀ j : Int, 0 ≤ j → j < 16 → 0 ≤ lt j ∧ lt j ≤ 100000) : Cv l yX9_tellsSteps wsX9_tellsSteps { frames := 1, cells := 0, slots := 0, locals := 23 } D (jT cI cL cB cS) [.ref (a 0), .int (jI t), .int (jI v)] (wR cI cL a w kp bf ah ik fd sp lt tp tn he ft vl bt lg ce bw) (S := Unit) (fun _ => (wR cI cL a w kp bf ah ik fd (sSt lt t v) lt tp tn he ft vl bt lg ce bw)) (fun _ => True) := by
  refine Cv.mk (cc := cX9_tellsSteps) (maxL := 6) (by decide) rfl (Nat.le_of_ble_eq_true rfl) rfl ?_
  intro p_ e_ s_ m_ b_ me_ c_ A_ G hnm
  have k_X9 : ∀ w ∈ u_ws RX9 TX9 17, w ∈ wsX9_tellsSteps := fun _ h => List.mem_cons_of_mem _ (List.mem_append_right _ h)
  have q_1 : Cond.fieldLink RX9 25 "SupperLightModel" "steps" "[I" ∈ wsX9_tellsSteps := List.mem_of_getElem? (i := 1) rfl
  have q_2 : Cond.fieldLink RX9 28 "SupperLightModel" "lights" "[I" ∈ wsX9_tellsSteps := List.mem_of_getElem? (i := 2) rfl
  refine v_iconst G dX9_tellsSteps_0 ?_
  refine v_istore_n (lv' := [(3, .int (jI 0)), (0, .ref (a 0)), (1, .int (jI t)), (2, .int (jI v))]) G dX9_tellsSteps_1 rfl (by decide) rfl ?_
  refine v_cell (q0 := 6) (g := sp) (g' := cpN (st0 lt t v) sp 0) (ws' := (wR cI cL a w kp bf ah ik fd (cpN (st0 lt t v) sp 0) lt tp tn he ft vl bt lg ce bw)) rfl (fun j h0 _ => by unfold cpN; rw [if_neg (by omega)]) rfl ?_
  refine v_locs (lv' := [(3, .int (jI 0)), (0, .ref (a 0)), (1, .int (jI t)), (2, .int (jI v))]) [0, 1, 2, 3] rfl ?_
  refine v_loop1 (fun (k : Nat) => [(3, .int (jI (k : Int))), (0, .ref (a 0)), (1, .int (jI t)), (2, .int (jI v))]) (fun (k : Nat) => (wR cI cL a w kp bf ah ik fd (cpN (st0 lt t v) sp k) lt tp tn he ft vl bt lg ce bw)) (fun (k : Nat) => (k : Int) ≤ 16) (fun (k : Nat) => 16 - k) 0 (by decide) rfl rfl ?_
  intro k I_1 ih_2
  refine v_iload_n (j := 0) (x := jI (k : Int)) G dX9_tellsSteps_2 rfl rfl ?_
  refine v_bipush G dX9_tellsSteps_3 (by decide) ?_
  refine v_icmp_ge (a := (k : Int)) (b := 16) (tgt := 40) G dX9_tellsSteps_5 (by decide) (by omega) (fun c_3 => ?_) (fun c_3 => ?_)
  · skip
    obtain rfl : k = 16 := by omega
    refine v_cell (q0 := 6) (g := cpN (st0 lt t v) sp 16) (g' := stO lt v (st0 lt t v) 0) (ws' := (wR cI cL a w kp bf ah ik fd (stO lt v (st0 lt t v) 0) lt tp tn he ft vl bt lg ce bw)) rfl (fun j h0 _ => by unfold cpN; rw [if_pos (by omega)]; rfl) rfl ?_
    refine v_iconst G dX9_tellsSteps_40 ?_
    refine v_istore_n (lv' := [(3, .int (jI 0)), (0, .ref (a 0)), (1, .int (jI t)), (2, .int (jI v))]) G dX9_tellsSteps_41 rfl (by decide) rfl ?_
    refine v_locs (lv' := [(3, .int (jI 0)), (0, .ref (a 0)), (1, .int (jI t)), (2, .int (jI v))]) [0, 1, 2, 3] rfl ?_
    refine v_loop1 (fun (n : Nat) => [(3, .int (jI (n : Int))), (0, .ref (a 0)), (1, .int (jI t)), (2, .int (jI v))]) (fun (n : Nat) => (wR cI cL a w kp bf ah ik fd (stO lt v (st0 lt t v) n) lt tp tn he ft vl bt lg ce bw)) (fun (n : Nat) => (n : Int) ≤ 16) (fun (n : Nat) => 16 - n) 0 (by decide) rfl rfl ?_
    intro n I_4 ih_5
    refine v_iload_n (j := 0) (x := jI (n : Int)) G dX9_tellsSteps_42 rfl rfl ?_
    refine v_bipush G dX9_tellsSteps_43 (by decide) ?_
    refine v_icmp_ge (a := (n : Int)) (b := 16) (tgt := 149) G dX9_tellsSteps_45 (by decide) (by omega) (fun c_6 => ?_) (fun c_6 => ?_)
    · skip
      obtain rfl : n = 16 := by omega
      refine v_world (ws' := (wR cI cL a w kp bf ah ik fd (sSt lt t v) lt tp tn he ft vl bt lg ce bw)) rfl ?_
      exact v_vret G () trivial rfl dX9_tellsSteps_149
    · skip
      refine v_iconst G dX9_tellsSteps_48 ?_
      refine v_istore (lv' := [(4, .int (jI 0)), (3, .int (jI (n : Int))), (0, .ref (a 0)), (1, .int (jI t)), (2, .int (jI v))]) G dX9_tellsSteps_49 (by decide) rfl ?_
      refine v_world (ws' := (wR cI cL a w kp bf ah ik fd (stP lt v (stO lt v (st0 lt t v) n) (n : Int) 0) lt tp tn he ft vl bt lg ce bw)) rfl ?_
      refine v_locs (lv' := [(4, .int (jI 0)), (3, .int (jI (n : Int))), (0, .ref (a 0)), (1, .int (jI t)), (2, .int (jI v))]) [0, 1, 2, 3, 4] rfl ?_
      refine v_loop1 (fun (x : Nat) => [(4, .int (jI (x : Int))), (3, .int (jI (n : Int))), (0, .ref (a 0)), (1, .int (jI t)), (2, .int (jI v))]) (fun (x : Nat) => (wR cI cL a w kp bf ah ik fd (stP lt v (stO lt v (st0 lt t v) n) (n : Int) x) lt tp tn he ft vl bt lg ce bw)) (fun (x : Nat) => (x : Int) ≤ 16) (fun (x : Nat) => 16 - x) 0 (by decide) rfl rfl ?_
      intro x I_7 ih_8
      refine v_iload (j := 0) (x := jI (x : Int)) G dX9_tellsSteps_51 rfl ?_
      refine v_bipush G dX9_tellsSteps_53 (by decide) ?_
      refine v_icmp_ge (a := (x : Int)) (b := 16) (tgt := 143) G dX9_tellsSteps_55 (by decide) (by omega) (fun c_9 => ?_) (fun c_9 => ?_)
      · skip
        obtain rfl : x = 16 := by omega
        refine v_world (ws' := (wR cI cL a w kp bf ah ik fd (stO lt v (st0 lt t v) (n + 1)) lt tp tn he ft vl bt lg ce bw)) rfl ?_
        refine v_iinc (k := 1) (z := (n : Int)) (z' := ((n + 1 : Nat) : Int)) (lv' := [(3, .int (jI ((n + 1 : Nat) : Int))), (4, .int (jI (16 : Int))), (0, .ref (a 0)), (1, .int (jI t)), (2, .int (jI v))]) G dX9_tellsSteps_143 rfl (by omega) (by decide) rfl ?_
        refine v_goto (tgt := 42) G dX9_tellsSteps_146 (by decide) ?_
        refine v_locs (lv' := [(3, .int (jI ((n + 1 : Nat) : Int))), (0, .ref (a 0)), (1, .int (jI t)), (2, .int (jI v))]) [0, 2, 3, 4] rfl ?_
        exact ih_5 (n + 1) (by omega) (by omega)
      · skip
        refine v_iconst G dX9_tellsSteps_58 ?_
        refine v_istore (lv' := [(5, .int (jI 0)), (4, .int (jI (x : Int))), (3, .int (jI (n : Int))), (0, .ref (a 0)), (1, .int (jI t)), (2, .int (jI v))]) G dX9_tellsSteps_59 (by decide) rfl ?_
        refine v_world (ws' := (wR cI cL a w kp bf ah ik fd (stQ lt v (stP lt v (stO lt v (st0 lt t v) n) (n : Int) x) (n : Int) (x : Int) 0) lt tp tn he ft vl bt lg ce bw)) rfl ?_
        refine v_locs (lv' := [(5, .int (jI 0)), (4, .int (jI (x : Int))), (3, .int (jI (n : Int))), (0, .ref (a 0)), (1, .int (jI t)), (2, .int (jI v))]) [0, 1, 2, 3, 4, 5] rfl ?_
        refine v_loop1 (fun (y : Nat) => [(5, .int (jI (y : Int))), (4, .int (jI (x : Int))), (3, .int (jI (n : Int))), (0, .ref (a 0)), (1, .int (jI t)), (2, .int (jI v))]) (fun (y : Nat) => (wR cI cL a w kp bf ah ik fd (stQ lt v (stP lt v (stO lt v (st0 lt t v) n) (n : Int) x) (n : Int) (x : Int) y) lt tp tn he ft vl bt lg ce bw)) (fun (y : Nat) => (y : Int) ≤ 16) (fun (y : Nat) => 16 - y) 0 (by decide) rfl rfl ?_
        intro y I_10 ih_11
        refine v_iload (j := 0) (x := jI (y : Int)) G dX9_tellsSteps_61 rfl ?_
        refine v_bipush G dX9_tellsSteps_63 (by decide) ?_
        refine v_icmp_ge (a := (y : Int)) (b := 16) (tgt := 137) G dX9_tellsSteps_65 (by decide) (by omega) (fun c_12 => ?_) (fun c_12 => ?_)
        · skip
          obtain rfl : y = 16 := by omega
          refine v_world (ws' := (wR cI cL a w kp bf ah ik fd (stP lt v (stO lt v (st0 lt t v) n) (n : Int) (x + 1)) lt tp tn he ft vl bt lg ce bw)) rfl ?_
          refine v_iinc (k := 1) (z := (x : Int)) (z' := ((x + 1 : Nat) : Int)) (lv' := [(4, .int (jI ((x + 1 : Nat) : Int))), (5, .int (jI (16 : Int))), (3, .int (jI (n : Int))), (0, .ref (a 0)), (1, .int (jI t)), (2, .int (jI v))]) G dX9_tellsSteps_137 rfl (by omega) (by decide) rfl ?_
          refine v_goto (tgt := 51) G dX9_tellsSteps_140 (by decide) ?_
          refine v_locs (lv' := [(4, .int (jI ((x + 1 : Nat) : Int))), (3, .int (jI (n : Int))), (0, .ref (a 0)), (1, .int (jI t)), (2, .int (jI v))]) [0, 2, 3, 4, 5] rfl ?_
          exact ih_8 (x + 1) (by omega) (by omega)
        · skip
          have hsr := stQ_r lt v (g := stP lt v (stO lt v (st0 lt t v) n) (n : Int) x) (stP_r lt v (stO_r lt v (st0_r lt t v) n (by omega)) n (by omega) x) n (by omega) (x : Int) y
          have hs1 := hsr (x : Int) (by omega) (by omega)
          have hs2 := hsr (y : Int) (by omega) (by omega)
          have hly := hl (y : Int) (by omega) (by omega)
          have hap := apt_r (a := (x : Int)) (b := (y : Int)) (by omega) (by omega)
          refine v_aload_n (j := 3) (x := a 0) G dX9_tellsSteps_68 rfl rfl ?_
          refine v_get (q0 := 0) (k := 6) (v := .ref (a 6)) G k_X9 rfl rfl (by decide) q_1 rfl rfl dX9_tellsSteps_69 ?_
          refine v_iload (j := 0) (x := jI (y : Int)) G dX9_tellsSteps_72 rfl ?_
          refine v_aload_n (j := 3) (x := a 0) G dX9_tellsSteps_74 rfl rfl ?_
          refine v_get (q0 := 0) (k := 6) (v := .ref (a 6)) G k_X9 rfl rfl (by decide) q_1 rfl rfl dX9_tellsSteps_75 ?_
          refine v_iload (j := 1) (x := jI (x : Int)) G dX9_tellsSteps_78 rfl ?_
          refine v_iald (q0 := 6) (t0 := 0) (g := stQ lt v (stP lt v (stO lt v (st0 lt t v) n) (n : Int) x) (n : Int) (x : Int) y) (z := (x : Int)) G rfl rfl (by omega) dX9_tellsSteps_80 ?_
          refine v_iload_n (j := 2) (x := jI (n : Int)) G dX9_tellsSteps_81 rfl rfl ?_
          refine v_cut (pc' := 130) (lv' := [(5, .int (jI (y : Int))), (4, .int (jI (x : Int))), (3, .int (jI (n : Int))), (0, .ref (a 0)), (1, .int (jI t)), (2, .int (jI v))]) (st' := [.int (jI (if (stQ lt v (stP lt v (stO lt v (st0 lt t v) n) (n : Int) x) (n : Int) (x : Int) y) (x : Int) = (n : Int) ∧ apt (x : Int) (y : Int) = 1 ∧ (stQ lt v (stP lt v (stO lt v (st0 lt t v) n) (n : Int) x) (n : Int) (x : Int) y) (y : Int) < 0 ∧ lt (y : Int) ≤ v then (n : Int) + 1 else (stQ lt v (stP lt v (stO lt v (st0 lt t v) n) (n : Int) x) (n : Int) (x : Int) y) (y : Int))), .int (jI (y : Int)), .ref (a 6)]) (ws' := (wR cI cL a w kp bf ah ik fd (stQ lt v (stP lt v (stO lt v (st0 lt t v) n) (n : Int) x) (n : Int) (x : Int) y) lt tp tn he ft vl bt lg ce bw)) ?_ (fun J_13 => ?_)
          · skip
            refine v_iast (q0 := 6) (t0 := 0) (g := stQ lt v (stP lt v (stO lt v (st0 lt t v) n) (n : Int) x) (n : Int) (x : Int) y) (z := (y : Int)) (x := if (stQ lt v (stP lt v (stO lt v (st0 lt t v) n) (n : Int) x) (n : Int) (x : Int) y) (x : Int) = (n : Int) ∧ apt (x : Int) (y : Int) = 1 ∧ (stQ lt v (stP lt v (stO lt v (st0 lt t v) n) (n : Int) x) (n : Int) (x : Int) y) (y : Int) < 0 ∧ lt (y : Int) ≤ v then (n : Int) + 1 else (stQ lt v (stP lt v (stO lt v (st0 lt t v) n) (n : Int) x) (n : Int) (x : Int) y) (y : Int)) (ws' := (wR cI cL a w kp bf ah ik fd (uI (stQ lt v (stP lt v (stO lt v (st0 lt t v) n) (n : Int) x) (n : Int) (x : Int) y) (y : Int) (if (stQ lt v (stP lt v (stO lt v (st0 lt t v) n) (n : Int) x) (n : Int) (x : Int) y) (x : Int) = (n : Int) ∧ apt (x : Int) (y : Int) = 1 ∧ (stQ lt v (stP lt v (stO lt v (st0 lt t v) n) (n : Int) x) (n : Int) (x : Int) y) (y : Int) < 0 ∧ lt (y : Int) ≤ v then (n : Int) + 1 else (stQ lt v (stP lt v (stO lt v (st0 lt t v) n) (n : Int) x) (n : Int) (x : Int) y) (y : Int))) lt tp tn he ft vl bt lg ce bw)) G rfl rfl (by omega) rfl dX9_tellsSteps_130 ?_
            refine v_world (ws' := (wR cI cL a w kp bf ah ik fd (stQ lt v (stP lt v (stO lt v (st0 lt t v) n) (n : Int) x) (n : Int) (x : Int) (y + 1)) lt tp tn he ft vl bt lg ce bw)) rfl ?_
            refine v_iinc (k := 0) (z := (y : Int)) (z' := ((y + 1 : Nat) : Int)) (lv' := [(5, .int (jI ((y + 1 : Nat) : Int))), (4, .int (jI (x : Int))), (3, .int (jI (n : Int))), (0, .ref (a 0)), (1, .int (jI t)), (2, .int (jI v))]) G dX9_tellsSteps_131 rfl (by omega) (by decide) rfl ?_
            refine v_goto (tgt := 61) G dX9_tellsSteps_134 (by decide) ?_
            exact ih_11 (y + 1) (by omega) (by omega)
          · skip
            refine v_icmp_ne (a := (stQ lt v (stP lt v (stO lt v (st0 lt t v) n) (n : Int) x) (n : Int) (x : Int) y) (x : Int)) (b := (n : Int)) (tgt := 123) G dX9_tellsSteps_82 (by decide) (by omega) (fun c_14 => ?_) (fun c_14 => ?_)
            · skip
              refine v_aload_n (j := 3) (x := a 0) G dX9_tellsSteps_123 rfl rfl ?_
              refine v_get (q0 := 0) (k := 6) (v := .ref (a 6)) G k_X9 rfl rfl (by decide) q_1 rfl rfl dX9_tellsSteps_124 ?_
              refine v_iload (j := 0) (x := jI (y : Int)) G dX9_tellsSteps_127 rfl ?_
              refine v_iald (q0 := 6) (t0 := 0) (g := stQ lt v (stP lt v (stO lt v (st0 lt t v) n) (n : Int) x) (n : Int) (x : Int) y) (z := (y : Int)) G rfl rfl (by omega) dX9_tellsSteps_129 ?_
              refine v_topj (x := (stQ lt v (stP lt v (stO lt v (st0 lt t v) n) (n : Int) x) (n : Int) (x : Int) y) (y : Int)) (y := if (stQ lt v (stP lt v (stO lt v (st0 lt t v) n) (n : Int) x) (n : Int) (x : Int) y) (x : Int) = (n : Int) ∧ apt (x : Int) (y : Int) = 1 ∧ (stQ lt v (stP lt v (stO lt v (st0 lt t v) n) (n : Int) x) (n : Int) (x : Int) y) (y : Int) < 0 ∧ lt (y : Int) ≤ v then (n : Int) + 1 else (stQ lt v (stP lt v (stO lt v (st0 lt t v) n) (n : Int) x) (n : Int) (x : Int) y) (y : Int)) (by split <;> omega) ?_
              exact J_13
            · skip
              refine v_iload (j := 1) (x := jI (x : Int)) G dX9_tellsSteps_85 rfl ?_
              refine v_iload (j := 0) (x := jI (y : Int)) G dX9_tellsSteps_87 rfl ?_
              refine v_ciN G (rn_S (As := [.int (jI (x : Int)), .int (jI (y : Int))]) (rest := [.int (jI (y : Int)), .ref (a 6)]) G (c_X9_apart (x := (x : Int)) (y := (y : Int)) (hx := (by omega))) gX9_tellsSteps_X9_apart rfl hdX9_apart ⟨rfl, rfl, Nat.le_of_ble_eq_true rfl, Nat.le_of_ble_eq_true rfl⟩ rfl rfl (Nat.le_of_ble_eq_true rfl) ⟨Nat.zero_le _, Nat.zero_le _⟩ dX9_tellsSteps_89) (fun r_15 u_17 e_16 => ?_)
              have e_16 : r_15 = jI (apt (x : Int) (y : Int)) := e_16
              subst e_16
              refine v_iconst G dX9_tellsSteps_92 ?_
              refine v_icmp_ne (a := apt (x : Int) (y : Int)) (b := 1) (tgt := 123) G dX9_tellsSteps_93 (by decide) (by omega) (fun c_18 => ?_) (fun c_18 => ?_)
              · skip
                refine v_aload_n (j := 3) (x := a 0) G dX9_tellsSteps_123 rfl rfl ?_
                refine v_get (q0 := 0) (k := 6) (v := .ref (a 6)) G k_X9 rfl rfl (by decide) q_1 rfl rfl dX9_tellsSteps_124 ?_
                refine v_iload (j := 0) (x := jI (y : Int)) G dX9_tellsSteps_127 rfl ?_
                refine v_iald (q0 := 6) (t0 := 0) (g := stQ lt v (stP lt v (stO lt v (st0 lt t v) n) (n : Int) x) (n : Int) (x : Int) y) (z := (y : Int)) G rfl rfl (by omega) dX9_tellsSteps_129 ?_
                refine v_topj (x := (stQ lt v (stP lt v (stO lt v (st0 lt t v) n) (n : Int) x) (n : Int) (x : Int) y) (y : Int)) (y := if (stQ lt v (stP lt v (stO lt v (st0 lt t v) n) (n : Int) x) (n : Int) (x : Int) y) (x : Int) = (n : Int) ∧ apt (x : Int) (y : Int) = 1 ∧ (stQ lt v (stP lt v (stO lt v (st0 lt t v) n) (n : Int) x) (n : Int) (x : Int) y) (y : Int) < 0 ∧ lt (y : Int) ≤ v then (n : Int) + 1 else (stQ lt v (stP lt v (stO lt v (st0 lt t v) n) (n : Int) x) (n : Int) (x : Int) y) (y : Int)) (by split <;> omega) ?_
                exact J_13
              · skip
                refine v_aload_n (j := 3) (x := a 0) G dX9_tellsSteps_96 rfl rfl ?_
                refine v_get (q0 := 0) (k := 6) (v := .ref (a 6)) G k_X9 rfl rfl (by decide) q_1 rfl rfl dX9_tellsSteps_97 ?_
                refine v_iload (j := 0) (x := jI (y : Int)) G dX9_tellsSteps_100 rfl ?_
                refine v_iald (q0 := 6) (t0 := 0) (g := stQ lt v (stP lt v (stO lt v (st0 lt t v) n) (n : Int) x) (n : Int) (x : Int) y) (z := (y : Int)) G rfl rfl (by omega) dX9_tellsSteps_102 ?_
                refine v_if_ge (a := (stQ lt v (stP lt v (stO lt v (st0 lt t v) n) (n : Int) x) (n : Int) (x : Int) y) (y : Int)) (tgt := 123) G dX9_tellsSteps_103 (by decide) (by omega) (fun c_19 => ?_) (fun c_19 => ?_)
                · skip
                  refine v_aload_n (j := 3) (x := a 0) G dX9_tellsSteps_123 rfl rfl ?_
                  refine v_get (q0 := 0) (k := 6) (v := .ref (a 6)) G k_X9 rfl rfl (by decide) q_1 rfl rfl dX9_tellsSteps_124 ?_
                  refine v_iload (j := 0) (x := jI (y : Int)) G dX9_tellsSteps_127 rfl ?_
                  refine v_iald (q0 := 6) (t0 := 0) (g := stQ lt v (stP lt v (stO lt v (st0 lt t v) n) (n : Int) x) (n : Int) (x : Int) y) (z := (y : Int)) G rfl rfl (by omega) dX9_tellsSteps_129 ?_
                  refine v_topj (x := (stQ lt v (stP lt v (stO lt v (st0 lt t v) n) (n : Int) x) (n : Int) (x : Int) y) (y : Int)) (y := if (stQ lt v (stP lt v (stO lt v (st0 lt t v) n) (n : Int) x) (n : Int) (x : Int) y) (x : Int) = (n : Int) ∧ apt (x : Int) (y : Int) = 1 ∧ (stQ lt v (stP lt v (stO lt v (st0 lt t v) n) (n : Int) x) (n : Int) (x : Int) y) (y : Int) < 0 ∧ lt (y : Int) ≤ v then (n : Int) + 1 else (stQ lt v (stP lt v (stO lt v (st0 lt t v) n) (n : Int) x) (n : Int) (x : Int) y) (y : Int)) (by split <;> omega) ?_
                  exact J_13
                · skip
                  refine v_aload_n (j := 3) (x := a 0) G dX9_tellsSteps_106 rfl rfl ?_
                  refine v_get (q0 := 0) (k := 7) (v := .ref (a 7)) G k_X9 rfl rfl (by decide) q_2 rfl rfl dX9_tellsSteps_107 ?_
                  refine v_iload (j := 0) (x := jI (y : Int)) G dX9_tellsSteps_110 rfl ?_
                  refine v_iald (q0 := 7) (t0 := 0) (g := lt) (z := (y : Int)) G rfl rfl (by omega) dX9_tellsSteps_112 ?_
                  refine v_iload_n (j := 5) (x := jI v) G dX9_tellsSteps_113 rfl rfl ?_
                  refine v_icmp_gt (a := lt (y : Int)) (b := v) (tgt := 123) G dX9_tellsSteps_114 (by decide) (by omega) (fun c_20 => ?_) (fun c_20 => ?_)
                  · skip
                    refine v_aload_n (j := 3) (x := a 0) G dX9_tellsSteps_123 rfl rfl ?_
                    refine v_get (q0 := 0) (k := 6) (v := .ref (a 6)) G k_X9 rfl rfl (by decide) q_1 rfl rfl dX9_tellsSteps_124 ?_
                    refine v_iload (j := 0) (x := jI (y : Int)) G dX9_tellsSteps_127 rfl ?_
                    refine v_iald (q0 := 6) (t0 := 0) (g := stQ lt v (stP lt v (stO lt v (st0 lt t v) n) (n : Int) x) (n : Int) (x : Int) y) (z := (y : Int)) G rfl rfl (by omega) dX9_tellsSteps_129 ?_
                    refine v_topj (x := (stQ lt v (stP lt v (stO lt v (st0 lt t v) n) (n : Int) x) (n : Int) (x : Int) y) (y : Int)) (y := if (stQ lt v (stP lt v (stO lt v (st0 lt t v) n) (n : Int) x) (n : Int) (x : Int) y) (x : Int) = (n : Int) ∧ apt (x : Int) (y : Int) = 1 ∧ (stQ lt v (stP lt v (stO lt v (st0 lt t v) n) (n : Int) x) (n : Int) (x : Int) y) (y : Int) < 0 ∧ lt (y : Int) ≤ v then (n : Int) + 1 else (stQ lt v (stP lt v (stO lt v (st0 lt t v) n) (n : Int) x) (n : Int) (x : Int) y) (y : Int)) (by split <;> omega) ?_
                    exact J_13
                  · skip
                    refine v_iload_n (j := 2) (x := jI (n : Int)) G dX9_tellsSteps_117 rfl rfl ?_
                    refine v_iconst G dX9_tellsSteps_118 ?_
                    refine v_iadd (z := (n : Int) + 1) G dX9_tellsSteps_119 rfl ?_
                    refine v_goto (tgt := 130) G dX9_tellsSteps_120 (by decide) ?_
                    refine v_topj (x := (n : Int) + 1) (y := if (stQ lt v (stP lt v (stO lt v (st0 lt t v) n) (n : Int) x) (n : Int) (x : Int) y) (x : Int) = (n : Int) ∧ apt (x : Int) (y : Int) = 1 ∧ (stQ lt v (stP lt v (stO lt v (st0 lt t v) n) (n : Int) x) (n : Int) (x : Int) y) (y : Int) < 0 ∧ lt (y : Int) ≤ v then (n : Int) + 1 else (stQ lt v (stP lt v (stO lt v (st0 lt t v) n) (n : Int) x) (n : Int) (x : Int) y) (y : Int)) (by split <;> omega) ?_
                    exact J_13
  · skip
    have hlk := hl (k : Int) (by omega) (by omega)
    refine v_aload_n (j := 1) (x := a 0) G dX9_tellsSteps_8 rfl rfl ?_
    refine v_get (q0 := 0) (k := 6) (v := .ref (a 6)) G k_X9 rfl rfl (by decide) q_1 rfl rfl dX9_tellsSteps_9 ?_
    refine v_iload_n (j := 0) (x := jI (k : Int)) G dX9_tellsSteps_12 rfl rfl ?_
    refine v_iload_n (j := 0) (x := jI (k : Int)) G dX9_tellsSteps_13 rfl rfl ?_
    refine v_iload_n (j := 2) (x := jI t) G dX9_tellsSteps_14 rfl rfl ?_
    refine v_cut (pc' := 33) (lv' := [(3, .int (jI (k : Int))), (0, .ref (a 0)), (1, .int (jI t)), (2, .int (jI v))]) (st' := [.int (jI (st0 lt t v (k : Int))), .int (jI (k : Int)), .ref (a 6)]) (ws' := (wR cI cL a w kp bf ah ik fd (cpN (st0 lt t v) sp k) lt tp tn he ft vl bt lg ce bw)) ?_ (fun J_21 => ?_)
    · skip
      refine v_iast (q0 := 6) (t0 := 0) (g := cpN (st0 lt t v) sp k) (z := (k : Int)) (x := st0 lt t v (k : Int)) (ws' := (wR cI cL a w kp bf ah ik fd (uI (cpN (st0 lt t v) sp k) (k : Int) (st0 lt t v (k : Int))) lt tp tn he ft vl bt lg ce bw)) G rfl rfl (by omega) rfl dX9_tellsSteps_33 ?_
      refine v_cell (q0 := 6) (g := uI (cpN (st0 lt t v) sp k) (k : Int) (st0 lt t v (k : Int))) (g' := cpN (st0 lt t v) sp (k + 1)) (ws' := (wR cI cL a w kp bf ah ik fd (cpN (st0 lt t v) sp (k + 1)) lt tp tn he ft vl bt lg ce bw)) rfl (fun j h0 _ => cpN_s (st0 lt t v) sp k j h0) rfl ?_
      refine v_iinc (k := 0) (z := (k : Int)) (z' := ((k + 1 : Nat) : Int)) (lv' := [(3, .int (jI ((k + 1 : Nat) : Int))), (0, .ref (a 0)), (1, .int (jI t)), (2, .int (jI v))]) G dX9_tellsSteps_34 rfl (by omega) (by decide) rfl ?_
      refine v_goto (tgt := 2) G dX9_tellsSteps_37 (by decide) ?_
      exact ih_2 (k + 1) (by omega) (by omega)
    · skip
      refine v_icmp_ne (a := (k : Int)) (b := t) (tgt := 32) G dX9_tellsSteps_15 (by decide) (by omega) (fun c_22 => ?_) (fun c_22 => ?_)
      · skip
        refine v_iconst G dX9_tellsSteps_32 ?_
        refine v_topj (x := (-1)) (y := st0 lt t v (k : Int)) (by unfold st0; split <;> omega) ?_
        exact J_21
      · skip
        refine v_aload_n (j := 1) (x := a 0) G dX9_tellsSteps_18 rfl rfl ?_
        refine v_get (q0 := 0) (k := 7) (v := .ref (a 7)) G k_X9 rfl rfl (by decide) q_2 rfl rfl dX9_tellsSteps_19 ?_
        refine v_iload_n (j := 0) (x := jI (k : Int)) G dX9_tellsSteps_22 rfl rfl ?_
        refine v_iald (q0 := 7) (t0 := 0) (g := lt) (z := (k : Int)) G rfl rfl (by omega) dX9_tellsSteps_23 ?_
        refine v_iload_n (j := 3) (x := jI v) G dX9_tellsSteps_24 rfl rfl ?_
        refine v_icmp_gt (a := lt (k : Int)) (b := v) (tgt := 32) G dX9_tellsSteps_25 (by decide) (by omega) (fun c_23 => ?_) (fun c_23 => ?_)
        · skip
          refine v_iconst G dX9_tellsSteps_32 ?_
          refine v_topj (x := (-1)) (y := st0 lt t v (k : Int)) (by unfold st0; split <;> omega) ?_
          exact J_21
        · skip
          refine v_iconst G dX9_tellsSteps_28 ?_
          refine v_goto (tgt := 33) G dX9_tellsSteps_29 (by decide) ?_
          refine v_topj (x := 0) (y := st0 lt t v (k : Int)) (by unfold st0; split <;> omega) ?_
          exact J_21

set_option maxHeartbeats 4000000 in
set_option maxRecDepth 100000 in
theorem c_X9_stealth (x t : Int) (hw : Wf w) (hr : (-2147483648 ≤ x ∧ x ≤ 2147483647) ∧ (-2147483648 ≤ t ∧ t ≤ 2147483647)) : Ci l yX9_stealth wsX9_stealth { frames := 6, cells := 0, slots := 0, locals := 134 } D (jT cI cL cB cS) [.ref (a 0), .int (jI x), .int (jI t)] (wR cI cL a w kp bf ah ik fd sp lt tp tn he ft vl bt lg ce bw) (S := (Int → Int) × (Int → Int) × (Int → Int)) (fun u => (wR cI cL a w kp bf ah ik u.1 u.2.1 u.2.2 tp tn he ft vl bt lg ce bw)) (fun r u => ((¬ ((0 ≤ x ∧ x ≤ 15) ∧ 0 ≤ t ∧ t ≤ 15)) ∧ r = jI (-1000000001) ∧ u.1 = uI fd 0 (fd 0 + 1)) ∨ ((((0 ≤ x ∧ x ≤ 15) ∧ 0 ≤ t ∧ t ≤ 15)) ∧ r = jI (blN (sLt w) x t 16) ∧ u.1 = fd)) := by
  refine Ci.mk (cc := cX9_stealth) (maxL := 5) (rt := .int) (by decide) rfl (Nat.le_of_ble_eq_true rfl) rfl ?_
  intro p_ e_ s_ m_ b_ me_ c_ A_ G hnm
  have k_X9 : ∀ w ∈ u_ws RX9 TX9 17, w ∈ wsX9_stealth := fun _ h => List.mem_cons_of_mem _ (List.mem_append_right _ h)
  have q_1 : Cond.fieldLink RX9 28 "SupperLightModel" "lights" "[I" ∈ wsX9_stealth := List.mem_of_getElem? (i := 1) rfl
  have q_2 : Cond.fieldLink RX9 25 "SupperLightModel" "steps" "[I" ∈ wsX9_stealth := List.mem_of_getElem? (i := 2) rfl
  refine v_iload_n (j := 1) (x := jI x) G dX9_stealth_0 rfl rfl ?_
  refine v_ciN G (rn_S (As := [.int (jI x)]) (rest := []) G (c_X9_isPlace (p := x) (hr := (by omega))) gX9_stealth_X9_isPlace rfl hdX9_isPlace ⟨rfl, rfl, Nat.le_of_ble_eq_true rfl, Nat.le_of_ble_eq_true rfl⟩ rfl rfl (Nat.le_of_ble_eq_true rfl) ⟨Nat.zero_le _, Nat.zero_le _⟩ dX9_stealth_1) (fun r_1 u_3 e_2 => ?_)
  have e_2 : r_1 = jI (b2 (0 ≤ x ∧ x ≤ 15)) := e_2
  subst e_2
  refine v_ifb_eq (P := 0 ≤ x ∧ x ≤ 15) (tgt := 14) G dX9_stealth_4 (by decide) (fun c_4 => ?_) (fun c_4 => ?_)
  · skip
    refine v_aload_n (j := 0) (x := a 0) G dX9_stealth_14 rfl rfl ?_
    refine v_iconst G dX9_stealth_15 ?_
    refine v_ciF G (rn_V (As := [.int (jI 0)]) (rest := []) (q0 := 0) G (c_X9_no (k := 0) (w := w) (kp := kp) (bf := bf) (ah := ah) (ik := ik) (fd := fd) (sp := sp) (lt := lt) (tp := tp) (tn := tn) (he := he) (ft := ft) (vl := vl) (bt := bt) (lg := lg) (ce := ce) (bw := bw) (a := a) (hk := (by omega))) gX9_stealth_X9_no rfl hdX9_no ⟨rfl, rfl, Nat.le_of_ble_eq_true rfl, Nat.le_of_ble_eq_true rfl⟩ rfl rfl (Nat.le_of_ble_eq_true rfl) ⟨Nat.zero_le _, Nat.zero_le _⟩ rfl rfl dX9_stealth_16) (fun r_5 u_7 e_6 => ?_)
    have e_6 : r_5 = jI ((-1000000001) - 0) := e_6
    subst e_6
    refine v_world (ws' := (wR cI cL a w kp bf ah ik (uI fd 0 (fd 0 + 1)) sp lt tp tn he ft vl bt lg ce bw)) rfl ?_
    exact v_iret G (uI fd 0 (fd 0 + 1), sp, lt) (by first | exact Or.inl ⟨(by omega), (by first | rfl | exact congrArg jI (by omega)), rfl⟩ | exact Or.inr ⟨(by omega), (by first | rfl | exact congrArg jI (by omega)), rfl⟩) rfl dX9_stealth_19
  · skip
    refine v_iload_n (j := 2) (x := jI t) G dX9_stealth_7 rfl rfl ?_
    refine v_ciN G (rn_S (As := [.int (jI t)]) (rest := []) G (c_X9_isPlace (p := t) (hr := (by omega))) gX9_stealth_X9_isPlace rfl hdX9_isPlace ⟨rfl, rfl, Nat.le_of_ble_eq_true rfl, Nat.le_of_ble_eq_true rfl⟩ rfl rfl (Nat.le_of_ble_eq_true rfl) ⟨Nat.zero_le _, Nat.zero_le _⟩ dX9_stealth_8) (fun r_8 u_10 e_9 => ?_)
    have e_9 : r_8 = jI (b2 (0 ≤ t ∧ t ≤ 15)) := e_9
    subst e_9
    refine v_ifb_ne (P := 0 ≤ t ∧ t ≤ 15) (tgt := 20) G dX9_stealth_11 (by decide) (fun c_11 => ?_) (fun c_11 => ?_)
    · skip
      refine v_aload_n (j := 0) (x := a 0) G dX9_stealth_20 rfl rfl ?_
      refine v_cvF G (rn_V (As := []) (rest := []) (q0 := 0) G (c_X9_tellsLights (w := w) (kp := kp) (bf := bf) (ah := ah) (ik := ik) (fd := fd) (sp := sp) (lt := lt) (tp := tp) (tn := tn) (he := he) (ft := ft) (vl := vl) (bt := bt) (lg := lg) (ce := ce) (bw := bw) (a := a) (hw := hw)) gX9_stealth_X9_tellsLights rfl hdX9_tellsLights ⟨rfl, rfl, Nat.le_of_ble_eq_true rfl, Nat.le_of_ble_eq_true rfl⟩ rfl rfl (Nat.le_of_ble_eq_true rfl) ⟨Nat.zero_le _, Nat.zero_le _⟩ rfl rfl dX9_stealth_21) (fun u_14 e_13 => ?_)
      refine v_world (ws' := (wR cI cL a w kp bf ah ik fd sp (sLt w) tp tn he ft vl bt lg ce bw)) rfl ?_
      refine v_iconst G dX9_stealth_24 ?_
      refine v_istore_n (lv' := [(3, .int (jI (-1))), (0, .ref (a 0)), (1, .int (jI x)), (2, .int (jI t))]) G dX9_stealth_25 rfl (by decide) rfl ?_
      refine v_iconst G dX9_stealth_26 ?_
      refine v_istore (lv' := [(4, .int (jI 0)), (3, .int (jI (-1))), (0, .ref (a 0)), (1, .int (jI x)), (2, .int (jI t))]) G dX9_stealth_27 (by decide) rfl ?_
      refine v_locs (lv' := [(4, .int (jI 0)), (3, .int (jI (-1))), (0, .ref (a 0)), (1, .int (jI x)), (2, .int (jI t))]) [0, 1, 2, 3, 4] rfl ?_
      refine v_loop2 (fun (k : Nat) (sq : Int → Int) => [(4, .int (jI (k : Int))), (3, .int (jI (blN (sLt w) x t k))), (0, .ref (a 0)), (1, .int (jI x)), (2, .int (jI t))]) (fun (k : Nat) (sq : Int → Int) => (wR cI cL a w kp bf ah ik fd sq (sLt w) tp tn he ft vl bt lg ce bw)) (fun (k : Nat) (sq : Int → Int) => (k : Int) ≤ 16) (fun (k : Nat) (sq : Int → Int) => 16 - k) 0 sp (by decide) rfl rfl ?_
      intro k sq I_15 ih_16
      refine v_iload (j := 0) (x := jI (k : Int)) G dX9_stealth_29 rfl ?_
      refine v_bipush G dX9_stealth_31 (by decide) ?_
      refine v_icmp_ge (a := (k : Int)) (b := 16) (tgt := 90) G dX9_stealth_33 (by decide) (by omega) (fun c_17 => ?_) (fun c_17 => ?_)
      · skip
        obtain rfl : k = 16 := by omega
        refine v_iload_n (j := 1) (x := jI (blN (sLt w) x t 16)) G dX9_stealth_90 rfl rfl ?_
        exact v_iret G (fd, sq, sLt w) (by first | exact Or.inl ⟨(by omega), (by first | rfl | exact congrArg jI (by omega)), rfl⟩ | exact Or.inr ⟨(by omega), (by first | rfl | exact congrArg jI (by omega)), rfl⟩) rfl dX9_stealth_91
      · skip
        have hlk := sLt_r hw (p := (k : Int)) (by omega) (by omega)
        have hbl := blN_r (f := sLt w) x t (fun j y0 y1 => sLt_r hw y0 y1) k (by omega)
        refine v_aload_n (j := 2) (x := a 0) G dX9_stealth_36 rfl rfl ?_
        refine v_iload_n (j := 4) (x := jI t) G dX9_stealth_37 rfl rfl ?_
        refine v_aload_n (j := 2) (x := a 0) G dX9_stealth_38 rfl rfl ?_
        refine v_get (q0 := 0) (k := 7) (v := .ref (a 7)) G k_X9 rfl rfl (by decide) q_1 rfl rfl dX9_stealth_39 ?_
        refine v_iload (j := 0) (x := jI (k : Int)) G dX9_stealth_42 rfl ?_
        refine v_iald (q0 := 7) (t0 := 0) (g := sLt w) (z := (k : Int)) G rfl rfl (by omega) dX9_stealth_44 ?_
        refine v_cvF G (rn_V (As := [.int (jI t), .int (jI ((sLt w) (k : Int)))]) (rest := []) (q0 := 0) G (c_X9_tellsSteps (t := t) (v := (sLt w) (k : Int)) (w := w) (kp := kp) (bf := bf) (ah := ah) (ik := ik) (fd := fd) (sp := sq) (lt := sLt w) (tp := tp) (tn := tn) (he := he) (ft := ft) (vl := vl) (bt := bt) (lg := lg) (ce := ce) (bw := bw) (a := a) (ht := (by omega)) (hl := (fun j y0 y1 => by have := sLt_r hw (p := j) y0 y1; omega))) gX9_stealth_X9_tellsSteps rfl hdX9_tellsSteps ⟨rfl, rfl, Nat.le_of_ble_eq_true rfl, Nat.le_of_ble_eq_true rfl⟩ rfl rfl (Nat.le_of_ble_eq_true rfl) ⟨Nat.zero_le _, Nat.zero_le _⟩ rfl rfl dX9_stealth_45) (fun u_20 e_19 => ?_)
        refine v_world (ws' := (wR cI cL a w kp bf ah ik fd (sSt (sLt w) t ((sLt w) (k : Int))) (sLt w) tp tn he ft vl bt lg ce bw)) rfl ?_
        refine v_aload_n (j := 2) (x := a 0) G dX9_stealth_48 rfl rfl ?_
        refine v_get (q0 := 0) (k := 6) (v := .ref (a 6)) G k_X9 rfl rfl (by decide) q_2 rfl rfl dX9_stealth_49 ?_
        refine v_iload_n (j := 3) (x := jI x) G dX9_stealth_52 rfl rfl ?_
        have hsx := sSt_r (sLt w) t (sLt w (k : Int)) x (by omega) (by omega)
        refine v_iald (q0 := 6) (t0 := 0) (g := sSt (sLt w) t ((sLt w) (k : Int))) (z := x) G rfl rfl (by omega) dX9_stealth_53 ?_
        refine v_cut (pc' := 83) (lv' := [(4, .int (jI (k : Int))), (3, .int (jI (blN (sLt w) x t k))), (0, .ref (a 0)), (1, .int (jI x)), (2, .int (jI t))]) (st' := [.int (jI (blN (sLt w) x t (k + 1)))]) (ws' := (wR cI cL a w kp bf ah ik fd (sSt (sLt w) t ((sLt w) (k : Int))) (sLt w) tp tn he ft vl bt lg ce bw)) ?_ (fun J_21 => ?_)
        · skip
          refine v_istore_n (lv' := [(3, .int (jI (blN (sLt w) x t (k + 1)))), (4, .int (jI (k : Int))), (0, .ref (a 0)), (1, .int (jI x)), (2, .int (jI t))]) G dX9_stealth_83 rfl (by decide) rfl ?_
          refine v_iinc (k := 1) (z := (k : Int)) (z' := ((k + 1 : Nat) : Int)) (lv' := [(4, .int (jI ((k + 1 : Nat) : Int))), (3, .int (jI (blN (sLt w) x t (k + 1)))), (0, .ref (a 0)), (1, .int (jI x)), (2, .int (jI t))]) G dX9_stealth_84 rfl (by omega) (by decide) rfl ?_
          refine v_goto (tgt := 29) G dX9_stealth_87 (by decide) ?_
          exact ih_16 (k + 1) (sSt (sLt w) t (sLt w (k : Int))) (by omega) (by omega)
        · skip
          refine v_if_lt (a := (sSt (sLt w) t ((sLt w) (k : Int))) x) (tgt := 82) G dX9_stealth_54 (by decide) (by omega) (fun c_22 => ?_) (fun c_22 => ?_)
          · skip
            refine v_iload_n (j := 1) (x := jI (blN (sLt w) x t k)) G dX9_stealth_82 rfl rfl ?_
            refine v_topj (x := blN (sLt w) x t k) (y := blN (sLt w) x t (k + 1)) (by show _ = (if _ then _ else _); split <;> omega) ?_
            exact J_21
          · skip
            refine v_iload_n (j := 1) (x := jI (blN (sLt w) x t k)) G dX9_stealth_57 rfl rfl ?_
            refine v_if_lt (a := blN (sLt w) x t k) (tgt := 72) G dX9_stealth_58 (by decide) (by omega) (fun c_23 => ?_) (fun c_23 => ?_)
            · skip
              refine v_aload_n (j := 2) (x := a 0) G dX9_stealth_72 rfl rfl ?_
              refine v_get (q0 := 0) (k := 7) (v := .ref (a 7)) G k_X9 rfl rfl (by decide) q_1 rfl rfl dX9_stealth_73 ?_
              refine v_iload (j := 0) (x := jI (k : Int)) G dX9_stealth_76 rfl ?_
              refine v_iald (q0 := 7) (t0 := 0) (g := (sLt w)) (z := (k : Int)) G rfl rfl (by omega) dX9_stealth_78 ?_
              refine v_goto (tgt := 83) G dX9_stealth_79 (by decide) ?_
              refine v_topj (x := (sLt w) (k : Int)) (y := blN (sLt w) x t (k + 1)) (by show _ = (if _ then _ else _); split <;> omega) ?_
              exact J_21
            · skip
              refine v_aload_n (j := 2) (x := a 0) G dX9_stealth_61 rfl rfl ?_
              refine v_get (q0 := 0) (k := 7) (v := .ref (a 7)) G k_X9 rfl rfl (by decide) q_1 rfl rfl dX9_stealth_62 ?_
              refine v_iload (j := 0) (x := jI (k : Int)) G dX9_stealth_65 rfl ?_
              refine v_iald (q0 := 7) (t0 := 0) (g := (sLt w)) (z := (k : Int)) G rfl rfl (by omega) dX9_stealth_67 ?_
              refine v_iload_n (j := 1) (x := jI (blN (sLt w) x t k)) G dX9_stealth_68 rfl rfl ?_
              refine v_icmp_ge (a := (sLt w) (k : Int)) (b := blN (sLt w) x t k) (tgt := 82) G dX9_stealth_69 (by decide) (by omega) (fun c_24 => ?_) (fun c_24 => ?_)
              · skip
                refine v_iload_n (j := 1) (x := jI (blN (sLt w) x t k)) G dX9_stealth_82 rfl rfl ?_
                refine v_topj (x := blN (sLt w) x t k) (y := blN (sLt w) x t (k + 1)) (by show _ = (if _ then _ else _); split <;> omega) ?_
                exact J_21
              · skip
                refine v_aload_n (j := 2) (x := a 0) G dX9_stealth_72 rfl rfl ?_
                refine v_get (q0 := 0) (k := 7) (v := .ref (a 7)) G k_X9 rfl rfl (by decide) q_1 rfl rfl dX9_stealth_73 ?_
                refine v_iload (j := 0) (x := jI (k : Int)) G dX9_stealth_76 rfl ?_
                refine v_iald (q0 := 7) (t0 := 0) (g := (sLt w)) (z := (k : Int)) G rfl rfl (by omega) dX9_stealth_78 ?_
                refine v_goto (tgt := 83) G dX9_stealth_79 (by decide) ?_
                refine v_topj (x := (sLt w) (k : Int)) (y := blN (sLt w) x t (k + 1)) (by show _ = (if _ then _ else _); split <;> omega) ?_
                exact J_21
    · skip
      refine v_aload_n (j := 0) (x := a 0) G dX9_stealth_14 rfl rfl ?_
      refine v_iconst G dX9_stealth_15 ?_
      refine v_ciF G (rn_V (As := [.int (jI 0)]) (rest := []) (q0 := 0) G (c_X9_no (k := 0) (w := w) (kp := kp) (bf := bf) (ah := ah) (ik := ik) (fd := fd) (sp := sp) (lt := lt) (tp := tp) (tn := tn) (he := he) (ft := ft) (vl := vl) (bt := bt) (lg := lg) (ce := ce) (bw := bw) (a := a) (hk := (by omega))) gX9_stealth_X9_no rfl hdX9_no ⟨rfl, rfl, Nat.le_of_ble_eq_true rfl, Nat.le_of_ble_eq_true rfl⟩ rfl rfl (Nat.le_of_ble_eq_true rfl) ⟨Nat.zero_le _, Nat.zero_le _⟩ rfl rfl dX9_stealth_16) (fun r_25 u_27 e_26 => ?_)
      have e_26 : r_25 = jI ((-1000000001) - 0) := e_26
      subst e_26
      refine v_world (ws' := (wR cI cL a w kp bf ah ik (uI fd 0 (fd 0 + 1)) sp lt tp tn he ft vl bt lg ce bw)) rfl ?_
      exact v_iret G (uI fd 0 (fd 0 + 1), sp, lt) (by first | exact Or.inl ⟨(by omega), (by first | rfl | exact congrArg jI (by omega)), rfl⟩ | exact Or.inr ⟨(by omega), (by first | rfl | exact congrArg jI (by omega)), rfl⟩) rfl dX9_stealth_19

set_option maxHeartbeats 4000000 in
set_option maxRecDepth 100000 in
theorem c_X9_areAsked (x t v : Int) (hr : (-2147483648 ≤ x ∧ x ≤ 2147483647) ∧ (-2147483648 ≤ t ∧ t ≤ 2147483647) ∧ (-2147483648 ≤ v ∧ v ≤ 2147483647)) : Ci l yX9_areAsked wsX9_areAsked { frames := 2, cells := 0, slots := 0, locals := 42 } D (jT cI cL cB cS) [.ref (a 0), .int (jI x), .int (jI t), .int (jI v)] (wR cI cL a w kp bf ah ik fd sp lt tp tn he ft vl bt lg ce bw) (S := Unit) (fun _ => (wR cI cL a w kp bf ah ik fd sp lt tp tn he ft vl bt lg ce bw)) (fun r _ => r = jI (b2 (((0 ≤ x ∧ x ≤ 15) ∧ 0 ≤ t ∧ t ≤ 15) ∧ 0 ≤ v ∧ v ≤ 9999))) := by
  refine Ci.mk (cc := cX9_areAsked) (maxL := 4) (rt := .boolean) (by decide) rfl (Nat.le_of_ble_eq_true rfl) rfl ?_
  intro p_ e_ s_ m_ b_ me_ c_ A_ G hnm
  refine v_iload_n (j := 1) (x := jI x) G dX9_areAsked_0 rfl rfl ?_
  refine v_ciN G (rn_S (As := [.int (jI x)]) (rest := []) G (c_X9_isPlace (p := x) (hr := (by omega))) gX9_areAsked_X9_isPlace rfl hdX9_isPlace ⟨rfl, rfl, Nat.le_of_ble_eq_true rfl, Nat.le_of_ble_eq_true rfl⟩ rfl rfl (Nat.le_of_ble_eq_true rfl) ⟨Nat.zero_le _, Nat.zero_le _⟩ dX9_areAsked_1) (fun r_1 u_3 e_2 => ?_)
  have e_2 : r_1 = jI (b2 (0 ≤ x ∧ x ≤ 15)) := e_2
  subst e_2
  refine v_ifb_eq (P := 0 ≤ x ∧ x ≤ 15) (tgt := 29) G dX9_areAsked_4 (by decide) (fun c_4 => ?_) (fun c_4 => ?_)
  · skip
    refine v_iconst G dX9_areAsked_29 ?_
    exact v_zret G () nb_0 (show jI 0 = jI (b2 (((0 ≤ x ∧ x ≤ 15) ∧ 0 ≤ t ∧ t ≤ 15) ∧ 0 ≤ v ∧ v ≤ 9999)) from congrArg jI (b2_f (P := ((0 ≤ x ∧ x ≤ 15) ∧ 0 ≤ t ∧ t ≤ 15) ∧ 0 ≤ v ∧ v ≤ 9999) (by omega)).symm) rfl dX9_areAsked_30
  · skip
    refine v_iload_n (j := 2) (x := jI t) G dX9_areAsked_7 rfl rfl ?_
    refine v_ciN G (rn_S (As := [.int (jI t)]) (rest := []) G (c_X9_isPlace (p := t) (hr := (by omega))) gX9_areAsked_X9_isPlace rfl hdX9_isPlace ⟨rfl, rfl, Nat.le_of_ble_eq_true rfl, Nat.le_of_ble_eq_true rfl⟩ rfl rfl (Nat.le_of_ble_eq_true rfl) ⟨Nat.zero_le _, Nat.zero_le _⟩ dX9_areAsked_8) (fun r_5 u_7 e_6 => ?_)
    have e_6 : r_5 = jI (b2 (0 ≤ t ∧ t ≤ 15)) := e_6
    subst e_6
    refine v_ifb_eq (P := 0 ≤ t ∧ t ≤ 15) (tgt := 29) G dX9_areAsked_11 (by decide) (fun c_8 => ?_) (fun c_8 => ?_)
    · skip
      refine v_iconst G dX9_areAsked_29 ?_
      exact v_zret G () nb_0 (show jI 0 = jI (b2 (((0 ≤ x ∧ x ≤ 15) ∧ 0 ≤ t ∧ t ≤ 15) ∧ 0 ≤ v ∧ v ≤ 9999)) from congrArg jI (b2_f (P := ((0 ≤ x ∧ x ≤ 15) ∧ 0 ≤ t ∧ t ≤ 15) ∧ 0 ≤ v ∧ v ≤ 9999) (by omega)).symm) rfl dX9_areAsked_30
    · skip
      refine v_iload_n (j := 3) (x := jI v) G dX9_areAsked_14 rfl rfl ?_
      refine v_iconst G dX9_areAsked_15 ?_
      refine v_sipush G dX9_areAsked_16 (by decide) ?_
      refine v_ciN G (rn_S (As := [.int (jI v), .int (jI 0), .int (jI 9999)]) (rest := []) G (c_X9_in (v := v) (lo := 0) (hi := 9999) (hr := (by omega))) gX9_areAsked_X9_in rfl hdX9_in ⟨rfl, rfl, Nat.le_of_ble_eq_true rfl, Nat.le_of_ble_eq_true rfl⟩ rfl rfl (Nat.le_of_ble_eq_true rfl) ⟨Nat.zero_le _, Nat.zero_le _⟩ dX9_areAsked_19) (fun r_9 u_11 e_10 => ?_)
      have e_10 : r_9 = jI (b2 (0 ≤ v ∧ v ≤ 9999)) := e_10
      subst e_10
      refine v_ifb_eq (P := 0 ≤ v ∧ v ≤ 9999) (tgt := 29) G dX9_areAsked_22 (by decide) (fun c_12 => ?_) (fun c_12 => ?_)
      · skip
        refine v_iconst G dX9_areAsked_29 ?_
        exact v_zret G () nb_0 (show jI 0 = jI (b2 (((0 ≤ x ∧ x ≤ 15) ∧ 0 ≤ t ∧ t ≤ 15) ∧ 0 ≤ v ∧ v ≤ 9999)) from congrArg jI (b2_f (P := ((0 ≤ x ∧ x ≤ 15) ∧ 0 ≤ t ∧ t ≤ 15) ∧ 0 ≤ v ∧ v ≤ 9999) (by omega)).symm) rfl dX9_areAsked_30
      · skip
        refine v_iconst G dX9_areAsked_25 ?_
        refine v_goto (tgt := 30) G dX9_areAsked_26 (by decide) ?_
        exact v_zret G () nb_1 (show jI 1 = jI (b2 (((0 ≤ x ∧ x ≤ 15) ∧ 0 ≤ t ∧ t ≤ 15) ∧ 0 ≤ v ∧ v ≤ 9999)) from congrArg jI (b2_t (P := ((0 ≤ x ∧ x ≤ 15) ∧ 0 ≤ t ∧ t ≤ 15) ∧ 0 ≤ v ∧ v ≤ 9999) (by omega)).symm) rfl dX9_areAsked_30

set_option maxHeartbeats 4000000 in
set_option maxRecDepth 100000 in
theorem c_X9_way (x t v : Int) (hw : Wf w) (hr : (-2147483648 ≤ x ∧ x ≤ 2147483647) ∧ (-2147483648 ≤ t ∧ t ≤ 2147483647) ∧ (-2147483648 ≤ v ∧ v ≤ 2147483647)) : Ci l yX9_way wsX9_way { frames := 6, cells := 0, slots := 0, locals := 134 } D (jT cI cL cB cS) [.ref (a 0), .int (jI x), .int (jI t), .int (jI v)] (wR cI cL a w kp bf ah ik fd sp lt tp tn he ft vl bt lg ce bw) (S := (Int → Int) × (Int → Int) × (Int → Int)) (fun u => (wR cI cL a w kp bf ah ik u.1 u.2.1 u.2.2 tp tn he ft vl bt lg ce bw)) (fun r u => ((¬ (((0 ≤ x ∧ x ≤ 15) ∧ 0 ≤ t ∧ t ≤ 15) ∧ 0 ≤ v ∧ v ≤ 9999)) ∧ r = jI (-1000000001) ∧ u.1 = uI fd 0 (fd 0 + 1)) ∨ (((((0 ≤ x ∧ x ≤ 15) ∧ 0 ≤ t ∧ t ≤ 15) ∧ 0 ≤ v ∧ v ≤ 9999) ∧ sSt (sLt w) t v x < 0) ∧ r = jI (-1000000004) ∧ u.1 = uI fd 3 (fd 3 + 1)) ∨ (((((0 ≤ x ∧ x ≤ 15) ∧ 0 ≤ t ∧ t ≤ 15) ∧ 0 ≤ v ∧ v ≤ 9999) ∧ 0 ≤ sSt (sLt w) t v x) ∧ r = jI (sSt (sLt w) t v x) ∧ u.1 = fd)) := by
  refine Ci.mk (cc := cX9_way) (maxL := 4) (rt := .int) (by decide) rfl (Nat.le_of_ble_eq_true rfl) rfl ?_
  intro p_ e_ s_ m_ b_ me_ c_ A_ G hnm
  have k_X9 : ∀ w ∈ u_ws RX9 TX9 17, w ∈ wsX9_way := fun _ h => List.mem_cons_of_mem _ (List.mem_append_right _ h)
  have q_1 : Cond.fieldLink RX9 25 "SupperLightModel" "steps" "[I" ∈ wsX9_way := List.mem_of_getElem? (i := 1) rfl
  refine v_aload_n (j := 0) (x := a 0) G dX9_way_0 rfl rfl ?_
  refine v_iload_n (j := 1) (x := jI x) G dX9_way_1 rfl rfl ?_
  refine v_iload_n (j := 2) (x := jI t) G dX9_way_2 rfl rfl ?_
  refine v_iload_n (j := 3) (x := jI v) G dX9_way_3 rfl rfl ?_
  refine v_ciF G (rn_V (As := [.int (jI x), .int (jI t), .int (jI v)]) (rest := []) (q0 := 0) G (c_X9_areAsked (x := x) (t := t) (v := v) (w := w) (kp := kp) (bf := bf) (ah := ah) (ik := ik) (fd := fd) (sp := sp) (lt := lt) (tp := tp) (tn := tn) (he := he) (ft := ft) (vl := vl) (bt := bt) (lg := lg) (ce := ce) (bw := bw) (a := a) (hr := (by omega))) gX9_way_X9_areAsked rfl hdX9_areAsked ⟨rfl, rfl, Nat.le_of_ble_eq_true rfl, Nat.le_of_ble_eq_true rfl⟩ rfl rfl (Nat.le_of_ble_eq_true rfl) ⟨Nat.zero_le _, Nat.zero_le _⟩ rfl rfl dX9_way_4) (fun r_1 u_3 e_2 => ?_)
  have e_2 : r_1 = jI (b2 (((0 ≤ x ∧ x ≤ 15) ∧ 0 ≤ t ∧ t ≤ 15) ∧ 0 ≤ v ∧ v ≤ 9999)) := e_2
  subst e_2
  refine v_world (ws' := (wR cI cL a w kp bf ah ik fd sp lt tp tn he ft vl bt lg ce bw)) rfl ?_
  refine v_ifb_ne (P := ((0 ≤ x ∧ x ≤ 15) ∧ 0 ≤ t ∧ t ≤ 15) ∧ 0 ≤ v ∧ v ≤ 9999) (tgt := 16) G dX9_way_7 (by decide) (fun c_4 => ?_) (fun c_4 => ?_)
  · skip
    refine v_aload_n (j := 0) (x := a 0) G dX9_way_16 rfl rfl ?_
    refine v_cvF G (rn_V (As := []) (rest := []) (q0 := 0) G (c_X9_tellsLights (w := w) (kp := kp) (bf := bf) (ah := ah) (ik := ik) (fd := fd) (sp := sp) (lt := lt) (tp := tp) (tn := tn) (he := he) (ft := ft) (vl := vl) (bt := bt) (lg := lg) (ce := ce) (bw := bw) (a := a) (hw := hw)) gX9_way_X9_tellsLights rfl hdX9_tellsLights ⟨rfl, rfl, Nat.le_of_ble_eq_true rfl, Nat.le_of_ble_eq_true rfl⟩ rfl rfl (Nat.le_of_ble_eq_true rfl) ⟨Nat.zero_le _, Nat.zero_le _⟩ rfl rfl dX9_way_17) (fun u_7 e_6 => ?_)
    refine v_world (ws' := (wR cI cL a w kp bf ah ik fd sp (sLt w) tp tn he ft vl bt lg ce bw)) rfl ?_
    refine v_aload_n (j := 0) (x := a 0) G dX9_way_20 rfl rfl ?_
    refine v_iload_n (j := 2) (x := jI t) G dX9_way_21 rfl rfl ?_
    refine v_iload_n (j := 3) (x := jI v) G dX9_way_22 rfl rfl ?_
    refine v_cvF G (rn_V (As := [.int (jI t), .int (jI v)]) (rest := []) (q0 := 0) G (c_X9_tellsSteps (t := t) (v := v) (w := w) (kp := kp) (bf := bf) (ah := ah) (ik := ik) (fd := fd) (sp := sp) (lt := sLt w) (tp := tp) (tn := tn) (he := he) (ft := ft) (vl := vl) (bt := bt) (lg := lg) (ce := ce) (bw := bw) (a := a) (ht := (by omega)) (hl := (fun j y0 y1 => by have := sLt_r hw (p := j) y0 y1; omega))) gX9_way_X9_tellsSteps rfl hdX9_tellsSteps ⟨rfl, rfl, Nat.le_of_ble_eq_true rfl, Nat.le_of_ble_eq_true rfl⟩ rfl rfl (Nat.le_of_ble_eq_true rfl) ⟨Nat.zero_le _, Nat.zero_le _⟩ rfl rfl dX9_way_23) (fun u_10 e_9 => ?_)
    refine v_world (ws' := (wR cI cL a w kp bf ah ik fd (sSt (sLt w) t v) (sLt w) tp tn he ft vl bt lg ce bw)) rfl ?_
    have hsx := sSt_r (sLt w) t v x (by omega) (by omega)
    refine v_aload_n (j := 0) (x := a 0) G dX9_way_26 rfl rfl ?_
    refine v_get (q0 := 0) (k := 6) (v := .ref (a 6)) G k_X9 rfl rfl (by decide) q_1 rfl rfl dX9_way_27 ?_
    refine v_iload_n (j := 1) (x := jI x) G dX9_way_30 rfl rfl ?_
    refine v_iald (q0 := 6) (t0 := 0) (g := sSt (sLt w) t v) (z := x) G rfl rfl (by omega) dX9_way_31 ?_
    refine v_if_ge (a := (sSt (sLt w) t v) x) (tgt := 43) G dX9_way_32 (by decide) (by omega) (fun c_11 => ?_) (fun c_11 => ?_)
    · skip
      refine v_aload_n (j := 0) (x := a 0) G dX9_way_43 rfl rfl ?_
      refine v_get (q0 := 0) (k := 6) (v := .ref (a 6)) G k_X9 rfl rfl (by decide) q_1 rfl rfl dX9_way_44 ?_
      refine v_iload_n (j := 1) (x := jI x) G dX9_way_47 rfl rfl ?_
      refine v_iald (q0 := 6) (t0 := 0) (g := sSt (sLt w) t v) (z := x) G rfl rfl (by omega) dX9_way_48 ?_
      exact v_iret G (fd, sSt (sLt w) t v, (sLt w)) (by first | exact Or.inl ⟨(by omega), (by first | rfl | exact congrArg jI (by omega)), rfl⟩ | exact Or.inr (Or.inl ⟨(by omega), (by first | rfl | exact congrArg jI (by omega)), rfl⟩) | exact Or.inr (Or.inr ⟨(by omega), (by first | rfl | exact congrArg jI (by omega)), rfl⟩)) rfl dX9_way_49
    · skip
      refine v_aload_n (j := 0) (x := a 0) G dX9_way_35 rfl rfl ?_
      refine v_iconst G dX9_way_36 ?_
      refine v_ciF G (rn_V (As := [.int (jI 3)]) (rest := []) (q0 := 0) G (c_X9_no (k := 3) (w := w) (kp := kp) (bf := bf) (ah := ah) (ik := ik) (fd := fd) (sp := sSt (sLt w) t v) (lt := (sLt w)) (tp := tp) (tn := tn) (he := he) (ft := ft) (vl := vl) (bt := bt) (lg := lg) (ce := ce) (bw := bw) (a := a) (hk := (by omega))) gX9_way_X9_no rfl hdX9_no ⟨rfl, rfl, Nat.le_of_ble_eq_true rfl, Nat.le_of_ble_eq_true rfl⟩ rfl rfl (Nat.le_of_ble_eq_true rfl) ⟨Nat.zero_le _, Nat.zero_le _⟩ rfl rfl dX9_way_37) (fun r_12 u_14 e_13 => ?_)
      have e_13 : r_12 = jI ((-1000000001) - 3) := e_13
      subst e_13
      refine v_world (ws' := (wR cI cL a w kp bf ah ik (uI fd 3 (fd 3 + 1)) (sSt (sLt w) t v) (sLt w) tp tn he ft vl bt lg ce bw)) rfl ?_
      refine v_goto (tgt := 49) G dX9_way_40 (by decide) ?_
      exact v_iret G (uI fd 3 (fd 3 + 1), (sSt (sLt w) t v), (sLt w)) (by first | exact Or.inl ⟨(by omega), (by first | rfl | exact congrArg jI (by omega)), rfl⟩ | exact Or.inr (Or.inl ⟨(by omega), (by first | rfl | exact congrArg jI (by omega)), rfl⟩) | exact Or.inr (Or.inr ⟨(by omega), (by first | rfl | exact congrArg jI (by omega)), rfl⟩)) rfl dX9_way_49
  · skip
    refine v_aload_n (j := 0) (x := a 0) G dX9_way_10 rfl rfl ?_
    refine v_iconst G dX9_way_11 ?_
    refine v_ciF G (rn_V (As := [.int (jI 0)]) (rest := []) (q0 := 0) G (c_X9_no (k := 0) (w := w) (kp := kp) (bf := bf) (ah := ah) (ik := ik) (fd := fd) (sp := sp) (lt := lt) (tp := tp) (tn := tn) (he := he) (ft := ft) (vl := vl) (bt := bt) (lg := lg) (ce := ce) (bw := bw) (a := a) (hk := (by omega))) gX9_way_X9_no rfl hdX9_no ⟨rfl, rfl, Nat.le_of_ble_eq_true rfl, Nat.le_of_ble_eq_true rfl⟩ rfl rfl (Nat.le_of_ble_eq_true rfl) ⟨Nat.zero_le _, Nat.zero_le _⟩ rfl rfl dX9_way_12) (fun r_15 u_17 e_16 => ?_)
    have e_16 : r_15 = jI ((-1000000001) - 0) := e_16
    subst e_16
    refine v_world (ws' := (wR cI cL a w kp bf ah ik (uI fd 0 (fd 0 + 1)) sp lt tp tn he ft vl bt lg ce bw)) rfl ?_
    exact v_iret G (uI fd 0 (fd 0 + 1), sp, lt) (by first | exact Or.inl ⟨(by omega), (by first | rfl | exact congrArg jI (by omega)), rfl⟩ | exact Or.inr (Or.inl ⟨(by omega), (by first | rfl | exact congrArg jI (by omega)), rfl⟩) | exact Or.inr (Or.inr ⟨(by omega), (by first | rfl | exact congrArg jI (by omega)), rfl⟩)) rfl dX9_way_15

set_option maxHeartbeats 4000000 in
set_option maxRecDepth 100000 in
theorem c_X9_first (x t v : Int) (hw : Wf w) (hr : (-2147483648 ≤ x ∧ x ≤ 2147483647) ∧ (-2147483648 ≤ t ∧ t ≤ 2147483647) ∧ (-2147483648 ≤ v ∧ v ≤ 2147483647)) : Ci l yX9_first wsX9_first { frames := 6, cells := 0, slots := 0, locals := 134 } D (jT cI cL cB cS) [.ref (a 0), .int (jI x), .int (jI t), .int (jI v)] (wR cI cL a w kp bf ah ik fd sp lt tp tn he ft vl bt lg ce bw) (S := (Int → Int) × (Int → Int) × (Int → Int)) (fun u => (wR cI cL a w kp bf ah ik u.1 u.2.1 u.2.2 tp tn he ft vl bt lg ce bw)) (fun r u => ((¬ (((0 ≤ x ∧ x ≤ 15) ∧ 0 ≤ t ∧ t ≤ 15) ∧ 0 ≤ v ∧ v ≤ 9999)) ∧ r = jI (-1000000001) ∧ u.1 = uI fd 0 (fd 0 + 1)) ∨ (((((0 ≤ x ∧ x ≤ 15) ∧ 0 ≤ t ∧ t ≤ 15) ∧ 0 ≤ v ∧ v ≤ 9999) ∧ sSt (sLt w) t v x ≤ 0) ∧ r = jI (-1000000004) ∧ u.1 = uI fd 3 (fd 3 + 1)) ∨ (((((0 ≤ x ∧ x ≤ 15) ∧ 0 ≤ t ∧ t ≤ 15) ∧ 0 ≤ v ∧ v ≤ 9999) ∧ 0 < sSt (sLt w) t v x) ∧ r = jI (lstN (fun q_ : Nat => apt x (q_ : Int) = 1 ∧ sSt (sLt w) t v (q_ : Int) = sSt (sLt w) t v x - 1) 16 0 : Int) ∧ u.1 = fd)) := by
  refine Ci.mk (cc := cX9_first) (maxL := 5) (rt := .int) (by decide) rfl (Nat.le_of_ble_eq_true rfl) rfl ?_
  intro p_ e_ s_ m_ b_ me_ c_ A_ G hnm
  have k_X9 : ∀ w ∈ u_ws RX9 TX9 17, w ∈ wsX9_first := fun _ h => List.mem_cons_of_mem _ (List.mem_append_right _ h)
  have q_1 : Cond.fieldLink RX9 25 "SupperLightModel" "steps" "[I" ∈ wsX9_first := List.mem_of_getElem? (i := 1) rfl
  refine v_aload_n (j := 0) (x := a 0) G dX9_first_0 rfl rfl ?_
  refine v_iload_n (j := 1) (x := jI x) G dX9_first_1 rfl rfl ?_
  refine v_iload_n (j := 2) (x := jI t) G dX9_first_2 rfl rfl ?_
  refine v_iload_n (j := 3) (x := jI v) G dX9_first_3 rfl rfl ?_
  refine v_ciF G (rn_V (As := [.int (jI x), .int (jI t), .int (jI v)]) (rest := []) (q0 := 0) G (c_X9_areAsked (x := x) (t := t) (v := v) (w := w) (kp := kp) (bf := bf) (ah := ah) (ik := ik) (fd := fd) (sp := sp) (lt := lt) (tp := tp) (tn := tn) (he := he) (ft := ft) (vl := vl) (bt := bt) (lg := lg) (ce := ce) (bw := bw) (a := a) (hr := (by omega))) gX9_first_X9_areAsked rfl hdX9_areAsked ⟨rfl, rfl, Nat.le_of_ble_eq_true rfl, Nat.le_of_ble_eq_true rfl⟩ rfl rfl (Nat.le_of_ble_eq_true rfl) ⟨Nat.zero_le _, Nat.zero_le _⟩ rfl rfl dX9_first_4) (fun r_1 u_3 e_2 => ?_)
  have e_2 : r_1 = jI (b2 (((0 ≤ x ∧ x ≤ 15) ∧ 0 ≤ t ∧ t ≤ 15) ∧ 0 ≤ v ∧ v ≤ 9999)) := e_2
  subst e_2
  refine v_world (ws' := (wR cI cL a w kp bf ah ik fd sp lt tp tn he ft vl bt lg ce bw)) rfl ?_
  refine v_ifb_ne (P := ((0 ≤ x ∧ x ≤ 15) ∧ 0 ≤ t ∧ t ≤ 15) ∧ 0 ≤ v ∧ v ≤ 9999) (tgt := 16) G dX9_first_7 (by decide) (fun c_4 => ?_) (fun c_4 => ?_)
  · skip
    refine v_aload_n (j := 0) (x := a 0) G dX9_first_16 rfl rfl ?_
    refine v_cvF G (rn_V (As := []) (rest := []) (q0 := 0) G (c_X9_tellsLights (w := w) (kp := kp) (bf := bf) (ah := ah) (ik := ik) (fd := fd) (sp := sp) (lt := lt) (tp := tp) (tn := tn) (he := he) (ft := ft) (vl := vl) (bt := bt) (lg := lg) (ce := ce) (bw := bw) (a := a) (hw := hw)) gX9_first_X9_tellsLights rfl hdX9_tellsLights ⟨rfl, rfl, Nat.le_of_ble_eq_true rfl, Nat.le_of_ble_eq_true rfl⟩ rfl rfl (Nat.le_of_ble_eq_true rfl) ⟨Nat.zero_le _, Nat.zero_le _⟩ rfl rfl dX9_first_17) (fun u_7 e_6 => ?_)
    refine v_world (ws' := (wR cI cL a w kp bf ah ik fd sp (sLt w) tp tn he ft vl bt lg ce bw)) rfl ?_
    refine v_aload_n (j := 0) (x := a 0) G dX9_first_20 rfl rfl ?_
    refine v_iload_n (j := 2) (x := jI t) G dX9_first_21 rfl rfl ?_
    refine v_iload_n (j := 3) (x := jI v) G dX9_first_22 rfl rfl ?_
    refine v_cvF G (rn_V (As := [.int (jI t), .int (jI v)]) (rest := []) (q0 := 0) G (c_X9_tellsSteps (t := t) (v := v) (w := w) (kp := kp) (bf := bf) (ah := ah) (ik := ik) (fd := fd) (sp := sp) (lt := sLt w) (tp := tp) (tn := tn) (he := he) (ft := ft) (vl := vl) (bt := bt) (lg := lg) (ce := ce) (bw := bw) (a := a) (ht := (by omega)) (hl := (fun j y0 y1 => by have := sLt_r hw (p := j) y0 y1; omega))) gX9_first_X9_tellsSteps rfl hdX9_tellsSteps ⟨rfl, rfl, Nat.le_of_ble_eq_true rfl, Nat.le_of_ble_eq_true rfl⟩ rfl rfl (Nat.le_of_ble_eq_true rfl) ⟨Nat.zero_le _, Nat.zero_le _⟩ rfl rfl dX9_first_23) (fun u_10 e_9 => ?_)
    refine v_world (ws' := (wR cI cL a w kp bf ah ik fd (sSt (sLt w) t v) (sLt w) tp tn he ft vl bt lg ce bw)) rfl ?_
    have hsx := sSt_r (sLt w) t v x (by omega) (by omega)
    refine v_aload_n (j := 0) (x := a 0) G dX9_first_26 rfl rfl ?_
    refine v_get (q0 := 0) (k := 6) (v := .ref (a 6)) G k_X9 rfl rfl (by decide) q_1 rfl rfl dX9_first_27 ?_
    refine v_iload_n (j := 1) (x := jI x) G dX9_first_30 rfl rfl ?_
    refine v_iald (q0 := 6) (t0 := 0) (g := sSt (sLt w) t v) (z := x) G rfl rfl (by omega) dX9_first_31 ?_
    refine v_if_gt (a := (sSt (sLt w) t v) x) (tgt := 41) G dX9_first_32 (by decide) (by omega) (fun c_11 => ?_) (fun c_11 => ?_)
    · skip
      refine v_iconst G dX9_first_41 ?_
      refine v_istore (lv' := [(4, .int (jI 0)), (0, .ref (a 0)), (1, .int (jI x)), (2, .int (jI t)), (3, .int (jI v))]) G dX9_first_42 (by decide) rfl ?_
      refine v_locs (lv' := [(4, .int (jI 0)), (0, .ref (a 0)), (1, .int (jI x)), (2, .int (jI t)), (3, .int (jI v))]) [0, 1, 2, 3, 4] rfl ?_
      refine v_loop1 (fun (n : Nat) => [(4, .int (jI (n : Int))), (0, .ref (a 0)), (1, .int (jI x)), (2, .int (jI t)), (3, .int (jI v))]) (fun (n : Nat) => (wR cI cL a w kp bf ah ik fd (sSt (sLt w) t v) (sLt w) tp tn he ft vl bt lg ce bw)) (fun (n : Nat) => n ≤ 16 ∧ lstN (fun q_ : Nat => apt x (q_ : Int) = 1 ∧ sSt (sLt w) t v (q_ : Int) = sSt (sLt w) t v x - 1) (16 - n) n = lstN (fun q_ : Nat => apt x (q_ : Int) = 1 ∧ sSt (sLt w) t v (q_ : Int) = sSt (sLt w) t v x - 1) 16 0 ∧ ∀ m_ : Nat, m_ < n → ¬ (fun q_ : Nat => apt x (q_ : Int) = 1 ∧ sSt (sLt w) t v (q_ : Int) = sSt (sLt w) t v x - 1) m_) (fun (n : Nat) => 16 - n) 0 ⟨by decide, rfl, fun m_ hm_ => absurd hm_ (Nat.not_lt_zero _)⟩ rfl rfl ?_
      intro n I_12 ih_13
      obtain ⟨hn, hz, hall⟩ := id I_12
      have hlt : n < 16 := by
        obtain ⟨z, z0, z1, z2, z3⟩ := sSt_p (sLt w) t v x (by omega) (by omega) (by omega)
        have hnz : ¬ z.toNat < n := fun q => hall z.toNat q (by show apt x (z.toNat : Int) = 1 ∧ _; rw [Int.toNat_of_nonneg z0]; exact ⟨z2, z3⟩)
        omega
      have hsn := sSt_r (sLt w) t v (n : Int) (by omega) (by omega)
      have hap := apt_r (a := x) (b := (n : Int)) (by omega) (by omega)
      refine v_iload_n (j := 2) (x := jI x) G dX9_first_44 rfl rfl ?_
      refine v_iload (j := 0) (x := jI (n : Int)) G dX9_first_45 rfl ?_
      refine v_ciN G (rn_S (As := [.int (jI x), .int (jI (n : Int))]) (rest := []) G (c_X9_apart (x := x) (y := (n : Int)) (hx := (by omega))) gX9_first_X9_apart rfl hdX9_apart ⟨rfl, rfl, Nat.le_of_ble_eq_true rfl, Nat.le_of_ble_eq_true rfl⟩ rfl rfl (Nat.le_of_ble_eq_true rfl) ⟨Nat.zero_le _, Nat.zero_le _⟩ dX9_first_47) (fun r_14 u_16 e_15 => ?_)
      have e_15 : r_14 = jI (apt x (n : Int)) := e_15
      subst e_15
      refine v_iconst G dX9_first_50 ?_
      refine v_icmp_ne (a := apt x (n : Int)) (b := 1) (tgt := 72) G dX9_first_51 (by decide) (by omega) (fun c_17 => ?_) (fun c_17 => ?_)
      · skip
        refine v_iinc (k := 0) (z := (n : Int)) (z' := ((n + 1 : Nat) : Int)) (lv' := [(4, .int (jI ((n + 1 : Nat) : Int))), (0, .ref (a 0)), (1, .int (jI x)), (2, .int (jI t)), (3, .int (jI v))]) G dX9_first_72 rfl (by omega) (by decide) rfl ?_
        refine v_goto (tgt := 44) G dX9_first_75 (by decide) ?_
        exact ih_13 (n + 1) ⟨by omega, lsg_s (by omega) (by rintro ⟨z1, z2⟩; omega) I_12.2.1, fun m_ hm_ => by rcases Nat.lt_succ_iff_lt_or_eq.mp hm_ with q | rfl; exact I_12.2.2 m_ q; rintro ⟨z1, z2⟩; omega⟩ (by omega)
      · skip
        refine v_aload_n (j := 1) (x := a 0) G dX9_first_54 rfl rfl ?_
        refine v_get (q0 := 0) (k := 6) (v := .ref (a 6)) G k_X9 rfl rfl (by decide) q_1 rfl rfl dX9_first_55 ?_
        refine v_iload (j := 0) (x := jI (n : Int)) G dX9_first_58 rfl ?_
        refine v_iald (q0 := 6) (t0 := 0) (g := sSt (sLt w) t v) (z := (n : Int)) G rfl rfl (by omega) dX9_first_60 ?_
        refine v_aload_n (j := 1) (x := a 0) G dX9_first_61 rfl rfl ?_
        refine v_get (q0 := 0) (k := 6) (v := .ref (a 6)) G k_X9 rfl rfl (by decide) q_1 rfl rfl dX9_first_62 ?_
        refine v_iload_n (j := 2) (x := jI x) G dX9_first_65 rfl rfl ?_
        refine v_iald (q0 := 6) (t0 := 0) (g := sSt (sLt w) t v) (z := x) G rfl rfl (by omega) dX9_first_66 ?_
        refine v_iconst G dX9_first_67 ?_
        refine v_isub (z := ((sSt (sLt w) t v) x) - 1) G dX9_first_68 rfl ?_
        refine v_icmp_eq (a := (sSt (sLt w) t v) (n : Int)) (b := ((sSt (sLt w) t v) x) - 1) (tgt := 78) G dX9_first_69 (by decide) (by omega) (fun c_18 => ?_) (fun c_18 => ?_)
        · skip
          have hres : lstN (fun q_ : Nat => apt x (q_ : Int) = 1 ∧ sSt (sLt w) t v (q_ : Int) = sSt (sLt w) t v x - 1) 16 0 = n := lsg_i hz (by omega) ⟨by omega, by omega⟩
          refine v_iload (j := 0) (x := jI (n : Int)) G dX9_first_78 rfl ?_
          exact v_iret G (fd, sSt (sLt w) t v, (sLt w)) (by first | exact Or.inl ⟨(by omega), (by first | rfl | exact congrArg jI (by omega)), rfl⟩ | exact Or.inr (Or.inl ⟨(by omega), (by first | rfl | exact congrArg jI (by omega)), rfl⟩) | exact Or.inr (Or.inr ⟨(by omega), (by first | rfl | exact congrArg jI (by omega)), rfl⟩)) rfl dX9_first_80
        · skip
          refine v_iinc (k := 0) (z := (n : Int)) (z' := ((n + 1 : Nat) : Int)) (lv' := [(4, .int (jI ((n + 1 : Nat) : Int))), (0, .ref (a 0)), (1, .int (jI x)), (2, .int (jI t)), (3, .int (jI v))]) G dX9_first_72 rfl (by omega) (by decide) rfl ?_
          refine v_goto (tgt := 44) G dX9_first_75 (by decide) ?_
          exact ih_13 (n + 1) ⟨by omega, lsg_s (by omega) (by rintro ⟨z1, z2⟩; omega) I_12.2.1, fun m_ hm_ => by rcases Nat.lt_succ_iff_lt_or_eq.mp hm_ with q | rfl; exact I_12.2.2 m_ q; rintro ⟨z1, z2⟩; omega⟩ (by omega)
    · skip
      refine v_aload_n (j := 0) (x := a 0) G dX9_first_35 rfl rfl ?_
      refine v_iconst G dX9_first_36 ?_
      refine v_ciF G (rn_V (As := [.int (jI 3)]) (rest := []) (q0 := 0) G (c_X9_no (k := 3) (w := w) (kp := kp) (bf := bf) (ah := ah) (ik := ik) (fd := fd) (sp := sSt (sLt w) t v) (lt := (sLt w)) (tp := tp) (tn := tn) (he := he) (ft := ft) (vl := vl) (bt := bt) (lg := lg) (ce := ce) (bw := bw) (a := a) (hk := (by omega))) gX9_first_X9_no rfl hdX9_no ⟨rfl, rfl, Nat.le_of_ble_eq_true rfl, Nat.le_of_ble_eq_true rfl⟩ rfl rfl (Nat.le_of_ble_eq_true rfl) ⟨Nat.zero_le _, Nat.zero_le _⟩ rfl rfl dX9_first_37) (fun r_19 u_21 e_20 => ?_)
      have e_20 : r_19 = jI ((-1000000001) - 3) := e_20
      subst e_20
      refine v_world (ws' := (wR cI cL a w kp bf ah ik (uI fd 3 (fd 3 + 1)) (sSt (sLt w) t v) (sLt w) tp tn he ft vl bt lg ce bw)) rfl ?_
      exact v_iret G (uI fd 3 (fd 3 + 1), (sSt (sLt w) t v), (sLt w)) (by first | exact Or.inl ⟨(by omega), (by first | rfl | exact congrArg jI (by omega)), rfl⟩ | exact Or.inr (Or.inl ⟨(by omega), (by first | rfl | exact congrArg jI (by omega)), rfl⟩) | exact Or.inr (Or.inr ⟨(by omega), (by first | rfl | exact congrArg jI (by omega)), rfl⟩)) rfl dX9_first_40
  · skip
    refine v_aload_n (j := 0) (x := a 0) G dX9_first_10 rfl rfl ?_
    refine v_iconst G dX9_first_11 ?_
    refine v_ciF G (rn_V (As := [.int (jI 0)]) (rest := []) (q0 := 0) G (c_X9_no (k := 0) (w := w) (kp := kp) (bf := bf) (ah := ah) (ik := ik) (fd := fd) (sp := sp) (lt := lt) (tp := tp) (tn := tn) (he := he) (ft := ft) (vl := vl) (bt := bt) (lg := lg) (ce := ce) (bw := bw) (a := a) (hk := (by omega))) gX9_first_X9_no rfl hdX9_no ⟨rfl, rfl, Nat.le_of_ble_eq_true rfl, Nat.le_of_ble_eq_true rfl⟩ rfl rfl (Nat.le_of_ble_eq_true rfl) ⟨Nat.zero_le _, Nat.zero_le _⟩ rfl rfl dX9_first_12) (fun r_22 u_24 e_23 => ?_)
    have e_23 : r_22 = jI ((-1000000001) - 0) := e_23
    subst e_23
    refine v_world (ws' := (wR cI cL a w kp bf ah ik (uI fd 0 (fd 0 + 1)) sp lt tp tn he ft vl bt lg ce bw)) rfl ?_
    exact v_iret G (uI fd 0 (fd 0 + 1), sp, lt) (by first | exact Or.inl ⟨(by omega), (by first | rfl | exact congrArg jI (by omega)), rfl⟩ | exact Or.inr (Or.inl ⟨(by omega), (by first | rfl | exact congrArg jI (by omega)), rfl⟩) | exact Or.inr (Or.inr ⟨(by omega), (by first | rfl | exact congrArg jI (by omega)), rfl⟩)) rfl dX9_first_15

set_option maxHeartbeats 4000000 in
set_option maxRecDepth 100000 in
theorem c_X9_manyWith (x v : Int) (hx : 0 ≤ x ∧ x < 93) (hw : Wf (uI w x v)) (h0 : uI w x v 0 ≤ 9999) : Ci l yX9_manyWith wsX9_manyWith { frames := 7, cells := 0, slots := 0, locals := 157 } D (jT cI cL cB cS) [.ref (a 0), .int (jI x), .int (jI v)] (wR cI cL a w kp bf ah ik fd sp lt tp tn he ft vl bt lg ce bw) (S := Unit) (fun _ => (wR cI cL a w kp bf (uI w x v) ik fd sp lt tp tn he ft vl bt lg ce bw)) (fun r _ => r = jI (onI (sDn (uI w x v)) 32)) := by
  refine Ci.mk (cc := cX9_manyWith) (maxL := 5) (rt := .int) (by decide) rfl (Nat.le_of_ble_eq_true rfl) rfl ?_
  intro p_ e_ s_ m_ b_ me_ c_ A_ G hnm
  have k_X9 : ∀ w ∈ u_ws RX9 TX9 17, w ∈ wsX9_manyWith := fun _ h => List.mem_cons_of_mem _ (List.mem_append_right _ h)
  have q_1 : Cond.fieldLink RX9 9 "SupperLightModel" "s" "[I" ∈ wsX9_manyWith := List.mem_of_getElem? (i := 1) rfl
  refine v_aload_n (j := 0) (x := a 0) G dX9_manyWith_0 rfl rfl ?_
  refine v_iload_n (j := 1) (x := jI x) G dX9_manyWith_1 rfl rfl ?_
  refine v_iload_n (j := 2) (x := jI v) G dX9_manyWith_2 rfl rfl ?_
  refine v_ciF G (rn_V (As := [.int (jI x), .int (jI v)]) (rest := []) (q0 := 0) G (c_X9_puts (x := x) (v := v) (w := w) (kp := kp) (bf := bf) (ah := ah) (ik := ik) (fd := fd) (sp := sp) (lt := lt) (tp := tp) (tn := tn) (he := he) (ft := ft) (vl := vl) (bt := bt) (lg := lg) (ce := ce) (bw := bw) (a := a) (hx := (by omega))) gX9_manyWith_X9_puts rfl hdX9_puts ⟨rfl, rfl, Nat.le_of_ble_eq_true rfl, Nat.le_of_ble_eq_true rfl⟩ rfl rfl (Nat.le_of_ble_eq_true rfl) ⟨Nat.zero_le _, Nat.zero_le _⟩ rfl rfl dX9_manyWith_3) (fun r_1 u_3 e_2 => ?_)
  have e_2 : r_1 = jI (w x) := e_2
  subst e_2
  refine v_world (ws' := (wR cI cL a (uI w x v) kp bf ah ik fd sp lt tp tn he ft vl bt lg ce bw)) rfl ?_
  refine v_istore_n (lv' := [(3, .int (jI (w x))), (0, .ref (a 0)), (1, .int (jI x)), (2, .int (jI v))]) G dX9_manyWith_6 rfl (by decide) rfl ?_
  refine v_aload_n (j := 1) (x := a 0) G dX9_manyWith_7 rfl rfl ?_
  refine v_ciF G (rn_V (As := []) (rest := []) (q0 := 0) G (c_X9_doneAhead (w := uI w x v) (kp := kp) (bf := bf) (ah := ah) (ik := ik) (fd := fd) (sp := sp) (lt := lt) (tp := tp) (tn := tn) (he := he) (ft := ft) (vl := vl) (bt := bt) (lg := lg) (ce := ce) (bw := bw) (a := a) (hw := hw) (h0 := h0)) gX9_manyWith_X9_doneAhead rfl hdX9_doneAhead ⟨rfl, rfl, Nat.le_of_ble_eq_true rfl, Nat.le_of_ble_eq_true rfl⟩ rfl rfl (Nat.le_of_ble_eq_true rfl) ⟨Nat.zero_le _, Nat.zero_le _⟩ rfl rfl dX9_manyWith_8) (fun r_4 u_6 e_5 => ?_)
  have e_5 : r_4 = sDn (uI w x v) := e_5
  subst e_5
  refine v_world (ws' := (wR cI cL a (uI w x v) kp bf (uI w x v) ik fd sp lt tp tn he ft vl bt lg ce bw)) rfl ?_
  refine v_ciN G (rn_S (As := [.int (sDn (uI w x v))]) (rest := []) G (c_X9_onesJ (x := sDn (uI w x v)) ) gX9_manyWith_X9_ones rfl hdX9_ones ⟨rfl, rfl, Nat.le_of_ble_eq_true rfl, Nat.le_of_ble_eq_true rfl⟩ rfl rfl (Nat.le_of_ble_eq_true rfl) ⟨Nat.zero_le _, Nat.zero_le _⟩ dX9_manyWith_11) (fun r_7 u_9 e_8 => ?_)
  have e_8 : r_7 = jI (onI (sDn (uI w x v)) 32) := e_8
  subst e_8
  refine v_istore (lv' := [(4, .int (jI (onI (sDn (uI w x v)) 32))), (3, .int (jI (w x))), (0, .ref (a 0)), (1, .int (jI x)), (2, .int (jI v))]) G dX9_manyWith_14 (by decide) rfl ?_
  refine v_aload_n (j := 2) (x := a 0) G dX9_manyWith_16 rfl rfl ?_
  refine v_get (q0 := 0) (k := 0) (v := .ref (a 1)) G k_X9 rfl rfl (by decide) q_1 rfl rfl dX9_manyWith_17 ?_
  refine v_iload_n (j := 3) (x := jI x) G dX9_manyWith_20 rfl rfl ?_
  refine v_iload_n (j := 1) (x := jI (w x)) G dX9_manyWith_21 rfl rfl ?_
  refine v_iast (q0 := 1) (t0 := 0) (g := (uI w x v)) (z := x) (x := w x) (ws' := (wR cI cL a (uI (uI w x v) x (w x)) kp bf (uI w x v) ik fd sp lt tp tn he ft vl bt lg ce bw)) G rfl rfl (by omega) rfl dX9_manyWith_22 ?_
  refine v_cell (q0 := 1) (g := uI (uI w x v) x (w x)) (g' := w) (ws' := (wR cI cL a w kp bf (uI w x v) ik fd sp lt tp tn he ft vl bt lg ce bw)) rfl (fun j _ _ => by unfold uI; split <;> simp_all) rfl ?_
  refine v_iload (j := 0) (x := jI (onI (sDn (uI w x v)) 32)) G dX9_manyWith_23 rfl ?_
  exact v_iret G () rfl rfl dX9_manyWith_25

set_option maxHeartbeats 4000000 in
set_option maxRecDepth 100000 in
theorem c_X9_hang (v : Int) (hw : Wf w) (h0 : w 0 ≤ 9999) (hr : (-2147483648 ≤ v ∧ v ≤ 2147483647)) : Ci l yX9_hang wsX9_hang { frames := 8, cells := 0, slots := 0, locals := 181 } D (jT cI cL cB cS) [.ref (a 0), .int (jI v)] (wR cI cL a w kp bf ah ik fd sp lt tp tn he ft vl bt lg ce bw) (S := (Int → Int) × (Int → Int)) (fun u => (wR cI cL a w kp bf u.2 ik u.1 sp lt tp tn he ft vl bt lg ce bw)) (fun r u => ((¬ (1 ≤ v ∧ v ≤ 99)) ∧ r = jI (-1000000001) ∧ u.1 = uI fd 0 (fd 0 + 1)) ∨ ((1 ≤ v ∧ v ≤ 99) ∧ r = jI (bsN (fun z_ => onI (sDn (uI w (3 + z_) (jmin (w (3 + z_) + v) 99))) 32) 16) ∧ u.1 = fd)) := by
  refine Ci.mk (cc := cX9_hang) (maxL := 7) (rt := .int) (by decide) rfl (Nat.le_of_ble_eq_true rfl) rfl ?_
  intro p_ e_ s_ m_ b_ me_ c_ A_ G hnm
  have hm := hw.many
  have hmt := hw.tasks
  have hh := hw.hour
  have k_X9 : ∀ w ∈ u_ws RX9 TX9 17, w ∈ wsX9_hang := fun _ h => List.mem_cons_of_mem _ (List.mem_append_right _ h)
  have q_1 : Cond.fieldLink RX9 9 "SupperLightModel" "s" "[I" ∈ wsX9_hang := List.mem_of_getElem? (i := 1) rfl
  refine v_iload_n (j := 1) (x := jI v) G dX9_hang_0 rfl rfl ?_
  refine v_iconst G dX9_hang_1 ?_
  refine v_bipush G dX9_hang_2 (by decide) ?_
  refine v_ciN G (rn_S (As := [.int (jI v), .int (jI 1), .int (jI 99)]) (rest := []) G (c_X9_in (v := v) (lo := 1) (hi := 99) (hr := (by omega))) gX9_hang_X9_in rfl hdX9_in ⟨rfl, rfl, Nat.le_of_ble_eq_true rfl, Nat.le_of_ble_eq_true rfl⟩ rfl rfl (Nat.le_of_ble_eq_true rfl) ⟨Nat.zero_le _, Nat.zero_le _⟩ dX9_hang_4) (fun r_1 u_3 e_2 => ?_)
  have e_2 : r_1 = jI (b2 (1 ≤ v ∧ v ≤ 99)) := e_2
  subst e_2
  refine v_ifb_ne (P := 1 ≤ v ∧ v ≤ 99) (tgt := 16) G dX9_hang_7 (by decide) (fun c_4 => ?_) (fun c_4 => ?_)
  · skip
    refine v_iconst G dX9_hang_16 ?_
    refine v_istore_n (lv' := [(2, .int (jI 0)), (0, .ref (a 0)), (1, .int (jI v))]) G dX9_hang_17 rfl (by decide) rfl ?_
    refine v_iconst G dX9_hang_18 ?_
    refine v_istore_n (lv' := [(3, .int (jI (-1))), (2, .int (jI 0)), (0, .ref (a 0)), (1, .int (jI v))]) G dX9_hang_19 rfl (by decide) rfl ?_
    refine v_iconst G dX9_hang_20 ?_
    refine v_istore (lv' := [(4, .int (jI 0)), (3, .int (jI (-1))), (2, .int (jI 0)), (0, .ref (a 0)), (1, .int (jI v))]) G dX9_hang_21 (by decide) rfl ?_
    refine v_locs (lv' := [(4, .int (jI 0)), (3, .int (jI (-1))), (2, .int (jI 0)), (0, .ref (a 0)), (1, .int (jI v))]) [0, 1, 2, 3, 4] rfl ?_
    refine v_loop2 (fun (k : Nat) (aq : Int → Int) => [(4, .int (jI (k : Int))), (3, .int (jI (msN (fun z_ => onI (sDn (uI w (3 + z_) (jmin (w (3 + z_) + v) 99))) 32) k))), (2, .int (jI (bsN (fun z_ => onI (sDn (uI w (3 + z_) (jmin (w (3 + z_) + v) 99))) 32) k))), (0, .ref (a 0)), (1, .int (jI v))]) (fun (k : Nat) (aq : Int → Int) => (wR cI cL a w kp bf aq ik fd sp lt tp tn he ft vl bt lg ce bw)) (fun (k : Nat) (aq : Int → Int) => (k : Int) ≤ 16) (fun (k : Nat) (aq : Int → Int) => 16 - k) 0 ah (by decide) rfl rfl ?_
    intro k aq I_5 ih_6
    refine v_iload (j := 0) (x := jI (k : Int)) G dX9_hang_23 rfl ?_
    refine v_bipush G dX9_hang_25 (by decide) ?_
    refine v_icmp_ge (a := (k : Int)) (b := 16) (tgt := 99) G dX9_hang_27 (by decide) (by omega) (fun c_7 => ?_) (fun c_7 => ?_)
    · skip
      obtain rfl : k = 16 := by omega
      refine v_iload_n (j := 2) (x := jI (bsN (fun z_ => onI (sDn (uI w (3 + z_) (jmin (w (3 + z_) + v) 99))) 32) 16)) G dX9_hang_99 rfl rfl ?_
      exact v_iret G (fd, aq) (by first | exact Or.inl ⟨(by omega), (by first | rfl | exact congrArg jI (by omega)), rfl⟩ | exact Or.inr ⟨(by omega), (by first | rfl | exact congrArg jI (by omega)), rfl⟩) rfl dX9_hang_100
    · skip
      have hbo := hw.bowl (p := (k : Int)) (by omega) (by omega)
      have hjm := jmin_z (w (3 + (k : Int)) + v) 99
      have hms := msN_r (f := (fun z_ => onI (sDn (uI w (3 + z_) (jmin (w (3 + z_) + v) 99))) 32)) (c := 32) (by omega) (fun z => onI_r _ 32) k
      have hof : 0 ≤ (fun z_ => onI (sDn (uI w (3 + z_) (jmin (w (3 + z_) + v) 99))) 32) (k : Int) ∧ (fun z_ => onI (sDn (uI w (3 + z_) (jmin (w (3 + z_) + v) 99))) 32) (k : Int) ≤ (32 : Nat) := onI_r _ 32
      have hof2 : (fun z_ => onI (sDn (uI w (3 + z_) (jmin (w (3 + z_) + v) 99))) 32) (k : Int) = onI (sDn (uI w (3 + (k : Int)) (jmin (w (3 + (k : Int)) + v) 99))) 32 := rfl
      refine v_aload_n (j := 3) (x := a 0) G dX9_hang_30 rfl rfl ?_
      refine v_get (q0 := 0) (k := 0) (v := .ref (a 1)) G k_X9 rfl rfl (by decide) q_1 rfl rfl dX9_hang_31 ?_
      refine v_iconst G dX9_hang_34 ?_
      refine v_iload (j := 0) (x := jI (k : Int)) G dX9_hang_35 rfl ?_
      refine v_iadd (z := 3 + (k : Int)) G dX9_hang_37 rfl ?_
      refine v_iald (q0 := 1) (t0 := 0) (g := w) (z := 3 + (k : Int)) G rfl rfl (by omega) dX9_hang_38 ?_
      refine v_iload_n (j := 4) (x := jI v) G dX9_hang_39 rfl rfl ?_
      refine v_iadd (z := (w (3 + (k : Int))) + v) G dX9_hang_40 rfl ?_
      refine v_istore (lv' := [(5, .int (jI ((w (3 + (k : Int))) + v))), (4, .int (jI (k : Int))), (3, .int (jI (msN (fun z_ => onI (sDn (uI w (3 + z_) (jmin (w (3 + z_) + v) 99))) 32) k))), (2, .int (jI (bsN (fun z_ => onI (sDn (uI w (3 + z_) (jmin (w (3 + z_) + v) 99))) 32) k))), (0, .ref (a 0)), (1, .int (jI v))]) G dX9_hang_41 (by decide) rfl ?_
      refine v_aload_n (j := 4) (x := a 0) G dX9_hang_43 rfl rfl ?_
      refine v_iconst G dX9_hang_44 ?_
      refine v_iload (j := 1) (x := jI (k : Int)) G dX9_hang_45 rfl ?_
      refine v_iadd (z := 3 + (k : Int)) G dX9_hang_47 rfl ?_
      refine v_iload (j := 0) (x := jI ((w (3 + (k : Int))) + v)) G dX9_hang_48 rfl ?_
      refine v_bipush G dX9_hang_50 (by decide) ?_
      refine v_cut (pc' := 62) (lv' := [(5, .int (jI ((w (3 + (k : Int))) + v))), (4, .int (jI (k : Int))), (3, .int (jI (msN (fun z_ => onI (sDn (uI w (3 + z_) (jmin (w (3 + z_) + v) 99))) 32) k))), (2, .int (jI (bsN (fun z_ => onI (sDn (uI w (3 + z_) (jmin (w (3 + z_) + v) 99))) 32) k))), (0, .ref (a 0)), (1, .int (jI v))]) (st' := [.int (jI (jmin (w (3 + (k : Int)) + v) 99)), .int (jI (3 + (k : Int))), .ref (a 0)]) (ws' := (wR cI cL a w kp bf aq ik fd sp lt tp tn he ft vl bt lg ce bw)) ?_ (fun J_8 => ?_)
      · skip
        refine v_ciF G (rn_V (As := [.int (jI (3 + (k : Int))), .int (jI (jmin (w (3 + (k : Int)) + v) 99))]) (rest := []) (q0 := 0) G (c_X9_manyWith (x := 3 + (k : Int)) (v := jmin (w (3 + (k : Int)) + v) 99) (w := w) (kp := kp) (bf := bf) (ah := aq) (ik := ik) (fd := fd) (sp := sp) (lt := lt) (tp := tp) (tn := tn) (he := he) (ft := ft) (vl := vl) (bt := bt) (lg := lg) (ce := ce) (bw := bw) (a := a) (hx := (by omega)) (hw := (hw.setP (by omega) (by omega))) (h0 := (by rw [uI_n _ _ (by omega)]; exact h0))) gX9_hang_X9_manyWith rfl hdX9_manyWith ⟨rfl, rfl, Nat.le_of_ble_eq_true rfl, Nat.le_of_ble_eq_true rfl⟩ rfl rfl (Nat.le_of_ble_eq_true rfl) ⟨Nat.zero_le _, Nat.zero_le _⟩ rfl rfl dX9_hang_62) (fun r_9 u_11 e_10 => ?_)
        have e_10 : r_9 = jI (onI (sDn (uI w (3 + (k : Int)) (jmin (w (3 + (k : Int)) + v) 99))) 32) := e_10
        subst e_10
        refine v_world (ws' := (wR cI cL a w kp bf (uI w (3 + (k : Int)) (jmin (w (3 + (k : Int)) + v) 99)) ik fd sp lt tp tn he ft vl bt lg ce bw)) rfl ?_
        refine v_istore (lv' := [(6, .int (jI (onI (sDn (uI w (3 + (k : Int)) (jmin (w (3 + (k : Int)) + v) 99))) 32))), (5, .int (jI ((w (3 + (k : Int))) + v))), (4, .int (jI (k : Int))), (3, .int (jI (msN (fun z_ => onI (sDn (uI w (3 + z_) (jmin (w (3 + z_) + v) 99))) 32) k))), (2, .int (jI (bsN (fun z_ => onI (sDn (uI w (3 + z_) (jmin (w (3 + z_) + v) 99))) 32) k))), (0, .ref (a 0)), (1, .int (jI v))]) G dX9_hang_65 (by decide) rfl ?_
        refine v_iload (j := 0) (x := jI (onI (sDn (uI w (3 + (k : Int)) (jmin (w (3 + (k : Int)) + v) 99))) 32)) G dX9_hang_67 rfl ?_
        refine v_iload_n (j := 3) (x := jI (msN (fun z_ => onI (sDn (uI w (3 + z_) (jmin (w (3 + z_) + v) 99))) 32) k)) G dX9_hang_69 rfl rfl ?_
        refine v_cut (pc' := 79) (lv' := [(6, .int (jI (onI (sDn (uI w (3 + (k : Int)) (jmin (w (3 + (k : Int)) + v) 99))) 32))), (5, .int (jI ((w (3 + (k : Int))) + v))), (4, .int (jI (k : Int))), (3, .int (jI (msN (fun z_ => onI (sDn (uI w (3 + z_) (jmin (w (3 + z_) + v) 99))) 32) k))), (2, .int (jI (bsN (fun z_ => onI (sDn (uI w (3 + z_) (jmin (w (3 + z_) + v) 99))) 32) k))), (0, .ref (a 0)), (1, .int (jI v))]) (st' := [.int (jI (bsN (fun z_ => onI (sDn (uI w (3 + z_) (jmin (w (3 + z_) + v) 99))) 32) (k + 1)))]) (ws' := (wR cI cL a w kp bf (uI w (3 + (k : Int)) (jmin (w (3 + (k : Int)) + v) 99)) ik fd sp lt tp tn he ft vl bt lg ce bw)) ?_ (fun J_12 => ?_)
        · skip
          refine v_istore_n (lv' := [(2, .int (jI (bsN (fun z_ => onI (sDn (uI w (3 + z_) (jmin (w (3 + z_) + v) 99))) 32) (k + 1)))), (6, .int (jI (onI (sDn (uI w (3 + (k : Int)) (jmin (w (3 + (k : Int)) + v) 99))) 32))), (5, .int (jI ((w (3 + (k : Int))) + v))), (4, .int (jI (k : Int))), (3, .int (jI (msN (fun z_ => onI (sDn (uI w (3 + z_) (jmin (w (3 + z_) + v) 99))) 32) k))), (0, .ref (a 0)), (1, .int (jI v))]) G dX9_hang_79 rfl (by decide) rfl ?_
          refine v_iload (j := 1) (x := jI (onI (sDn (uI w (3 + (k : Int)) (jmin (w (3 + (k : Int)) + v) 99))) 32)) G dX9_hang_80 rfl ?_
          refine v_iload_n (j := 4) (x := jI (msN (fun z_ => onI (sDn (uI w (3 + z_) (jmin (w (3 + z_) + v) 99))) 32) k)) G dX9_hang_82 rfl rfl ?_
          refine v_cut (pc' := 92) (lv' := [(2, .int (jI (bsN (fun z_ => onI (sDn (uI w (3 + z_) (jmin (w (3 + z_) + v) 99))) 32) (k + 1)))), (6, .int (jI (onI (sDn (uI w (3 + (k : Int)) (jmin (w (3 + (k : Int)) + v) 99))) 32))), (5, .int (jI ((w (3 + (k : Int))) + v))), (4, .int (jI (k : Int))), (3, .int (jI (msN (fun z_ => onI (sDn (uI w (3 + z_) (jmin (w (3 + z_) + v) 99))) 32) k))), (0, .ref (a 0)), (1, .int (jI v))]) (st' := [.int (jI (msN (fun z_ => onI (sDn (uI w (3 + z_) (jmin (w (3 + z_) + v) 99))) 32) (k + 1)))]) (ws' := (wR cI cL a w kp bf (uI w (3 + (k : Int)) (jmin (w (3 + (k : Int)) + v) 99)) ik fd sp lt tp tn he ft vl bt lg ce bw)) ?_ (fun J_13 => ?_)
          · skip
            refine v_istore_n (lv' := [(3, .int (jI (msN (fun z_ => onI (sDn (uI w (3 + z_) (jmin (w (3 + z_) + v) 99))) 32) (k + 1)))), (2, .int (jI (bsN (fun z_ => onI (sDn (uI w (3 + z_) (jmin (w (3 + z_) + v) 99))) 32) (k + 1)))), (6, .int (jI (onI (sDn (uI w (3 + (k : Int)) (jmin (w (3 + (k : Int)) + v) 99))) 32))), (5, .int (jI ((w (3 + (k : Int))) + v))), (4, .int (jI (k : Int))), (0, .ref (a 0)), (1, .int (jI v))]) G dX9_hang_92 rfl (by decide) rfl ?_
            refine v_iinc (k := 4) (z := (k : Int)) (z' := ((k + 1 : Nat) : Int)) (lv' := [(4, .int (jI ((k + 1 : Nat) : Int))), (3, .int (jI (msN (fun z_ => onI (sDn (uI w (3 + z_) (jmin (w (3 + z_) + v) 99))) 32) (k + 1)))), (2, .int (jI (bsN (fun z_ => onI (sDn (uI w (3 + z_) (jmin (w (3 + z_) + v) 99))) 32) (k + 1)))), (6, .int (jI (onI (sDn (uI w (3 + (k : Int)) (jmin (w (3 + (k : Int)) + v) 99))) 32))), (5, .int (jI ((w (3 + (k : Int))) + v))), (0, .ref (a 0)), (1, .int (jI v))]) G dX9_hang_93 rfl (by omega) (by decide) rfl ?_
            refine v_goto (tgt := 23) G dX9_hang_96 (by decide) ?_
            refine v_locs (lv' := [(4, .int (jI ((k + 1 : Nat) : Int))), (3, .int (jI (msN (fun z_ => onI (sDn (uI w (3 + z_) (jmin (w (3 + z_) + v) 99))) 32) (k + 1)))), (2, .int (jI (bsN (fun z_ => onI (sDn (uI w (3 + z_) (jmin (w (3 + z_) + v) 99))) 32) (k + 1)))), (0, .ref (a 0)), (1, .int (jI v))]) [0, 1, 2, 5, 6] rfl ?_
            exact ih_6 (k + 1) (uI w (3 + (k : Int)) (jmin (w (3 + (k : Int)) + v) 99)) (by omega) (by omega)
          · skip
            refine v_icmp_le (a := onI (sDn (uI w (3 + (k : Int)) (jmin (w (3 + (k : Int)) + v) 99))) 32) (b := msN (fun z_ => onI (sDn (uI w (3 + z_) (jmin (w (3 + z_) + v) 99))) 32) k) (tgt := 91) G dX9_hang_83 (by decide) (by omega) (fun c_14 => ?_) (fun c_14 => ?_)
            · skip
              refine v_iload_n (j := 4) (x := jI (msN (fun z_ => onI (sDn (uI w (3 + z_) (jmin (w (3 + z_) + v) 99))) 32) k)) G dX9_hang_91 rfl rfl ?_
              refine v_topj (x := msN (fun z_ => onI (sDn (uI w (3 + z_) (jmin (w (3 + z_) + v) 99))) 32) k) (y := msN (fun z_ => onI (sDn (uI w (3 + z_) (jmin (w (3 + z_) + v) 99))) 32) (k + 1)) (by show _ = (if _ then _ else _); split <;> omega) ?_
              exact J_13
            · skip
              refine v_iload (j := 1) (x := jI (onI (sDn (uI w (3 + (k : Int)) (jmin (w (3 + (k : Int)) + v) 99))) 32)) G dX9_hang_86 rfl ?_
              refine v_goto (tgt := 92) G dX9_hang_88 (by decide) ?_
              refine v_topj (x := onI (sDn (uI w (3 + (k : Int)) (jmin (w (3 + (k : Int)) + v) 99))) 32) (y := msN (fun z_ => onI (sDn (uI w (3 + z_) (jmin (w (3 + z_) + v) 99))) 32) (k + 1)) (by show _ = (if _ then _ else _); split <;> omega) ?_
              exact J_13
        · skip
          refine v_icmp_le (a := onI (sDn (uI w (3 + (k : Int)) (jmin (w (3 + (k : Int)) + v) 99))) 32) (b := msN (fun z_ => onI (sDn (uI w (3 + z_) (jmin (w (3 + z_) + v) 99))) 32) k) (tgt := 78) G dX9_hang_70 (by decide) (by omega) (fun c_15 => ?_) (fun c_15 => ?_)
          · skip
            refine v_iload_n (j := 4) (x := jI (bsN (fun z_ => onI (sDn (uI w (3 + z_) (jmin (w (3 + z_) + v) 99))) 32) k)) G dX9_hang_78 rfl rfl ?_
            refine v_topj (x := bsN (fun z_ => onI (sDn (uI w (3 + z_) (jmin (w (3 + z_) + v) 99))) 32) k) (y := bsN (fun z_ => onI (sDn (uI w (3 + z_) (jmin (w (3 + z_) + v) 99))) 32) (k + 1)) (by show _ = (if _ then _ else _); split <;> omega) ?_
            exact J_12
          · skip
            refine v_iload (j := 2) (x := jI (k : Int)) G dX9_hang_73 rfl ?_
            refine v_goto (tgt := 79) G dX9_hang_75 (by decide) ?_
            refine v_topj (x := (k : Int)) (y := bsN (fun z_ => onI (sDn (uI w (3 + z_) (jmin (w (3 + z_) + v) 99))) 32) (k + 1)) (by show _ = (if _ then _ else _); split <;> omega) ?_
            exact J_12
      · skip
        refine v_icmp_le (a := (w (3 + (k : Int))) + v) (b := 99) (tgt := 60) G dX9_hang_52 (by decide) (by omega) (fun c_16 => ?_) (fun c_16 => ?_)
        · skip
          refine v_iload (j := 0) (x := jI ((w (3 + (k : Int))) + v)) G dX9_hang_60 rfl ?_
          refine v_topj (x := (w (3 + (k : Int))) + v) (y := jmin (w (3 + (k : Int)) + v) 99) (by omega) ?_
          exact J_8
        · skip
          refine v_bipush G dX9_hang_55 (by decide) ?_
          refine v_goto (tgt := 62) G dX9_hang_57 (by decide) ?_
          refine v_topj (x := 99) (y := jmin (w (3 + (k : Int)) + v) 99) (by omega) ?_
          exact J_8
  · skip
    refine v_aload_n (j := 0) (x := a 0) G dX9_hang_10 rfl rfl ?_
    refine v_iconst G dX9_hang_11 ?_
    refine v_ciF G (rn_V (As := [.int (jI 0)]) (rest := []) (q0 := 0) G (c_X9_no (k := 0) (w := w) (kp := kp) (bf := bf) (ah := ah) (ik := ik) (fd := fd) (sp := sp) (lt := lt) (tp := tp) (tn := tn) (he := he) (ft := ft) (vl := vl) (bt := bt) (lg := lg) (ce := ce) (bw := bw) (a := a) (hk := (by omega))) gX9_hang_X9_no rfl hdX9_no ⟨rfl, rfl, Nat.le_of_ble_eq_true rfl, Nat.le_of_ble_eq_true rfl⟩ rfl rfl (Nat.le_of_ble_eq_true rfl) ⟨Nat.zero_le _, Nat.zero_le _⟩ rfl rfl dX9_hang_12) (fun r_17 u_19 e_18 => ?_)
    have e_18 : r_17 = jI ((-1000000001) - 0) := e_18
    subst e_18
    refine v_world (ws' := (wR cI cL a w kp bf ah ik (uI fd 0 (fd 0 + 1)) sp lt tp tn he ft vl bt lg ce bw)) rfl ?_
    exact v_iret G (uI fd 0 (fd 0 + 1), ah) (by first | exact Or.inl ⟨(by omega), (by first | rfl | exact congrArg jI (by omega)), rfl⟩ | exact Or.inr ⟨(by omega), (by first | rfl | exact congrArg jI (by omega)), rfl⟩) rfl dX9_hang_15

set_option maxHeartbeats 4000000 in
set_option maxRecDepth 100000 in
theorem c_X9_meal (b t : Int) (hw : Wf w) (h0 : w 0 ≤ 9999) (hr : (-2147483648 ≤ b ∧ b ≤ 2147483647) ∧ (-2147483648 ≤ t ∧ t ≤ 2147483647)) : Ci l yX9_meal wsX9_meal { frames := 7, cells := 0, slots := 0, locals := 157 } D (jT cI cL cB cS) [.ref (a 0), .int (jI b), .int (jI t)] (wR cI cL a w kp bf ah ik fd sp lt tp tn he ft vl bt lg ce bw) (S := (Int → Int) × (Int → Int)) (fun u => (wR cI cL a w kp bf u.2 ik u.1 sp lt tp tn he ft vl bt lg ce bw)) (fun r u => ((¬ ((0 ≤ b ∧ b ≤ w 1 - 1) ∧ (0 ≤ t ∧ t ≤ w 2 - 1))) ∧ r = jI (-1000000001) ∧ u.1 = uI fd 0 (fd 0 + 1)) ∨ ((((0 ≤ b ∧ b ≤ w 1 - 1) ∧ (0 ≤ t ∧ t ≤ w 2 - 1)) ∧ lstN (fun q_ : Nat => (sDn (eatW w b (q_ : Int)) >>> (jI t &&& 31)) &&& jI 1 = jI 1) 100 0 ≤ 99) ∧ r = jI (lstN (fun q_ : Nat => (sDn (eatW w b (q_ : Int)) >>> (jI t &&& 31)) &&& jI 1 = jI 1) 100 0 : Int) ∧ u.1 = fd) ∨ ((((0 ≤ b ∧ b ≤ w 1 - 1) ∧ (0 ≤ t ∧ t ≤ w 2 - 1)) ∧ 99 < lstN (fun q_ : Nat => (sDn (eatW w b (q_ : Int)) >>> (jI t &&& 31)) &&& jI 1 = jI 1) 100 0) ∧ r = jI (-1000000004) ∧ u.1 = uI fd 3 (fd 3 + 1))) := by
  refine Ci.mk (cc := cX9_meal) (maxL := 7) (rt := .int) (by decide) rfl (Nat.le_of_ble_eq_true rfl) rfl ?_
  intro p_ e_ s_ m_ b_ me_ c_ A_ G hnm
  have hm := hw.many
  have hmt := hw.tasks
  have hh := hw.hour
  have k_X9 : ∀ w ∈ u_ws RX9 TX9 17, w ∈ wsX9_meal := fun _ h => List.mem_cons_of_mem _ (List.mem_append_right _ h)
  have q_1 : Cond.fieldLink RX9 9 "SupperLightModel" "s" "[I" ∈ wsX9_meal := List.mem_of_getElem? (i := 1) rfl
  refine v_aload_n (j := 0) (x := a 0) G dX9_meal_0 rfl rfl ?_
  refine v_iload_n (j := 1) (x := jI b) G dX9_meal_1 rfl rfl ?_
  refine v_ciF G (rn_V (As := [.int (jI b)]) (rest := []) (q0 := 0) G (c_X9_isBeing (b := b) (w := w) (kp := kp) (bf := bf) (ah := ah) (ik := ik) (fd := fd) (sp := sp) (lt := lt) (tp := tp) (tn := tn) (he := he) (ft := ft) (vl := vl) (bt := bt) (lg := lg) (ce := ce) (bw := bw) (a := a) (hw := hw) (hr := (by omega))) gX9_meal_X9_isBeing rfl hdX9_isBeing ⟨rfl, rfl, Nat.le_of_ble_eq_true rfl, Nat.le_of_ble_eq_true rfl⟩ rfl rfl (Nat.le_of_ble_eq_true rfl) ⟨Nat.zero_le _, Nat.zero_le _⟩ rfl rfl dX9_meal_2) (fun r_1 u_3 e_2 => ?_)
  have e_2 : r_1 = jI (b2 (0 ≤ b ∧ b ≤ w 1 - 1)) := e_2
  subst e_2
  refine v_world (ws' := (wR cI cL a w kp bf ah ik fd sp lt tp tn he ft vl bt lg ce bw)) rfl ?_
  refine v_ifb_eq (P := 0 ≤ b ∧ b ≤ w 1 - 1) (tgt := 16) G dX9_meal_5 (by decide) (fun c_4 => ?_) (fun c_4 => ?_)
  · skip
    refine v_aload_n (j := 0) (x := a 0) G dX9_meal_16 rfl rfl ?_
    refine v_iconst G dX9_meal_17 ?_
    refine v_ciF G (rn_V (As := [.int (jI 0)]) (rest := []) (q0 := 0) G (c_X9_no (k := 0) (w := w) (kp := kp) (bf := bf) (ah := ah) (ik := ik) (fd := fd) (sp := sp) (lt := lt) (tp := tp) (tn := tn) (he := he) (ft := ft) (vl := vl) (bt := bt) (lg := lg) (ce := ce) (bw := bw) (a := a) (hk := (by omega))) gX9_meal_X9_no rfl hdX9_no ⟨rfl, rfl, Nat.le_of_ble_eq_true rfl, Nat.le_of_ble_eq_true rfl⟩ rfl rfl (Nat.le_of_ble_eq_true rfl) ⟨Nat.zero_le _, Nat.zero_le _⟩ rfl rfl dX9_meal_18) (fun r_5 u_7 e_6 => ?_)
    have e_6 : r_5 = jI ((-1000000001) - 0) := e_6
    subst e_6
    refine v_world (ws' := (wR cI cL a w kp bf ah ik (uI fd 0 (fd 0 + 1)) sp lt tp tn he ft vl bt lg ce bw)) rfl ?_
    exact v_iret G (uI fd 0 (fd 0 + 1), ah) (by first | exact Or.inl ⟨(by omega), (by first | rfl | exact congrArg jI (by omega)), rfl⟩ | exact Or.inr (Or.inl ⟨(by omega), (by first | rfl | exact congrArg jI (by omega)), rfl⟩) | exact Or.inr (Or.inr ⟨(by omega), (by first | rfl | exact congrArg jI (by omega)), rfl⟩)) rfl dX9_meal_21
  · skip
    refine v_aload_n (j := 0) (x := a 0) G dX9_meal_8 rfl rfl ?_
    refine v_iload_n (j := 2) (x := jI t) G dX9_meal_9 rfl rfl ?_
    refine v_ciF G (rn_V (As := [.int (jI t)]) (rest := []) (q0 := 0) G (c_X9_isTask (t := t) (w := w) (kp := kp) (bf := bf) (ah := ah) (ik := ik) (fd := fd) (sp := sp) (lt := lt) (tp := tp) (tn := tn) (he := he) (ft := ft) (vl := vl) (bt := bt) (lg := lg) (ce := ce) (bw := bw) (a := a) (hw := hw) (hr := (by omega))) gX9_meal_X9_isTask rfl hdX9_isTask ⟨rfl, rfl, Nat.le_of_ble_eq_true rfl, Nat.le_of_ble_eq_true rfl⟩ rfl rfl (Nat.le_of_ble_eq_true rfl) ⟨Nat.zero_le _, Nat.zero_le _⟩ rfl rfl dX9_meal_10) (fun r_8 u_10 e_9 => ?_)
    have e_9 : r_8 = jI (b2 (0 ≤ t ∧ t ≤ w 2 - 1)) := e_9
    subst e_9
    refine v_world (ws' := (wR cI cL a w kp bf ah ik fd sp lt tp tn he ft vl bt lg ce bw)) rfl ?_
    refine v_ifb_ne (P := 0 ≤ t ∧ t ≤ w 2 - 1) (tgt := 22) G dX9_meal_13 (by decide) (fun c_11 => ?_) (fun c_11 => ?_)
    · skip
      refine v_aload_n (j := 0) (x := a 0) G dX9_meal_22 rfl rfl ?_
      refine v_iload_n (j := 1) (x := jI b) G dX9_meal_23 rfl rfl ?_
      refine v_iconst G dX9_meal_24 ?_
      refine v_ciF G (rn_V (As := [.int (jI b), .int (jI 3)]) (rest := []) (q0 := 0) G (c_X9_is (b := b) (k := 3) (w := w) (kp := kp) (bf := bf) (ah := ah) (ik := ik) (fd := fd) (sp := sp) (lt := lt) (tp := tp) (tn := tn) (he := he) (ft := ft) (vl := vl) (bt := bt) (lg := lg) (ce := ce) (bw := bw) (a := a) (hb := (by omega))) gX9_meal_X9_is rfl hdX9_is ⟨rfl, rfl, Nat.le_of_ble_eq_true rfl, Nat.le_of_ble_eq_true rfl⟩ rfl rfl (Nat.le_of_ble_eq_true rfl) ⟨Nat.zero_le _, Nat.zero_le _⟩ rfl rfl dX9_meal_25) (fun r_12 u_14 e_13 => ?_)
      have e_13 : r_12 = jI (fB w b 3) := e_13
      subst e_13
      refine v_world (ws' := (wR cI cL a w kp bf ah ik fd sp lt tp tn he ft vl bt lg ce bw)) rfl ?_
      refine v_istore_n (lv' := [(3, .int (jI (fB w b 3))), (0, .ref (a 0)), (1, .int (jI b)), (2, .int (jI t))]) G dX9_meal_28 rfl (by decide) rfl ?_
      refine v_aload_n (j := 1) (x := a 0) G dX9_meal_29 rfl rfl ?_
      refine v_iload_n (j := 2) (x := jI b) G dX9_meal_30 rfl rfl ?_
      refine v_iconst G dX9_meal_31 ?_
      refine v_ciF G (rn_V (As := [.int (jI b), .int (jI 4)]) (rest := []) (q0 := 0) G (c_X9_is (b := b) (k := 4) (w := w) (kp := kp) (bf := bf) (ah := ah) (ik := ik) (fd := fd) (sp := sp) (lt := lt) (tp := tp) (tn := tn) (he := he) (ft := ft) (vl := vl) (bt := bt) (lg := lg) (ce := ce) (bw := bw) (a := a) (hb := (by omega))) gX9_meal_X9_is rfl hdX9_is ⟨rfl, rfl, Nat.le_of_ble_eq_true rfl, Nat.le_of_ble_eq_true rfl⟩ rfl rfl (Nat.le_of_ble_eq_true rfl) ⟨Nat.zero_le _, Nat.zero_le _⟩ rfl rfl dX9_meal_32) (fun r_15 u_17 e_16 => ?_)
      have e_16 : r_15 = jI (fB w b 4) := e_16
      subst e_16
      refine v_world (ws' := (wR cI cL a w kp bf ah ik fd sp lt tp tn he ft vl bt lg ce bw)) rfl ?_
      refine v_istore (lv' := [(4, .int (jI (fB w b 4))), (3, .int (jI (fB w b 3))), (0, .ref (a 0)), (1, .int (jI b)), (2, .int (jI t))]) G dX9_meal_35 (by decide) rfl ?_
      refine v_iconst G dX9_meal_37 ?_
      refine v_topj (x := (-1)) (y := ((0 : Nat) : Int) - 1) (by omega) ?_
      refine v_istore (lv' := [(5, .int (jI (((0 : Nat) : Int) - 1))), (4, .int (jI (fB w b 4))), (3, .int (jI (fB w b 3))), (0, .ref (a 0)), (1, .int (jI b)), (2, .int (jI t))]) G dX9_meal_38 (by decide) rfl ?_
      refine v_iconst G dX9_meal_40 ?_
      refine v_topj (x := 0) (y := b2 False) (b2_f (fun h => h)).symm ?_
      refine v_istore (lv' := [(6, .int (jI (b2 False))), (5, .int (jI (((0 : Nat) : Int) - 1))), (4, .int (jI (fB w b 4))), (3, .int (jI (fB w b 3))), (0, .ref (a 0)), (1, .int (jI b)), (2, .int (jI t))]) G dX9_meal_41 (by decide) rfl ?_
      refine v_locs (lv' := [(6, .int (jI (b2 False))), (5, .int (jI (((0 : Nat) : Int) - 1))), (4, .int (jI (fB w b 4))), (3, .int (jI (fB w b 3))), (0, .ref (a 0)), (1, .int (jI b)), (2, .int (jI t))]) [0, 1, 2, 3, 4, 5, 6] rfl ?_
      refine v_loop4 (fun (n : Nat) (wq : Int → Int) (aq : Int → Int) (Q : Prop) => [(6, .int (jI (b2 Q))), (5, .int (jI ((n : Int) - 1))), (4, .int (jI (fB w b 4))), (3, .int (jI (fB w b 3))), (0, .ref (a 0)), (1, .int (jI b)), (2, .int (jI t))]) (fun (n : Nat) (wq : Int → Int) (aq : Int → Int) (Q : Prop) => (wR cI cL a wq kp bf aq ik fd sp lt tp tn he ft vl bt lg ce bw)) (fun (n : Nat) (wq : Int → Int) (aq : Int → Int) (Q : Prop) => (n ≤ 100) ∧ (∀ j : Int, j ≠ 19 + 5 * b + 3 → j ≠ 19 + 5 * b + 4 → wq j = w j) ∧ (Q → 0 < n ∧ lstN (fun q_ : Nat => (sDn (eatW w b (q_ : Int)) >>> (jI t &&& 31)) &&& jI 1 = jI 1) 100 0 = n - 1) ∧ (¬ Q → lstN (fun q_ : Nat => (sDn (eatW w b (q_ : Int)) >>> (jI t &&& 31)) &&& jI 1 = jI 1) (100 - n) n = lstN (fun q_ : Nat => (sDn (eatW w b (q_ : Int)) >>> (jI t &&& 31)) &&& jI 1 = jI 1) 100 0)) (fun (n : Nat) (wq : Int → Int) (aq : Int → Int) (Q : Prop) => 100 - n) 0 w ah False ⟨by decide, fun j _ _ => rfl, fun h => h.elim, fun _ => rfl⟩ rfl rfl ?_
      intro n wq aq Q I_18 ih_19
      obtain ⟨hn, hq, hy, hz⟩ := id I_18
      refine v_iload (j := 1) (x := jI ((n : Int) - 1)) G dX9_meal_43 rfl ?_
      refine v_bipush G dX9_meal_45 (by decide) ?_
      refine v_icmp_ge (a := (n : Int) - 1) (b := 99) (tgt := 78) G dX9_meal_47 (by decide) (by omega) (fun c_20 => ?_) (fun c_20 => ?_)
      · skip
        refine v_aload_n (j := 4) (x := a 0) G dX9_meal_78 rfl rfl ?_
        refine v_get (q0 := 0) (k := 0) (v := .ref (a 1)) G k_X9 rfl rfl (by decide) q_1 rfl rfl dX9_meal_79 ?_
        refine v_aload_n (j := 4) (x := a 0) G dX9_meal_82 rfl rfl ?_
        refine v_iload_n (j := 5) (x := jI b) G dX9_meal_83 rfl rfl ?_
        refine v_iconst G dX9_meal_84 ?_
        refine v_ciF G (rn_V (As := [.int (jI b), .int (jI 3)]) (rest := [.ref (a 1)]) (q0 := 0) G (c_X9_at (b := b) (k := 3) (w := wq) (kp := kp) (bf := bf) (ah := aq) (ik := ik) (fd := fd) (sp := sp) (lt := lt) (tp := tp) (tn := tn) (he := he) (ft := ft) (vl := vl) (bt := bt) (lg := lg) (ce := ce) (bw := bw) (a := a) ) gX9_meal_X9_at rfl hdX9_at ⟨rfl, rfl, Nat.le_of_ble_eq_true rfl, Nat.le_of_ble_eq_true rfl⟩ rfl rfl (Nat.le_of_ble_eq_true rfl) ⟨Nat.zero_le _, Nat.zero_le _⟩ rfl rfl dX9_meal_85) (fun r_21 u_23 e_22 => ?_)
        have e_22 : r_21 = jI (19 + 5 * b + 3) := e_22
        subst e_22
        refine v_world (ws' := (wR cI cL a wq kp bf aq ik fd sp lt tp tn he ft vl bt lg ce bw)) rfl ?_
        refine v_iload_n (j := 3) (x := jI (fB w b 3)) G dX9_meal_88 rfl rfl ?_
        refine v_iast (q0 := 1) (t0 := 0) (g := wq) (z := 19 + 5 * b + 3) (x := fB w b 3) (ws' := (wR cI cL a (uI wq (19 + 5 * b + 3) (fB w b 3)) kp bf aq ik fd sp lt tp tn he ft vl bt lg ce bw)) G rfl rfl (by omega) rfl dX9_meal_89 ?_
        refine v_aload_n (j := 4) (x := a 0) G dX9_meal_90 rfl rfl ?_
        refine v_get (q0 := 0) (k := 0) (v := .ref (a 1)) G k_X9 rfl rfl (by decide) q_1 rfl rfl dX9_meal_91 ?_
        refine v_aload_n (j := 4) (x := a 0) G dX9_meal_94 rfl rfl ?_
        refine v_iload_n (j := 5) (x := jI b) G dX9_meal_95 rfl rfl ?_
        refine v_iconst G dX9_meal_96 ?_
        refine v_ciF G (rn_V (As := [.int (jI b), .int (jI 4)]) (rest := [.ref (a 1)]) (q0 := 0) G (c_X9_at (b := b) (k := 4) (w := uI wq (19 + 5 * b + 3) (fB w b 3)) (kp := kp) (bf := bf) (ah := aq) (ik := ik) (fd := fd) (sp := sp) (lt := lt) (tp := tp) (tn := tn) (he := he) (ft := ft) (vl := vl) (bt := bt) (lg := lg) (ce := ce) (bw := bw) (a := a) ) gX9_meal_X9_at rfl hdX9_at ⟨rfl, rfl, Nat.le_of_ble_eq_true rfl, Nat.le_of_ble_eq_true rfl⟩ rfl rfl (Nat.le_of_ble_eq_true rfl) ⟨Nat.zero_le _, Nat.zero_le _⟩ rfl rfl dX9_meal_97) (fun r_24 u_26 e_25 => ?_)
        have e_25 : r_24 = jI (19 + 5 * b + 4) := e_25
        subst e_25
        refine v_world (ws' := (wR cI cL a (uI wq (19 + 5 * b + 3) (fB w b 3)) kp bf aq ik fd sp lt tp tn he ft vl bt lg ce bw)) rfl ?_
        refine v_iload (j := 2) (x := jI (fB w b 4)) G dX9_meal_100 rfl ?_
        refine v_iast (q0 := 1) (t0 := 0) (g := (uI wq (19 + 5 * b + 3) (fB w b 3))) (z := 19 + 5 * b + 4) (x := fB w b 4) (ws' := (wR cI cL a (uI (uI wq (19 + 5 * b + 3) (fB w b 3)) (19 + 5 * b + 4) (fB w b 4)) kp bf aq ik fd sp lt tp tn he ft vl bt lg ce bw)) G rfl rfl (by omega) rfl dX9_meal_102 ?_
        refine v_cell (q0 := 1) (g := uI (uI wq (19 + 5 * b + 3) (fB w b 3)) (19 + 5 * b + 4) (fB w b 4)) (g' := w) (ws' := (wR cI cL a w kp bf aq ik fd sp lt tp tn he ft vl bt lg ce bw)) rfl (fun j _ _ => by unfold uI fB; split; subst_vars; rfl; split; subst_vars; rfl; exact hq j (by omega) (by omega)) rfl ?_
        refine v_iload (j := 0) (x := jI (b2 Q)) G dX9_meal_103 rfl ?_
        have hfin : (Q → lstN (fun q_ : Nat => (sDn (eatW w b (q_ : Int)) >>> (jI t &&& 31)) &&& jI 1 = jI 1) 100 0 = n - 1) ∧ (¬ Q → lstN (fun q_ : Nat => (sDn (eatW w b (q_ : Int)) >>> (jI t &&& 31)) &&& jI 1 = jI 1) 100 0 = 100) := ⟨fun z => (hy z).2, fun z => by have e := hz z; first | (rw [show n = 100 by omega] at e; exact e.symm) | exact absurd (by assumption) z⟩
        refine v_ifb_eq (P := Q) (tgt := 113) G dX9_meal_105 (by decide) (fun c_27 => ?_) (fun c_27 => ?_)
        · skip
          have hf1 := hfin.2 (by assumption)
          refine v_aload_n (j := 4) (x := a 0) G dX9_meal_113 rfl rfl ?_
          refine v_iconst G dX9_meal_114 ?_
          refine v_ciF G (rn_V (As := [.int (jI 3)]) (rest := []) (q0 := 0) G (c_X9_no (k := 3) (w := w) (kp := kp) (bf := bf) (ah := aq) (ik := ik) (fd := fd) (sp := sp) (lt := lt) (tp := tp) (tn := tn) (he := he) (ft := ft) (vl := vl) (bt := bt) (lg := lg) (ce := ce) (bw := bw) (a := a) (hk := (by omega))) gX9_meal_X9_no rfl hdX9_no ⟨rfl, rfl, Nat.le_of_ble_eq_true rfl, Nat.le_of_ble_eq_true rfl⟩ rfl rfl (Nat.le_of_ble_eq_true rfl) ⟨Nat.zero_le _, Nat.zero_le _⟩ rfl rfl dX9_meal_115) (fun r_28 u_30 e_29 => ?_)
          have e_29 : r_28 = jI ((-1000000001) - 3) := e_29
          subst e_29
          refine v_world (ws' := (wR cI cL a w kp bf aq ik (uI fd 3 (fd 3 + 1)) sp lt tp tn he ft vl bt lg ce bw)) rfl ?_
          exact v_iret G (uI fd 3 (fd 3 + 1), aq) (by first | exact Or.inl ⟨(by omega), (by first | rfl | exact congrArg jI (by omega)), rfl⟩ | exact Or.inr (Or.inl ⟨(by omega), (by first | rfl | exact congrArg jI (by omega)), rfl⟩) | exact Or.inr (Or.inr ⟨(by omega), (by first | rfl | exact congrArg jI (by omega)), rfl⟩)) rfl dX9_meal_118
        · skip
          have hf1 := hfin.1 (by assumption)
          have hf0 := (hy (by assumption)).1
          refine v_iload (j := 1) (x := jI ((n : Int) - 1)) G dX9_meal_108 rfl ?_
          refine v_goto (tgt := 118) G dX9_meal_110 (by decide) ?_
          exact v_iret G (fd, aq) (by first | exact Or.inl ⟨(by omega), (by first | rfl | exact congrArg jI (by omega)), rfl⟩ | exact Or.inr (Or.inl ⟨(by omega), (by first | rfl | exact congrArg jI (by omega)), rfl⟩) | exact Or.inr (Or.inr ⟨(by omega), (by first | rfl | exact congrArg jI (by omega)), rfl⟩)) rfl dX9_meal_118
      · skip
        refine v_iload (j := 0) (x := jI (b2 Q)) G dX9_meal_50 rfl ?_
        refine v_ifb_ne (P := Q) (tgt := 78) G dX9_meal_52 (by decide) (fun c_31 => ?_) (fun c_31 => ?_)
        · skip
          refine v_aload_n (j := 4) (x := a 0) G dX9_meal_78 rfl rfl ?_
          refine v_get (q0 := 0) (k := 0) (v := .ref (a 1)) G k_X9 rfl rfl (by decide) q_1 rfl rfl dX9_meal_79 ?_
          refine v_aload_n (j := 4) (x := a 0) G dX9_meal_82 rfl rfl ?_
          refine v_iload_n (j := 5) (x := jI b) G dX9_meal_83 rfl rfl ?_
          refine v_iconst G dX9_meal_84 ?_
          refine v_ciF G (rn_V (As := [.int (jI b), .int (jI 3)]) (rest := [.ref (a 1)]) (q0 := 0) G (c_X9_at (b := b) (k := 3) (w := wq) (kp := kp) (bf := bf) (ah := aq) (ik := ik) (fd := fd) (sp := sp) (lt := lt) (tp := tp) (tn := tn) (he := he) (ft := ft) (vl := vl) (bt := bt) (lg := lg) (ce := ce) (bw := bw) (a := a) ) gX9_meal_X9_at rfl hdX9_at ⟨rfl, rfl, Nat.le_of_ble_eq_true rfl, Nat.le_of_ble_eq_true rfl⟩ rfl rfl (Nat.le_of_ble_eq_true rfl) ⟨Nat.zero_le _, Nat.zero_le _⟩ rfl rfl dX9_meal_85) (fun r_32 u_34 e_33 => ?_)
          have e_33 : r_32 = jI (19 + 5 * b + 3) := e_33
          subst e_33
          refine v_world (ws' := (wR cI cL a wq kp bf aq ik fd sp lt tp tn he ft vl bt lg ce bw)) rfl ?_
          refine v_iload_n (j := 3) (x := jI (fB w b 3)) G dX9_meal_88 rfl rfl ?_
          refine v_iast (q0 := 1) (t0 := 0) (g := wq) (z := 19 + 5 * b + 3) (x := fB w b 3) (ws' := (wR cI cL a (uI wq (19 + 5 * b + 3) (fB w b 3)) kp bf aq ik fd sp lt tp tn he ft vl bt lg ce bw)) G rfl rfl (by omega) rfl dX9_meal_89 ?_
          refine v_aload_n (j := 4) (x := a 0) G dX9_meal_90 rfl rfl ?_
          refine v_get (q0 := 0) (k := 0) (v := .ref (a 1)) G k_X9 rfl rfl (by decide) q_1 rfl rfl dX9_meal_91 ?_
          refine v_aload_n (j := 4) (x := a 0) G dX9_meal_94 rfl rfl ?_
          refine v_iload_n (j := 5) (x := jI b) G dX9_meal_95 rfl rfl ?_
          refine v_iconst G dX9_meal_96 ?_
          refine v_ciF G (rn_V (As := [.int (jI b), .int (jI 4)]) (rest := [.ref (a 1)]) (q0 := 0) G (c_X9_at (b := b) (k := 4) (w := uI wq (19 + 5 * b + 3) (fB w b 3)) (kp := kp) (bf := bf) (ah := aq) (ik := ik) (fd := fd) (sp := sp) (lt := lt) (tp := tp) (tn := tn) (he := he) (ft := ft) (vl := vl) (bt := bt) (lg := lg) (ce := ce) (bw := bw) (a := a) ) gX9_meal_X9_at rfl hdX9_at ⟨rfl, rfl, Nat.le_of_ble_eq_true rfl, Nat.le_of_ble_eq_true rfl⟩ rfl rfl (Nat.le_of_ble_eq_true rfl) ⟨Nat.zero_le _, Nat.zero_le _⟩ rfl rfl dX9_meal_97) (fun r_35 u_37 e_36 => ?_)
          have e_36 : r_35 = jI (19 + 5 * b + 4) := e_36
          subst e_36
          refine v_world (ws' := (wR cI cL a (uI wq (19 + 5 * b + 3) (fB w b 3)) kp bf aq ik fd sp lt tp tn he ft vl bt lg ce bw)) rfl ?_
          refine v_iload (j := 2) (x := jI (fB w b 4)) G dX9_meal_100 rfl ?_
          refine v_iast (q0 := 1) (t0 := 0) (g := (uI wq (19 + 5 * b + 3) (fB w b 3))) (z := 19 + 5 * b + 4) (x := fB w b 4) (ws' := (wR cI cL a (uI (uI wq (19 + 5 * b + 3) (fB w b 3)) (19 + 5 * b + 4) (fB w b 4)) kp bf aq ik fd sp lt tp tn he ft vl bt lg ce bw)) G rfl rfl (by omega) rfl dX9_meal_102 ?_
          refine v_cell (q0 := 1) (g := uI (uI wq (19 + 5 * b + 3) (fB w b 3)) (19 + 5 * b + 4) (fB w b 4)) (g' := w) (ws' := (wR cI cL a w kp bf aq ik fd sp lt tp tn he ft vl bt lg ce bw)) rfl (fun j _ _ => by unfold uI fB; split; subst_vars; rfl; split; subst_vars; rfl; exact hq j (by omega) (by omega)) rfl ?_
          refine v_iload (j := 0) (x := jI (b2 Q)) G dX9_meal_103 rfl ?_
          have hfin : (Q → lstN (fun q_ : Nat => (sDn (eatW w b (q_ : Int)) >>> (jI t &&& 31)) &&& jI 1 = jI 1) 100 0 = n - 1) ∧ (¬ Q → lstN (fun q_ : Nat => (sDn (eatW w b (q_ : Int)) >>> (jI t &&& 31)) &&& jI 1 = jI 1) 100 0 = 100) := ⟨fun z => (hy z).2, fun z => by have e := hz z; first | (rw [show n = 100 by omega] at e; exact e.symm) | exact absurd (by assumption) z⟩
          refine v_ifb_eq (P := Q) (tgt := 113) G dX9_meal_105 (by decide) (fun c_38 => ?_) (fun c_38 => ?_)
          · skip
            have hf1 := hfin.2 (by assumption)
            refine v_aload_n (j := 4) (x := a 0) G dX9_meal_113 rfl rfl ?_
            refine v_iconst G dX9_meal_114 ?_
            refine v_ciF G (rn_V (As := [.int (jI 3)]) (rest := []) (q0 := 0) G (c_X9_no (k := 3) (w := w) (kp := kp) (bf := bf) (ah := aq) (ik := ik) (fd := fd) (sp := sp) (lt := lt) (tp := tp) (tn := tn) (he := he) (ft := ft) (vl := vl) (bt := bt) (lg := lg) (ce := ce) (bw := bw) (a := a) (hk := (by omega))) gX9_meal_X9_no rfl hdX9_no ⟨rfl, rfl, Nat.le_of_ble_eq_true rfl, Nat.le_of_ble_eq_true rfl⟩ rfl rfl (Nat.le_of_ble_eq_true rfl) ⟨Nat.zero_le _, Nat.zero_le _⟩ rfl rfl dX9_meal_115) (fun r_39 u_41 e_40 => ?_)
            have e_40 : r_39 = jI ((-1000000001) - 3) := e_40
            subst e_40
            refine v_world (ws' := (wR cI cL a w kp bf aq ik (uI fd 3 (fd 3 + 1)) sp lt tp tn he ft vl bt lg ce bw)) rfl ?_
            exact v_iret G (uI fd 3 (fd 3 + 1), aq) (by first | exact Or.inl ⟨(by omega), (by first | rfl | exact congrArg jI (by omega)), rfl⟩ | exact Or.inr (Or.inl ⟨(by omega), (by first | rfl | exact congrArg jI (by omega)), rfl⟩) | exact Or.inr (Or.inr ⟨(by omega), (by first | rfl | exact congrArg jI (by omega)), rfl⟩)) rfl dX9_meal_118
          · skip
            have hf1 := hfin.1 (by assumption)
            have hf0 := (hy (by assumption)).1
            refine v_iload (j := 1) (x := jI ((n : Int) - 1)) G dX9_meal_108 rfl ?_
            refine v_goto (tgt := 118) G dX9_meal_110 (by decide) ?_
            exact v_iret G (fd, aq) (by first | exact Or.inl ⟨(by omega), (by first | rfl | exact congrArg jI (by omega)), rfl⟩ | exact Or.inr (Or.inl ⟨(by omega), (by first | rfl | exact congrArg jI (by omega)), rfl⟩) | exact Or.inr (Or.inr ⟨(by omega), (by first | rfl | exact congrArg jI (by omega)), rfl⟩)) rfl dX9_meal_118
        · skip
          refine v_iinc (k := 1) (z := (n : Int) - 1) (z' := (n : Int)) (lv' := [(5, .int (jI (n : Int))), (6, .int (jI (b2 Q))), (4, .int (jI (fB w b 4))), (3, .int (jI (fB w b 3))), (0, .ref (a 0)), (1, .int (jI b)), (2, .int (jI t))]) G dX9_meal_55 rfl (by omega) (by decide) rfl ?_
          refine v_aload_n (j := 4) (x := a 0) G dX9_meal_58 rfl rfl ?_
          refine v_iload_n (j := 5) (x := jI b) G dX9_meal_59 rfl rfl ?_
          refine v_iload (j := 0) (x := jI (n : Int)) G dX9_meal_60 rfl ?_
          refine v_cvF G (rn_V (As := [.int (jI b), .int (jI (n : Int))]) (rest := []) (q0 := 0) G (c_X9_eats (b := b) (v := (n : Int)) (w := wq) (kp := kp) (bf := bf) (ah := aq) (ik := ik) (fd := fd) (sp := sp) (lt := lt) (tp := tp) (tn := tn) (he := he) (ft := ft) (vl := vl) (bt := bt) (lg := lg) (ce := ce) (bw := bw) (a := a) (hb := (by omega))) gX9_meal_X9_eats rfl hdX9_eats ⟨rfl, rfl, Nat.le_of_ble_eq_true rfl, Nat.le_of_ble_eq_true rfl⟩ rfl rfl (Nat.le_of_ble_eq_true rfl) ⟨Nat.zero_le _, Nat.zero_le _⟩ rfl rfl dX9_meal_62) (fun u_44 e_43 => ?_)
          refine v_world (ws' := (wR cI cL a (eatW wq b (n : Int)) kp bf aq ik fd sp lt tp tn he ft vl bt lg ce bw)) rfl ?_
          refine v_cell (q0 := 1) (g := eatW wq b (n : Int)) (g' := eatW w b (n : Int)) (ws' := (wR cI cL a (eatW w b (n : Int)) kp bf aq ik fd sp lt tp tn he ft vl bt lg ce bw)) rfl (fun j _ _ => by unfold eatW uI; split; rfl; split; rfl; exact hq j (by omega) (by omega)) rfl ?_
          refine v_aload_n (j := 4) (x := a 0) G dX9_meal_65 rfl rfl ?_
          refine v_ciF G (rn_V (As := []) (rest := []) (q0 := 0) G (c_X9_doneAhead (w := eatW w b (n : Int)) (kp := kp) (bf := bf) (ah := aq) (ik := ik) (fd := fd) (sp := sp) (lt := lt) (tp := tp) (tn := tn) (he := he) (ft := ft) (vl := vl) (bt := bt) (lg := lg) (ce := ce) (bw := bw) (a := a) (hw := (hw.eat (by omega) (by omega))) (h0 := (by rw [eatW_0 (by omega)]; exact h0))) gX9_meal_X9_doneAhead rfl hdX9_doneAhead ⟨rfl, rfl, Nat.le_of_ble_eq_true rfl, Nat.le_of_ble_eq_true rfl⟩ rfl rfl (Nat.le_of_ble_eq_true rfl) ⟨Nat.zero_le _, Nat.zero_le _⟩ rfl rfl dX9_meal_66) (fun r_45 u_47 e_46 => ?_)
          have e_46 : r_45 = sDn (eatW w b (n : Int)) := e_46
          subst e_46
          refine v_world (ws' := (wR cI cL a (eatW w b (n : Int)) kp bf (eatW w b (n : Int)) ik fd sp lt tp tn he ft vl bt lg ce bw)) rfl ?_
          refine v_iload_n (j := 6) (x := jI t) G dX9_meal_69 rfl rfl ?_
          refine v_ciN G (rn_S (As := [.int (sDn (eatW w b (n : Int))), .int (jI t)]) (rest := []) G (c_X9_has (x := sDn (eatW w b (n : Int))) (k := t) ) gX9_meal_X9_has rfl hdX9_has ⟨rfl, rfl, Nat.le_of_ble_eq_true rfl, Nat.le_of_ble_eq_true rfl⟩ rfl rfl (Nat.le_of_ble_eq_true rfl) ⟨Nat.zero_le _, Nat.zero_le _⟩ dX9_meal_70) (fun r_48 u_50 e_49 => ?_)
          have e_49 : r_48 = jI (b2 (((sDn (eatW w b (n : Int))) >>> (jI t &&& 31)) &&& jI 1 = jI 1)) := e_49
          subst e_49
          refine v_istore (lv' := [(6, .int (jI (b2 (((sDn (eatW w b (n : Int))) >>> (jI t &&& 31)) &&& jI 1 = jI 1)))), (5, .int (jI (n : Int))), (4, .int (jI (fB w b 4))), (3, .int (jI (fB w b 3))), (0, .ref (a 0)), (1, .int (jI b)), (2, .int (jI t))]) G dX9_meal_73 (by decide) rfl ?_
          refine v_eqs (lv' := [(6, .int (jI (b2 (((sDn (eatW w b (n : Int))) >>> (jI t &&& 31)) &&& jI 1 = jI 1)))), (5, .int (jI (((n + 1 : Nat) : Int) - 1))), (4, .int (jI (fB w b 4))), (3, .int (jI (fB w b 3))), (0, .ref (a 0)), (1, .int (jI b)), (2, .int (jI t))]) (by rw [show ((n + 1 : Nat) : Int) - 1 = (n : Int) from (by omega)]) rfl rfl ?_
          refine v_goto (tgt := 43) G dX9_meal_75 (by decide) ?_
          exact ih_19 (n + 1) (eatW w b (n : Int)) (eatW w b (n : Int)) ((sDn (eatW w b (n : Int)) >>> (jI t &&& 31)) &&& jI 1 = jI 1) ⟨by omega, fun j z1 z2 => by unfold eatW; rw [uI_n _ _ z2, uI_n _ _ z1], fun z => ⟨by omega, by have := lsg_i (I_18.2.2.2 (by assumption)) (by omega) z; omega⟩, fun z => lsg_s (by omega) z (I_18.2.2.2 (by assumption))⟩ (by omega)
    · skip
      refine v_aload_n (j := 0) (x := a 0) G dX9_meal_16 rfl rfl ?_
      refine v_iconst G dX9_meal_17 ?_
      refine v_ciF G (rn_V (As := [.int (jI 0)]) (rest := []) (q0 := 0) G (c_X9_no (k := 0) (w := w) (kp := kp) (bf := bf) (ah := ah) (ik := ik) (fd := fd) (sp := sp) (lt := lt) (tp := tp) (tn := tn) (he := he) (ft := ft) (vl := vl) (bt := bt) (lg := lg) (ce := ce) (bw := bw) (a := a) (hk := (by omega))) gX9_meal_X9_no rfl hdX9_no ⟨rfl, rfl, Nat.le_of_ble_eq_true rfl, Nat.le_of_ble_eq_true rfl⟩ rfl rfl (Nat.le_of_ble_eq_true rfl) ⟨Nat.zero_le _, Nat.zero_le _⟩ rfl rfl dX9_meal_18) (fun r_51 u_53 e_52 => ?_)
      have e_52 : r_51 = jI ((-1000000001) - 0) := e_52
      subst e_52
      refine v_world (ws' := (wR cI cL a w kp bf ah ik (uI fd 0 (fd 0 + 1)) sp lt tp tn he ft vl bt lg ce bw)) rfl ?_
      exact v_iret G (uI fd 0 (fd 0 + 1), ah) (by first | exact Or.inl ⟨(by omega), (by first | rfl | exact congrArg jI (by omega)), rfl⟩ | exact Or.inr (Or.inl ⟨(by omega), (by first | rfl | exact congrArg jI (by omega)), rfl⟩) | exact Or.inr (Or.inr ⟨(by omega), (by first | rfl | exact congrArg jI (by omega)), rfl⟩)) rfl dX9_meal_21

set_option maxHeartbeats 4000000 in
set_option maxRecDepth 100000 in
theorem c_X9_doneWithout (b : Int) (hw : Wf w) (h0 : w 0 ≤ 9999) (hb : 0 ≤ b ∧ b < 10) : Ci l yX9_doneWithout wsX9_doneWithout { frames := 7, cells := 0, slots := 0, locals := 157 } D (jT cI cL cB cS) [.ref (a 0), .int (jI b)] (wR cI cL a w kp bf ah ik fd sp lt tp tn he ft vl bt lg ce bw) (S := Unit) (fun _ => (wR cI cL a w kp bf (uI w (19 + 5 * b + 0) 6) ik fd sp lt tp tn he ft vl bt lg ce bw)) (fun r _ => r = sDn (uI w (19 + 5 * b + 0) 6)) := by
  refine Ci.mk (cc := cX9_doneWithout) (maxL := 4) (rt := .int) (by decide) rfl (Nat.le_of_ble_eq_true rfl) rfl ?_
  intro p_ e_ s_ m_ b_ me_ c_ A_ G hnm
  have k_X9 : ∀ w ∈ u_ws RX9 TX9 17, w ∈ wsX9_doneWithout := fun _ h => List.mem_cons_of_mem _ (List.mem_append_right _ h)
  have q_1 : Cond.fieldLink RX9 9 "SupperLightModel" "s" "[I" ∈ wsX9_doneWithout := List.mem_of_getElem? (i := 1) rfl
  refine v_aload_n (j := 0) (x := a 0) G dX9_doneWithout_0 rfl rfl ?_
  refine v_aload_n (j := 0) (x := a 0) G dX9_doneWithout_1 rfl rfl ?_
  refine v_iload_n (j := 1) (x := jI b) G dX9_doneWithout_2 rfl rfl ?_
  refine v_iconst G dX9_doneWithout_3 ?_
  refine v_ciF G (rn_V (As := [.int (jI b), .int (jI 0)]) (rest := [.ref (a 0)]) (q0 := 0) G (c_X9_at (b := b) (k := 0) (w := w) (kp := kp) (bf := bf) (ah := ah) (ik := ik) (fd := fd) (sp := sp) (lt := lt) (tp := tp) (tn := tn) (he := he) (ft := ft) (vl := vl) (bt := bt) (lg := lg) (ce := ce) (bw := bw) (a := a) ) gX9_doneWithout_X9_at rfl hdX9_at ⟨rfl, rfl, Nat.le_of_ble_eq_true rfl, Nat.le_of_ble_eq_true rfl⟩ rfl rfl (Nat.le_of_ble_eq_true rfl) ⟨Nat.zero_le _, Nat.zero_le _⟩ rfl rfl dX9_doneWithout_4) (fun r_1 u_3 e_2 => ?_)
  have e_2 : r_1 = jI (19 + 5 * b + 0) := e_2
  subst e_2
  refine v_world (ws' := (wR cI cL a w kp bf ah ik fd sp lt tp tn he ft vl bt lg ce bw)) rfl ?_
  refine v_bipush G dX9_doneWithout_7 (by decide) ?_
  refine v_ciF G (rn_V (As := [.int (jI (19 + 5 * b + 0)), .int (jI 6)]) (rest := []) (q0 := 0) G (c_X9_puts (x := 19 + 5 * b + 0) (v := 6) (w := w) (kp := kp) (bf := bf) (ah := ah) (ik := ik) (fd := fd) (sp := sp) (lt := lt) (tp := tp) (tn := tn) (he := he) (ft := ft) (vl := vl) (bt := bt) (lg := lg) (ce := ce) (bw := bw) (a := a) (hx := (by omega))) gX9_doneWithout_X9_puts rfl hdX9_puts ⟨rfl, rfl, Nat.le_of_ble_eq_true rfl, Nat.le_of_ble_eq_true rfl⟩ rfl rfl (Nat.le_of_ble_eq_true rfl) ⟨Nat.zero_le _, Nat.zero_le _⟩ rfl rfl dX9_doneWithout_9) (fun r_4 u_6 e_5 => ?_)
  have e_5 : r_4 = jI (w (19 + 5 * b + 0)) := e_5
  subst e_5
  refine v_world (ws' := (wR cI cL a (uI w (19 + 5 * b + 0) 6) kp bf ah ik fd sp lt tp tn he ft vl bt lg ce bw)) rfl ?_
  refine v_istore_n (lv' := [(2, .int (jI (w (19 + 5 * b + 0)))), (0, .ref (a 0)), (1, .int (jI b))]) G dX9_doneWithout_12 rfl (by decide) rfl ?_
  refine v_aload_n (j := 1) (x := a 0) G dX9_doneWithout_13 rfl rfl ?_
  refine v_ciF G (rn_V (As := []) (rest := []) (q0 := 0) G (c_X9_doneAhead (w := uI w (19 + 5 * b + 0) 6) (kp := kp) (bf := bf) (ah := ah) (ik := ik) (fd := fd) (sp := sp) (lt := lt) (tp := tp) (tn := tn) (he := he) (ft := ft) (vl := vl) (bt := bt) (lg := lg) (ce := ce) (bw := bw) (a := a) (hw := (hw.setB (by omega) (by omega))) (h0 := (by rw [uI_n _ _ (by omega)]; exact h0))) gX9_doneWithout_X9_doneAhead rfl hdX9_doneAhead ⟨rfl, rfl, Nat.le_of_ble_eq_true rfl, Nat.le_of_ble_eq_true rfl⟩ rfl rfl (Nat.le_of_ble_eq_true rfl) ⟨Nat.zero_le _, Nat.zero_le _⟩ rfl rfl dX9_doneWithout_14) (fun r_7 u_9 e_8 => ?_)
  have e_8 : r_7 = sDn (uI w (19 + 5 * b + 0) 6) := e_8
  subst e_8
  refine v_world (ws' := (wR cI cL a (uI w (19 + 5 * b + 0) 6) kp bf (uI w (19 + 5 * b + 0) 6) ik fd sp lt tp tn he ft vl bt lg ce bw)) rfl ?_
  refine v_istore_n (lv' := [(3, .int (sDn (uI w (19 + 5 * b + 0) 6))), (2, .int (jI (w (19 + 5 * b + 0)))), (0, .ref (a 0)), (1, .int (jI b))]) G dX9_doneWithout_17 rfl (by decide) rfl ?_
  refine v_aload_n (j := 2) (x := a 0) G dX9_doneWithout_18 rfl rfl ?_
  refine v_get (q0 := 0) (k := 0) (v := .ref (a 1)) G k_X9 rfl rfl (by decide) q_1 rfl rfl dX9_doneWithout_19 ?_
  refine v_aload_n (j := 2) (x := a 0) G dX9_doneWithout_22 rfl rfl ?_
  refine v_iload_n (j := 3) (x := jI b) G dX9_doneWithout_23 rfl rfl ?_
  refine v_iconst G dX9_doneWithout_24 ?_
  refine v_ciF G (rn_V (As := [.int (jI b), .int (jI 0)]) (rest := [.ref (a 1)]) (q0 := 0) G (c_X9_at (b := b) (k := 0) (w := (uI w (19 + 5 * b + 0) 6)) (kp := kp) (bf := bf) (ah := (uI w (19 + 5 * b + 0) 6)) (ik := ik) (fd := fd) (sp := sp) (lt := lt) (tp := tp) (tn := tn) (he := he) (ft := ft) (vl := vl) (bt := bt) (lg := lg) (ce := ce) (bw := bw) (a := a) ) gX9_doneWithout_X9_at rfl hdX9_at ⟨rfl, rfl, Nat.le_of_ble_eq_true rfl, Nat.le_of_ble_eq_true rfl⟩ rfl rfl (Nat.le_of_ble_eq_true rfl) ⟨Nat.zero_le _, Nat.zero_le _⟩ rfl rfl dX9_doneWithout_25) (fun r_10 u_12 e_11 => ?_)
  have e_11 : r_10 = jI (19 + 5 * b + 0) := e_11
  subst e_11
  refine v_world (ws' := (wR cI cL a (uI w (19 + 5 * b + 0) 6) kp bf (uI w (19 + 5 * b + 0) 6) ik fd sp lt tp tn he ft vl bt lg ce bw)) rfl ?_
  refine v_iload_n (j := 1) (x := jI (w (19 + 5 * b + 0))) G dX9_doneWithout_28 rfl rfl ?_
  refine v_iast (q0 := 1) (t0 := 0) (g := (uI w (19 + 5 * b + 0) 6)) (z := 19 + 5 * b + 0) (x := w (19 + 5 * b + 0)) (ws' := (wR cI cL a (uI (uI w (19 + 5 * b + 0) 6) (19 + 5 * b + 0) (w (19 + 5 * b + 0))) kp bf (uI w (19 + 5 * b + 0) 6) ik fd sp lt tp tn he ft vl bt lg ce bw)) G rfl rfl (by omega) rfl dX9_doneWithout_29 ?_
  refine v_cell (q0 := 1) (g := uI (uI w (19 + 5 * b + 0) 6) (19 + 5 * b + 0) (w (19 + 5 * b + 0))) (g' := w) (ws' := (wR cI cL a w kp bf (uI w (19 + 5 * b + 0) 6) ik fd sp lt tp tn he ft vl bt lg ce bw)) rfl (fun j _ _ => by unfold uI; split <;> simp_all) rfl ?_
  refine v_iload_n (j := 0) (x := sDn (uI w (19 + 5 * b + 0) 6)) G dX9_doneWithout_30 rfl rfl ?_
  exact v_iret G () rfl rfl dX9_doneWithout_31

set_option maxHeartbeats 4000000 in
set_option maxRecDepth 100000 in
theorem c_X9_needed  (hw : Wf w) (h0 : w 0 ≤ 9999) : Ci l yX9_needed wsX9_needed { frames := 8, cells := 0, slots := 0, locals := 180 } D (jT cI cL cB cS) [.ref (a 0)] (wR cI cL a w kp bf ah ik fd sp lt tp tn he ft vl bt lg ce bw) (S := (Int → Int) × (Int → Int)) (fun u => (wR cI cL a w kp bf u.2 ik u.1 sp lt tp tn he ft vl bt lg ce bw)) (fun r u => ((0 ≤ nsN (fun z_ => onI (sDn (uI w (19 + 5 * z_ + 0) 6)) 32) (onI (sDn w) 32) (w 1).toNat) ∧ r = jI (nsN (fun z_ => onI (sDn (uI w (19 + 5 * z_ + 0) 6)) 32) (onI (sDn w) 32) (w 1).toNat) ∧ u.1 = fd) ∨ ((nsN (fun z_ => onI (sDn (uI w (19 + 5 * z_ + 0) 6)) 32) (onI (sDn w) 32) (w 1).toNat < 0) ∧ r = jI (-1000000004) ∧ u.1 = uI fd 3 (fd 3 + 1))) := by
  refine Ci.mk (cc := cX9_needed) (maxL := 6) (rt := .int) (by decide) rfl (Nat.le_of_ble_eq_true rfl) rfl ?_
  intro p_ e_ s_ m_ b_ me_ c_ A_ G hnm
  have hm := hw.many
  have hmt := hw.tasks
  have hh := hw.hour
  have k_X9 : ∀ w ∈ u_ws RX9 TX9 17, w ∈ wsX9_needed := fun _ h => List.mem_cons_of_mem _ (List.mem_append_right _ h)
  have q_1 : Cond.fieldLink RX9 9 "SupperLightModel" "s" "[I" ∈ wsX9_needed := List.mem_of_getElem? (i := 1) rfl
  refine v_aload_n (j := 0) (x := a 0) G dX9_needed_0 rfl rfl ?_
  refine v_ciF G (rn_V (As := []) (rest := []) (q0 := 0) G (c_X9_doneAhead (w := w) (kp := kp) (bf := bf) (ah := ah) (ik := ik) (fd := fd) (sp := sp) (lt := lt) (tp := tp) (tn := tn) (he := he) (ft := ft) (vl := vl) (bt := bt) (lg := lg) (ce := ce) (bw := bw) (a := a) (hw := hw) (h0 := h0)) gX9_needed_X9_doneAhead rfl hdX9_doneAhead ⟨rfl, rfl, Nat.le_of_ble_eq_true rfl, Nat.le_of_ble_eq_true rfl⟩ rfl rfl (Nat.le_of_ble_eq_true rfl) ⟨Nat.zero_le _, Nat.zero_le _⟩ rfl rfl dX9_needed_1) (fun r_1 u_3 e_2 => ?_)
  have e_2 : r_1 = sDn w := e_2
  subst e_2
  refine v_world (ws' := (wR cI cL a w kp bf w ik fd sp lt tp tn he ft vl bt lg ce bw)) rfl ?_
  refine v_ciN G (rn_S (As := [.int (sDn w)]) (rest := []) G (c_X9_onesJ (x := sDn w) ) gX9_needed_X9_ones rfl hdX9_ones ⟨rfl, rfl, Nat.le_of_ble_eq_true rfl, Nat.le_of_ble_eq_true rfl⟩ rfl rfl (Nat.le_of_ble_eq_true rfl) ⟨Nat.zero_le _, Nat.zero_le _⟩ dX9_needed_4) (fun r_4 u_6 e_5 => ?_)
  have e_5 : r_4 = jI (onI (sDn w) 32) := e_5
  subst e_5
  refine v_istore_n (lv' := [(1, .int (jI (onI (sDn w) 32))), (0, .ref (a 0))]) G dX9_needed_7 rfl (by decide) rfl ?_
  refine v_iconst G dX9_needed_8 ?_
  refine v_istore_n (lv' := [(2, .int (jI (-1))), (1, .int (jI (onI (sDn w) 32))), (0, .ref (a 0))]) G dX9_needed_9 rfl (by decide) rfl ?_
  refine v_iload_n (j := 1) (x := jI (onI (sDn w) 32)) G dX9_needed_10 rfl rfl ?_
  refine v_istore_n (lv' := [(3, .int (jI (onI (sDn w) 32))), (2, .int (jI (-1))), (1, .int (jI (onI (sDn w) 32))), (0, .ref (a 0))]) G dX9_needed_11 rfl (by decide) rfl ?_
  refine v_iconst G dX9_needed_12 ?_
  refine v_istore (lv' := [(4, .int (jI 0)), (3, .int (jI (onI (sDn w) 32))), (2, .int (jI (-1))), (1, .int (jI (onI (sDn w) 32))), (0, .ref (a 0))]) G dX9_needed_13 (by decide) rfl ?_
  refine v_locs (lv' := [(4, .int (jI 0)), (3, .int (jI (onI (sDn w) 32))), (2, .int (jI (-1))), (1, .int (jI (onI (sDn w) 32))), (0, .ref (a 0))]) [0, 1, 2, 3, 4] rfl ?_
  refine v_loop2 (fun (k : Nat) (aq : Int → Int) => [(4, .int (jI (k : Int))), (3, .int (jI (lsN (fun z_ => onI (sDn (uI w (19 + 5 * z_ + 0) 6)) 32) (onI (sDn w) 32) k))), (2, .int (jI (nsN (fun z_ => onI (sDn (uI w (19 + 5 * z_ + 0) 6)) 32) (onI (sDn w) 32) k))), (1, .int (jI (onI (sDn w) 32))), (0, .ref (a 0))]) (fun (k : Nat) (aq : Int → Int) => (wR cI cL a w kp bf aq ik fd sp lt tp tn he ft vl bt lg ce bw)) (fun (k : Nat) (aq : Int → Int) => (k : Int) ≤ w 1) (fun (k : Nat) (aq : Int → Int) => (w 1).toNat - k) 0 w (by omega) rfl rfl ?_
  intro k aq I_7 ih_8
  have hns := nsN_r (fun z_ => onI (sDn (uI w (19 + 5 * z_ + 0) 6)) 32) (onI (sDn w) 32) k
  refine v_iload (j := 0) (x := jI (k : Int)) G dX9_needed_15 rfl ?_
  refine v_aload_n (j := 4) (x := a 0) G dX9_needed_17 rfl rfl ?_
  refine v_get (q0 := 0) (k := 0) (v := .ref (a 1)) G k_X9 rfl rfl (by decide) q_1 rfl rfl dX9_needed_18 ?_
  refine v_iconst G dX9_needed_21 ?_
  refine v_iald (q0 := 1) (t0 := 0) (g := w) (z := 1) G rfl rfl (by omega) dX9_needed_22 ?_
  refine v_icmp_ge (a := (k : Int)) (b := w 1) (tgt := 69) G dX9_needed_23 (by decide) (by omega) (fun c_9 => ?_) (fun c_9 => ?_)
  · skip
    obtain rfl : k = (w 1).toNat := by omega
    refine v_iload_n (j := 2) (x := jI (nsN (fun z_ => onI (sDn (uI w (19 + 5 * z_ + 0) 6)) 32) (onI (sDn w) 32) ((w 1).toNat))) G dX9_needed_69 rfl rfl ?_
    refine v_if_ge (a := nsN (fun z_ => onI (sDn (uI w (19 + 5 * z_ + 0) 6)) 32) (onI (sDn w) 32) ((w 1).toNat)) (tgt := 81) G dX9_needed_70 (by decide) (by omega) (fun c_10 => ?_) (fun c_10 => ?_)
    · skip
      refine v_iload_n (j := 2) (x := jI (nsN (fun z_ => onI (sDn (uI w (19 + 5 * z_ + 0) 6)) 32) (onI (sDn w) 32) ((w 1).toNat))) G dX9_needed_81 rfl rfl ?_
      exact v_iret G (fd, aq) (by first | exact Or.inl ⟨(by omega), (by first | rfl | exact congrArg jI (by omega)), rfl⟩ | exact Or.inr ⟨(by omega), (by first | rfl | exact congrArg jI (by omega)), rfl⟩) rfl dX9_needed_82
    · skip
      refine v_aload_n (j := 4) (x := a 0) G dX9_needed_73 rfl rfl ?_
      refine v_iconst G dX9_needed_74 ?_
      refine v_ciF G (rn_V (As := [.int (jI 3)]) (rest := []) (q0 := 0) G (c_X9_no (k := 3) (w := w) (kp := kp) (bf := bf) (ah := aq) (ik := ik) (fd := fd) (sp := sp) (lt := lt) (tp := tp) (tn := tn) (he := he) (ft := ft) (vl := vl) (bt := bt) (lg := lg) (ce := ce) (bw := bw) (a := a) (hk := (by omega))) gX9_needed_X9_no rfl hdX9_no ⟨rfl, rfl, Nat.le_of_ble_eq_true rfl, Nat.le_of_ble_eq_true rfl⟩ rfl rfl (Nat.le_of_ble_eq_true rfl) ⟨Nat.zero_le _, Nat.zero_le _⟩ rfl rfl dX9_needed_75) (fun r_11 u_13 e_12 => ?_)
      have e_12 : r_11 = jI ((-1000000001) - 3) := e_12
      subst e_12
      refine v_world (ws' := (wR cI cL a w kp bf aq ik (uI fd 3 (fd 3 + 1)) sp lt tp tn he ft vl bt lg ce bw)) rfl ?_
      refine v_goto (tgt := 82) G dX9_needed_78 (by decide) ?_
      exact v_iret G (uI fd 3 (fd 3 + 1), aq) (by first | exact Or.inl ⟨(by omega), (by first | rfl | exact congrArg jI (by omega)), rfl⟩ | exact Or.inr ⟨(by omega), (by first | rfl | exact congrArg jI (by omega)), rfl⟩) rfl dX9_needed_82
  · skip
    have hls := lsN_r (f := (fun z_ => onI (sDn (uI w (19 + 5 * z_ + 0) 6)) 32)) (c := (onI (sDn w) 32)) (d := 32) (by have := onI_r (sDn w) 32; omega) (fun z => onI_r _ 32) k
    have hof : 0 ≤ (fun z_ => onI (sDn (uI w (19 + 5 * z_ + 0) 6)) 32) (k : Int) ∧ (fun z_ => onI (sDn (uI w (19 + 5 * z_ + 0) 6)) 32) (k : Int) ≤ (32 : Nat) := onI_r _ 32
    have hof2 : (fun z_ => onI (sDn (uI w (19 + 5 * z_ + 0) 6)) 32) (k : Int) = onI (sDn (uI w (19 + 5 * (k : Int) + 0) 6)) 32 := rfl
    refine v_aload_n (j := 4) (x := a 0) G dX9_needed_26 rfl rfl ?_
    refine v_iload (j := 0) (x := jI (k : Int)) G dX9_needed_27 rfl ?_
    refine v_ciF G (rn_V (As := [.int (jI (k : Int))]) (rest := []) (q0 := 0) G (c_X9_doneWithout (b := (k : Int)) (w := w) (kp := kp) (bf := bf) (ah := aq) (ik := ik) (fd := fd) (sp := sp) (lt := lt) (tp := tp) (tn := tn) (he := he) (ft := ft) (vl := vl) (bt := bt) (lg := lg) (ce := ce) (bw := bw) (a := a) (hw := hw) (h0 := h0) (hb := (by omega))) gX9_needed_X9_doneWithout rfl hdX9_doneWithout ⟨rfl, rfl, Nat.le_of_ble_eq_true rfl, Nat.le_of_ble_eq_true rfl⟩ rfl rfl (Nat.le_of_ble_eq_true rfl) ⟨Nat.zero_le _, Nat.zero_le _⟩ rfl rfl dX9_needed_29) (fun r_14 u_16 e_15 => ?_)
    have e_15 : r_14 = sDn (uI w (19 + 5 * (k : Int) + 0) 6) := e_15
    subst e_15
    refine v_world (ws' := (wR cI cL a w kp bf (uI w (19 + 5 * (k : Int) + 0) 6) ik fd sp lt tp tn he ft vl bt lg ce bw)) rfl ?_
    refine v_ciN G (rn_S (As := [.int (sDn (uI w (19 + 5 * (k : Int) + 0) 6))]) (rest := []) G (c_X9_onesJ (x := sDn (uI w (19 + 5 * (k : Int) + 0) 6)) ) gX9_needed_X9_ones rfl hdX9_ones ⟨rfl, rfl, Nat.le_of_ble_eq_true rfl, Nat.le_of_ble_eq_true rfl⟩ rfl rfl (Nat.le_of_ble_eq_true rfl) ⟨Nat.zero_le _, Nat.zero_le _⟩ dX9_needed_32) (fun r_17 u_19 e_18 => ?_)
    have e_18 : r_17 = jI (onI (sDn (uI w (19 + 5 * (k : Int) + 0) 6)) 32) := e_18
    subst e_18
    refine v_istore (lv' := [(5, .int (jI (onI (sDn (uI w (19 + 5 * (k : Int) + 0) 6)) 32))), (4, .int (jI (k : Int))), (3, .int (jI (lsN (fun z_ => onI (sDn (uI w (19 + 5 * z_ + 0) 6)) 32) (onI (sDn w) 32) k))), (2, .int (jI (nsN (fun z_ => onI (sDn (uI w (19 + 5 * z_ + 0) 6)) 32) (onI (sDn w) 32) k))), (1, .int (jI (onI (sDn w) 32))), (0, .ref (a 0))]) G dX9_needed_35 (by decide) rfl ?_
    refine v_iload (j := 0) (x := jI (onI (sDn (uI w (19 + 5 * (k : Int) + 0) 6)) 32)) G dX9_needed_37 rfl ?_
    refine v_iload_n (j := 2) (x := jI (lsN (fun z_ => onI (sDn (uI w (19 + 5 * z_ + 0) 6)) 32) (onI (sDn w) 32) k)) G dX9_needed_39 rfl rfl ?_
    refine v_cut (pc' := 49) (lv' := [(5, .int (jI (onI (sDn (uI w (19 + 5 * (k : Int) + 0) 6)) 32))), (4, .int (jI (k : Int))), (3, .int (jI (lsN (fun z_ => onI (sDn (uI w (19 + 5 * z_ + 0) 6)) 32) (onI (sDn w) 32) k))), (2, .int (jI (nsN (fun z_ => onI (sDn (uI w (19 + 5 * z_ + 0) 6)) 32) (onI (sDn w) 32) k))), (1, .int (jI (onI (sDn w) 32))), (0, .ref (a 0))]) (st' := [.int (jI (nsN (fun z_ => onI (sDn (uI w (19 + 5 * z_ + 0) 6)) 32) (onI (sDn w) 32) (k + 1)))]) (ws' := (wR cI cL a w kp bf (uI w (19 + 5 * (k : Int) + 0) 6) ik fd sp lt tp tn he ft vl bt lg ce bw)) ?_ (fun J_20 => ?_)
    · skip
      refine v_istore_n (lv' := [(2, .int (jI (nsN (fun z_ => onI (sDn (uI w (19 + 5 * z_ + 0) 6)) 32) (onI (sDn w) 32) (k + 1)))), (5, .int (jI (onI (sDn (uI w (19 + 5 * (k : Int) + 0) 6)) 32))), (4, .int (jI (k : Int))), (3, .int (jI (lsN (fun z_ => onI (sDn (uI w (19 + 5 * z_ + 0) 6)) 32) (onI (sDn w) 32) k))), (1, .int (jI (onI (sDn w) 32))), (0, .ref (a 0))]) G dX9_needed_49 rfl (by decide) rfl ?_
      refine v_iload (j := 1) (x := jI (onI (sDn (uI w (19 + 5 * (k : Int) + 0) 6)) 32)) G dX9_needed_50 rfl ?_
      refine v_iload_n (j := 3) (x := jI (lsN (fun z_ => onI (sDn (uI w (19 + 5 * z_ + 0) 6)) 32) (onI (sDn w) 32) k)) G dX9_needed_52 rfl rfl ?_
      refine v_cut (pc' := 62) (lv' := [(2, .int (jI (nsN (fun z_ => onI (sDn (uI w (19 + 5 * z_ + 0) 6)) 32) (onI (sDn w) 32) (k + 1)))), (5, .int (jI (onI (sDn (uI w (19 + 5 * (k : Int) + 0) 6)) 32))), (4, .int (jI (k : Int))), (3, .int (jI (lsN (fun z_ => onI (sDn (uI w (19 + 5 * z_ + 0) 6)) 32) (onI (sDn w) 32) k))), (1, .int (jI (onI (sDn w) 32))), (0, .ref (a 0))]) (st' := [.int (jI (lsN (fun z_ => onI (sDn (uI w (19 + 5 * z_ + 0) 6)) 32) (onI (sDn w) 32) (k + 1)))]) (ws' := (wR cI cL a w kp bf (uI w (19 + 5 * (k : Int) + 0) 6) ik fd sp lt tp tn he ft vl bt lg ce bw)) ?_ (fun J_21 => ?_)
      · skip
        refine v_istore_n (lv' := [(3, .int (jI (lsN (fun z_ => onI (sDn (uI w (19 + 5 * z_ + 0) 6)) 32) (onI (sDn w) 32) (k + 1)))), (2, .int (jI (nsN (fun z_ => onI (sDn (uI w (19 + 5 * z_ + 0) 6)) 32) (onI (sDn w) 32) (k + 1)))), (5, .int (jI (onI (sDn (uI w (19 + 5 * (k : Int) + 0) 6)) 32))), (4, .int (jI (k : Int))), (1, .int (jI (onI (sDn w) 32))), (0, .ref (a 0))]) G dX9_needed_62 rfl (by decide) rfl ?_
        refine v_iinc (k := 3) (z := (k : Int)) (z' := ((k + 1 : Nat) : Int)) (lv' := [(4, .int (jI ((k + 1 : Nat) : Int))), (3, .int (jI (lsN (fun z_ => onI (sDn (uI w (19 + 5 * z_ + 0) 6)) 32) (onI (sDn w) 32) (k + 1)))), (2, .int (jI (nsN (fun z_ => onI (sDn (uI w (19 + 5 * z_ + 0) 6)) 32) (onI (sDn w) 32) (k + 1)))), (5, .int (jI (onI (sDn (uI w (19 + 5 * (k : Int) + 0) 6)) 32))), (1, .int (jI (onI (sDn w) 32))), (0, .ref (a 0))]) G dX9_needed_63 rfl (by omega) (by decide) rfl ?_
        refine v_goto (tgt := 15) G dX9_needed_66 (by decide) ?_
        refine v_locs (lv' := [(4, .int (jI ((k + 1 : Nat) : Int))), (3, .int (jI (lsN (fun z_ => onI (sDn (uI w (19 + 5 * z_ + 0) 6)) 32) (onI (sDn w) 32) (k + 1)))), (2, .int (jI (nsN (fun z_ => onI (sDn (uI w (19 + 5 * z_ + 0) 6)) 32) (onI (sDn w) 32) (k + 1)))), (1, .int (jI (onI (sDn w) 32))), (0, .ref (a 0))]) [0, 1, 2, 4, 5] rfl ?_
        exact ih_8 (k + 1) (uI w (19 + 5 * (k : Int) + 0) 6) (by omega) (by omega)
      · skip
        refine v_icmp_ge (a := onI (sDn (uI w (19 + 5 * (k : Int) + 0) 6)) 32) (b := lsN (fun z_ => onI (sDn (uI w (19 + 5 * z_ + 0) 6)) 32) (onI (sDn w) 32) k) (tgt := 61) G dX9_needed_53 (by decide) (by omega) (fun c_22 => ?_) (fun c_22 => ?_)
        · skip
          refine v_iload_n (j := 3) (x := jI (lsN (fun z_ => onI (sDn (uI w (19 + 5 * z_ + 0) 6)) 32) (onI (sDn w) 32) k)) G dX9_needed_61 rfl rfl ?_
          refine v_topj (x := lsN (fun z_ => onI (sDn (uI w (19 + 5 * z_ + 0) 6)) 32) (onI (sDn w) 32) k) (y := lsN (fun z_ => onI (sDn (uI w (19 + 5 * z_ + 0) 6)) 32) (onI (sDn w) 32) (k + 1)) (by show _ = (if _ then _ else _); split <;> omega) ?_
          exact J_21
        · skip
          refine v_iload (j := 1) (x := jI (onI (sDn (uI w (19 + 5 * (k : Int) + 0) 6)) 32)) G dX9_needed_56 rfl ?_
          refine v_goto (tgt := 62) G dX9_needed_58 (by decide) ?_
          refine v_topj (x := onI (sDn (uI w (19 + 5 * (k : Int) + 0) 6)) 32) (y := lsN (fun z_ => onI (sDn (uI w (19 + 5 * z_ + 0) 6)) 32) (onI (sDn w) 32) (k + 1)) (by show _ = (if _ then _ else _); split <;> omega) ?_
          exact J_21
    · skip
      refine v_icmp_ge (a := onI (sDn (uI w (19 + 5 * (k : Int) + 0) 6)) 32) (b := lsN (fun z_ => onI (sDn (uI w (19 + 5 * z_ + 0) 6)) 32) (onI (sDn w) 32) k) (tgt := 48) G dX9_needed_40 (by decide) (by omega) (fun c_23 => ?_) (fun c_23 => ?_)
      · skip
        refine v_iload_n (j := 3) (x := jI (nsN (fun z_ => onI (sDn (uI w (19 + 5 * z_ + 0) 6)) 32) (onI (sDn w) 32) k)) G dX9_needed_48 rfl rfl ?_
        refine v_topj (x := nsN (fun z_ => onI (sDn (uI w (19 + 5 * z_ + 0) 6)) 32) (onI (sDn w) 32) k) (y := nsN (fun z_ => onI (sDn (uI w (19 + 5 * z_ + 0) 6)) 32) (onI (sDn w) 32) (k + 1)) (by show _ = (if _ then _ else _); split <;> omega) ?_
        exact J_20
      · skip
        refine v_iload (j := 1) (x := jI (k : Int)) G dX9_needed_43 rfl ?_
        refine v_goto (tgt := 49) G dX9_needed_45 (by decide) ?_
        refine v_topj (x := (k : Int)) (y := nsN (fun z_ => onI (sDn (uI w (19 + 5 * z_ + 0) 6)) 32) (onI (sDn w) 32) (k + 1)) (by show _ = (if _ then _ else _); split <;> omega) ?_
        exact J_20

set_option maxHeartbeats 4000000 in
set_option maxRecDepth 100000 in
theorem c_X9_whom (t : Int) (hw : Wf w) (h0 : w 0 ≤ 9999) (hr : (-2147483648 ≤ t ∧ t ≤ 2147483647)) : Ci l yX9_whom wsX9_whom { frames := 8, cells := 0, slots := 0, locals := 180 } D (jT cI cL cB cS) [.ref (a 0), .int (jI t)] (wR cI cL a w kp bf ah ik fd sp lt tp tn he ft vl bt lg ce bw) (S := (Int → Int) × (Int → Int)) (fun u => (wR cI cL a w kp bf u.2 ik u.1 sp lt tp tn he ft vl bt lg ce bw)) (fun r u => ((¬ (0 ≤ t ∧ t ≤ w 2 - 1)) ∧ r = jI (-1000000001) ∧ u.1 = uI fd 0 (fd 0 + 1)) ∨ (((0 ≤ t ∧ t ≤ w 2 - 1) ∧ ¬ ((sDn w >>> (jI t &&& 31)) &&& jI 1 = jI 1)) ∧ r = jI 0 ∧ u.1 = fd) ∨ (((0 ≤ t ∧ t ≤ w 2 - 1) ∧ ((sDn w >>> (jI t &&& 31)) &&& jI 1 = jI 1)) ∧ r = stN (fun z_ => ¬ ((sDn (uI w (19 + 5 * z_ + 0) 6) >>> (jI t &&& 31)) &&& jI 1 = jI 1)) (w 1).toNat ∧ u.1 = fd)) := by
  refine Ci.mk (cc := cX9_whom) (maxL := 4) (rt := .int) (by decide) rfl (Nat.le_of_ble_eq_true rfl) rfl ?_
  intro p_ e_ s_ m_ b_ me_ c_ A_ G hnm
  have hm := hw.many
  have hmt := hw.tasks
  have hh := hw.hour
  have k_X9 : ∀ w ∈ u_ws RX9 TX9 17, w ∈ wsX9_whom := fun _ h => List.mem_cons_of_mem _ (List.mem_append_right _ h)
  have q_1 : Cond.fieldLink RX9 9 "SupperLightModel" "s" "[I" ∈ wsX9_whom := List.mem_of_getElem? (i := 1) rfl
  refine v_aload_n (j := 0) (x := a 0) G dX9_whom_0 rfl rfl ?_
  refine v_iload_n (j := 1) (x := jI t) G dX9_whom_1 rfl rfl ?_
  refine v_ciF G (rn_V (As := [.int (jI t)]) (rest := []) (q0 := 0) G (c_X9_isTask (t := t) (w := w) (kp := kp) (bf := bf) (ah := ah) (ik := ik) (fd := fd) (sp := sp) (lt := lt) (tp := tp) (tn := tn) (he := he) (ft := ft) (vl := vl) (bt := bt) (lg := lg) (ce := ce) (bw := bw) (a := a) (hw := hw) (hr := (by omega))) gX9_whom_X9_isTask rfl hdX9_isTask ⟨rfl, rfl, Nat.le_of_ble_eq_true rfl, Nat.le_of_ble_eq_true rfl⟩ rfl rfl (Nat.le_of_ble_eq_true rfl) ⟨Nat.zero_le _, Nat.zero_le _⟩ rfl rfl dX9_whom_2) (fun r_1 u_3 e_2 => ?_)
  have e_2 : r_1 = jI (b2 (0 ≤ t ∧ t ≤ w 2 - 1)) := e_2
  subst e_2
  refine v_world (ws' := (wR cI cL a w kp bf ah ik fd sp lt tp tn he ft vl bt lg ce bw)) rfl ?_
  refine v_ifb_ne (P := 0 ≤ t ∧ t ≤ w 2 - 1) (tgt := 14) G dX9_whom_5 (by decide) (fun c_4 => ?_) (fun c_4 => ?_)
  · skip
    refine v_aload_n (j := 0) (x := a 0) G dX9_whom_14 rfl rfl ?_
    refine v_ciF G (rn_V (As := []) (rest := []) (q0 := 0) G (c_X9_doneAhead (w := w) (kp := kp) (bf := bf) (ah := ah) (ik := ik) (fd := fd) (sp := sp) (lt := lt) (tp := tp) (tn := tn) (he := he) (ft := ft) (vl := vl) (bt := bt) (lg := lg) (ce := ce) (bw := bw) (a := a) (hw := hw) (h0 := h0)) gX9_whom_X9_doneAhead rfl hdX9_doneAhead ⟨rfl, rfl, Nat.le_of_ble_eq_true rfl, Nat.le_of_ble_eq_true rfl⟩ rfl rfl (Nat.le_of_ble_eq_true rfl) ⟨Nat.zero_le _, Nat.zero_le _⟩ rfl rfl dX9_whom_15) (fun r_5 u_7 e_6 => ?_)
    have e_6 : r_5 = sDn w := e_6
    subst e_6
    refine v_world (ws' := (wR cI cL a w kp bf w ik fd sp lt tp tn he ft vl bt lg ce bw)) rfl ?_
    refine v_iload_n (j := 1) (x := jI t) G dX9_whom_18 rfl rfl ?_
    refine v_ciN G (rn_S (As := [.int (sDn w), .int (jI t)]) (rest := []) G (c_X9_has (x := sDn w) (k := t) ) gX9_whom_X9_has rfl hdX9_has ⟨rfl, rfl, Nat.le_of_ble_eq_true rfl, Nat.le_of_ble_eq_true rfl⟩ rfl rfl (Nat.le_of_ble_eq_true rfl) ⟨Nat.zero_le _, Nat.zero_le _⟩ dX9_whom_19) (fun r_8 u_10 e_9 => ?_)
    have e_9 : r_8 = jI (b2 (((sDn w) >>> (jI t &&& 31)) &&& jI 1 = jI 1)) := e_9
    subst e_9
    refine v_ifb_ne (P := ((sDn w) >>> (jI t &&& 31)) &&& jI 1 = jI 1) (tgt := 27) G dX9_whom_22 (by decide) (fun c_11 => ?_) (fun c_11 => ?_)
    · skip
      refine v_iconst G dX9_whom_27 ?_
      refine v_top (x := jI 0) (y := stN (fun z_ => ¬ ((sDn (uI w (19 + 5 * z_ + 0) 6) >>> (jI t &&& 31)) &&& jI 1 = jI 1)) 0) rfl ?_
      refine v_istore_n (lv' := [(2, .int (stN (fun z_ => ¬ ((sDn (uI w (19 + 5 * z_ + 0) 6) >>> (jI t &&& 31)) &&& jI 1 = jI 1)) 0)), (0, .ref (a 0)), (1, .int (jI t))]) G dX9_whom_28 rfl (by decide) rfl ?_
      refine v_iconst G dX9_whom_29 ?_
      refine v_istore_n (lv' := [(3, .int (jI 0)), (2, .int (stN (fun z_ => ¬ ((sDn (uI w (19 + 5 * z_ + 0) 6) >>> (jI t &&& 31)) &&& jI 1 = jI 1)) 0)), (0, .ref (a 0)), (1, .int (jI t))]) G dX9_whom_30 rfl (by decide) rfl ?_
      refine v_locs (lv' := [(3, .int (jI 0)), (2, .int (stN (fun z_ => ¬ ((sDn (uI w (19 + 5 * z_ + 0) 6) >>> (jI t &&& 31)) &&& jI 1 = jI 1)) 0)), (0, .ref (a 0)), (1, .int (jI t))]) [0, 1, 2, 3] rfl ?_
      refine v_loop2 (fun (k : Nat) (aq : Int → Int) => [(3, .int (jI (k : Int))), (2, .int (stN (fun z_ => ¬ ((sDn (uI w (19 + 5 * z_ + 0) 6) >>> (jI t &&& 31)) &&& jI 1 = jI 1)) k)), (0, .ref (a 0)), (1, .int (jI t))]) (fun (k : Nat) (aq : Int → Int) => (wR cI cL a w kp bf aq ik fd sp lt tp tn he ft vl bt lg ce bw)) (fun (k : Nat) (aq : Int → Int) => (k : Int) ≤ w 1) (fun (k : Nat) (aq : Int → Int) => (w 1).toNat - k) 0 w (by omega) rfl rfl ?_
      intro k aq I_12 ih_13
      refine v_iload_n (j := 0) (x := jI (k : Int)) G dX9_whom_31 rfl rfl ?_
      refine v_aload_n (j := 2) (x := a 0) G dX9_whom_32 rfl rfl ?_
      refine v_get (q0 := 0) (k := 0) (v := .ref (a 1)) G k_X9 rfl rfl (by decide) q_1 rfl rfl dX9_whom_33 ?_
      refine v_iconst G dX9_whom_36 ?_
      refine v_iald (q0 := 1) (t0 := 0) (g := w) (z := 1) G rfl rfl (by omega) dX9_whom_37 ?_
      refine v_icmp_ge (a := (k : Int)) (b := w 1) (tgt := 69) G dX9_whom_38 (by decide) (by omega) (fun c_14 => ?_) (fun c_14 => ?_)
      · skip
        obtain rfl : k = (w 1).toNat := by omega
        refine v_iload_n (j := 1) (x := stN (fun z_ => ¬ ((sDn (uI w (19 + 5 * z_ + 0) 6) >>> (jI t &&& 31)) &&& jI 1 = jI 1)) ((w 1).toNat)) G dX9_whom_69 rfl rfl ?_
        exact v_iret G (fd, aq) (by first | exact Or.inl ⟨(by first | omega | exact ⟨by omega, by assumption⟩), (by first | rfl | exact congrArg jI (by omega)), rfl⟩ | exact Or.inr (Or.inl ⟨(by first | omega | exact ⟨by omega, by assumption⟩), (by first | rfl | exact congrArg jI (by omega)), rfl⟩) | exact Or.inr (Or.inr ⟨(by first | omega | exact ⟨by omega, by assumption⟩), (by first | rfl | exact congrArg jI (by omega)), rfl⟩)) rfl dX9_whom_70
      · skip
        refine v_iload_n (j := 1) (x := stN (fun z_ => ¬ ((sDn (uI w (19 + 5 * z_ + 0) 6) >>> (jI t &&& 31)) &&& jI 1 = jI 1)) k) G dX9_whom_41 rfl rfl ?_
        refine v_aload_n (j := 2) (x := a 0) G dX9_whom_42 rfl rfl ?_
        refine v_iload_n (j := 0) (x := jI (k : Int)) G dX9_whom_43 rfl rfl ?_
        refine v_ciF G (rn_V (As := [.int (jI (k : Int))]) (rest := [.int (stN (fun z_ => ¬ ((sDn (uI w (19 + 5 * z_ + 0) 6) >>> (jI t &&& 31)) &&& jI 1 = jI 1)) k)]) (q0 := 0) G (c_X9_doneWithout (b := (k : Int)) (w := w) (kp := kp) (bf := bf) (ah := aq) (ik := ik) (fd := fd) (sp := sp) (lt := lt) (tp := tp) (tn := tn) (he := he) (ft := ft) (vl := vl) (bt := bt) (lg := lg) (ce := ce) (bw := bw) (a := a) (hw := hw) (h0 := h0) (hb := (by omega))) gX9_whom_X9_doneWithout rfl hdX9_doneWithout ⟨rfl, rfl, Nat.le_of_ble_eq_true rfl, Nat.le_of_ble_eq_true rfl⟩ rfl rfl (Nat.le_of_ble_eq_true rfl) ⟨Nat.zero_le _, Nat.zero_le _⟩ rfl rfl dX9_whom_44) (fun r_15 u_17 e_16 => ?_)
        have e_16 : r_15 = sDn (uI w (19 + 5 * (k : Int) + 0) 6) := e_16
        subst e_16
        refine v_world (ws' := (wR cI cL a w kp bf (uI w (19 + 5 * (k : Int) + 0) 6) ik fd sp lt tp tn he ft vl bt lg ce bw)) rfl ?_
        refine v_iload_n (j := 3) (x := jI t) G dX9_whom_47 rfl rfl ?_
        refine v_ciN G (rn_S (As := [.int (sDn (uI w (19 + 5 * (k : Int) + 0) 6)), .int (jI t)]) (rest := [.int (stN (fun z_ => ¬ ((sDn (uI w (19 + 5 * z_ + 0) 6) >>> (jI t &&& 31)) &&& jI 1 = jI 1)) k)]) G (c_X9_has (x := sDn (uI w (19 + 5 * (k : Int) + 0) 6)) (k := t) ) gX9_whom_X9_has rfl hdX9_has ⟨rfl, rfl, Nat.le_of_ble_eq_true rfl, Nat.le_of_ble_eq_true rfl⟩ rfl rfl (Nat.le_of_ble_eq_true rfl) ⟨Nat.zero_le _, Nat.zero_le _⟩ dX9_whom_48) (fun r_18 u_20 e_19 => ?_)
        have e_19 : r_18 = jI (b2 (((sDn (uI w (19 + 5 * (k : Int) + 0) 6)) >>> (jI t &&& 31)) &&& jI 1 = jI 1)) := e_19
        subst e_19
        refine v_cut (pc' := 61) (lv' := [(3, .int (jI (k : Int))), (2, .int (stN (fun z_ => ¬ ((sDn (uI w (19 + 5 * z_ + 0) 6) >>> (jI t &&& 31)) &&& jI 1 = jI 1)) k)), (0, .ref (a 0)), (1, .int (jI t))]) (st' := [.int (btI (¬ ((sDn (uI w (19 + 5 * (k : Int) + 0) 6) >>> (jI t &&& 31)) &&& jI 1 = jI 1)) (k : Int)), .int (stN (fun z_ => ¬ ((sDn (uI w (19 + 5 * z_ + 0) 6) >>> (jI t &&& 31)) &&& jI 1 = jI 1)) k)]) (ws' := (wR cI cL a w kp bf (uI w (19 + 5 * (k : Int) + 0) 6) ik fd sp lt tp tn he ft vl bt lg ce bw)) ?_ (fun J_21 => ?_)
        · skip
          refine v_ior (v := (stN (fun z_ => ¬ ((sDn (uI w (19 + 5 * z_ + 0) 6) >>> (jI t &&& 31)) &&& jI 1 = jI 1)) k) ||| (btI (¬ ((sDn (uI w (19 + 5 * (k : Int) + 0) 6) >>> (jI t &&& 31)) &&& jI 1 = jI 1)) (k : Int))) G dX9_whom_61 rfl ?_
          refine v_top (x := (stN (fun z_ => ¬ ((sDn (uI w (19 + 5 * z_ + 0) 6) >>> (jI t &&& 31)) &&& jI 1 = jI 1)) k) ||| (btI (¬ ((sDn (uI w (19 + 5 * (k : Int) + 0) 6) >>> (jI t &&& 31)) &&& jI 1 = jI 1)) (k : Int))) (y := stN (fun z_ => ¬ ((sDn (uI w (19 + 5 * z_ + 0) 6) >>> (jI t &&& 31)) &&& jI 1 = jI 1)) (k + 1)) rfl ?_
          refine v_istore_n (lv' := [(2, .int (stN (fun z_ => ¬ ((sDn (uI w (19 + 5 * z_ + 0) 6) >>> (jI t &&& 31)) &&& jI 1 = jI 1)) (k + 1))), (3, .int (jI (k : Int))), (0, .ref (a 0)), (1, .int (jI t))]) G dX9_whom_62 rfl (by decide) rfl ?_
          refine v_iinc (k := 1) (z := (k : Int)) (z' := ((k + 1 : Nat) : Int)) (lv' := [(3, .int (jI ((k + 1 : Nat) : Int))), (2, .int (stN (fun z_ => ¬ ((sDn (uI w (19 + 5 * z_ + 0) 6) >>> (jI t &&& 31)) &&& jI 1 = jI 1)) (k + 1))), (0, .ref (a 0)), (1, .int (jI t))]) G dX9_whom_63 rfl (by omega) (by decide) rfl ?_
          refine v_goto (tgt := 31) G dX9_whom_66 (by decide) ?_
          exact ih_13 (k + 1) (uI w (19 + 5 * (k : Int) + 0) 6) (by omega) (by omega)
        · skip
          refine v_ifb_eq (P := ((sDn (uI w (19 + 5 * (k : Int) + 0) 6)) >>> (jI t &&& 31)) &&& jI 1 = jI 1) (tgt := 58) G dX9_whom_51 (by decide) (fun c_22 => ?_) (fun c_22 => ?_)
          · skip
            refine v_iconst G dX9_whom_58 ?_
            refine v_iload_n (j := 0) (x := jI (k : Int)) G dX9_whom_59 rfl rfl ?_
            refine v_ishl (v := (jI 1) <<< ((jI (k : Int)) &&& 31)) G dX9_whom_60 rfl ?_
            refine v_top (x := (jI 1) <<< ((jI (k : Int)) &&& 31)) (y := btI (¬ ((sDn (uI w (19 + 5 * (k : Int) + 0) 6) >>> (jI t &&& 31)) &&& jI 1 = jI 1)) (k : Int)) (btI_t (by assumption)).symm ?_
            exact J_21
          · skip
            refine v_iconst G dX9_whom_54 ?_
            refine v_goto (tgt := 61) G dX9_whom_55 (by decide) ?_
            refine v_top (x := jI 0) (y := btI (¬ ((sDn (uI w (19 + 5 * (k : Int) + 0) 6) >>> (jI t &&& 31)) &&& jI 1 = jI 1)) (k : Int)) (btI_f (by exact fun z => z (by assumption))).symm ?_
            exact J_21
    · skip
      refine v_iconst G dX9_whom_25 ?_
      exact v_iret G (fd, w) (by first | exact Or.inl ⟨(by first | omega | exact ⟨by omega, by assumption⟩), (by first | rfl | exact congrArg jI (by omega)), rfl⟩ | exact Or.inr (Or.inl ⟨(by first | omega | exact ⟨by omega, by assumption⟩), (by first | rfl | exact congrArg jI (by omega)), rfl⟩) | exact Or.inr (Or.inr ⟨(by first | omega | exact ⟨by omega, by assumption⟩), (by first | rfl | exact congrArg jI (by omega)), rfl⟩)) rfl dX9_whom_26
  · skip
    refine v_aload_n (j := 0) (x := a 0) G dX9_whom_8 rfl rfl ?_
    refine v_iconst G dX9_whom_9 ?_
    refine v_ciF G (rn_V (As := [.int (jI 0)]) (rest := []) (q0 := 0) G (c_X9_no (k := 0) (w := w) (kp := kp) (bf := bf) (ah := ah) (ik := ik) (fd := fd) (sp := sp) (lt := lt) (tp := tp) (tn := tn) (he := he) (ft := ft) (vl := vl) (bt := bt) (lg := lg) (ce := ce) (bw := bw) (a := a) (hk := (by omega))) gX9_whom_X9_no rfl hdX9_no ⟨rfl, rfl, Nat.le_of_ble_eq_true rfl, Nat.le_of_ble_eq_true rfl⟩ rfl rfl (Nat.le_of_ble_eq_true rfl) ⟨Nat.zero_le _, Nat.zero_le _⟩ rfl rfl dX9_whom_10) (fun r_23 u_25 e_24 => ?_)
    have e_24 : r_23 = jI ((-1000000001) - 0) := e_24
    subst e_24
    refine v_world (ws' := (wR cI cL a w kp bf ah ik (uI fd 0 (fd 0 + 1)) sp lt tp tn he ft vl bt lg ce bw)) rfl ?_
    exact v_iret G (uI fd 0 (fd 0 + 1), ah) (by first | exact Or.inl ⟨(by first | omega | exact ⟨by omega, by assumption⟩), (by first | rfl | exact congrArg jI (by omega)), rfl⟩ | exact Or.inr (Or.inl ⟨(by first | omega | exact ⟨by omega, by assumption⟩), (by first | rfl | exact congrArg jI (by omega)), rfl⟩) | exact Or.inr (Or.inr ⟨(by first | omega | exact ⟨by omega, by assumption⟩), (by first | rfl | exact congrArg jI (by omega)), rfl⟩)) rfl dX9_whom_13

set_option maxHeartbeats 4000000 in
set_option maxRecDepth 100000 in
theorem c_X9_bestOf (x n : Int) (hx : (0 ≤ x ∧ x < 93) ∧ 0 ≤ n ∧ n ≤ 16) (hws : ∀ z : Int, 0 ≤ z → z < n → Wf (uI w x z) ∧ uI w x z 0 ≤ 9999) : Ci l yX9_bestOf wsX9_bestOf { frames := 8, cells := 0, slots := 0, locals := 181 } D (jT cI cL cB cS) [.ref (a 0), .int (jI x), .int (jI n)] (wR cI cL a w kp bf ah ik fd sp lt tp tn he ft vl bt lg ce bw) (S := (Int → Int)) (fun ah2 => (wR cI cL a w kp bf ah2 ik fd sp lt tp tn he ft vl bt lg ce bw)) (fun r ah2 => r = jI (bsN (fun z_ => onI (sDn (uI w x z_)) 32) n.toNat) ∧ True) := by
  refine Ci.mk (cc := cX9_bestOf) (maxL := 7) (rt := .int) (by decide) rfl (Nat.le_of_ble_eq_true rfl) rfl ?_
  intro p_ e_ s_ m_ b_ me_ c_ A_ G hnm
  refine v_iconst G dX9_bestOf_0 ?_
  refine v_istore_n (lv' := [(3, .int (jI 0)), (0, .ref (a 0)), (1, .int (jI x)), (2, .int (jI n))]) G dX9_bestOf_1 rfl (by decide) rfl ?_
  refine v_iconst G dX9_bestOf_2 ?_
  refine v_istore (lv' := [(4, .int (jI (-1))), (3, .int (jI 0)), (0, .ref (a 0)), (1, .int (jI x)), (2, .int (jI n))]) G dX9_bestOf_3 (by decide) rfl ?_
  refine v_iconst G dX9_bestOf_5 ?_
  refine v_istore (lv' := [(5, .int (jI 0)), (4, .int (jI (-1))), (3, .int (jI 0)), (0, .ref (a 0)), (1, .int (jI x)), (2, .int (jI n))]) G dX9_bestOf_6 (by decide) rfl ?_
  refine v_locs (lv' := [(5, .int (jI 0)), (4, .int (jI (-1))), (3, .int (jI 0)), (0, .ref (a 0)), (1, .int (jI x)), (2, .int (jI n))]) [0, 1, 2, 3, 4, 5] rfl ?_
  refine v_loop2 (fun (k : Nat) (aq : Int → Int) => [(5, .int (jI (k : Int))), (4, .int (jI (msN (fun z_ => onI (sDn (uI w x z_)) 32) k))), (3, .int (jI (bsN (fun z_ => onI (sDn (uI w x z_)) 32) k))), (0, .ref (a 0)), (1, .int (jI x)), (2, .int (jI n))]) (fun (k : Nat) (aq : Int → Int) => (wR cI cL a w kp bf aq ik fd sp lt tp tn he ft vl bt lg ce bw)) (fun (k : Nat) (aq : Int → Int) => (k : Int) ≤ n) (fun (k : Nat) (aq : Int → Int) => n.toNat - k) 0 ah (by omega) rfl rfl ?_
  intro k aq I_1 ih_2
  refine v_iload (j := 0) (x := jI (k : Int)) G dX9_bestOf_8 rfl ?_
  refine v_iload_n (j := 5) (x := jI n) G dX9_bestOf_10 rfl rfl ?_
  refine v_icmp_ge (a := (k : Int)) (b := n) (tgt := 59) G dX9_bestOf_11 (by decide) (by omega) (fun c_3 => ?_) (fun c_3 => ?_)
  · skip
    obtain rfl : k = n.toNat := by omega
    refine v_iload_n (j := 2) (x := jI (bsN (fun z_ => onI (sDn (uI w x z_)) 32) n.toNat)) G dX9_bestOf_59 rfl rfl ?_
    exact v_iret G aq ⟨rfl, trivial⟩ rfl dX9_bestOf_60
  · skip
    have hms := msN_r (f := (fun z_ => onI (sDn (uI w x z_)) 32)) (c := 32) (by omega) (fun z => onI_r _ 32) k
    have hof : 0 ≤ (fun z_ => onI (sDn (uI w x z_)) 32) (k : Int) ∧ (fun z_ => onI (sDn (uI w x z_)) 32) (k : Int) ≤ (32 : Nat) := onI_r _ 32
    have hof2 : (fun z_ => onI (sDn (uI w x z_)) 32) (k : Int) = onI (sDn (uI w x (k : Int))) 32 := rfl
    have hwz := hws (k : Int) (by omega) (by omega)
    refine v_aload_n (j := 3) (x := a 0) G dX9_bestOf_14 rfl rfl ?_
    refine v_iload_n (j := 4) (x := jI x) G dX9_bestOf_15 rfl rfl ?_
    refine v_iload (j := 0) (x := jI (k : Int)) G dX9_bestOf_16 rfl ?_
    refine v_ciF G (rn_V (As := [.int (jI x), .int (jI (k : Int))]) (rest := []) (q0 := 0) G (c_X9_manyWith (x := x) (v := (k : Int)) (w := w) (kp := kp) (bf := bf) (ah := aq) (ik := ik) (fd := fd) (sp := sp) (lt := lt) (tp := tp) (tn := tn) (he := he) (ft := ft) (vl := vl) (bt := bt) (lg := lg) (ce := ce) (bw := bw) (a := a) (hx := (by omega)) (hw := hwz.1) (h0 := hwz.2)) gX9_bestOf_X9_manyWith rfl hdX9_manyWith ⟨rfl, rfl, Nat.le_of_ble_eq_true rfl, Nat.le_of_ble_eq_true rfl⟩ rfl rfl (Nat.le_of_ble_eq_true rfl) ⟨Nat.zero_le _, Nat.zero_le _⟩ rfl rfl dX9_bestOf_18) (fun r_4 u_6 e_5 => ?_)
    have e_5 : r_4 = jI (onI (sDn (uI w x (k : Int))) 32) := e_5
    subst e_5
    refine v_world (ws' := (wR cI cL a w kp bf (uI w x (k : Int)) ik fd sp lt tp tn he ft vl bt lg ce bw)) rfl ?_
    refine v_istore (lv' := [(6, .int (jI (onI (sDn (uI w x (k : Int))) 32))), (5, .int (jI (k : Int))), (4, .int (jI (msN (fun z_ => onI (sDn (uI w x z_)) 32) k))), (3, .int (jI (bsN (fun z_ => onI (sDn (uI w x z_)) 32) k))), (0, .ref (a 0)), (1, .int (jI x)), (2, .int (jI n))]) G dX9_bestOf_21 (by decide) rfl ?_
    refine v_iload (j := 0) (x := jI (onI (sDn (uI w x (k : Int))) 32)) G dX9_bestOf_23 rfl ?_
    refine v_iload (j := 2) (x := jI (msN (fun z_ => onI (sDn (uI w x z_)) 32) k)) G dX9_bestOf_25 rfl ?_
    refine v_cut (pc' := 36) (lv' := [(6, .int (jI (onI (sDn (uI w x (k : Int))) 32))), (5, .int (jI (k : Int))), (4, .int (jI (msN (fun z_ => onI (sDn (uI w x z_)) 32) k))), (3, .int (jI (bsN (fun z_ => onI (sDn (uI w x z_)) 32) k))), (0, .ref (a 0)), (1, .int (jI x)), (2, .int (jI n))]) (st' := [.int (jI (bsN (fun z_ => onI (sDn (uI w x z_)) 32) (k + 1)))]) (ws' := (wR cI cL a w kp bf (uI w x (k : Int)) ik fd sp lt tp tn he ft vl bt lg ce bw)) ?_ (fun J_7 => ?_)
    · skip
      refine v_istore_n (lv' := [(3, .int (jI (bsN (fun z_ => onI (sDn (uI w x z_)) 32) (k + 1)))), (6, .int (jI (onI (sDn (uI w x (k : Int))) 32))), (5, .int (jI (k : Int))), (4, .int (jI (msN (fun z_ => onI (sDn (uI w x z_)) 32) k))), (0, .ref (a 0)), (1, .int (jI x)), (2, .int (jI n))]) G dX9_bestOf_36 rfl (by decide) rfl ?_
      refine v_iload (j := 1) (x := jI (onI (sDn (uI w x (k : Int))) 32)) G dX9_bestOf_37 rfl ?_
      refine v_iload (j := 3) (x := jI (msN (fun z_ => onI (sDn (uI w x z_)) 32) k)) G dX9_bestOf_39 rfl ?_
      refine v_cut (pc' := 51) (lv' := [(3, .int (jI (bsN (fun z_ => onI (sDn (uI w x z_)) 32) (k + 1)))), (6, .int (jI (onI (sDn (uI w x (k : Int))) 32))), (5, .int (jI (k : Int))), (4, .int (jI (msN (fun z_ => onI (sDn (uI w x z_)) 32) k))), (0, .ref (a 0)), (1, .int (jI x)), (2, .int (jI n))]) (st' := [.int (jI (msN (fun z_ => onI (sDn (uI w x z_)) 32) (k + 1)))]) (ws' := (wR cI cL a w kp bf (uI w x (k : Int)) ik fd sp lt tp tn he ft vl bt lg ce bw)) ?_ (fun J_8 => ?_)
      · skip
        refine v_istore (lv' := [(4, .int (jI (msN (fun z_ => onI (sDn (uI w x z_)) 32) (k + 1)))), (3, .int (jI (bsN (fun z_ => onI (sDn (uI w x z_)) 32) (k + 1)))), (6, .int (jI (onI (sDn (uI w x (k : Int))) 32))), (5, .int (jI (k : Int))), (0, .ref (a 0)), (1, .int (jI x)), (2, .int (jI n))]) G dX9_bestOf_51 (by decide) rfl ?_
        refine v_iinc (k := 3) (z := (k : Int)) (z' := ((k + 1 : Nat) : Int)) (lv' := [(5, .int (jI ((k + 1 : Nat) : Int))), (4, .int (jI (msN (fun z_ => onI (sDn (uI w x z_)) 32) (k + 1)))), (3, .int (jI (bsN (fun z_ => onI (sDn (uI w x z_)) 32) (k + 1)))), (6, .int (jI (onI (sDn (uI w x (k : Int))) 32))), (0, .ref (a 0)), (1, .int (jI x)), (2, .int (jI n))]) G dX9_bestOf_53 rfl (by omega) (by decide) rfl ?_
        refine v_goto (tgt := 8) G dX9_bestOf_56 (by decide) ?_
        refine v_locs (lv' := [(5, .int (jI ((k + 1 : Nat) : Int))), (4, .int (jI (msN (fun z_ => onI (sDn (uI w x z_)) 32) (k + 1)))), (3, .int (jI (bsN (fun z_ => onI (sDn (uI w x z_)) 32) (k + 1)))), (0, .ref (a 0)), (1, .int (jI x)), (2, .int (jI n))]) [0, 1, 2, 4, 5, 6] rfl ?_
        exact ih_2 (k + 1) (uI w x (k : Int)) (by omega) (by omega)
      · skip
        refine v_icmp_le (a := onI (sDn (uI w x (k : Int))) 32) (b := msN (fun z_ => onI (sDn (uI w x z_)) 32) k) (tgt := 49) G dX9_bestOf_41 (by decide) (by omega) (fun c_9 => ?_) (fun c_9 => ?_)
        · skip
          refine v_iload (j := 3) (x := jI (msN (fun z_ => onI (sDn (uI w x z_)) 32) k)) G dX9_bestOf_49 rfl ?_
          refine v_topj (x := msN (fun z_ => onI (sDn (uI w x z_)) 32) k) (y := msN (fun z_ => onI (sDn (uI w x z_)) 32) (k + 1)) (by show _ = (if _ then _ else _); split <;> omega) ?_
          exact J_8
        · skip
          refine v_iload (j := 1) (x := jI (onI (sDn (uI w x (k : Int))) 32)) G dX9_bestOf_44 rfl ?_
          refine v_goto (tgt := 51) G dX9_bestOf_46 (by decide) ?_
          refine v_topj (x := onI (sDn (uI w x (k : Int))) 32) (y := msN (fun z_ => onI (sDn (uI w x z_)) 32) (k + 1)) (by show _ = (if _ then _ else _); split <;> omega) ?_
          exact J_8
    · skip
      refine v_icmp_le (a := onI (sDn (uI w x (k : Int))) 32) (b := msN (fun z_ => onI (sDn (uI w x z_)) 32) k) (tgt := 35) G dX9_bestOf_27 (by decide) (by omega) (fun c_10 => ?_) (fun c_10 => ?_)
      · skip
        refine v_iload_n (j := 3) (x := jI (bsN (fun z_ => onI (sDn (uI w x z_)) 32) k)) G dX9_bestOf_35 rfl rfl ?_
        refine v_topj (x := bsN (fun z_ => onI (sDn (uI w x z_)) 32) k) (y := bsN (fun z_ => onI (sDn (uI w x z_)) 32) (k + 1)) (by show _ = (if _ then _ else _); split <;> omega) ?_
        exact J_7
      · skip
        refine v_iload (j := 1) (x := jI (k : Int)) G dX9_bestOf_30 rfl ?_
        refine v_goto (tgt := 36) G dX9_bestOf_32 (by decide) ?_
        refine v_topj (x := (k : Int)) (y := bsN (fun z_ => onI (sDn (uI w x z_)) 32) (k + 1)) (by show _ = (if _ then _ else _); split <;> omega) ?_
        exact J_7

set_option maxHeartbeats 4000000 in
set_option maxRecDepth 100000 in
theorem c_X9_goal (b : Int) (hw : Wf w) (h0 : w 0 ≤ 9999) (hr : (-2147483648 ≤ b ∧ b ≤ 2147483647)) : Ci l yX9_goal wsX9_goal { frames := 9, cells := 0, slots := 0, locals := 207 } D (jT cI cL cB cS) [.ref (a 0), .int (jI b)] (wR cI cL a w kp bf ah ik fd sp lt tp tn he ft vl bt lg ce bw) (S := (Int → Int) × (Int → Int)) (fun u => (wR cI cL a w kp bf u.2 ik u.1 sp lt tp tn he ft vl bt lg ce bw)) (fun r u => (((0 ≤ b ∧ b ≤ w 1 - 1)) ∧ r = jI (bsN (fun z_ => onI (sDn (uI w (19 + 5 * b + 2) z_)) 32) 16) ∧ u.1 = fd) ∨ ((¬ (0 ≤ b ∧ b ≤ w 1 - 1)) ∧ r = jI (-1000000001) ∧ u.1 = uI fd 0 (fd 0 + 1))) := by
  refine Ci.mk (cc := cX9_goal) (maxL := 2) (rt := .int) (by decide) rfl (Nat.le_of_ble_eq_true rfl) rfl ?_
  intro p_ e_ s_ m_ b_ me_ c_ A_ G hnm
  have hm := hw.many
  have hmt := hw.tasks
  have hh := hw.hour
  refine v_aload_n (j := 0) (x := a 0) G dX9_goal_0 rfl rfl ?_
  refine v_iload_n (j := 1) (x := jI b) G dX9_goal_1 rfl rfl ?_
  refine v_ciF G (rn_V (As := [.int (jI b)]) (rest := []) (q0 := 0) G (c_X9_isBeing (b := b) (w := w) (kp := kp) (bf := bf) (ah := ah) (ik := ik) (fd := fd) (sp := sp) (lt := lt) (tp := tp) (tn := tn) (he := he) (ft := ft) (vl := vl) (bt := bt) (lg := lg) (ce := ce) (bw := bw) (a := a) (hw := hw) (hr := (by omega))) gX9_goal_X9_isBeing rfl hdX9_isBeing ⟨rfl, rfl, Nat.le_of_ble_eq_true rfl, Nat.le_of_ble_eq_true rfl⟩ rfl rfl (Nat.le_of_ble_eq_true rfl) ⟨Nat.zero_le _, Nat.zero_le _⟩ rfl rfl dX9_goal_2) (fun r_1 u_3 e_2 => ?_)
  have e_2 : r_1 = jI (b2 (0 ≤ b ∧ b ≤ w 1 - 1)) := e_2
  subst e_2
  refine v_world (ws' := (wR cI cL a w kp bf ah ik fd sp lt tp tn he ft vl bt lg ce bw)) rfl ?_
  refine v_ifb_eq (P := 0 ≤ b ∧ b ≤ w 1 - 1) (tgt := 23) G dX9_goal_5 (by decide) (fun c_4 => ?_) (fun c_4 => ?_)
  · skip
    refine v_aload_n (j := 0) (x := a 0) G dX9_goal_23 rfl rfl ?_
    refine v_iconst G dX9_goal_24 ?_
    refine v_ciF G (rn_V (As := [.int (jI 0)]) (rest := []) (q0 := 0) G (c_X9_no (k := 0) (w := w) (kp := kp) (bf := bf) (ah := ah) (ik := ik) (fd := fd) (sp := sp) (lt := lt) (tp := tp) (tn := tn) (he := he) (ft := ft) (vl := vl) (bt := bt) (lg := lg) (ce := ce) (bw := bw) (a := a) (hk := (by omega))) gX9_goal_X9_no rfl hdX9_no ⟨rfl, rfl, Nat.le_of_ble_eq_true rfl, Nat.le_of_ble_eq_true rfl⟩ rfl rfl (Nat.le_of_ble_eq_true rfl) ⟨Nat.zero_le _, Nat.zero_le _⟩ rfl rfl dX9_goal_25) (fun r_5 u_7 e_6 => ?_)
    have e_6 : r_5 = jI ((-1000000001) - 0) := e_6
    subst e_6
    refine v_world (ws' := (wR cI cL a w kp bf ah ik (uI fd 0 (fd 0 + 1)) sp lt tp tn he ft vl bt lg ce bw)) rfl ?_
    exact v_iret G (uI fd 0 (fd 0 + 1), ah) (by first | exact Or.inl ⟨(by omega), (by first | rfl | exact congrArg jI (by omega)), rfl⟩ | exact Or.inr ⟨(by omega), (by first | rfl | exact congrArg jI (by omega)), rfl⟩) rfl dX9_goal_28
  · skip
    refine v_aload_n (j := 0) (x := a 0) G dX9_goal_8 rfl rfl ?_
    refine v_aload_n (j := 0) (x := a 0) G dX9_goal_9 rfl rfl ?_
    refine v_iload_n (j := 1) (x := jI b) G dX9_goal_10 rfl rfl ?_
    refine v_iconst G dX9_goal_11 ?_
    refine v_ciF G (rn_V (As := [.int (jI b), .int (jI 2)]) (rest := [.ref (a 0)]) (q0 := 0) G (c_X9_at (b := b) (k := 2) (w := w) (kp := kp) (bf := bf) (ah := ah) (ik := ik) (fd := fd) (sp := sp) (lt := lt) (tp := tp) (tn := tn) (he := he) (ft := ft) (vl := vl) (bt := bt) (lg := lg) (ce := ce) (bw := bw) (a := a) ) gX9_goal_X9_at rfl hdX9_at ⟨rfl, rfl, Nat.le_of_ble_eq_true rfl, Nat.le_of_ble_eq_true rfl⟩ rfl rfl (Nat.le_of_ble_eq_true rfl) ⟨Nat.zero_le _, Nat.zero_le _⟩ rfl rfl dX9_goal_12) (fun r_8 u_10 e_9 => ?_)
    have e_9 : r_8 = jI (19 + 5 * b + 2) := e_9
    subst e_9
    refine v_world (ws' := (wR cI cL a w kp bf ah ik fd sp lt tp tn he ft vl bt lg ce bw)) rfl ?_
    refine v_bipush G dX9_goal_15 (by decide) ?_
    refine v_ciF G (rn_V (As := [.int (jI (19 + 5 * b + 2)), .int (jI 16)]) (rest := []) (q0 := 0) G (c_X9_bestOf (x := 19 + 5 * b + 2) (n := 16) (w := w) (kp := kp) (bf := bf) (ah := ah) (ik := ik) (fd := fd) (sp := sp) (lt := lt) (tp := tp) (tn := tn) (he := he) (ft := ft) (vl := vl) (bt := bt) (lg := lg) (ce := ce) (bw := bw) (a := a) (hx := (by omega)) (hws := (fun z y0 y1 => ⟨hw.setB (by omega) (by omega), by rw [uI_n _ _ (by omega)]; exact h0⟩))) gX9_goal_X9_bestOf rfl hdX9_bestOf ⟨rfl, rfl, Nat.le_of_ble_eq_true rfl, Nat.le_of_ble_eq_true rfl⟩ rfl rfl (Nat.le_of_ble_eq_true rfl) ⟨Nat.zero_le _, Nat.zero_le _⟩ rfl rfl dX9_goal_17) (fun r_12 u_14 e_13 => ?_)
    obtain ⟨ah2_11, rfl⟩ : ∃ z, z = u_14 := ⟨_, rfl⟩
    have e_13 : r_12 = jI (bsN (fun z_ => onI (sDn (uI w (19 + 5 * b + 2) z_)) 32) (16 : Int).toNat) ∧ True := e_13
    obtain ⟨e_130, e_13⟩ := e_13
    subst e_130
    refine v_world (ws' := (wR cI cL a w kp bf ah2_11 ik fd sp lt tp tn he ft vl bt lg ce bw)) rfl ?_
    refine v_goto (tgt := 28) G dX9_goal_20 (by decide) ?_
    exact v_iret G (fd, ah2_11) (by first | exact Or.inl ⟨(by omega), (by first | rfl | exact congrArg jI (by omega)), rfl⟩ | exact Or.inr ⟨(by omega), (by first | rfl | exact congrArg jI (by omega)), rfl⟩) rfl dX9_goal_28

set_option maxHeartbeats 4000000 in
set_option maxRecDepth 100000 in
theorem c_X9_kind (b : Int) (hw : Wf w) (h0 : w 0 ≤ 9999) (hr : (-2147483648 ≤ b ∧ b ≤ 2147483647)) : Ci l yX9_kind wsX9_kind { frames := 9, cells := 0, slots := 0, locals := 207 } D (jT cI cL cB cS) [.ref (a 0), .int (jI b)] (wR cI cL a w kp bf ah ik fd sp lt tp tn he ft vl bt lg ce bw) (S := (Int → Int) × (Int → Int)) (fun u => (wR cI cL a w kp bf u.2 ik u.1 sp lt tp tn he ft vl bt lg ce bw)) (fun r u => (((0 ≤ b ∧ b ≤ w 1 - 1)) ∧ r = jI (bsN (fun z_ => onI (sDn (uI w (19 + 5 * b + 0) z_)) 32) 6) ∧ u.1 = fd) ∨ ((¬ (0 ≤ b ∧ b ≤ w 1 - 1)) ∧ r = jI (-1000000001) ∧ u.1 = uI fd 0 (fd 0 + 1))) := by
  refine Ci.mk (cc := cX9_kind) (maxL := 2) (rt := .int) (by decide) rfl (Nat.le_of_ble_eq_true rfl) rfl ?_
  intro p_ e_ s_ m_ b_ me_ c_ A_ G hnm
  have hm := hw.many
  have hmt := hw.tasks
  have hh := hw.hour
  refine v_aload_n (j := 0) (x := a 0) G dX9_kind_0 rfl rfl ?_
  refine v_iload_n (j := 1) (x := jI b) G dX9_kind_1 rfl rfl ?_
  refine v_ciF G (rn_V (As := [.int (jI b)]) (rest := []) (q0 := 0) G (c_X9_isBeing (b := b) (w := w) (kp := kp) (bf := bf) (ah := ah) (ik := ik) (fd := fd) (sp := sp) (lt := lt) (tp := tp) (tn := tn) (he := he) (ft := ft) (vl := vl) (bt := bt) (lg := lg) (ce := ce) (bw := bw) (a := a) (hw := hw) (hr := (by omega))) gX9_kind_X9_isBeing rfl hdX9_isBeing ⟨rfl, rfl, Nat.le_of_ble_eq_true rfl, Nat.le_of_ble_eq_true rfl⟩ rfl rfl (Nat.le_of_ble_eq_true rfl) ⟨Nat.zero_le _, Nat.zero_le _⟩ rfl rfl dX9_kind_2) (fun r_1 u_3 e_2 => ?_)
  have e_2 : r_1 = jI (b2 (0 ≤ b ∧ b ≤ w 1 - 1)) := e_2
  subst e_2
  refine v_world (ws' := (wR cI cL a w kp bf ah ik fd sp lt tp tn he ft vl bt lg ce bw)) rfl ?_
  refine v_ifb_eq (P := 0 ≤ b ∧ b ≤ w 1 - 1) (tgt := 23) G dX9_kind_5 (by decide) (fun c_4 => ?_) (fun c_4 => ?_)
  · skip
    refine v_aload_n (j := 0) (x := a 0) G dX9_kind_23 rfl rfl ?_
    refine v_iconst G dX9_kind_24 ?_
    refine v_ciF G (rn_V (As := [.int (jI 0)]) (rest := []) (q0 := 0) G (c_X9_no (k := 0) (w := w) (kp := kp) (bf := bf) (ah := ah) (ik := ik) (fd := fd) (sp := sp) (lt := lt) (tp := tp) (tn := tn) (he := he) (ft := ft) (vl := vl) (bt := bt) (lg := lg) (ce := ce) (bw := bw) (a := a) (hk := (by omega))) gX9_kind_X9_no rfl hdX9_no ⟨rfl, rfl, Nat.le_of_ble_eq_true rfl, Nat.le_of_ble_eq_true rfl⟩ rfl rfl (Nat.le_of_ble_eq_true rfl) ⟨Nat.zero_le _, Nat.zero_le _⟩ rfl rfl dX9_kind_25) (fun r_5 u_7 e_6 => ?_)
    have e_6 : r_5 = jI ((-1000000001) - 0) := e_6
    subst e_6
    refine v_world (ws' := (wR cI cL a w kp bf ah ik (uI fd 0 (fd 0 + 1)) sp lt tp tn he ft vl bt lg ce bw)) rfl ?_
    exact v_iret G (uI fd 0 (fd 0 + 1), ah) (by first | exact Or.inl ⟨(by omega), (by first | rfl | exact congrArg jI (by omega)), rfl⟩ | exact Or.inr ⟨(by omega), (by first | rfl | exact congrArg jI (by omega)), rfl⟩) rfl dX9_kind_28
  · skip
    refine v_aload_n (j := 0) (x := a 0) G dX9_kind_8 rfl rfl ?_
    refine v_aload_n (j := 0) (x := a 0) G dX9_kind_9 rfl rfl ?_
    refine v_iload_n (j := 1) (x := jI b) G dX9_kind_10 rfl rfl ?_
    refine v_iconst G dX9_kind_11 ?_
    refine v_ciF G (rn_V (As := [.int (jI b), .int (jI 0)]) (rest := [.ref (a 0)]) (q0 := 0) G (c_X9_at (b := b) (k := 0) (w := w) (kp := kp) (bf := bf) (ah := ah) (ik := ik) (fd := fd) (sp := sp) (lt := lt) (tp := tp) (tn := tn) (he := he) (ft := ft) (vl := vl) (bt := bt) (lg := lg) (ce := ce) (bw := bw) (a := a) ) gX9_kind_X9_at rfl hdX9_at ⟨rfl, rfl, Nat.le_of_ble_eq_true rfl, Nat.le_of_ble_eq_true rfl⟩ rfl rfl (Nat.le_of_ble_eq_true rfl) ⟨Nat.zero_le _, Nat.zero_le _⟩ rfl rfl dX9_kind_12) (fun r_8 u_10 e_9 => ?_)
    have e_9 : r_8 = jI (19 + 5 * b + 0) := e_9
    subst e_9
    refine v_world (ws' := (wR cI cL a w kp bf ah ik fd sp lt tp tn he ft vl bt lg ce bw)) rfl ?_
    refine v_bipush G dX9_kind_15 (by decide) ?_
    refine v_ciF G (rn_V (As := [.int (jI (19 + 5 * b + 0)), .int (jI 6)]) (rest := []) (q0 := 0) G (c_X9_bestOf (x := 19 + 5 * b + 0) (n := 6) (w := w) (kp := kp) (bf := bf) (ah := ah) (ik := ik) (fd := fd) (sp := sp) (lt := lt) (tp := tp) (tn := tn) (he := he) (ft := ft) (vl := vl) (bt := bt) (lg := lg) (ce := ce) (bw := bw) (a := a) (hx := (by omega)) (hws := (fun z y0 y1 => ⟨hw.setB (by omega) (by omega), by rw [uI_n _ _ (by omega)]; exact h0⟩))) gX9_kind_X9_bestOf rfl hdX9_bestOf ⟨rfl, rfl, Nat.le_of_ble_eq_true rfl, Nat.le_of_ble_eq_true rfl⟩ rfl rfl (Nat.le_of_ble_eq_true rfl) ⟨Nat.zero_le _, Nat.zero_le _⟩ rfl rfl dX9_kind_17) (fun r_12 u_14 e_13 => ?_)
    obtain ⟨ah2_11, rfl⟩ : ∃ z, z = u_14 := ⟨_, rfl⟩
    have e_13 : r_12 = jI (bsN (fun z_ => onI (sDn (uI w (19 + 5 * b + 0) z_)) 32) (6 : Int).toNat) ∧ True := e_13
    obtain ⟨e_130, e_13⟩ := e_13
    subst e_130
    refine v_world (ws' := (wR cI cL a w kp bf ah2_11 ik fd sp lt tp tn he ft vl bt lg ce bw)) rfl ?_
    refine v_goto (tgt := 28) G dX9_kind_20 (by decide) ?_
    exact v_iret G (fd, ah2_11) (by first | exact Or.inl ⟨(by omega), (by first | rfl | exact congrArg jI (by omega)), rfl⟩ | exact Or.inr ⟨(by omega), (by first | rfl | exact congrArg jI (by omega)), rfl⟩) rfl dX9_kind_28

set_option maxHeartbeats 4000000 in
set_option maxRecDepth 100000 in
theorem c_X9_fasted (b p v : Int) (hw : Wf w) (hr : (-2147483648 ≤ b ∧ b ≤ 2147483647) ∧ (-2147483648 ≤ p ∧ p ≤ 2147483647) ∧ (-2147483648 ≤ v ∧ v ≤ 2147483647)) : Ci l yX9_fasted wsX9_fasted { frames := 5, cells := 0, slots := 0, locals := 113 } D (jT cI cL cB cS) [.ref (a 0), .int (jI b), .int (jI p), .int (jI v)] (wR cI cL a w kp bf ah ik fd sp lt tp tn he ft vl bt lg ce bw) (S := (Int → Int)) (fun fd2 => (wR cI cL a w kp bf ah ik fd2 sp lt tp tn he ft vl bt lg ce bw)) (fun r fd2 => ((¬ ((0 ≤ b ∧ b ≤ w 1 - 1) ∧ (0 ≤ p ∧ p ≤ 15))) ∧ r = jI (-1000000001) ∧ fd2 = uI fd 0 (fd 0 + 1)) ∨ ((((0 ≤ b ∧ b ≤ w 1 - 1) ∧ (0 ≤ p ∧ p ≤ 15)) ∧ 0 ≤ fdN (fun z_ => sLt (uI w (19 + 5 * b + 4) z_) p) v 100) ∧ r = jI (fdN (fun z_ => sLt (uI w (19 + 5 * b + 4) z_) p) v 100) ∧ fd2 = fd) ∨ ((((0 ≤ b ∧ b ≤ w 1 - 1) ∧ (0 ≤ p ∧ p ≤ 15)) ∧ fdN (fun z_ => sLt (uI w (19 + 5 * b + 4) z_) p) v 100 < 0) ∧ r = jI (-1000000004) ∧ fd2 = uI fd 3 (fd 3 + 1))) := by
  refine Ci.mk (cc := cX9_fasted) (maxL := 7) (rt := .int) (by decide) rfl (Nat.le_of_ble_eq_true rfl) rfl ?_
  intro p_ e_ s_ m_ b_ me_ c_ A_ G hnm
  have hm := hw.many
  have hmt := hw.tasks
  have hh := hw.hour
  have k_X9 : ∀ w ∈ u_ws RX9 TX9 17, w ∈ wsX9_fasted := fun _ h => List.mem_cons_of_mem _ (List.mem_append_right _ h)
  have q_1 : Cond.fieldLink RX9 9 "SupperLightModel" "s" "[I" ∈ wsX9_fasted := List.mem_of_getElem? (i := 1) rfl
  refine v_aload_n (j := 0) (x := a 0) G dX9_fasted_0 rfl rfl ?_
  refine v_iload_n (j := 1) (x := jI b) G dX9_fasted_1 rfl rfl ?_
  refine v_ciF G (rn_V (As := [.int (jI b)]) (rest := []) (q0 := 0) G (c_X9_isBeing (b := b) (w := w) (kp := kp) (bf := bf) (ah := ah) (ik := ik) (fd := fd) (sp := sp) (lt := lt) (tp := tp) (tn := tn) (he := he) (ft := ft) (vl := vl) (bt := bt) (lg := lg) (ce := ce) (bw := bw) (a := a) (hw := hw) (hr := (by omega))) gX9_fasted_X9_isBeing rfl hdX9_isBeing ⟨rfl, rfl, Nat.le_of_ble_eq_true rfl, Nat.le_of_ble_eq_true rfl⟩ rfl rfl (Nat.le_of_ble_eq_true rfl) ⟨Nat.zero_le _, Nat.zero_le _⟩ rfl rfl dX9_fasted_2) (fun r_1 u_3 e_2 => ?_)
  have e_2 : r_1 = jI (b2 (0 ≤ b ∧ b ≤ w 1 - 1)) := e_2
  subst e_2
  refine v_world (ws' := (wR cI cL a w kp bf ah ik fd sp lt tp tn he ft vl bt lg ce bw)) rfl ?_
  refine v_ifb_eq (P := 0 ≤ b ∧ b ≤ w 1 - 1) (tgt := 15) G dX9_fasted_5 (by decide) (fun c_4 => ?_) (fun c_4 => ?_)
  · skip
    refine v_aload_n (j := 0) (x := a 0) G dX9_fasted_15 rfl rfl ?_
    refine v_iconst G dX9_fasted_16 ?_
    refine v_ciF G (rn_V (As := [.int (jI 0)]) (rest := []) (q0 := 0) G (c_X9_no (k := 0) (w := w) (kp := kp) (bf := bf) (ah := ah) (ik := ik) (fd := fd) (sp := sp) (lt := lt) (tp := tp) (tn := tn) (he := he) (ft := ft) (vl := vl) (bt := bt) (lg := lg) (ce := ce) (bw := bw) (a := a) (hk := (by omega))) gX9_fasted_X9_no rfl hdX9_no ⟨rfl, rfl, Nat.le_of_ble_eq_true rfl, Nat.le_of_ble_eq_true rfl⟩ rfl rfl (Nat.le_of_ble_eq_true rfl) ⟨Nat.zero_le _, Nat.zero_le _⟩ rfl rfl dX9_fasted_17) (fun r_5 u_7 e_6 => ?_)
    have e_6 : r_5 = jI ((-1000000001) - 0) := e_6
    subst e_6
    refine v_world (ws' := (wR cI cL a w kp bf ah ik (uI fd 0 (fd 0 + 1)) sp lt tp tn he ft vl bt lg ce bw)) rfl ?_
    exact v_iret G (uI fd 0 (fd 0 + 1)) (by first | exact Or.inl ⟨(by omega), (by first | rfl | exact congrArg jI (by omega)), rfl⟩ | exact Or.inr (Or.inl ⟨(by omega), (by first | rfl | exact congrArg jI (by omega)), rfl⟩) | exact Or.inr (Or.inr ⟨(by omega), (by first | rfl | exact congrArg jI (by omega)), rfl⟩)) rfl dX9_fasted_20
  · skip
    refine v_iload_n (j := 2) (x := jI p) G dX9_fasted_8 rfl rfl ?_
    refine v_ciN G (rn_S (As := [.int (jI p)]) (rest := []) G (c_X9_isPlace (p := p) (hr := (by omega))) gX9_fasted_X9_isPlace rfl hdX9_isPlace ⟨rfl, rfl, Nat.le_of_ble_eq_true rfl, Nat.le_of_ble_eq_true rfl⟩ rfl rfl (Nat.le_of_ble_eq_true rfl) ⟨Nat.zero_le _, Nat.zero_le _⟩ dX9_fasted_9) (fun r_8 u_10 e_9 => ?_)
    have e_9 : r_8 = jI (b2 (0 ≤ p ∧ p ≤ 15)) := e_9
    subst e_9
    refine v_ifb_ne (P := 0 ≤ p ∧ p ≤ 15) (tgt := 21) G dX9_fasted_12 (by decide) (fun c_11 => ?_) (fun c_11 => ?_)
    · skip
      refine v_aload_n (j := 0) (x := a 0) G dX9_fasted_21 rfl rfl ?_
      refine v_iload_n (j := 1) (x := jI b) G dX9_fasted_22 rfl rfl ?_
      refine v_iconst G dX9_fasted_23 ?_
      refine v_ciF G (rn_V (As := [.int (jI b), .int (jI 4)]) (rest := []) (q0 := 0) G (c_X9_is (b := b) (k := 4) (w := w) (kp := kp) (bf := bf) (ah := ah) (ik := ik) (fd := fd) (sp := sp) (lt := lt) (tp := tp) (tn := tn) (he := he) (ft := ft) (vl := vl) (bt := bt) (lg := lg) (ce := ce) (bw := bw) (a := a) (hb := (by omega))) gX9_fasted_X9_is rfl hdX9_is ⟨rfl, rfl, Nat.le_of_ble_eq_true rfl, Nat.le_of_ble_eq_true rfl⟩ rfl rfl (Nat.le_of_ble_eq_true rfl) ⟨Nat.zero_le _, Nat.zero_le _⟩ rfl rfl dX9_fasted_24) (fun r_12 u_14 e_13 => ?_)
      have e_13 : r_12 = jI (fB w b 4) := e_13
      subst e_13
      refine v_world (ws' := (wR cI cL a w kp bf ah ik fd sp lt tp tn he ft vl bt lg ce bw)) rfl ?_
      refine v_istore (lv' := [(4, .int (jI (fB w b 4))), (0, .ref (a 0)), (1, .int (jI b)), (2, .int (jI p)), (3, .int (jI v))]) G dX9_fasted_27 (by decide) rfl ?_
      refine v_iconst G dX9_fasted_29 ?_
      refine v_istore (lv' := [(5, .int (jI (-1))), (4, .int (jI (fB w b 4))), (0, .ref (a 0)), (1, .int (jI b)), (2, .int (jI p)), (3, .int (jI v))]) G dX9_fasted_30 (by decide) rfl ?_
      refine v_bipush G dX9_fasted_32 (by decide) ?_
      refine v_topj (x := 99) (y := 99 - ((0 : Nat) : Int)) (by omega) ?_
      refine v_istore (lv' := [(6, .int (jI (99 - ((0 : Nat) : Int)))), (5, .int (jI (-1))), (4, .int (jI (fB w b 4))), (0, .ref (a 0)), (1, .int (jI b)), (2, .int (jI p)), (3, .int (jI v))]) G dX9_fasted_34 (by decide) rfl ?_
      refine v_locs (lv' := [(6, .int (jI (99 - ((0 : Nat) : Int)))), (5, .int (jI (-1))), (4, .int (jI (fB w b 4))), (0, .ref (a 0)), (1, .int (jI b)), (2, .int (jI p)), (3, .int (jI v))]) [0, 1, 2, 3, 4, 5, 6] rfl ?_
      refine v_loop2 (fun (k : Nat) (wq : Int → Int) => [(6, .int (jI (99 - (k : Int)))), (5, .int (jI (fdN (fun z_ => sLt (uI w (19 + 5 * b + 4) z_) p) v k))), (4, .int (jI (fB w b 4))), (0, .ref (a 0)), (1, .int (jI b)), (2, .int (jI p)), (3, .int (jI v))]) (fun (k : Nat) (wq : Int → Int) => (wR cI cL a wq kp bf ah ik fd sp lt tp tn he ft vl bt lg ce bw)) (fun (k : Nat) (wq : Int → Int) => (k : Int) ≤ 100 ∧ (∀ j : Int, j ≠ 19 + 5 * b + 4 → wq j = w j)) (fun (k : Nat) (wq : Int → Int) => 100 - k) 0 w ⟨by decide, fun j _ => rfl⟩ rfl rfl ?_
      intro k wq I_15 ih_16
      obtain ⟨hn, hq⟩ := id I_15
      have hfd := fdN_r (fun z_ => sLt (uI w (19 + 5 * b + 4) z_) p) v k (by omega)
      refine v_iload (j := 0) (x := jI (99 - (k : Int))) G dX9_fasted_36 rfl ?_
      refine v_if_lt (a := 99 - (k : Int)) (tgt := 78) G dX9_fasted_38 (by decide) (by omega) (fun c_17 => ?_) (fun c_17 => ?_)
      · skip
        refine v_aload_n (j := 3) (x := a 0) G dX9_fasted_78 rfl rfl ?_
        refine v_get (q0 := 0) (k := 0) (v := .ref (a 1)) G k_X9 rfl rfl (by decide) q_1 rfl rfl dX9_fasted_79 ?_
        refine v_aload_n (j := 3) (x := a 0) G dX9_fasted_82 rfl rfl ?_
        refine v_iload_n (j := 4) (x := jI b) G dX9_fasted_83 rfl rfl ?_
        refine v_iconst G dX9_fasted_84 ?_
        refine v_ciF G (rn_V (As := [.int (jI b), .int (jI 4)]) (rest := [.ref (a 1)]) (q0 := 0) G (c_X9_at (b := b) (k := 4) (w := wq) (kp := kp) (bf := bf) (ah := ah) (ik := ik) (fd := fd) (sp := sp) (lt := lt) (tp := tp) (tn := tn) (he := he) (ft := ft) (vl := vl) (bt := bt) (lg := lg) (ce := ce) (bw := bw) (a := a) ) gX9_fasted_X9_at rfl hdX9_at ⟨rfl, rfl, Nat.le_of_ble_eq_true rfl, Nat.le_of_ble_eq_true rfl⟩ rfl rfl (Nat.le_of_ble_eq_true rfl) ⟨Nat.zero_le _, Nat.zero_le _⟩ rfl rfl dX9_fasted_85) (fun r_18 u_20 e_19 => ?_)
        have e_19 : r_18 = jI (19 + 5 * b + 4) := e_19
        subst e_19
        refine v_world (ws' := (wR cI cL a wq kp bf ah ik fd sp lt tp tn he ft vl bt lg ce bw)) rfl ?_
        refine v_iload (j := 2) (x := jI (fB w b 4)) G dX9_fasted_88 rfl ?_
        refine v_iast (q0 := 1) (t0 := 0) (g := wq) (z := 19 + 5 * b + 4) (x := fB w b 4) (ws' := (wR cI cL a (uI wq (19 + 5 * b + 4) (fB w b 4)) kp bf ah ik fd sp lt tp tn he ft vl bt lg ce bw)) G rfl rfl (by omega) rfl dX9_fasted_90 ?_
        refine v_cell (q0 := 1) (g := uI wq (19 + 5 * b + 4) (fB w b 4)) (g' := w) (ws' := (wR cI cL a w kp bf ah ik fd sp lt tp tn he ft vl bt lg ce bw)) rfl (fun j _ _ => by unfold uI fB; split; subst_vars; rfl; exact hq j (by omega)) rfl ?_
        refine v_iload (j := 1) (x := jI (fdN (fun z_ => sLt (uI w (19 + 5 * b + 4) z_) p) v k)) G dX9_fasted_91 rfl ?_
        obtain rfl : k = 100 := by omega
        refine v_if_ge (a := fdN (fun z_ => sLt (uI w (19 + 5 * b + 4) z_) p) v 100) (tgt := 104) G dX9_fasted_93 (by decide) (by omega) (fun c_21 => ?_) (fun c_21 => ?_)
        · skip
          refine v_iload (j := 1) (x := jI (fdN (fun z_ => sLt (uI w (19 + 5 * b + 4) z_) p) v 100)) G dX9_fasted_104 rfl ?_
          exact v_iret G (fd) (by first | exact Or.inl ⟨(by omega), (by first | rfl | exact congrArg jI (by omega)), rfl⟩ | exact Or.inr (Or.inl ⟨(by omega), (by first | rfl | exact congrArg jI (by omega)), rfl⟩) | exact Or.inr (Or.inr ⟨(by omega), (by first | rfl | exact congrArg jI (by omega)), rfl⟩)) rfl dX9_fasted_106
        · skip
          refine v_aload_n (j := 3) (x := a 0) G dX9_fasted_96 rfl rfl ?_
          refine v_iconst G dX9_fasted_97 ?_
          refine v_ciF G (rn_V (As := [.int (jI 3)]) (rest := []) (q0 := 0) G (c_X9_no (k := 3) (w := w) (kp := kp) (bf := bf) (ah := ah) (ik := ik) (fd := fd) (sp := sp) (lt := lt) (tp := tp) (tn := tn) (he := he) (ft := ft) (vl := vl) (bt := bt) (lg := lg) (ce := ce) (bw := bw) (a := a) (hk := (by omega))) gX9_fasted_X9_no rfl hdX9_no ⟨rfl, rfl, Nat.le_of_ble_eq_true rfl, Nat.le_of_ble_eq_true rfl⟩ rfl rfl (Nat.le_of_ble_eq_true rfl) ⟨Nat.zero_le _, Nat.zero_le _⟩ rfl rfl dX9_fasted_98) (fun r_22 u_24 e_23 => ?_)
          have e_23 : r_22 = jI ((-1000000001) - 3) := e_23
          subst e_23
          refine v_world (ws' := (wR cI cL a w kp bf ah ik (uI fd 3 (fd 3 + 1)) sp lt tp tn he ft vl bt lg ce bw)) rfl ?_
          refine v_goto (tgt := 106) G dX9_fasted_101 (by decide) ?_
          exact v_iret G (uI fd 3 (fd 3 + 1)) (by first | exact Or.inl ⟨(by omega), (by first | rfl | exact congrArg jI (by omega)), rfl⟩ | exact Or.inr (Or.inl ⟨(by omega), (by first | rfl | exact congrArg jI (by omega)), rfl⟩) | exact Or.inr (Or.inr ⟨(by omega), (by first | rfl | exact congrArg jI (by omega)), rfl⟩)) rfl dX9_fasted_106
      · skip
        refine v_aload_n (j := 3) (x := a 0) G dX9_fasted_41 rfl rfl ?_
        refine v_get (q0 := 0) (k := 0) (v := .ref (a 1)) G k_X9 rfl rfl (by decide) q_1 rfl rfl dX9_fasted_42 ?_
        refine v_aload_n (j := 3) (x := a 0) G dX9_fasted_45 rfl rfl ?_
        refine v_iload_n (j := 4) (x := jI b) G dX9_fasted_46 rfl rfl ?_
        refine v_iconst G dX9_fasted_47 ?_
        refine v_ciF G (rn_V (As := [.int (jI b), .int (jI 4)]) (rest := [.ref (a 1)]) (q0 := 0) G (c_X9_at (b := b) (k := 4) (w := wq) (kp := kp) (bf := bf) (ah := ah) (ik := ik) (fd := fd) (sp := sp) (lt := lt) (tp := tp) (tn := tn) (he := he) (ft := ft) (vl := vl) (bt := bt) (lg := lg) (ce := ce) (bw := bw) (a := a) ) gX9_fasted_X9_at rfl hdX9_at ⟨rfl, rfl, Nat.le_of_ble_eq_true rfl, Nat.le_of_ble_eq_true rfl⟩ rfl rfl (Nat.le_of_ble_eq_true rfl) ⟨Nat.zero_le _, Nat.zero_le _⟩ rfl rfl dX9_fasted_48) (fun r_25 u_27 e_26 => ?_)
        have e_26 : r_25 = jI (19 + 5 * b + 4) := e_26
        subst e_26
        refine v_world (ws' := (wR cI cL a wq kp bf ah ik fd sp lt tp tn he ft vl bt lg ce bw)) rfl ?_
        refine v_iload (j := 0) (x := jI (99 - (k : Int))) G dX9_fasted_51 rfl ?_
        refine v_iast (q0 := 1) (t0 := 0) (g := wq) (z := 19 + 5 * b + 4) (x := 99 - (k : Int)) (ws' := (wR cI cL a (uI wq (19 + 5 * b + 4) (99 - (k : Int))) kp bf ah ik fd sp lt tp tn he ft vl bt lg ce bw)) G rfl rfl (by omega) rfl dX9_fasted_53 ?_
        refine v_cell (q0 := 1) (g := uI wq (19 + 5 * b + 4) (99 - (k : Int))) (g' := uI w (19 + 5 * b + 4) (99 - (k : Int))) (ws' := (wR cI cL a (uI w (19 + 5 * b + 4) (99 - (k : Int))) kp bf ah ik fd sp lt tp tn he ft vl bt lg ce bw)) rfl (fun j _ _ => by unfold uI; split; rfl; exact hq j (by omega)) rfl ?_
        have hwz : Wf (uI w (19 + 5 * b + 4) (99 - (k : Int))) := hw.setB (by omega) (by omega)
        have hlz := sLt_r hwz (p := p) (by omega) (by omega)
        have hof2 : (fun z_ => sLt (uI w (19 + 5 * b + 4) z_) p) (99 - (k : Int)) = sLt (uI w (19 + 5 * b + 4) (99 - (k : Int))) p := rfl
        refine v_aload_n (j := 3) (x := a 0) G dX9_fasted_54 rfl rfl ?_
        refine v_iload_n (j := 5) (x := jI p) G dX9_fasted_55 rfl rfl ?_
        refine v_ciF G (rn_V (As := [.int (jI p)]) (rest := []) (q0 := 0) G (c_X9_lightOf (p := p) (w := uI w (19 + 5 * b + 4) (99 - (k : Int))) (kp := kp) (bf := bf) (ah := ah) (ik := ik) (fd := fd) (sp := sp) (lt := lt) (tp := tp) (tn := tn) (he := he) (ft := ft) (vl := vl) (bt := bt) (lg := lg) (ce := ce) (bw := bw) (a := a) (hw := hwz) (hp := (by omega))) gX9_fasted_X9_lightOf rfl hdX9_lightOf ⟨rfl, rfl, Nat.le_of_ble_eq_true rfl, Nat.le_of_ble_eq_true rfl⟩ rfl rfl (Nat.le_of_ble_eq_true rfl) ⟨Nat.zero_le _, Nat.zero_le _⟩ rfl rfl dX9_fasted_56) (fun r_28 u_30 e_29 => ?_)
        have e_29 : r_28 = jI (sLt (uI w (19 + 5 * b + 4) (99 - (k : Int))) p) := e_29
        subst e_29
        refine v_world (ws' := (wR cI cL a (uI w (19 + 5 * b + 4) (99 - (k : Int))) kp bf ah ik fd sp lt tp tn he ft vl bt lg ce bw)) rfl ?_
        refine v_iload_n (j := 6) (x := jI v) G dX9_fasted_59 rfl rfl ?_
        refine v_cut (pc' := 70) (lv' := [(6, .int (jI (99 - (k : Int)))), (5, .int (jI (fdN (fun z_ => sLt (uI w (19 + 5 * b + 4) z_) p) v k))), (4, .int (jI (fB w b 4))), (0, .ref (a 0)), (1, .int (jI b)), (2, .int (jI p)), (3, .int (jI v))]) (st' := [.int (jI (fdN (fun z_ => sLt (uI w (19 + 5 * b + 4) z_) p) v (k + 1)))]) (ws' := (wR cI cL a (uI w (19 + 5 * b + 4) (99 - (k : Int))) kp bf ah ik fd sp lt tp tn he ft vl bt lg ce bw)) ?_ (fun J_31 => ?_)
        · skip
          refine v_istore (lv' := [(5, .int (jI (fdN (fun z_ => sLt (uI w (19 + 5 * b + 4) z_) p) v (k + 1)))), (6, .int (jI (99 - (k : Int)))), (4, .int (jI (fB w b 4))), (0, .ref (a 0)), (1, .int (jI b)), (2, .int (jI p)), (3, .int (jI v))]) G dX9_fasted_70 (by decide) rfl ?_
          refine v_iinc (k := 1) (z := 99 - (k : Int)) (z' := 99 - ((k + 1 : Nat) : Int)) (lv' := [(6, .int (jI (99 - ((k + 1 : Nat) : Int)))), (5, .int (jI (fdN (fun z_ => sLt (uI w (19 + 5 * b + 4) z_) p) v (k + 1)))), (4, .int (jI (fB w b 4))), (0, .ref (a 0)), (1, .int (jI b)), (2, .int (jI p)), (3, .int (jI v))]) G dX9_fasted_72 rfl (by omega) (by decide) rfl ?_
          refine v_goto (tgt := 36) G dX9_fasted_75 (by decide) ?_
          exact ih_16 (k + 1) (uI w (19 + 5 * b + 4) (99 - (k : Int))) ⟨by omega, fun j z => by rw [uI_n _ _ z]⟩ (by omega)
        · skip
          refine v_icmp_ne (a := sLt (uI w (19 + 5 * b + 4) (99 - (k : Int))) p) (b := v) (tgt := 68) G dX9_fasted_60 (by decide) (by omega) (fun c_32 => ?_) (fun c_32 => ?_)
          · skip
            refine v_iload (j := 1) (x := jI (fdN (fun z_ => sLt (uI w (19 + 5 * b + 4) z_) p) v k)) G dX9_fasted_68 rfl ?_
            refine v_topj (x := fdN (fun z_ => sLt (uI w (19 + 5 * b + 4) z_) p) v k) (y := fdN (fun z_ => sLt (uI w (19 + 5 * b + 4) z_) p) v (k + 1)) (by show _ = (if _ then _ else _); split <;> first | rfl | omega) ?_
            exact J_31
          · skip
            refine v_iload (j := 0) (x := jI (99 - (k : Int))) G dX9_fasted_63 rfl ?_
            refine v_goto (tgt := 70) G dX9_fasted_65 (by decide) ?_
            refine v_topj (x := 99 - (k : Int)) (y := fdN (fun z_ => sLt (uI w (19 + 5 * b + 4) z_) p) v (k + 1)) (by show _ = (if _ then _ else _); split <;> first | rfl | omega) ?_
            exact J_31
    · skip
      refine v_aload_n (j := 0) (x := a 0) G dX9_fasted_15 rfl rfl ?_
      refine v_iconst G dX9_fasted_16 ?_
      refine v_ciF G (rn_V (As := [.int (jI 0)]) (rest := []) (q0 := 0) G (c_X9_no (k := 0) (w := w) (kp := kp) (bf := bf) (ah := ah) (ik := ik) (fd := fd) (sp := sp) (lt := lt) (tp := tp) (tn := tn) (he := he) (ft := ft) (vl := vl) (bt := bt) (lg := lg) (ce := ce) (bw := bw) (a := a) (hk := (by omega))) gX9_fasted_X9_no rfl hdX9_no ⟨rfl, rfl, Nat.le_of_ble_eq_true rfl, Nat.le_of_ble_eq_true rfl⟩ rfl rfl (Nat.le_of_ble_eq_true rfl) ⟨Nat.zero_le _, Nat.zero_le _⟩ rfl rfl dX9_fasted_17) (fun r_33 u_35 e_34 => ?_)
      have e_34 : r_33 = jI ((-1000000001) - 0) := e_34
      subst e_34
      refine v_world (ws' := (wR cI cL a w kp bf ah ik (uI fd 0 (fd 0 + 1)) sp lt tp tn he ft vl bt lg ce bw)) rfl ?_
      exact v_iret G (uI fd 0 (fd 0 + 1)) (by first | exact Or.inl ⟨(by omega), (by first | rfl | exact congrArg jI (by omega)), rfl⟩ | exact Or.inr (Or.inl ⟨(by omega), (by first | rfl | exact congrArg jI (by omega)), rfl⟩) | exact Or.inr (Or.inr ⟨(by omega), (by first | rfl | exact congrArg jI (by omega)), rfl⟩)) rfl dX9_fasted_20
end

/-! the text: bytes, tokens, items, over whole numbers -/
def ub (x : Int) : Int := if x < 0 then x + 256 else x
def bB (g : Int → Int) (n : Int) : Int → Int := fun j => if 0 ≤ j ∧ j < n then g j else -1
noncomputable def scN (P : Int → Prop) : Nat → Int → Int
  | 0, p => p
  | k + 1, p => @ite Int (P p) (Classical.propDecidable (P p)) (scN P k (p + 1)) p
theorem sc_t {P : Int → Prop} {k : Nat} {p : Int} (h : P p) : scN P (k + 1) p = scN P k (p + 1) := if_pos h
theorem sc_f {P : Int → Prop} {k : Nat} {p : Int} (h : ¬ P p) : scN P (k + 1) p = p := if_neg h
theorem sc_u {P : Int → Prop} : ∀ (k : Nat) (p r : Int), p ≤ r → r ≤ p + k → (∀ j : Int, p ≤ j → j < r → P j) → (¬ P r ∨ r = p + k) → scN P k p = r := by
  intro k
  induction k with
  | zero => intro p r h1 h2 _ _; show p = r; omega
  | succ k ih =>
    intro p r h1 h2 h3 h4
    by_cases e : p = r
    · subst e
      rcases h4 with h4 | h4
      · exact sc_f h4
      · omega
    · rw [sc_t (h3 p (by omega) (by omega))]
      exact ih (p + 1) r (by omega) (by omega) (fun j j0 j1 => h3 j (by omega) j1) (h4.imp id (fun z => by omega))
theorem sc_p {P : Int → Prop} : ∀ (k : Nat) (p : Int), (∀ q : Int, p + k ≤ q → ¬ P q) → p ≤ scN P k p ∧ scN P k p ≤ p + k ∧ (∀ j : Int, p ≤ j → j < scN P k p → P j) ∧ ¬ P (scN P k p) := by
  intro k
  induction k with
  | zero =>
    intro p h
    refine ⟨Int.le_refl p, by show p ≤ p + 0; omega, fun j j0 j1 => ?_, h p (by omega)⟩
    have j1 : j < p := j1
    omega
  | succ k ih =>
    intro p h
    by_cases e : P p
    · rw [sc_t e]
      obtain ⟨i1, i2, i3, i4⟩ := ih (p + 1) (fun q hq => h q (by omega))
      refine ⟨by omega, by omega, fun j j0 j1 => ?_, i4⟩
      by_cases q : j = p
      · subst q; exact e
      · exact i3 j (by omega) j1
    · rw [sc_f e]
      exact ⟨Int.le_refl p, by omega, fun j j0 j1 => by omega, e⟩
abbrev lo (B : Int → Int) (j : Int) : Prop := 97 ≤ B j ∧ B j ≤ 122
abbrev dg (B : Int → Int) (j : Int) : Prop := 48 ≤ B j ∧ B j ≤ 57
abbrev bk (B : Int → Int) (j : Int) : Prop := B j = 32
noncomputable def sk (B : Int → Int) (p : Int) : Int := scN (bk B) 121 p
noncomputable def we (B : Int → Int) (p : Int) : Int := scN (lo B) 121 p
noncomputable def de (B : Int → Int) (p : Int) : Int := scN (dg B) 121 p
noncomputable def te (B : Int → Int) (p : Int) : Int := if lo B p then we B p else if dg B p then de B p else p + 1
noncomputable def nx (B : Int → Int) (q : Int) : Int := sk B (te B q)
/-- what holds of bytes, n of them -/
def Bk (B : Int → Int) (n : Int) : Prop := (0 ≤ n ∧ n ≤ 120) ∧ ∀ j : Int, n ≤ j → B j = -1
theorem scB {P : Int → Prop} {n p : Int} (h : 0 ≤ n ∧ n ≤ 120) (hP : ∀ j : Int, n ≤ j → ¬ P j) (hp : 0 ≤ p ∧ p ≤ n) : p ≤ scN P 121 p ∧ scN P 121 p ≤ n ∧ (∀ j : Int, p ≤ j → j < scN P 121 p → P j) ∧ ¬ P (scN P 121 p) := by
  obtain ⟨i1, i2, i3, i4⟩ := sc_p (P := P) 121 p (fun q hq => hP q (by omega))
  refine ⟨i1, ?_, i3, i4⟩
  by_cases c : scN P 121 p ≤ n
  · exact c
  · exact absurd (i3 n (by omega) (by omega)) (hP n (Int.le_refl n))
theorem Bk.bk {B : Int → Int} {n : Int} (h : Bk B n) : ∀ j : Int, n ≤ j → ¬ bk B j := fun j hj z => by have := h.2 j hj; omega
theorem Bk.lo {B : Int → Int} {n : Int} (h : Bk B n) : ∀ j : Int, n ≤ j → ¬ lo B j := fun j hj z => by have := h.2 j hj; omega
theorem Bk.dg {B : Int → Int} {n : Int} (h : Bk B n) : ∀ j : Int, n ≤ j → ¬ dg B j := fun j hj z => by have := h.2 j hj; omega
theorem sk_p {B : Int → Int} {n p : Int} (h : Bk B n) (hp : 0 ≤ p ∧ p ≤ n) : p ≤ sk B p ∧ sk B p ≤ n ∧ (∀ j : Int, p ≤ j → j < sk B p → B j = 32) ∧ ¬ B (sk B p) = 32 := scB h.1 h.bk hp
theorem we_p {B : Int → Int} {n p : Int} (h : Bk B n) (hp : 0 ≤ p ∧ p ≤ n) : p ≤ we B p ∧ we B p ≤ n ∧ (∀ j : Int, p ≤ j → j < we B p → lo B j) ∧ ¬ lo B (we B p) := scB h.1 h.lo hp
theorem de_p {B : Int → Int} {n p : Int} (h : Bk B n) (hp : 0 ≤ p ∧ p ≤ n) : p ≤ de B p ∧ de B p ≤ n ∧ (∀ j : Int, p ≤ j → j < de B p → dg B j) ∧ ¬ dg B (de B p) := scB h.1 h.dg hp
theorem sk_u {B : Int → Int} {n p r : Int} (h : Bk B n) (hp : 0 ≤ p ∧ p ≤ r ∧ r ≤ n) (h1 : ∀ j : Int, p ≤ j → j < r → B j = 32) (h2 : ¬ B r = 32) : sk B p = r := sc_u 121 p r (by omega) (by have := h.1; omega) h1 (Or.inl h2)
theorem we_u {B : Int → Int} {n p r : Int} (h : Bk B n) (hp : 0 ≤ p ∧ p ≤ r ∧ r ≤ n) (h1 : ∀ j : Int, p ≤ j → j < r → lo B j) (h2 : ¬ lo B r) : we B p = r := sc_u 121 p r (by omega) (by have := h.1; omega) h1 (Or.inl h2)
theorem de_u {B : Int → Int} {n p r : Int} (h : Bk B n) (hp : 0 ≤ p ∧ p ≤ r ∧ r ≤ n) (h1 : ∀ j : Int, p ≤ j → j < r → dg B j) (h2 : ¬ dg B r) : de B p = r := sc_u 121 p r (by omega) (by have := h.1; omega) h1 (Or.inl h2)
theorem sk_i {B : Int → Int} {p : Int} (h : ¬ B p = 32) : sk B p = p := sc_f h
theorem de_i {B : Int → Int} {p : Int} (h : ¬ dg B p) : de B p = p := sc_f h
theorem we_i {B : Int → Int} {p : Int} (h : ¬ lo B p) : we B p = p := sc_f h
theorem te_l {B : Int → Int} {p : Int} (h : lo B p) : te B p = we B p := if_pos h
theorem te_d {B : Int → Int} {p : Int} (h : dg B p) : te B p = de B p := by
  unfold te
  rw [if_neg (by omega), if_pos h]
theorem te_o {B : Int → Int} {p : Int} (h : ¬ lo B p) (h' : ¬ dg B p) : te B p = p + 1 := by
  unfold te
  rw [if_neg h, if_neg h']
theorem te_p {B : Int → Int} {n p : Int} (h : Bk B n) (hp : 0 ≤ p ∧ p < n) : p + 1 ≤ te B p ∧ te B p ≤ n := by
  rcases Classical.em (lo B p) with c | c
  · rw [te_l c]
    obtain ⟨i1, i2, i3, i4⟩ := we_p h (p := p) (by omega)
    refine ⟨?_, i2⟩
    by_cases e : we B p = p
    · rw [e] at i4; exact absurd c i4
    · omega
  · rcases Classical.em (dg B p) with d | d
    · rw [te_d d]
      obtain ⟨i1, i2, i3, i4⟩ := de_p h (p := p) (by omega)
      refine ⟨?_, i2⟩
      by_cases e : de B p = p
      · rw [e] at i4; exact absurd d i4
      · omega
    · rw [te_o c d]; omega
theorem nx_p {B : Int → Int} {n p : Int} (h : Bk B n) (hp : 0 ≤ p ∧ p < n) : p < nx B p ∧ nx B p ≤ n ∧ ¬ B (nx B p) = 32 := by
  have h1 := te_p h hp
  obtain ⟨i1, i2, -, i4⟩ := sk_p h (p := te B p) (by omega)
  exact ⟨by unfold nx; omega, i2, i4⟩
/-- where tokens start -/
noncomputable def St (B : Int → Int) : Nat → Int
  | 0 => sk B 0
  | i + 1 => nx B (St B i)
/-- the words by their codes -/
def wdC : Nat → List Int
  | 0 => [112, 101, 114, 115, 111, 110]
  | 1 => [115, 105, 110, 103, 101, 114]
  | 2 => [116, 104, 105, 101, 102]
  | 3 => [104, 101, 114, 100]
  | 4 => [99, 104, 111, 105, 114]
  | 5 => [102, 97, 115, 116, 101, 114]
  | 6 => [97, 116]
  | 7 => [103, 111, 101, 115]
  | 8 => [109, 101, 97, 108]
  | 9 => [102, 97, 115, 116, 115]
  | 10 => [98, 111, 119, 108]
  | 11 => [116, 97, 115, 107]
  | 12 => [104, 111, 117, 114]
  | 13 => [110, 101, 101, 100]
  | _ => [101, 97, 116]
def txC : Nat → String
  | 0 => "person"
  | 1 => "singer"
  | 2 => "thief"
  | 3 => "herd"
  | 4 => "choir"
  | 5 => "faster"
  | 6 => "at"
  | 7 => "goes"
  | 8 => "meal"
  | 9 => "fasts"
  | 10 => "bowl"
  | 11 => "task"
  | 12 => "hour"
  | 13 => "need"
  | _ => "eat"
/-- a word: letters, a few -/
def Wd (w : List Int) : Prop := (1 ≤ w.length ∧ w.length ≤ 10) ∧ ∀ k : Nat, k < w.length → 97 ≤ w.getD k 0 ∧ w.getD k 0 ≤ 122
theorem wdC_ok : ∀ k : Nat, k < 15 → Wd (wdC k) := by
  have h : ∀ k : Fin 15, (1 ≤ (wdC k.val).length ∧ (wdC k.val).length ≤ 10) ∧ ∀ i : Fin 10, i.val < (wdC k.val).length → 97 ≤ (wdC k.val).getD i.val 0 ∧ (wdC k.val).getD i.val 0 ≤ 122 := by decide +kernel
  intro k hk
  obtain ⟨h1, h2⟩ := h ⟨k, hk⟩
  have h1 : 1 ≤ (wdC k).length ∧ (wdC k).length ≤ 10 := h1
  exact ⟨h1, fun i hi => h2 ⟨i, by omega⟩ hi⟩
theorem wdC_inj : ∀ j k : Nat, j < 15 → k < 15 → wdC j = wdC k → j = k := by
  have h : ∀ j k : Fin 15, wdC j.val = wdC k.val → j = k := by decide +kernel
  intro j k hj hk e
  exact congrArg Fin.val (h ⟨j, hj⟩ ⟨k, hk⟩ e)
abbrev wm (B : Int → Int) (s e : Int) (w : List Int) : Prop := e - s = (w.length : Int) ∧ ∀ k : Nat, k < w.length → B (s + (k : Int)) = w.getD k 0
theorem wm_inj {B : Int → Int} {s e : Int} {v w : List Int} (hv : wm B s e v) (hw : wm B s e w) : v = w := by
  have hl : v.length = w.length := by have a := hv.1; have b := hw.1; omega
  refine List.ext_getElem hl (fun i h1 h2 => ?_)
  have a := hv.2 i h1
  have b := hw.2 i h2
  rw [List.getD_eq_getElem?_getD, List.getElem?_eq_getElem h1, Option.getD_some] at a
  rw [List.getD_eq_getElem?_getD, List.getElem?_eq_getElem h2, Option.getD_some] at b
  rw [← a, b]
theorem wm_lo {B : Int → Int} {s e : Int} {w : List Int} (hw : Wd w) (h : wm B s e w) : lo B s := by
  have a := h.2 0 (by have := hw.1; omega)
  have b := hw.2 0 (by have := hw.1; omega)
  rw [show s + ((0 : Nat) : Int) = s by omega] at a
  exact ⟨by omega, by omega⟩
/-- a word told as the reference tells it -/
theorem wm_we {B : Int → Int} {s : Int} {w : List Int} (hw : Wd w) : wm B s (we B s) w ↔ wm B s (te B s) w := by
  constructor
  · intro h
    have c := wm_lo hw h
    rw [te_l c]; exact h
  · intro h
    have c := wm_lo hw h
    rw [te_l c] at h; exact h
noncomputable def cwF (P : Nat → Prop) : Nat → Nat → Int
  | 0, _ => 18
  | f + 1, k => @ite Int (P k) (Classical.propDecidable (P k)) (k : Int) (cwF P f (k + 1))
theorem cw_t {P : Nat → Prop} {f k : Nat} (h : P k) : cwF P (f + 1) k = (k : Int) := if_pos h
theorem cw_f {P : Nat → Prop} {f k : Nat} (h : ¬ P k) : cwF P (f + 1) k = cwF P f (k + 1) := if_neg h
theorem cw_s {P : Nat → Prop} {k : Nat} {x : Int} (hk : k < 15) (h : ¬ P k) (e : cwF P (15 - k) k = x) : cwF P (15 - (k + 1)) (k + 1) = x := by
  rw [show 15 - k = (15 - (k + 1)) + 1 by omega, cw_f h] at e
  exact e
theorem cw_i {P : Nat → Prop} {k : Nat} {x : Int} (hk : k < 15) (h : P k) (e : cwF P (15 - k) k = x) : x = (k : Int) := by
  rw [show 15 - k = (15 - (k + 1)) + 1 by omega, cw_t h] at e
  exact e.symm
theorem cw_o {P : Nat → Prop} {k : Nat} {x : Int} (hk : 15 ≤ k) (e : cwF P (15 - k) k = x) : x = 18 := by
  rw [show 15 - k = 0 by omega] at e
  exact e.symm
theorem cw_p {P : Nat → Prop} : ∀ (f k0 : Nat), (cwF P f k0 = 18 ∧ ∀ k : Nat, k0 ≤ k → k < k0 + f → ¬ P k) ∨ ∃ k : Nat, k0 ≤ k ∧ k < k0 + f ∧ cwF P f k0 = (k : Int) ∧ P k := by
  intro f
  induction f with
  | zero => intro k0; exact Or.inl ⟨rfl, fun k h1 h2 => by omega⟩
  | succ f ih =>
    intro k0
    by_cases c : P k0
    · exact Or.inr ⟨k0, by omega, by omega, cw_t c, c⟩
    · rw [cw_f c]
      rcases ih (k0 + 1) with ⟨h1, h2⟩ | ⟨k, h1, h2, h3, h4⟩
      · refine Or.inl ⟨h1, fun k a b => ?_⟩
        by_cases e : k = k0
        · subst e; exact c
        · exact h2 k (by omega) (by omega)
      · exact Or.inr ⟨k, by omega, by omega, h3, h4⟩
/-- the code of a token -/
noncomputable def cdF (B : Int → Int) (q : Int) : Int := if dg B q then 15 else if B q = 59 then 16 else cwF (fun k => wm B q (te B q) (wdC k)) 15 0
noncomputable def cd (B : Int → Int) (n q : Int) : Int := if n ≤ q then 17 else cdF B q
theorem cdF_r (B : Int → Int) (q : Int) : 0 ≤ cdF B q ∧ cdF B q ≤ 18 ∧ cdF B q ≠ 17 := by
  unfold cdF
  split
  · omega
  · split
    · omega
    · rcases cw_p (P := fun k => wm B q (te B q) (wdC k)) 15 0 with ⟨h, -⟩ | ⟨k, h1, h2, h3, -⟩
      · rw [h]; omega
      · rw [h3]; omega
theorem cd_r (B : Int → Int) (n q : Int) : 0 ≤ cd B n q ∧ cd B n q ≤ 18 := by
  have h := cdF_r B q
  unfold cd
  split <;> omega
theorem cd_17 {B : Int → Int} {n q : Int} : cd B n q = 17 ↔ n ≤ q := by
  have h := cdF_r B q
  unfold cd
  constructor
  · intro e; split at e <;> omega
  · intro e; rw [if_pos e]
theorem cd_w {B : Int → Int} {n q : Int} (hB : Bk B n) (k : Nat) (hk : k < 15) : cd B n q = (k : Int) ↔ wm B q (te B q) (wdC k) := by
  constructor
  · intro e
    by_cases c : n ≤ q
    · rw [cd_17.mpr c] at e; omega
    · unfold cd at e
      rw [if_neg c] at e
      unfold cdF at e
      split at e
      · omega
      · split at e
        · omega
        · rcases cw_p (P := fun k => wm B q (te B q) (wdC k)) 15 0 with ⟨h, -⟩ | ⟨j, h1, h2, h3, h4⟩
          · rw [h] at e; omega
          · rw [h3] at e
            have : j = k := by omega
            subst this; exact h4
  · intro h
    have c := wm_lo (wdC_ok k hk) h
    by_cases d : n ≤ q
    · have := hB.2 q d; omega
    · unfold cd
      rw [if_neg d]
      unfold cdF
      rw [if_neg (by omega), if_neg (by omega)]
      rcases cw_p (P := fun k => wm B q (te B q) (wdC k)) 15 0 with ⟨-, h2⟩ | ⟨j, h1, h2, h3, h4⟩
      · exact absurd h (h2 k (by omega) (by omega))
      · rw [h3, wdC_inj j k (by omega) hk (wm_inj h4 h)]
theorem cd_15 {B : Int → Int} {n q : Int} (hB : Bk B n) : cd B n q = 15 ↔ dg B q := by
  constructor
  · intro e
    by_cases c : n ≤ q
    · rw [cd_17.mpr c] at e; omega
    · unfold cd at e
      rw [if_neg c] at e
      unfold cdF at e
      split at e
      · assumption
      · split at e
        · omega
        · rcases cw_p (P := fun k => wm B q (te B q) (wdC k)) 15 0 with ⟨h, -⟩ | ⟨j, h1, h2, h3, h4⟩
          · rw [h] at e; omega
          · rw [h3] at e; omega
  · intro h
    by_cases d : n ≤ q
    · have := hB.2 q d; omega
    · unfold cd
      rw [if_neg d]
      unfold cdF
      rw [if_pos h]
theorem cd_16 {B : Int → Int} {n q : Int} (hB : Bk B n) : cd B n q = 16 ↔ B q = 59 := by
  constructor
  · intro e
    by_cases c : n ≤ q
    · rw [cd_17.mpr c] at e; omega
    · unfold cd at e
      rw [if_neg c] at e
      unfold cdF at e
      split at e
      · omega
      · split at e
        · assumption
        · rcases cw_p (P := fun k => wm B q (te B q) (wdC k)) 15 0 with ⟨h, -⟩ | ⟨j, h1, h2, h3, h4⟩
          · rw [h] at e; omega
          · rw [h3] at e; omega
  · intro h
    by_cases d : n ≤ q
    · have := hB.2 q d; omega
    · unfold cd
      rw [if_neg d]
      unfold cdF
      rw [if_neg (by omega), if_pos h]
/-- the value of a number -/
def nvN (B : Int → Int) (s : Int) : Nat → Int
  | 0 => 0
  | k + 1 => jmin 1000 (nvN B s k * 10 + (B (s + (k : Int)) - 48))
def rvN (B : Int → Int) (s : Int) : Nat → Int
  | 0 => 0
  | k + 1 => jmin 99999 (10 * rvN B s k + B (s + (k : Int)) - 48)
theorem nv_rv {B : Int → Int} {s : Int} : ∀ k : Nat, (∀ j : Int, s ≤ j → j < s + (k : Int) → dg B j) → nvN B s k = jmin 1000 (rvN B s k) ∧ 0 ≤ rvN B s k ∧ rvN B s k ≤ 99999 := by
  intro k
  induction k with
  | zero => intro _; exact ⟨by show (0 : Int) = jmin 1000 0; decide, by show (0 : Int) ≤ 0; omega, by show (0 : Int) ≤ 99999; omega⟩
  | succ k ih =>
    intro h
    obtain ⟨i1, i2, i3⟩ := ih (fun j j0 j1 => h j j0 (by omega))
    have d := h (s + (k : Int)) (by omega) (by omega)
    have z1 := jmin_z 1000 (rvN B s k)
    have z2 := jmin_z 1000 (nvN B s k * 10 + (B (s + (k : Int)) - 48))
    have z3 := jmin_z 99999 (10 * rvN B s k + B (s + (k : Int)) - 48)
    have z4 := jmin_z 1000 (jmin 99999 (10 * rvN B s k + B (s + (k : Int)) - 48))
    show jmin 1000 (nvN B s k * 10 + (B (s + (k : Int)) - 48)) = jmin 1000 (jmin 99999 (10 * rvN B s k + B (s + (k : Int)) - 48)) ∧ 0 ≤ jmin 99999 (10 * rvN B s k + B (s + (k : Int)) - 48) ∧ jmin 99999 (10 * rvN B s k + B (s + (k : Int)) - 48) ≤ 99999
    rw [i1] at z2 ⊢
    omega
noncomputable def vl (B : Int → Int) (q : Int) : Int := nvN B q (de B q - q).toNat
theorem nv_r {B : Int → Int} {s : Int} : ∀ k : Nat, (∀ j : Int, s ≤ j → j < s + (k : Int) → dg B j) → 0 ≤ nvN B s k ∧ nvN B s k ≤ 1000 := by
  intro k h
  obtain ⟨h1, h2, h3⟩ := nv_rv k h
  have z := jmin_z 1000 (rvN B s k)
  omega
theorem vl_r {B : Int → Int} {n q : Int} (h : Bk B n) (hq : 0 ≤ q ∧ q ≤ n) : 0 ≤ vl B q ∧ vl B q ≤ 1000 := by
  obtain ⟨i1, i2, i3, i4⟩ := de_p h hq
  exact nv_r _ (fun j j0 j1 => i3 j j0 (by omega))

set_option maxRecDepth 100000 in
theorem jSt_20 {b : Nat} {s : State} (hts : ∀ w ∈ lw_tbl, w.before #[Value.ref b] s = true) (hs : ∀ c ∈ flatC (Jvm.Cond.and given_1 narrow_1), c.before #[Value.ref b] s = true) : ∃ q : Nat, vk_R RX9 239 "faster" q s ∧ jStr q [102, 97, 115, 116, 101, 114] (fun q : Nat => s.heap.size ≤ q) s s.heap := by
  refine jStr_of (hts _ (by decide +kernel)) (by decide) (hs _ (by decide +kernel)) (hs _ (by decide +kernel)) (hs _ (by decide +kernel)) (hs _ (by decide +kernel)) (fun j hj => ?_)
  have hj : j < 6 := hj
  rcases (show j = 0 ∨ j = 1 ∨ j = 2 ∨ j = 3 ∨ j = 4 ∨ j = 5 by omega) with rfl | rfl | rfl | rfl | rfl | rfl <;> exact hs _ (by decide +kernel)
set_option maxRecDepth 100000 in
theorem jSt_21 {b : Nat} {s : State} (hts : ∀ w ∈ lw_tbl, w.before #[Value.ref b] s = true) (hs : ∀ c ∈ flatC (Jvm.Cond.and given_1 narrow_1), c.before #[Value.ref b] s = true) : ∃ q : Nat, vk_R RX9 247 "at" q s ∧ jStr q [97, 116] (fun q : Nat => s.heap.size ≤ q) s s.heap := by
  refine jStr_of (hts _ (by decide +kernel)) (by decide) (hs _ (by decide +kernel)) (hs _ (by decide +kernel)) (hs _ (by decide +kernel)) (hs _ (by decide +kernel)) (fun j hj => ?_)
  have hj : j < 2 := hj
  rcases (show j = 0 ∨ j = 1 by omega) with rfl | rfl <;> exact hs _ (by decide +kernel)
set_option maxRecDepth 100000 in
theorem jSt_22 {b : Nat} {s : State} (hts : ∀ w ∈ lw_tbl, w.before #[Value.ref b] s = true) (hs : ∀ c ∈ flatC (Jvm.Cond.and given_1 narrow_1), c.before #[Value.ref b] s = true) : ∃ q : Nat, vk_R RX9 252 "goes" q s ∧ jStr q [103, 111, 101, 115] (fun q : Nat => s.heap.size ≤ q) s s.heap := by
  refine jStr_of (hts _ (by decide +kernel)) (by decide) (hs _ (by decide +kernel)) (hs _ (by decide +kernel)) (hs _ (by decide +kernel)) (hs _ (by decide +kernel)) (fun j hj => ?_)
  have hj : j < 4 := hj
  rcases (show j = 0 ∨ j = 1 ∨ j = 2 ∨ j = 3 by omega) with rfl | rfl | rfl | rfl <;> exact hs _ (by decide +kernel)
set_option maxRecDepth 100000 in
theorem jSt_23 {b : Nat} {s : State} (hts : ∀ w ∈ lw_tbl, w.before #[Value.ref b] s = true) (hs : ∀ c ∈ flatC (Jvm.Cond.and given_1 narrow_1), c.before #[Value.ref b] s = true) : ∃ q : Nat, vk_R RX9 258 "meal" q s ∧ jStr q [109, 101, 97, 108] (fun q : Nat => s.heap.size ≤ q) s s.heap := by
  refine jStr_of (hts _ (by decide +kernel)) (by decide) (hs _ (by decide +kernel)) (hs _ (by decide +kernel)) (hs _ (by decide +kernel)) (hs _ (by decide +kernel)) (fun j hj => ?_)
  have hj : j < 4 := hj
  rcases (show j = 0 ∨ j = 1 ∨ j = 2 ∨ j = 3 by omega) with rfl | rfl | rfl | rfl <;> exact hs _ (by decide +kernel)
set_option maxRecDepth 100000 in
theorem jSt_24 {b : Nat} {s : State} (hts : ∀ w ∈ lw_tbl, w.before #[Value.ref b] s = true) (hs : ∀ c ∈ flatC (Jvm.Cond.and given_1 narrow_1), c.before #[Value.ref b] s = true) : ∃ q : Nat, vk_R RX9 260 "fasts" q s ∧ jStr q [102, 97, 115, 116, 115] (fun q : Nat => s.heap.size ≤ q) s s.heap := by
  refine jStr_of (hts _ (by decide +kernel)) (by decide) (hs _ (by decide +kernel)) (hs _ (by decide +kernel)) (hs _ (by decide +kernel)) (hs _ (by decide +kernel)) (fun j hj => ?_)
  have hj : j < 5 := hj
  rcases (show j = 0 ∨ j = 1 ∨ j = 2 ∨ j = 3 ∨ j = 4 by omega) with rfl | rfl | rfl | rfl | rfl <;> exact hs _ (by decide +kernel)
set_option maxRecDepth 100000 in
theorem jSt_25 {b : Nat} {s : State} (hts : ∀ w ∈ lw_tbl, w.before #[Value.ref b] s = true) (hs : ∀ c ∈ flatC (Jvm.Cond.and given_1 narrow_1), c.before #[Value.ref b] s = true) : ∃ q : Nat, vk_R RX9 277 "bowl" q s ∧ jStr q [98, 111, 119, 108] (fun q : Nat => s.heap.size ≤ q) s s.heap := by
  refine jStr_of (hts _ (by decide +kernel)) (by decide) (hs _ (by decide +kernel)) (hs _ (by decide +kernel)) (hs _ (by decide +kernel)) (hs _ (by decide +kernel)) (fun j hj => ?_)
  have hj : j < 4 := hj
  rcases (show j = 0 ∨ j = 1 ∨ j = 2 ∨ j = 3 by omega) with rfl | rfl | rfl | rfl <;> exact hs _ (by decide +kernel)
set_option maxRecDepth 100000 in
theorem jSt_26 {b : Nat} {s : State} (hts : ∀ w ∈ lw_tbl, w.before #[Value.ref b] s = true) (hs : ∀ c ∈ flatC (Jvm.Cond.and given_1 narrow_1), c.before #[Value.ref b] s = true) : ∃ q : Nat, vk_R RX9 272 "task" q s ∧ jStr q [116, 97, 115, 107] (fun q : Nat => s.heap.size ≤ q) s s.heap := by
  refine jStr_of (hts _ (by decide +kernel)) (by decide) (hs _ (by decide +kernel)) (hs _ (by decide +kernel)) (hs _ (by decide +kernel)) (hs _ (by decide +kernel)) (fun j hj => ?_)
  have hj : j < 4 := hj
  rcases (show j = 0 ∨ j = 1 ∨ j = 2 ∨ j = 3 by omega) with rfl | rfl | rfl | rfl <;> exact hs _ (by decide +kernel)
set_option maxRecDepth 100000 in
theorem jSt_27 {b : Nat} {s : State} (hts : ∀ w ∈ lw_tbl, w.before #[Value.ref b] s = true) (hs : ∀ c ∈ flatC (Jvm.Cond.and given_1 narrow_1), c.before #[Value.ref b] s = true) : ∃ q : Nat, vk_R RX9 262 "hour" q s ∧ jStr q [104, 111, 117, 114] (fun q : Nat => s.heap.size ≤ q) s s.heap := by
  refine jStr_of (hts _ (by decide +kernel)) (by decide) (hs _ (by decide +kernel)) (hs _ (by decide +kernel)) (hs _ (by decide +kernel)) (hs _ (by decide +kernel)) (fun j hj => ?_)
  have hj : j < 4 := hj
  rcases (show j = 0 ∨ j = 1 ∨ j = 2 ∨ j = 3 by omega) with rfl | rfl | rfl | rfl <;> exact hs _ (by decide +kernel)
set_option maxRecDepth 100000 in
theorem jSt_28 {b : Nat} {s : State} (hts : ∀ w ∈ lw_tbl, w.before #[Value.ref b] s = true) (hs : ∀ c ∈ flatC (Jvm.Cond.and given_1 narrow_1), c.before #[Value.ref b] s = true) : ∃ q : Nat, vk_R RX9 263 "need" q s ∧ jStr q [110, 101, 101, 100] (fun q : Nat => s.heap.size ≤ q) s s.heap := by
  refine jStr_of (hts _ (by decide +kernel)) (by decide) (hs _ (by decide +kernel)) (hs _ (by decide +kernel)) (hs _ (by decide +kernel)) (hs _ (by decide +kernel)) (fun j hj => ?_)
  have hj : j < 4 := hj
  rcases (show j = 0 ∨ j = 1 ∨ j = 2 ∨ j = 3 by omega) with rfl | rfl | rfl | rfl <;> exact hs _ (by decide +kernel)
set_option maxRecDepth 100000 in
theorem jSt_29 {b : Nat} {s : State} (hts : ∀ w ∈ lw_tbl, w.before #[Value.ref b] s = true) (hs : ∀ c ∈ flatC (Jvm.Cond.and given_1 narrow_1), c.before #[Value.ref b] s = true) : ∃ q : Nat, vk_R RX9 282 "eat" q s ∧ jStr q [101, 97, 116] (fun q : Nat => s.heap.size ≤ q) s s.heap := by
  refine jStr_of (hts _ (by decide +kernel)) (by decide) (hs _ (by decide +kernel)) (hs _ (by decide +kernel)) (hs _ (by decide +kernel)) (hs _ (by decide +kernel)) (fun j hj => ?_)
  have hj : j < 3 := hj
  rcases (show j = 0 ∨ j = 1 ∨ j = 2 by omega) with rfl | rfl | rfl <;> exact hs _ (by decide +kernel)

theorem wsL_law_in : ∀ w ∈ wsL_law, w ∈ lw_tbl := (List.forall_mem_append.mpr ⟨(List.forall_mem_append.mpr ⟨(List.forall_mem_append.mpr ⟨(List.forall_mem_append.mpr ⟨(List.forall_mem_append.mpr ⟨(List.forall_mem_append.mpr ⟨(List.forall_mem_append.mpr ⟨(List.forall_mem_append.mpr ⟨(List.forall_mem_append.mpr ⟨(List.forall_mem_append.mpr ⟨(List.forall_mem_append.mpr ⟨(List.forall_mem_append.mpr ⟨in_wsL_law_r1, (List.forall_mem_append.mpr ⟨in_wsL_law_r2, (List.forall_mem_append.mpr ⟨in_wsL_law_r3, (List.forall_mem_append.mpr ⟨in_wsL_law_r4, (List.forall_mem_append.mpr ⟨in_wsL_law_r5, (List.forall_mem_append.mpr ⟨in_wsL_law_r6, (List.forall_mem_append.mpr ⟨in_wsL_law_r7, (List.forall_mem_append.mpr ⟨in_wsL_law_r8, (List.forall_mem_append.mpr ⟨in_wsL_law_r9, (List.forall_mem_append.mpr ⟨in_wsL_law_r10, (List.forall_mem_append.mpr ⟨in_wsL_law_r11, (List.forall_mem_append.mpr ⟨in_wsL_law_r12, (List.forall_mem_append.mpr ⟨in_wsL_law_r13, (List.forall_mem_append.mpr ⟨in_wsL_law_r14, (List.forall_mem_append.mpr ⟨in_wsL_law_r15, (List.forall_mem_append.mpr ⟨in_wsL_law_r16, (List.forall_mem_append.mpr ⟨in_wsL_law_r17, (List.forall_mem_append.mpr ⟨in_wsL_law_r18, (List.forall_mem_append.mpr ⟨in_wsL_law_r19, (List.forall_mem_append.mpr ⟨in_wsL_law_r20, (List.forall_mem_append.mpr ⟨in_wsL_law_r21, (List.forall_mem_append.mpr ⟨in_wsL_law_r22, (List.forall_mem_append.mpr ⟨in_wsL_law_r23, (List.forall_mem_append.mpr ⟨in_wsL_law_r24, (List.forall_mem_append.mpr ⟨in_wsL_law_r25, (List.forall_mem_append.mpr ⟨in_wsL_law_r26, (List.forall_mem_append.mpr ⟨in_wsL_law_r27, (List.forall_mem_append.mpr ⟨in_wsL_law_r28, (List.forall_mem_append.mpr ⟨in_wsL_law_r29, (List.forall_mem_append.mpr ⟨in_wsL_law_r30, (List.forall_mem_append.mpr ⟨in_wsL_law_r31, (List.forall_mem_append.mpr ⟨in_wsL_law_r32, (List.forall_mem_append.mpr ⟨in_wsL_law_r33, (List.forall_mem_append.mpr ⟨in_wsL_law_r34, (List.forall_mem_append.mpr ⟨in_wsL_law_r35, (List.forall_mem_append.mpr ⟨in_wsL_law_r36, (List.forall_mem_append.mpr ⟨in_wsL_law_r37, (List.forall_mem_append.mpr ⟨in_wsL_law_r38, (List.forall_mem_append.mpr ⟨in_wsL_law_r39, (List.forall_mem_append.mpr ⟨in_wsL_law_r40, (List.forall_mem_append.mpr ⟨in_wsL_law_r41, (List.forall_mem_append.mpr ⟨in_wsL_law_r42, (List.forall_mem_append.mpr ⟨in_wsL_law_r43, (List.forall_mem_append.mpr ⟨in_wsL_law_r44, (List.forall_mem_append.mpr ⟨in_wsL_law_r45, (List.forall_mem_append.mpr ⟨in_wsL_law_r46, in_wsL_law_r47⟩)⟩)⟩)⟩)⟩)⟩)⟩)⟩)⟩)⟩)⟩)⟩)⟩)⟩)⟩)⟩)⟩)⟩)⟩)⟩)⟩)⟩)⟩)⟩)⟩)⟩)⟩)⟩)⟩)⟩)⟩)⟩)⟩)⟩)⟩)⟩)⟩)⟩)⟩)⟩)⟩)⟩)⟩)⟩)⟩)⟩), in_wsX80⟩), in_wsX90⟩), in_wsX70⟩), in_wsX00⟩), in_wsX40⟩), in_wsX20⟩), in_wsX30⟩), in_wsX10⟩), in_wsX60⟩), in_wsX50⟩), (fun _ h => absurd h List.not_mem_nil)⟩)
theorem inlX8 : ∀ w ∈ wsX80, w ∈ wsL_law := fun _ h => List.mem_append_left _ (List.mem_append_left _ (List.mem_append_left _ (List.mem_append_left _ (List.mem_append_left _ (List.mem_append_left _ (List.mem_append_left _ (List.mem_append_left _ (List.mem_append_left _ (List.mem_append_left _ (List.mem_append_right _ h))))))))))
theorem inlX9 : ∀ w ∈ wsX90, w ∈ wsL_law := fun _ h => List.mem_append_left _ (List.mem_append_left _ (List.mem_append_left _ (List.mem_append_left _ (List.mem_append_left _ (List.mem_append_left _ (List.mem_append_left _ (List.mem_append_left _ (List.mem_append_left _ (List.mem_append_right _ h)))))))))
section
variable {p : Program} {l : Launch} {e : Env} {s : State} {m : MethodId} {below : List Frame} {meth : Method} {c : Code} {D : va_G} {cI cL cB cS : ClassId} {a rr : Nat → Nat} {sb L : Nat} {xs : Nat → Int32}
theorem lw_fin (G : Gx p room_1 s m #[Value.ref sb] meth c D (jT cI cL cB cS) (fun q => s.heap.size ≤ q) code 4 RL wsL_law ret) {lv : List (Nat × Value)} {ws : va_W} : V p l e room_1 s m #[Value.ref sb] below meth c D (fun q => s.heap.size ≤ q) 4 83 2136 (lw_Z below #[Value.ref sb] s) 1493 lv [] ws := by
  refine v_iconst G dL_law_1493 ?_
  obtain ⟨hx, hb, hml, hown, hts, hr, hlk, hK, hE, hA⟩ := G
  intro H locs ls hP hD hS hl
  refine va_forget (fun q hq => hS.2.2 q hq) ?_
  refine W.widen (k := 600000) (n := 7302250) (Nat.le_of_ble_eq_true rfl) (Nat.le_of_ble_eq_true rfl) ?_
  exact lw_ret hx hb hr hlk dL_law_1494
theorem msk_63 (x : Int32) : ∃ n : Nat, n < 64 ∧ x &&& jI 63 = jI (n : Int) := by
  obtain ⟨n, hn, e⟩ := pk_andE x (m := jI 63) 6 (by decide)
  exact ⟨n, hn, e.trans Int32.ofInt_eq_ofNat.symm⟩
set_option maxHeartbeats 8000000 in
set_option maxRecDepth 100000 in
theorem lw_loop (G : Gx p room_1 s m #[Value.ref sb] meth c D (jT cI cL cB cS) (fun q => s.heap.size ≤ q) code 4 RL wsL_law ret) (hX : va_X sb L xs s s.heap) (hbl : sb < s.heap.size) (hL : L ≤ 3072) : ∀ (n i : Nat) (ct : CT) (rt : RT), L - i ≤ n → i ≤ L + 6 → JJ ct rt → V p l e room_1 s m #[Value.ref sb] below meth c D (fun q => s.heap.size ≤ q) 4 83 2136 (lw_Z below #[Value.ref sb] s) 18 [(3, .int (jI (i : Int))), (2, .ref (rr 0)), (1, .ref (a 0)), (0, .ref sb)] [] (lwW cI cL cB cS a rr ct rt) := by
  intro n
  induction n using Nat.strongRecOn with
  | ind n ih =>
    intro i ct rt hn hi hJ
    refine v_iload_n (j := 0) (x := jI (i : Int)) G dL_law_18 rfl rfl ?_
    refine v_aload_n (j := 3) (x := sb) G dL_law_19 rfl rfl ?_
    refine v_slen G hX hbl (Nat.not_le.mpr hbl) dL_law_20 ?_
    refine v_bipush G dL_law_21 (by decide) ?_
    refine v_isub (z := (L : Int) - 6) G dL_law_23 rfl ?_
    refine v_icmp_gt (a := (i : Int)) (b := (L : Int) - 6) (tgt := 1493) G dL_law_24 (by decide) (by omega) (fun c1 => ?_) (fun c1 => ?_)
    · exact lw_fin G
    · refine v_aload_n (j := 3) (x := sb) G dL_law_27 rfl rfl ?_
      refine v_iload_n (j := 0) (x := jI (i : Int)) G dL_law_28 rfl rfl ?_
      refine v_sld (z := (i : Int)) (v := xs ((i : Int)).toNat) G hX hbl (Nat.not_le.mpr hbl) (by omega) rfl dL_law_29 ?_
      refine v_bipush G dL_law_30 (by decide) ?_
      obtain ⟨k, hk, ek⟩ := msk_63 (xs ((i : Int)).toNat)
      refine v_iand (v := jI (k : Int)) G dL_law_32 ek ?_
      have nx_ : ∀ (ct : CT) (rt : RT), JJ ct rt → V p l e room_1 s m #[Value.ref sb] below meth c D (fun q => s.heap.size ≤ q) 4 83 2136 (lw_Z below #[Value.ref sb] s) 1487 [(3, .int (jI (i : Int))), (2, .ref (rr 0)), (1, .ref (a 0)), (0, .ref sb)] [] (lwW cI cL cB cS a rr ct rt) := by
        intro ct rt hJ
        refine v_iinc (k := 0) (z := (i : Int)) (z' := ((i + 6 : Nat) : Int)) (lv' := [(3, .int (jI ((i + 6 : Nat) : Int))), (2, .ref (rr 0)), (1, .ref (a 0)), (0, .ref sb)]) G dL_law_1487 rfl (by omega) (by decide) rfl ?_
        refine v_goto (tgt := 18) G dL_law_1490 (by decide) ?_
        exact ih (n - 1) (by omega) (i + 6) ct rt (by omega) (by omega) hJ
      by_cases h44 : k < 44
      · rcases (show k = 0 ∨ k = 1 ∨ k = 2 ∨ k = 3 ∨ k = 4 ∨ k = 5 ∨ k = 6 ∨ k = 7 ∨ k = 8 ∨ k = 9 ∨ k = 10 ∨ k = 11 ∨ k = 12 ∨ k = 13 ∨ k = 14 ∨ k = 15 ∨ k = 16 ∨ k = 17 ∨ k = 18 ∨ k = 19 ∨ k = 20 ∨ k = 21 ∨ k = 22 ∨ k = 23 ∨ k = 24 ∨ k = 25 ∨ k = 26 ∨ k = 27 ∨ k = 28 ∨ k = 29 ∨ k = 30 ∨ k = 31 ∨ k = 32 ∨ k = 33 ∨ k = 34 ∨ k = 35 ∨ k = 36 ∨ k = 37 ∨ k = 38 ∨ k = 39 ∨ k = 40 ∨ k = 41 ∨ k = 42 ∨ k = 43 by omega) with rfl | rfl | rfl | rfl | rfl | rfl | rfl | rfl | rfl | rfl | rfl | rfl | rfl | rfl | rfl | rfl | rfl | rfl | rfl | rfl | rfl | rfl | rfl | rfl | rfl | rfl | rfl | rfl | rfl | rfl | rfl | rfl | rfl | rfl | rfl | rfl | rfl | rfl | rfl | rfl | rfl | rfl | rfl | rfl
        · refine v_tabIn (z := 0) (v := 0) (tgt := 224) G rfl (by decide) rfl (by decide) dL_law_33 ?_
          exact lc_bowl G hX hbl (Nat.not_le.mpr hbl) (by omega) hJ nx_
        · refine v_tabIn (z := 1) (v := 1) (tgt := 257) G rfl (by decide) rfl (by decide) dL_law_33 ?_
          exact lc_light G hX hbl (Nat.not_le.mpr hbl) (by omega) hJ nx_
        · refine v_tabIn (z := 2) (v := 2) (tgt := 280) G rfl (by decide) rfl (by decide) dL_law_33 ?_
          exact lc_brightest G hX hbl (Nat.not_le.mpr hbl) (by omega) hJ nx_
        · refine v_tabIn (z := 3) (v := 3) (tgt := 293) G rfl (by decide) rfl (by decide) dL_law_33 ?_
          exact lc_lit G hX hbl (Nat.not_le.mpr hbl) (by omega) hJ nx_
        · refine v_tabIn (z := 4) (v := 4) (tgt := 316) G rfl (by decide) rfl (by decide) dL_law_33 ?_
          exact lc_being G hX hbl (Nat.not_le.mpr hbl) (by omega) hJ nx_
        · refine v_tabIn (z := 5) (v := 5) (tgt := 349) G rfl (by decide) rfl (by decide) dL_law_33 ?_
          exact lc_of G hX hbl (Nat.not_le.mpr hbl) (by omega) hJ nx_
        · refine v_tabIn (z := 6) (v := 6) (tgt := 382) G rfl (by decide) rfl (by decide) dL_law_33 ?_
          exact lc_set G hX hbl (Nat.not_le.mpr hbl) (by omega) hJ nx_
        · refine v_tabIn (z := 7) (v := 7) (tgt := 425) G rfl (by decide) rfl (by decide) dL_law_33 ?_
          exact lc_turn G hX hbl (Nat.not_le.mpr hbl) (by omega) hJ nx_
        · refine v_tabIn (z := 8) (v := 8) (tgt := 458) G rfl (by decide) rfl (by decide) dL_law_33 ?_
          exact lc_as G hX hbl (Nat.not_le.mpr hbl) (by omega) hJ nx_
        · refine v_tabIn (z := 9) (v := 9) (tgt := 491) G rfl (by decide) rfl (by decide) dL_law_33 ?_
          exact lc_eat G hX hbl (Nat.not_le.mpr hbl) (by omega) hJ nx_
        · refine v_tabIn (z := 10) (v := 10) (tgt := 524) G rfl (by decide) rfl (by decide) dL_law_33 ?_
          exact lc_gives G hX hbl (Nat.not_le.mpr hbl) (by omega) hJ nx_
        · refine v_tabIn (z := 11) (v := 11) (tgt := 557) G rfl (by decide) rfl (by decide) dL_law_33 ?_
          exact lc_seen G hX hbl (Nat.not_le.mpr hbl) (by omega) hJ nx_
        · refine v_tabIn (z := 12) (v := 12) (tgt := 580) G rfl (by decide) rfl (by decide) dL_law_33 ?_
          exact lc_task G hX hbl (Nat.not_le.mpr hbl) (by omega) hJ nx_
        · refine v_tabIn (z := 13) (v := 13) (tgt := 623) G rfl (by decide) rfl (by decide) dL_law_33 ?_
          exact lc_taskOf G hX hbl (Nat.not_le.mpr hbl) (by omega) hJ nx_
        · refine v_tabIn (z := 14) (v := 14) (tgt := 656) G rfl (by decide) rfl (by decide) dL_law_33 ?_
          exact lc_hours G hX hbl (Nat.not_le.mpr hbl) (by omega) hJ nx_
        · refine v_tabIn (z := 15) (v := 15) (tgt := 679) G rfl (by decide) rfl (by decide) dL_law_33 ?_
          exact lc_now G hX hbl (Nat.not_le.mpr hbl) (by omega) hJ nx_
        · refine v_tabIn (z := 16) (v := 16) (tgt := 702) G rfl (by decide) rfl (by decide) dL_law_33 ?_
          exact lc_on G hX hbl (Nat.not_le.mpr hbl) (by omega) hJ nx_
        · refine v_tabIn (z := 17) (v := 17) (tgt := 735) G rfl (by decide) rfl (by decide) dL_law_33 ?_
          exact lc_dark G hX hbl (Nat.not_le.mpr hbl) (by omega) hJ nx_
        · refine v_tabIn (z := 18) (v := 18) (tgt := 748) G rfl (by decide) rfl (by decide) dL_law_33 ?_
          exact lc_out G hX hbl (Nat.not_le.mpr hbl) (by omega) hJ nx_
        · refine v_tabIn (z := 19) (v := 19) (tgt := 761) G rfl (by decide) rfl (by decide) dL_law_33 ?_
          exact lc_meet G hX hbl (Nat.not_le.mpr hbl) (by omega) hJ nx_
        · refine v_tabIn (z := 20) (v := 20) (tgt := 794) G rfl (by decide) rfl (by decide) dL_law_33 ?_
          exact lc_stealth G hX hbl (Nat.not_le.mpr hbl) (by omega) hJ nx_
        · refine v_tabIn (z := 21) (v := 21) (tgt := 827) G rfl (by decide) rfl (by decide) dL_law_33 ?_
          exact lc_way G hX hbl (Nat.not_le.mpr hbl) (by omega) hJ nx_
        · refine v_tabIn (z := 22) (v := 22) (tgt := 870) G rfl (by decide) rfl (by decide) dL_law_33 ?_
          exact lc_first G hX hbl (Nat.not_le.mpr hbl) (by omega) hJ nx_
        · refine v_tabIn (z := 23) (v := 23) (tgt := 913) G rfl (by decide) rfl (by decide) dL_law_33 ?_
          exact lc_hang G hX hbl (Nat.not_le.mpr hbl) (by omega) hJ nx_
        · refine v_tabIn (z := 24) (v := 24) (tgt := 936) G rfl (by decide) rfl (by decide) dL_law_33 ?_
          exact lc_meal G hX hbl (Nat.not_le.mpr hbl) (by omega) hJ nx_
        · refine v_tabIn (z := 25) (v := 25) (tgt := 969) G rfl (by decide) rfl (by decide) dL_law_33 ?_
          exact lc_needed G hX hbl (Nat.not_le.mpr hbl) (by omega) hJ nx_
        · refine v_tabIn (z := 26) (v := 26) (tgt := 982) G rfl (by decide) rfl (by decide) dL_law_33 ?_
          exact lc_whom G hX hbl (Nat.not_le.mpr hbl) (by omega) hJ nx_
        · refine v_tabIn (z := 27) (v := 27) (tgt := 1005) G rfl (by decide) rfl (by decide) dL_law_33 ?_
          exact lc_goal G hX hbl (Nat.not_le.mpr hbl) (by omega) hJ nx_
        · refine v_tabIn (z := 28) (v := 28) (tgt := 1028) G rfl (by decide) rfl (by decide) dL_law_33 ?_
          exact lc_kind G hX hbl (Nat.not_le.mpr hbl) (by omega) hJ nx_
        · refine v_tabIn (z := 29) (v := 29) (tgt := 1051) G rfl (by decide) rfl (by decide) dL_law_33 ?_
          exact lc_fasted G hX hbl (Nat.not_le.mpr hbl) (by omega) hJ nx_
        · refine v_tabIn (z := 30) (v := 30) (tgt := 1094) G rfl (by decide) rfl (by decide) dL_law_33 ?_
          exact lc_feed G hX hbl (Nat.not_le.mpr hbl) (by omega) hJ nx_
        · refine v_tabIn (z := 31) (v := 31) (tgt := 1127) G rfl (by decide) rfl (by decide) dL_law_33 ?_
          exact lc_wipe G hX hbl (Nat.not_le.mpr hbl) (by omega) hJ nx_
        · refine v_tabIn (z := 32) (v := 32) (tgt := 1140) G rfl (by decide) rfl (by decide) dL_law_33 ?_
          exact lc_night G hX hbl (Nat.not_le.mpr hbl) (by omega) hJ nx_
        · refine v_tabIn (z := 33) (v := 33) (tgt := 1153) G rfl (by decide) rfl (by decide) dL_law_33 ?_
          exact lc_sheet G hX hbl (Nat.not_le.mpr hbl) (by omega) hJ nx_
        · refine v_tabIn (z := 34) (v := 34) (tgt := 1196) G rfl (by decide) rfl (by decide) dL_law_33 ?_
          exact lc_write G hX hbl (Nat.not_le.mpr hbl) (by omega) hJ nx_
        · refine v_tabIn (z := 35) (v := 35) (tgt := 1270) G rfl (by decide) rfl (by decide) dL_law_33 ?_
          exact lc_copy G hX hbl (Nat.not_le.mpr hbl) (by omega) hJ nx_
        · refine v_tabIn (z := 36) (v := 36) (tgt := 1333) G rfl (by decide) rfl (by decide) dL_law_33 ?_
          exact lc_lays G hX hbl (Nat.not_le.mpr hbl) (by omega) hJ nx_
        · refine v_tabIn (z := 37) (v := 37) (tgt := 1356) G rfl (by decide) rfl (by decide) dL_law_33 ?_
          exact lc_map G hX hbl (Nat.not_le.mpr hbl) (by omega) hJ nx_
        · refine v_tabIn (z := 38) (v := 38) (tgt := 1379) G rfl (by decide) rfl (by decide) dL_law_33 ?_
          exact lc_read G hX hbl (Nat.not_le.mpr hbl) (by omega) hJ nx_
        · refine v_tabIn (z := 39) (v := 39) (tgt := 1402) G rfl (by decide) rfl (by decide) dL_law_33 ?_
          exact lc_image G hX hbl (Nat.not_le.mpr hbl) (by omega) hJ nx_
        · refine v_tabIn (z := 40) (v := 40) (tgt := 1415) G rfl (by decide) rfl (by decide) dL_law_33 ?_
          exact lc_undo G hX hbl (Nat.not_le.mpr hbl) (by omega) hJ nx_
        · refine v_tabIn (z := 41) (v := 41) (tgt := 1428) G rfl (by decide) rfl (by decide) dL_law_33 ?_
          exact lc_tear G hX hbl (Nat.not_le.mpr hbl) (by omega) hJ nx_
        · refine v_tabIn (z := 42) (v := 42) (tgt := 1441) G rfl (by decide) rfl (by decide) dL_law_33 ?_
          exact lc_count G hX hbl (Nat.not_le.mpr hbl) (by omega) hJ nx_
        · refine v_tabIn (z := 43) (v := 43) (tgt := 1464) G rfl (by decide) rfl (by decide) dL_law_33 ?_
          exact lc_status G hX hbl (Nat.not_le.mpr hbl) (by omega) hJ nx_
      · refine v_tabOut (z := (k : Int)) (tgt := 1487) G (by omega) (by omega) (by decide) dL_law_33 ?_
        exact nx_ ct rt hJ
end

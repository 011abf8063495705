/-! part 32 (printed by wip/whole/p30.py): the loop -/
theorem lw_room3 {L a : Nat} (hL : L ≤ 1536) (ha : a ≤ 2000) (q : ¬ nI L - 3 < nI a) : a + 3 ≤ L := by
  rcases Nat.lt_or_ge L 3 with z | z
  · exfalso
    refine q (Int32.lt_of_lt_of_le ?_ (nI_pos' (n := a) (by omega)))
    have : L = 0 ∨ L = 1 ∨ L = 2 := by omega
    rcases this with rfl | rfl | rfl <;> decide
  · have e : nI L - 3 = nI (L - 3) := by
      have h3 : nI (L - 3) + 3 = nI L := by
        have := nI_add (L - 3) 3
        rw [show L - 3 + 3 = L by omega] at this
        exact this
      rw [← h3]
      exact Int32.add_sub_cancel _ _
    rw [e] at q
    rcases Nat.lt_or_ge (L - 3) a with y | y
    · exact absurd (nI_lt y (by omega)) q
    · omega
set_option maxRecDepth 100000 in
set_option maxHeartbeats 4000000 in
theorem law_loop {p : Program} {l : Launch} {e : Env} {s : State} {m : MethodId} {below : List Frame} {meth : Method} {c : Code} {g : pq_G} {b L : Nat} {xs : Nat → Int32} (hl : l.stackTraces = false) (hL : L ≤ 1536) (C : lw_C p s m meth c g b L xs) :
    ∀ (d t : Nat) (h : pq_H) (cells slots : Nat), L ≤ 3 * t + 3 * d → 3 * t ≤ L → pq_R h → cells ≤ 200 + 3 * t → slots ≤ 3000 + 18 * t → VV p l e room_1 s m #[Value.ref b] below meth c (lw_Z below #[Value.ref b] s) g cells slots h 23 (lw_vs b g (nI (3 * t)) none none) [] := by
  have cx := C.1
  have rc : room_1.cells = 616703 := rfl
  have rs : room_1.slots = 7245995 := rfl
  intro d
  induction d with
  | zero =>
    intro t h cells slots h1 h2 hR hc hs
    refine vv_iload cx dL_law_23 rfl (pc' := 25) rfl ?_
    refine vv_aload_n cx dL_law_25 rfl rfl (pc' := 26) rfl ?_
    refine vv_slen C dL_law_26 (pc' := 27) rfl ?_
    refine vv_iconst cx dL_law_27 (v := 3) (by decide) (pc' := 28) rfl ?_
    refine vv_isub cx dL_law_28 (pc' := 29) rfl ?_
    refine vv_icmp_gt cx dL_law_29 (tgt := 872) (by decide) (pc' := 32) rfl (fun _ => ?_) (fun z => ?_)
    · exact lw_end C (by omega) (by omega)
    · exact absurd (lw_room3 hL (by omega) z) (by omega)
  | succ d ih =>
    intro t h cells slots h1 h2 hR hc hs
    refine vv_iload cx dL_law_23 rfl (pc' := 25) rfl ?_
    refine vv_aload_n cx dL_law_25 rfl rfl (pc' := 26) rfl ?_
    refine vv_slen C dL_law_26 (pc' := 27) rfl ?_
    refine vv_iconst cx dL_law_27 (v := 3) (by decide) (pc' := 28) rfl ?_
    refine vv_isub cx dL_law_28 (pc' := 29) rfl ?_
    refine vv_icmp_gt cx dL_law_29 (tgt := 872) (by decide) (pc' := 32) rfl (fun _ => ?_) (fun z => ?_)
    · exact lw_end C (by omega) (by omega)
    · have h3 := lw_room3 hL (by omega) z
      have hi0 : vp_in (nI (3 * t)) L := vp_in_nI (by omega) (by omega)
      have hi1 : vp_in (nI (3 * t) + 1) L := by
        rw [show nI (3 * t) + 1 = nI (3 * t + 1) from nI_add _ 1]
        exact vp_in_nI (by omega) (by omega)
      have hi2 : vp_in (nI (3 * t) + 2) L := by
        rw [show nI (3 * t) + 2 = nI (3 * t + 2) from nI_add _ 2]
        exact vp_in_nI (by omega) (by omega)
      have tail : lw_T p l e s m below meth c g b cells slots (nI (3 * t)) := by
        intro h9 cells' slots' v5 v6 hR9 hc9 hs9
        refine VV.le (vs' := lw_vs b g (nI (3 * t)) none none) (by simp [pq_le]) ?_
        refine vv_iinc cx dL_law_866 rfl (v := nI (3 * (t + 1))) (show nI (3 * t) + 3 = nI (3 * (t + 1)) from nI_add (3 * t) 3) (pc' := 869) rfl ?_
        refine vv_goto cx dL_law_869 (tgt := 23) (by decide) ?_
        exact ih (t + 1) h9 cells' slots' (by omega) (by omega) hR9 (by omega) (by omega)
      refine vv_aload_n cx dL_law_32 rfl rfl (pc' := 33) rfl ?_
      refine vv_iload cx dL_law_33 rfl (pc' := 35) rfl ?_
      refine vv_sld C hi0 rfl dL_law_35 (pc' := 36) rfl ?_
      refine vv_bipush cx dL_law_36 (v := 15) (by decide) (pc' := 38) rfl ?_
      refine vv_iand cx dL_law_38 (pc' := 39) rfl ?_
      obtain ⟨j, hj, ej⟩ := lw_and15 (xs (nI (3 * t)).toNatClampNeg)
      rw [ej]
      have hRC : cells + 3 ≤ room_1.cells := by omega
      have hRS : slots + 18 ≤ room_1.slots := by omega
      have hjj : j = 0 ∨ j = 1 ∨ j = 2 ∨ j = 3 ∨ j = 4 ∨ j = 5 ∨ j = 6 ∨ j = 7 ∨ j = 8 ∨ j = 9 ∨ j = 10 ∨ j = 11 ∨ j = 12 ∨ j = 13 ∨ j = 14 ∨ j = 15 := by omega
      rcases hjj with rfl | rfl | rfl | rfl | rfl | rfl | rfl | rfl | rfl | rfl | rfl | rfl | rfl | rfl | rfl | rfl
      · refine vv_tabIn C dL_law_39 (by decide) (by decide) (off := 73) (by decide) (tgt := 112) (by decide) ?_
        exact law_case_0 hl C hR hRC hRS hi1 hi2 tail
      · refine vv_tabIn C dL_law_39 (by decide) (by decide) (off := 109) (by decide) (tgt := 148) (by decide) ?_
        exact law_case_1 hl C hR hRC hRS hi1 hi2 tail
      · refine vv_tabIn C dL_law_39 (by decide) (by decide) (off := 177) (by decide) (tgt := 216) (by decide) ?_
        exact law_case_2 hl C hR hRC hRS hi1 hi2 tail
      · refine vv_tabIn C dL_law_39 (by decide) (by decide) (off := 225) (by decide) (tgt := 264) (by decide) ?_
        exact law_case_3 hl C hR hRC hRS hi1 hi2 tail
      · refine vv_tabIn C dL_law_39 (by decide) (by decide) (off := 273) (by decide) (tgt := 312) (by decide) ?_
        exact law_case_4 hl C hR hRC hRS hi1 hi2 tail
      · refine vv_tabIn C dL_law_39 (by decide) (by decide) (off := 286) (by decide) (tgt := 325) (by decide) ?_
        exact law_case_5 hl C hR hRC hRS hi1 hi2 tail
      · refine vv_tabIn C dL_law_39 (by decide) (by decide) (off := 342) (by decide) (tgt := 381) (by decide) ?_
        exact law_case_6 hl C hR hRC hRS hi1 hi2 tail
      · refine vv_tabIn C dL_law_39 (by decide) (by decide) (off := 355) (by decide) (tgt := 394) (by decide) ?_
        exact law_case_7 hl C hR hRC hRS hi1 hi2 tail
      · refine vv_tabIn C dL_law_39 (by decide) (by decide) (off := 411) (by decide) (tgt := 450) (by decide) ?_
        exact law_case_8 hl C hR hRC hRS hi1 hi2 tail
      · refine vv_tabIn C dL_law_39 (by decide) (by decide) (off := 467) (by decide) (tgt := 506) (by decide) ?_
        exact law_case_9 hl C hR hRC hRS hi1 hi2 tail
      · refine vv_tabIn C dL_law_39 (by decide) (by decide) (off := 511) (by decide) (tgt := 550) (by decide) ?_
        exact law_case_10 hl C hR hRC hRS hi1 hi2 tail
      · refine vv_tabIn C dL_law_39 (by decide) (by decide) (off := 579) (by decide) (tgt := 618) (by decide) ?_
        exact law_case_11 hl C hR hRC hRS hi1 hi2 tail
      · refine vv_tabIn C dL_law_39 (by decide) (by decide) (off := 635) (by decide) (tgt := 674) (by decide) ?_
        exact law_case_12 hl C hR hRC hRS hi1 hi2 tail
      · refine vv_tabIn C dL_law_39 (by decide) (by decide) (off := 703) (by decide) (tgt := 742) (by decide) ?_
        exact law_case_13 hl C hR hRC hRS hi1 hi2 tail
      · refine vv_tabIn C dL_law_39 (by decide) (by decide) (off := 771) (by decide) (tgt := 810) (by decide) ?_
        exact law_case_14 hl C hR hRC hRS hi1 hi2 tail
      · refine vv_tabOut C dL_law_39 (by decide) (tgt := 866) (by decide) ?_
        exact tail _ _ _ _ _ hR (by omega) (by omega)

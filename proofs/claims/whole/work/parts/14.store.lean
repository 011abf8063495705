/-! part 14: the store; what the face's methods share -/
abbrev xIAE : String := "java/lang/IllegalArgumentException"
abbrev xISE : String := "java/lang/IllegalStateException"
abbrev xIOE : String := "java/lang/IndexOutOfBoundsException"
abbrev xUOE : String := "java/lang/UnsupportedOperationException"
set_option maxRecDepth 100000 in
set_option maxHeartbeats 4000000 in
theorem tT_same (l : Launch) (g : pq_G) (h : pq_H) (k1 k2 : Nat) (hk1 : 16 ≤ k1 ∧ k1 < 116) (hk2 : 16 ≤ k2 ∧ k2 < 116) : XI l yT_same wT_same rT_same g 0 0 [.ref (g.2.2 k1), .ref (g.2.2 k2)] h (fun r h9 => h9 = h ∧ ((r = 1 ∧ ∀ i, i < 5 → h k1 i = h k2 i) ∨ (r = 0 ∧ ¬ ∀ i, i < 5 → h k1 i = h k2 i))) (pq_no) := by
  refine XI.of (cc := cT_same) (maxL := 3) (ret := (some .boolean)) (by decide +kernel) (by simp [Value.category]) (Nat.le_of_ble_eq_true rfl) ?_
  intro p e s m below meth c cx hX hr hlocks hex
  have r1 : k1 < pq_N := by show k1 < 125; omega
  have r2 : k2 < pq_N := by show k2 < 125; omega
  have loop : ∀ (d i : Nat) (y : Int32), y = nI i → i + d = 5 → (∀ j, j < i → h k1 j = h k2 j) → VV p l e rT_same s m [.ref (g.2.2 k1), .ref (g.2.2 k2)].toArray below meth c (vx_MQ below (pq_Qi g (fun r h9 => h9 = h ∧ ((r = 1 ∧ ∀ i, i < 5 → h k1 i = h k2 i) ∨ (r = 0 ∧ ¬ ∀ i, i < 5 → h k1 i = h k2 i))) s.heap.size) (pq_Qx g (pq_no) s.heap.size) [.ref (g.2.2 k1), .ref (g.2.2 k2)].toArray s 0 0 (pq_A g s.heap.size)) g 0 0 h 2 [some (.ref (g.2.2 k1)), some (.ref (g.2.2 k2)), some (.int y)] [] := by
    intro d
    induction d with
    | zero =>
      intro i y hy hi hj
      have e1 : i = 5 := by omega
      subst e1
      refine vv_iload_n cx dT_same_2 rfl rfl (pc' := 3) rfl ?_
      refine vv_iconst cx dT_same_3 (v := 5) (by decide) (pc' := 4) rfl ?_
      refine vv_icmp_ge cx dT_same_4 (tgt := 24) (by decide) (pc' := 7) rfl (fun c4 => ?_) (fun c4 => ?_)
      · refine vv_iconst cx dT_same_24 (v := 1) (by decide) (pc' := 25) rfl ?_
        refine vv_zret cx hr hlocks dT_same_25 rfl (Nat.le_of_ble_eq_true rfl) (Nat.le_of_ble_eq_true rfl) ?_
        exact ⟨rfl, Or.inl ⟨rfl, hj⟩⟩
      · exact absurd (Int32.le_refl _) (by rw [hy] at c4; exact c4)
    | succ d ih =>
      intro i y hy hi hj
      have hv := pq_in5 hy (show i < 5 by omega)
      have hcl := pq_clN hy (show i < 1000 by omega)
      refine vv_iload_n cx dT_same_2 rfl rfl (pc' := 3) rfl ?_
      refine vv_iconst cx dT_same_3 (v := 5) (by decide) (pc' := 4) rfl ?_
      refine vv_icmp_ge cx dT_same_4 (tgt := 24) (by decide) (pc' := 7) rfl (fun c4 => ?_) (fun c4 => ?_)
      · exact absurd (by rw [hy] at c4; exact c4) (nI_ge (b := 5) (by omega) (by decide))
      · refine vv_aload_n cx dT_same_7 rfl rfl (pc' := 8) rfl ?_
        refine vv_iload_n cx dT_same_8 rfl rfl (pc' := 9) rfl ?_
        refine vv_iald cx _ r1 (sh_row hk1.1 hk1.2) hv dT_same_9 (pc' := 10) rfl ?_
        refine vv_aload_n cx dT_same_10 rfl rfl (pc' := 11) rfl ?_
        refine vv_iload_n cx dT_same_11 rfl rfl (pc' := 12) rfl ?_
        refine vv_iald cx _ r2 (sh_row hk2.1 hk2.2) hv dT_same_12 (pc' := 13) rfl ?_
        refine vv_icmp_eq cx dT_same_13 (tgt := 18) (by decide) (pc' := 16) rfl (fun c13 => ?_) (fun c13 => ?_)
        · refine vv_iinc cx dT_same_18 rfl rfl (pc' := 21) rfl ?_
          refine vv_goto cx dT_same_21 (tgt := 2) (by decide) ?_
          refine ih (i + 1) _ (pq_nI1 hy) (by omega) (fun j hj2 => ?_)
          rcases Nat.lt_or_ge j i with q | q
          · exact hj j q
          · rw [show j = i by omega]; rw [hcl] at c13; exact c13
        · refine vv_iconst cx dT_same_16 (v := 0) (by decide) (pc' := 17) rfl ?_
          refine vv_zret cx hr hlocks dT_same_17 rfl (Nat.le_of_ble_eq_true rfl) (Nat.le_of_ble_eq_true rfl) ?_
          exact ⟨rfl, Or.inr ⟨rfl, fun q => c13 (by rw [hcl]; exact q i (by omega))⟩⟩
  refine vv_iconst cx dT_same_0 (v := 0) (by decide) (pc' := 1) rfl ?_
  refine vv_istore_n cx dT_same_1 rfl (Nat.le_of_ble_eq_true rfl) (pc' := 2) rfl ?_
  exact loop 5 0 _ nI_0.symm (by omega) (fun j hj => absurd hj (by omega))
set_option maxRecDepth 100000 in
set_option maxHeartbeats 4000000 in
theorem tT_find (l : Launch) (g : pq_G) (h : pq_H) (kr c9 : Nat) (hkr : 16 ≤ kr ∧ kr < 116) (hc : h 4 0 = nI c9) (hc40 : c9 ≤ 40) : XI l yT_find wT_find rT_find g 0 0 [.ref (g.2.2 4), .ref (g.2.2 kr)] h (fun r h9 => h9 = h ∧ ((∃ j, j < c9 ∧ r = nI j ∧ (∀ i, i < 5 → h (76 + j) i = h kr i) ∧ ∀ x, x < j → ¬ (∀ i, i < 5 → h (76 + x) i = h kr i)) ∨ (r = -1 ∧ ∀ x, x < c9 → ¬ (∀ i, i < 5 → h (76 + x) i = h kr i)))) (pq_no) := by
  refine XI.of (cc := cT_find) (maxL := 3) (ret := (some .int)) (by decide +kernel) (by simp [Value.category]) (Nat.le_of_ble_eq_true rfl) ?_
  intro p e s m below meth c cx hX hr hlocks hex
  have loop : ∀ (d i : Nat) (y : Int32), y = nI i → i + d = c9 → (∀ x, x < i → ¬ (∀ i, i < 5 → h (76 + x) i = h kr i)) → VV p l e rT_find s m [.ref (g.2.2 4), .ref (g.2.2 kr)].toArray below meth c (vx_MQ below (pq_Qi g (fun r h9 => h9 = h ∧ ((∃ j, j < c9 ∧ r = nI j ∧ (∀ i, i < 5 → h (76 + j) i = h kr i) ∧ ∀ x, x < j → ¬ (∀ i, i < 5 → h (76 + x) i = h kr i)) ∨ (r = -1 ∧ ∀ x, x < c9 → ¬ (∀ i, i < 5 → h (76 + x) i = h kr i)))) s.heap.size) (pq_Qx g (pq_no) s.heap.size) [.ref (g.2.2 4), .ref (g.2.2 kr)].toArray s 0 0 (pq_A g s.heap.size)) g 0 0 h 2 [some (.ref (g.2.2 4)), some (.ref (g.2.2 kr)), some (.int y)] [] := by
    intro d
    induction d with
    | zero =>
      intro i y hy hi hj
      have e1 : i = c9 := by omega
      subst e1
      refine vv_iload_n cx dT_find_2 rfl rfl (pc' := 3) rfl ?_
      refine vv_aload_n cx dT_find_3 rfl rfl (pc' := 4) rfl ?_
      refine vv_getI cx (C := RT) (T := TT) (NN := 4) 4 0 (by decide) sh_4 rfl rfl (by decide) lyT ww_125 dT_find_4 (pc' := 7) rfl ?_
      refine vv_icmp_ge cx dT_find_7 (tgt := 31) (by decide) (pc' := 10) rfl (fun c7 => ?_) (fun c7 => ?_)
      · refine vv_iconst cx dT_find_31 (v := -1) (by decide) (pc' := 32) rfl ?_
        refine vv_iret cx hr hlocks dT_find_32 (Nat.le_of_ble_eq_true rfl) (Nat.le_of_ble_eq_true rfl) ?_
        exact ⟨rfl, Or.inr ⟨rfl, hj⟩⟩
      · exact absurd (Int32.le_refl _) (by rw [hy, hc] at c7; exact c7)
    | succ d ih =>
      intro i y hy hi hj
      have hlt : i < c9 := by omega
      have hv : vp_in y 40 := by rw [hy]; exact vp_in_nI (by omega) (by decide)
      have hcl := pq_clN hy (show i < 1000 by omega)
      refine vv_iload_n cx dT_find_2 rfl rfl (pc' := 3) rfl ?_
      refine vv_aload_n cx dT_find_3 rfl rfl (pc' := 4) rfl ?_
      refine vv_getI cx (C := RT) (T := TT) (NN := 4) 4 0 (by decide) sh_4 rfl rfl (by decide) lyT ww_125 dT_find_4 (pc' := 7) rfl ?_
      refine vv_icmp_ge cx dT_find_7 (tgt := 31) (by decide) (pc' := 10) rfl (fun c7 => ?_) (fun c7 => ?_)
      · exact absurd (by rw [hy, hc] at c7; exact c7) (nI_ge hlt (by omega))
      · refine vv_aload_n cx dT_find_10 rfl rfl (pc' := 11) rfl ?_
        refine vv_getR cx (C := RT) (T := TT) (NN := 4) 4 1 _ (by decide) sh_4 rfl rfl (by decide) lyT ww_127 dT_find_11 (pc' := 14) rfl ?_
        refine vv_iload_n cx dT_find_14 rfl rfl (pc' := 15) rfl ?_
        refine vv_aaldq cx _ (by decide) sh_7 (show 76 + y.toNatClampNeg = 76 + i by rw [hcl]) hv dT_find_15 (pc' := 16) rfl ?_
        refine vv_aload_n cx dT_find_16 rfl rfl (pc' := 17) rfl ?_
        refine cc_Si cx hX (tT_same l g h (76 + i) kr ⟨by omega, by omega⟩ hkr) kT_same ww_513 rfl rfl ⟨Nat.le_of_ble_eq_true rfl, Nat.le_of_ble_eq_true rfl⟩ rfl rfl (Nat.le_of_ble_eq_true rfl) rfl ⟨Nat.le_of_ble_eq_true rfl, Nat.le_of_ble_eq_true rfl⟩ dT_find_17 (pc' := 20) rfl (fun _ _ q => q.elim) (fun r17 h17 q17 => ?_)
        obtain ⟨rfl, q17⟩ := q17
        refine vv_if_eq cx dT_find_20 (tgt := 25) (by decide) (pc' := 23) rfl (fun c20 => ?_) (fun c20 => ?_)
        · refine vv_iinc cx dT_find_25 rfl rfl (pc' := 28) rfl ?_
          refine vv_goto cx dT_find_28 (tgt := 2) (by decide) ?_
          refine ih (i + 1) _ (pq_nI1 hy) (by omega) (fun x hx => ?_)
          rcases q17 with ⟨q1, q2⟩ | ⟨q1, q2⟩
          · exact absurd c20 (by rw [q1]; decide)
          · rcases Nat.lt_or_ge x i with q | q
            · exact hj x q
            · rw [show x = i by omega]; exact q2
        · refine vv_iload_n cx dT_find_23 rfl rfl (pc' := 24) rfl ?_
          refine vv_iret cx hr hlocks dT_find_24 (Nat.le_of_ble_eq_true rfl) (Nat.le_of_ble_eq_true rfl) ?_
          rcases q17 with ⟨q1, q2⟩ | ⟨q1, q2⟩
          · exact ⟨rfl, Or.inl ⟨i, hlt, hy, q2, hj⟩⟩
          · exact absurd q1 c20
  refine vv_iconst cx dT_find_0 (v := 0) (by decide) (pc' := 1) rfl ?_
  refine vv_istore_n cx dT_find_1 rfl (Nat.le_of_ble_eq_true rfl) (pc' := 2) rfl ?_
  exact loop c9 0 _ nI_0.symm (by omega) (fun j hj => absurd hj (by omega))
set_option maxRecDepth 100000 in
set_option maxHeartbeats 4000000 in
theorem tT_countAgain (l : Launch) (g : pq_G) (h : pq_H) (j : Nat) (x : Int32) (hj : j < 40) : XV l yT_countAgain wT_countAgain rT_countAgain g 0 0 [.ref (g.2.2 4), .int (nI j), .int x] h (fun h9 => pq_but [14, 15] h h9 ∧ h9 14 = upd (h 14) j (h 14 j + 1) ∧ h9 15 = upd (h 15) j (if h 15 j < x then x else h 15 j)) (pq_no) := by
  refine XV.of (cc := cT_countAgain) (maxL := 3) (ret := none) (by decide +kernel) (by simp [Value.category]) (Nat.le_of_ble_eq_true rfl) ?_
  intro p e s m below meth c cx hX hr hlocks hex
  have hv : vp_in (nI j) 40 := vp_in_nI hj (by decide)
  have hcl : (nI j).toNatClampNeg = j := nI_clamp (by omega)
  refine vv_aload_n cx dT_countAgain_0 rfl rfl (pc' := 1) rfl ?_
  refine vv_getR cx (C := RT) (T := TT) (NN := 4) 4 2 _ (by decide) sh_4 rfl rfl (by decide) lyT ww_129 dT_countAgain_1 (pc' := 4) rfl ?_
  refine vv_iload_n cx dT_countAgain_4 rfl rfl (pc' := 5) rfl ?_
  refine vv_dup2 cx dT_countAgain_5 rfl rfl (pc' := 6) rfl ?_
  refine vv_iald cx _ (by decide) sh_14 hv dT_countAgain_6 (pc' := 7) rfl ?_
  refine vv_iconst cx dT_countAgain_7 (v := 1) (by decide) (pc' := 8) rfl ?_
  refine vv_iadd cx dT_countAgain_8 (pc' := 9) rfl ?_
  refine vv_iast cx _ (by decide) sh_14 hv dT_countAgain_9 (pc' := 10) rfl ?_
  refine vv_aload_n cx dT_countAgain_10 rfl rfl (pc' := 11) rfl ?_
  refine vv_getR cx (C := RT) (T := TT) (NN := 4) 4 3 _ (by decide) sh_4 rfl rfl (by decide) lyT ww_131 dT_countAgain_11 (pc' := 14) rfl ?_
  refine vv_iload_n cx dT_countAgain_14 rfl rfl (pc' := 15) rfl ?_
  refine vv_aload_n cx dT_countAgain_15 rfl rfl (pc' := 16) rfl ?_
  refine vv_getR cx (C := RT) (T := TT) (NN := 4) 4 3 _ (by decide) sh_4 rfl rfl (by decide) lyT ww_131 dT_countAgain_16 (pc' := 19) rfl ?_
  refine vv_iload_n cx dT_countAgain_19 rfl rfl (pc' := 20) rfl ?_
  refine vv_iald cx _ (by decide) sh_15 hv dT_countAgain_20 (pc' := 21) rfl ?_
  refine vv_iload_n cx dT_countAgain_21 rfl rfl (pc' := 22) rfl ?_
  refine vv_max cx ww_520 ww_479 ww_13 ww_480 (Nat.le_of_ble_eq_true rfl) (Nat.le_of_ble_eq_true rfl) (Nat.le_of_ble_eq_true rfl) (Nat.le_of_ble_eq_true rfl) rfl dT_countAgain_22 (pc' := 25) rfl ?_
  refine vv_iast cx _ (by decide) sh_15 hv dT_countAgain_25 (pc' := 26) rfl ?_
  refine vv_vret cx hr hlocks dT_countAgain_26 (Nat.le_of_ble_eq_true rfl) (Nat.le_of_ble_eq_true rfl) ?_
  refine ⟨(pq_but.up (by decide)).trans (pq_but.up (by decide)), ?_, ?_⟩
  · rw [va_up_ne _ _ (by decide), va_up_self, hcl]
  · rw [va_up_self, hcl, va_up_ne _ _ (by decide)]
set_option maxRecDepth 100000 in
set_option maxHeartbeats 4000000 in
theorem tT_add (l : Launch) (g : pq_G) (h : pq_H) (kr c9 : Nat) (x : Int32) (hkr : 16 ≤ kr ∧ kr < 116) (hc : h 4 0 = nI c9) (hc40 : c9 < 40) : XI l yT_add wT_add rT_add g 0 0 [.ref (g.2.2 4), .ref (g.2.2 kr), .int x] h (fun r h9 => r = nI c9 ∧ pq_but [4, 14, 15, 76 + c9] h h9 ∧ h9 4 0 = nI (c9 + 1) ∧ (∀ i, i < 5 → h9 (76 + c9) i = h kr i) ∧ h9 14 = upd (h 14) c9 1 ∧ h9 15 = upd (h 15) c9 x) (pq_no) := by
  refine XI.of (cc := cT_add) (maxL := 4) (ret := (some .int)) (by decide +kernel) (by simp [Value.category]) (Nat.le_of_ble_eq_true rfl) ?_
  intro p e s m below meth c cx hX hr hlocks hex
  have hv : vp_in (h 4 0) 40 := by rw [hc]; exact vp_in_nI hc40 (by decide)
  have hcl : (h 4 0).toNatClampNeg = c9 := by rw [hc]; exact nI_clamp (by omega)
  have r1 : kr < pq_N := by show kr < 125; omega
  have r2 : 76 + c9 < pq_N := by show 76 + c9 < 125; omega
  refine vv_aload_n cx dT_add_0 rfl rfl (pc' := 1) rfl ?_
  refine vv_getI cx (C := RT) (T := TT) (NN := 4) 4 0 (by decide) sh_4 rfl rfl (by decide) lyT ww_125 dT_add_1 (pc' := 4) rfl ?_
  refine vv_istore_n cx dT_add_4 rfl (Nat.le_of_ble_eq_true rfl) (pc' := 5) rfl ?_
  refine vv_aload_n cx dT_add_5 rfl rfl (pc' := 6) rfl ?_
  refine vv_iconst cx dT_add_6 (v := 0) (by decide) (pc' := 7) rfl ?_
  refine vv_aload_n cx dT_add_7 rfl rfl (pc' := 8) rfl ?_
  refine vv_getR cx (C := RT) (T := TT) (NN := 4) 4 1 _ (by decide) sh_4 rfl rfl (by decide) lyT ww_127 dT_add_8 (pc' := 11) rfl ?_
  refine vv_iload_n cx dT_add_11 rfl rfl (pc' := 12) rfl ?_
  refine vv_aaldq cx _ (by decide) sh_7 (show 76 + (h 4 0).toNatClampNeg = 76 + c9 by rw [hcl]) hv dT_add_12 (pc' := 13) rfl ?_
  refine vv_iconst cx dT_add_13 (v := 0) (by decide) (pc' := 14) rfl ?_
  refine vv_iconst cx dT_add_14 (v := 5) (by decide) (pc' := 15) rfl ?_
  refine vv_copy cx _ _ r1 r2 (sh_row hkr.1 hkr.2) (sh_row (by omega) (by omega)) (by decide) (by decide) (by decide) (by decide) (by decide) ww_526 ww_192 ww_191 ww_14 (Nat.le_of_ble_eq_true rfl) (by decide) rfl dT_add_15 (pc' := 18) rfl ?_
  refine vv_aload_n cx dT_add_18 rfl rfl (pc' := 19) rfl ?_
  refine vv_getR cx (C := RT) (T := TT) (NN := 4) 4 2 _ (by decide) sh_4 rfl rfl (by decide) lyT ww_129 dT_add_19 (pc' := 22) rfl ?_
  refine vv_iload_n cx dT_add_22 rfl rfl (pc' := 23) rfl ?_
  refine vv_iconst cx dT_add_23 (v := 1) (by decide) (pc' := 24) rfl ?_
  refine vv_iast cx _ (by decide) sh_14 hv dT_add_24 (pc' := 25) rfl ?_
  refine vv_aload_n cx dT_add_25 rfl rfl (pc' := 26) rfl ?_
  refine vv_getR cx (C := RT) (T := TT) (NN := 4) 4 3 _ (by decide) sh_4 rfl rfl (by decide) lyT ww_131 dT_add_26 (pc' := 29) rfl ?_
  refine vv_iload_n cx dT_add_29 rfl rfl (pc' := 30) rfl ?_
  refine vv_iload_n cx dT_add_30 rfl rfl (pc' := 31) rfl ?_
  refine vv_iast cx _ (by decide) sh_15 hv dT_add_31 (pc' := 32) rfl ?_
  refine vv_aload_n cx dT_add_32 rfl rfl (pc' := 33) rfl ?_
  refine vv_iload_n cx dT_add_33 rfl rfl (pc' := 34) rfl ?_
  refine vv_iconst cx dT_add_34 (v := 1) (by decide) (pc' := 35) rfl ?_
  refine vv_iadd cx dT_add_35 (pc' := 36) rfl ?_
  refine vv_putI cx (C := RT) (T := TT) (NN := 4) 4 0 (by decide) sh_4 rfl rfl (by decide) lyT tyT tyT_ok nmT rfl rfl rfl ww_125 dT_add_36 (pc' := 39) rfl ?_
  refine vv_iload_n cx dT_add_39 rfl rfl (pc' := 40) rfl ?_
  refine vv_iret cx hr hlocks dT_add_40 (Nat.le_of_ble_eq_true rfl) (Nat.le_of_ble_eq_true rfl) ?_
  rw [hcl]
  refine ⟨hc, fun k hk => ?_, ?_, fun i hi => ?_, ?_, ?_⟩
  · simp at hk
    rw [va_up_ne _ _ hk.1, va_up_ne _ _ hk.2.2.1, va_up_ne _ _ hk.2.1, va_up_ne _ _ hk.2.2.2]
  · rw [va_up_self, pk_us, hc]; exact nI_1 c9
  · rw [va_up_ne _ _ (by omega), va_up_ne _ _ (by omega), va_up_ne _ _ (by omega), va_up_self, pq_cpy5 hi]
  · rw [va_up_ne _ _ (by decide), va_up_ne _ _ (by decide), va_up_self, va_up_ne _ _ (by omega)]
  · rw [va_up_ne _ _ (by decide), va_up_self, va_up_ne _ _ (by decide), va_up_ne _ _ (by omega)]
set_option maxRecDepth 100000 in
set_option maxHeartbeats 4000000 in
theorem tP_forgetAnswers (l : Launch) (g : pq_G) (h : pq_H)  : XV l yP_forgetAnswers wP_forgetAnswers rP_forgetAnswers g 0 0 [.ref (g.2.2 0)] h (fun h9 => pq_but [2, 3] h h9 ∧ h9 2 4 = 0 ∧ (∀ j, j ≠ 4 → h9 2 j = h 2 j) ∧ h9 3 5 = -1 ∧ h9 3 6 = 0) (pq_no) := by
  refine XV.of (cc := cP_forgetAnswers) (maxL := 1) (ret := none) (by decide +kernel) (by simp [Value.category]) (Nat.le_of_ble_eq_true rfl) ?_
  intro p e s m below meth c cx hX hr hlocks hex
  refine vv_aload_n cx dP_forgetAnswers_0 rfl rfl (pc' := 1) rfl ?_
  refine vv_getR cx (C := RP) (T := TP) (NN := 4) 0 1 _ (by decide) sh_0 rfl rfl (by decide) lyP ww_143 dP_forgetAnswers_1 (pc' := 4) rfl ?_
  refine cc_Vv cx hX (tD_forget l g h) kD_forget ww_294 rfl rfl ⟨Nat.le_of_ble_eq_true rfl, Nat.le_of_ble_eq_true rfl⟩ 2 (by decide) sh_2 rfl rfl rfl rfl (Nat.le_of_ble_eq_true rfl) rfl ⟨Nat.le_of_ble_eq_true rfl, Nat.le_of_ble_eq_true rfl⟩ dP_forgetAnswers_4 (pc' := 7) rfl (fun _ _ q => q.elim) (fun h4 q4 => ?_)
  subst q4
  refine vv_aload_n cx dP_forgetAnswers_7 rfl rfl (pc' := 8) rfl ?_
  refine vv_getR cx (C := RP) (T := TP) (NN := 4) 0 2 _ (by decide) sh_0 rfl rfl (by decide) lyP ww_144 dP_forgetAnswers_8 (pc' := 11) rfl ?_
  refine cc_Vv cx hX (tG_forget l g _) kG_forget ww_298 rfl rfl ⟨Nat.le_of_ble_eq_true rfl, Nat.le_of_ble_eq_true rfl⟩ 3 (by decide) sh_3 rfl rfl rfl rfl (Nat.le_of_ble_eq_true rfl) rfl ⟨Nat.le_of_ble_eq_true rfl, Nat.le_of_ble_eq_true rfl⟩ dP_forgetAnswers_11 (pc' := 14) rfl (fun _ _ q => q.elim) (fun h11 q11 => ?_)
  refine vv_vret cx hr hlocks dP_forgetAnswers_14 (Nat.le_of_ble_eq_true rfl) (Nat.le_of_ble_eq_true rfl) ?_
  obtain ⟨f1, f5, f6, f7, f8⟩ := q11
  refine ⟨(pq_but.up (by decide)).trans (f1.but (by decide)), ?_, fun j hj => ?_, f5, f6⟩
  · rw [f1 2 (by decide), va_up_self, pk_us]
  · rw [f1 2 (by decide), va_up_self, pk_un hj]
set_option maxRecDepth 100000 in
set_option maxHeartbeats 4000000 in
theorem tP_requireDesign (l : Launch) (hl : l.stackTraces = false) (g : pq_G) (h : pq_H)  : XV l yP_requireDesign wP_requireDesign rP_requireDesign g 1 6 [.ref (g.2.2 0)] h (fun h9 => h9 = h ∧ ¬ h 3 5 = -1) (fun E h9 => E = xISE ∧ h9 = h ∧ h 3 5 = -1) := by
  refine XV.of (cc := cP_requireDesign) (maxL := 1) (ret := none) (by decide +kernel) (by simp [Value.category]) (Nat.le_of_ble_eq_true rfl) ?_
  intro p e s m below meth c cx hX hr hlocks hex
  refine vv_aload_n cx dP_requireDesign_0 rfl rfl (pc' := 1) rfl ?_
  refine vv_getR cx (C := RP) (T := TP) (NN := 4) 0 2 _ (by decide) sh_0 rfl rfl (by decide) lyP ww_144 dP_requireDesign_1 (pc' := 4) rfl ?_
  refine vv_getI cx (C := RG) (T := TG) (NN := 9) 3 5 (by decide) sh_3 rfl rfl (by decide) lyG ww_92 dP_requireDesign_4 (pc' := 7) rfl ?_
  refine vv_iconst cx dP_requireDesign_7 (v := -1) (by decide) (pc' := 8) rfl ?_
  refine vv_icmp_ne cx dP_requireDesign_8 (tgt := 21) (by decide) (pc' := 11) rfl (fun c8 => ?_) (fun c8 => ?_)
  · refine vv_vret cx hr hlocks dP_requireDesign_21 (Nat.le_of_ble_eq_true rfl) (Nat.le_of_ble_eq_true rfl) ?_
    exact ⟨rfl, c8⟩
  · refine vv_throw cx hX hl hex hlocks (cls := "java/lang/IllegalStateException") (text := "there is no design") (names := ["java/lang/RuntimeException", "java/lang/Exception"]) (by decide +kernel) (by decide +kernel) ww_310 ww_11 thISE_at thISE_good (by decide +kernel) dP_requireDesign_11 dP_requireDesign_14 dP_requireDesign_15 dP_requireDesign_17 dP_requireDesign_20 rfl (Nat.le_of_ble_eq_true rfl) (Nat.le_of_ble_eq_true rfl) (Nat.le_of_ble_eq_true rfl) (Nat.le_of_ble_eq_true rfl) (Nat.le_of_ble_eq_true rfl) (Nat.le_of_ble_eq_true rfl) ?_
    exact ⟨rfl, rfl, c8⟩
set_option maxRecDepth 100000 in
set_option maxHeartbeats 4000000 in
theorem tP_requireSheet (l : Launch) (hl : l.stackTraces = false) (g : pq_G) (h : pq_H) (x : Int32) : XV l yP_requireSheet wP_requireSheet rP_requireSheet g 1 6 [.ref (g.2.2 0), .int x] h (fun h9 => h9 = h ∧ 0 ≤ x ∧ x < h 3 5) (fun E h9 => E = xIOE ∧ h9 = h ∧ ¬ (0 ≤ x ∧ x < h 3 5)) := by
  refine XV.of (cc := cP_requireSheet) (maxL := 2) (ret := none) (by decide +kernel) (by simp [Value.category]) (Nat.le_of_ble_eq_true rfl) ?_
  intro p e s m below meth c cx hX hr hlocks hex
  refine vv_iload_n cx dP_requireSheet_0 rfl rfl (pc' := 1) rfl ?_
  refine vv_if_lt cx dP_requireSheet_1 (tgt := 15) (by decide) (pc' := 4) rfl (fun c1 => ?_) (fun c1 => ?_)
  · refine vv_throw cx hX hl hex hlocks (cls := "java/lang/IndexOutOfBoundsException") (text := "no such sheet of the design") (names := ["java/lang/RuntimeException", "java/lang/Exception"]) (by decide +kernel) (by decide +kernel) ww_344 ww_12 thIOE_at thIOE_good (by decide +kernel) dP_requireSheet_15 dP_requireSheet_18 dP_requireSheet_19 dP_requireSheet_21 dP_requireSheet_24 rfl (Nat.le_of_ble_eq_true rfl) (Nat.le_of_ble_eq_true rfl) (Nat.le_of_ble_eq_true rfl) (Nat.le_of_ble_eq_true rfl) (Nat.le_of_ble_eq_true rfl) (Nat.le_of_ble_eq_true rfl) ?_
    first | exact ⟨rfl, rfl, fun q => absurd q.1 (Int32.not_le.mpr c1)⟩ | exact ⟨rfl, rfl, fun q => absurd q.2 c12⟩
  · refine vv_iload_n cx dP_requireSheet_4 rfl rfl (pc' := 5) rfl ?_
    refine vv_aload_n cx dP_requireSheet_5 rfl rfl (pc' := 6) rfl ?_
    refine vv_getR cx (C := RP) (T := TP) (NN := 4) 0 2 _ (by decide) sh_0 rfl rfl (by decide) lyP ww_144 dP_requireSheet_6 (pc' := 9) rfl ?_
    refine vv_getI cx (C := RG) (T := TG) (NN := 9) 3 5 (by decide) sh_3 rfl rfl (by decide) lyG ww_92 dP_requireSheet_9 (pc' := 12) rfl ?_
    refine vv_icmp_lt cx dP_requireSheet_12 (tgt := 25) (by decide) (pc' := 15) rfl (fun c12 => ?_) (fun c12 => ?_)
    · refine vv_vret cx hr hlocks dP_requireSheet_25 (Nat.le_of_ble_eq_true rfl) (Nat.le_of_ble_eq_true rfl) ?_
      exact ⟨rfl, Int32.not_lt.mp c1, c12⟩
    · refine vv_throw cx hX hl hex hlocks (cls := "java/lang/IndexOutOfBoundsException") (text := "no such sheet of the design") (names := ["java/lang/RuntimeException", "java/lang/Exception"]) (by decide +kernel) (by decide +kernel) ww_344 ww_12 thIOE_at thIOE_good (by decide +kernel) dP_requireSheet_15 dP_requireSheet_18 dP_requireSheet_19 dP_requireSheet_21 dP_requireSheet_24 rfl (Nat.le_of_ble_eq_true rfl) (Nat.le_of_ble_eq_true rfl) (Nat.le_of_ble_eq_true rfl) (Nat.le_of_ble_eq_true rfl) (Nat.le_of_ble_eq_true rfl) (Nat.le_of_ble_eq_true rfl) ?_
      first | exact ⟨rfl, rfl, fun q => absurd q.1 (Int32.not_le.mpr c1)⟩ | exact ⟨rfl, rfl, fun q => absurd q.2 c12⟩

/-! part 24: the reference's sheetsFor, isNothingLeft, lowestLeft, goesOn -/
theorem pq_wd_iff {n : Nat} {w a : Nat → Nat} (hw : ∀ i, i < n → 1 ≤ w i) : pq_sum a n = 0 ↔ pq_wd n w a = 0 :=
  ⟨fun q => pq_sum_all0 (fun i hi => by rw [pq_sum_zero q i hi, Nat.zero_mul]), fun q => pq_sum_all0 (pq_wd_zero hw q)⟩
set_option maxRecDepth 100000 in
set_option maxHeartbeats 4000000 in
theorem tM_sheetsFor (l : Launch) (g : pq_G) (h : pq_H) {W n : Nat} {w nm pr : Nat → Nat} (A : Nat) (lf : Nat → Nat) (hs : pq_mo h W n w nm pr) (hA : A + 5 ≤ 160) (hl9 : pq_sub h 120 A lf) (hlf : ∀ i, i < 5 → lf i ≤ 6) : XI l yM_sheetsFor wM_sheetsFor rM_sheetsFor g 0 0 [.ref (g.2.2 116), .int (nI A)] h (fun r h9 => h9 = h ∧ r = nI (pq_up (pq_wd n w lf) W)) (pq_no) := by
  refine XI.of (cc := cM_sheetsFor) (maxL := 4) (ret := (some .int)) (by decide +kernel) (by simp [Value.category]) (Nat.le_of_ble_eq_true rfl) ?_
  intro p e s m below meth c cx hX hr hlocks hex
  obtain ⟨-, ⟨hW1, hW2, hn5⟩, hb, -, -⟩ := id hs
  have hn := hs.1.2.1
  have hXb : pq_wd n w lf ≤ 30000 := pq_wd_bd hn5 (fun i hi => hlf i (by omega)) (fun i hi => (hb i (by omega)).1)
  have loop : ∀ (d i : Nat), i + d = n → VV p l e rM_sheetsFor s m [.ref (g.2.2 116), .int (nI A)].toArray below meth c (vx_MQ below (pq_Qi g (fun r h9 => h9 = h ∧ r = nI (pq_up (pq_wd n w lf) W)) s.heap.size) (pq_Qx g (pq_no) s.heap.size) [.ref (g.2.2 116), .int (nI A)].toArray s 0 0 (pq_A g s.heap.size)) g 0 0 h 4 [some (.ref (g.2.2 116)), some (.int (nI A)), some (.int (nI (pq_sum (fun i => lf i * w i) i))), some (.int (nI i))] [] := by
    intro d
    induction d with
    | zero =>
      intro i hi
      have e1 : i = n := by omega
      subst e1
      refine vv_iload_n cx dM_sheetsFor_4 rfl rfl (pc' := 5) rfl ?_
      refine vv_aload_n cx dM_sheetsFor_5 rfl rfl (pc' := 6) rfl ?_
      refine vv_getI cx (C := RM) (T := TM) (NN := 15) 116 2 (by decide) sh_116 rfl rfl (by decide) lyM ww_556 dM_sheetsFor_6 (pc' := 9) rfl ?_
      refine vv_icmp_ge cx dM_sheetsFor_9 (tgt := 36) (by decide) (pc' := 12) rfl (fun c9 => ?_) (fun c9 => ?_)
      · refine vv_iload_n cx dM_sheetsFor_36 rfl rfl (pc' := 37) rfl ?_
        refine vv_aload_n cx dM_sheetsFor_37 rfl rfl (pc' := 38) rfl ?_
        refine vv_getI cx (C := RM) (T := TM) (NN := 15) 116 1 (by decide) sh_116 rfl rfl (by decide) lyM ww_555 dM_sheetsFor_38 (pc' := 41) rfl ?_
        rw [hs.1.1]
        refine vv_iadd cx dM_sheetsFor_41 (pc' := 42) rfl ?_
        refine vv_iconst cx dM_sheetsFor_42 (v := 1) (by decide) (pc' := 43) rfl ?_
        refine vv_isub cx dM_sheetsFor_43 (pc' := 44) rfl ?_
        refine vv_aload_n cx dM_sheetsFor_44 rfl rfl (pc' := 45) rfl ?_
        refine vv_getI cx (C := RM) (T := TM) (NN := 15) 116 1 (by decide) sh_116 rfl rfl (by decide) lyM ww_555 dM_sheetsFor_45 (pc' := 48) rfl ?_
        rw [hs.1.1]
        refine vv_idiv cx dM_sheetsFor_48 (nI_ne0 (by omega) (by omega)) (pc' := 49) rfl ?_
        rw [nI_add, show (1 : Int32) = nI 1 from rfl, pk_sub (by omega), pk_div (by have : pq_sum (fun j => lf j * w j) i ≤ 30000 := hXb; omega) (by omega) (by omega), show (pq_sum (fun j => lf j * w j) i + W - 1) / W = pq_up (pq_wd i w lf) W from (if_neg (by omega)).symm]
        refine vv_iret cx hr hlocks dM_sheetsFor_49 (Nat.le_of_ble_eq_true rfl) (Nat.le_of_ble_eq_true rfl) ?_
        exact ⟨rfl, rfl⟩
      · exact absurd (Int32.le_refl _) (by rw [hn] at c9; exact c9)
    | succ d ih =>
      intro i hi
      have hlt : i < n := by omega
      refine vv_iload_n cx dM_sheetsFor_4 rfl rfl (pc' := 5) rfl ?_
      refine vv_aload_n cx dM_sheetsFor_5 rfl rfl (pc' := 6) rfl ?_
      refine vv_getI cx (C := RM) (T := TM) (NN := 15) 116 2 (by decide) sh_116 rfl rfl (by decide) lyM ww_556 dM_sheetsFor_6 (pc' := 9) rfl ?_
      refine vv_icmp_ge cx dM_sheetsFor_9 (tgt := 36) (by decide) (pc' := 12) rfl (fun c9 => ?_) (fun c9 => ?_)
      · exact absurd (by rw [hn] at c9; exact c9) (nI_ge hlt (by omega))
      · refine vv_iload_n cx dM_sheetsFor_12 rfl rfl (pc' := 13) rfl ?_
        refine vv_aload_n cx dM_sheetsFor_13 rfl rfl (pc' := 14) rfl ?_
        refine vv_getR cx (C := RM) (T := TM) (NN := 15) 116 6 _ (by decide) sh_116 rfl rfl (by decide) lyM ww_560 dM_sheetsFor_14 (pc' := 17) rfl ?_
        refine vv_iload_n cx dM_sheetsFor_17 rfl rfl (pc' := 18) rfl ?_
        refine vv_iload_n cx dM_sheetsFor_18 rfl rfl (pc' := 19) rfl ?_
        refine vv_iadd cx dM_sheetsFor_19 (pc' := 20) rfl ?_
        rw [nI_add]
        refine vv_iald cx _ (by decide) sh_120 (vp_in_nI (n := A + i) (by omega) (by decide)) dM_sheetsFor_20 (pc' := 21) rfl ?_
        refine vv_aload_n cx dM_sheetsFor_21 rfl rfl (pc' := 22) rfl ?_
        refine vv_getR cx (C := RM) (T := TM) (NN := 15) 116 3 _ (by decide) sh_116 rfl rfl (by decide) lyM ww_557 dM_sheetsFor_22 (pc' := 25) rfl ?_
        refine vv_iload_n cx dM_sheetsFor_25 rfl rfl (pc' := 26) rfl ?_
        refine vv_iald cx _ (by decide) sh_117 (vp_in_nI (n := i) (by omega) (by decide)) dM_sheetsFor_26 (pc' := 27) rfl ?_
        rw [nI_clamp (n := A + i) (by omega), nI_clamp (n := i) (by omega), hl9 i (by omega), hs.1.2.2.1 i (by omega)]
        refine vv_imul cx dM_sheetsFor_27 (pc' := 28) rfl ?_
        rw [pk_mul]
        refine vv_iadd cx dM_sheetsFor_28 (pc' := 29) rfl ?_
        rw [nI_add, show pq_sum (fun i => lf i * w i) i + lf i * w i = pq_sum (fun i => lf i * w i) (i + 1) from rfl]
        refine vv_istore_n cx dM_sheetsFor_29 rfl (Nat.le_of_ble_eq_true rfl) (pc' := 30) rfl ?_
        refine vv_iinc cx dM_sheetsFor_30 rfl pq_n1 (pc' := 33) rfl ?_
        refine vv_goto cx dM_sheetsFor_33 (tgt := 4) (by decide) ?_
        exact ih (i + 1) (by omega)
  refine vv_iconst cx dM_sheetsFor_0 (v := 0) (by decide) (pc' := 1) rfl ?_
  refine vv_istore_n cx dM_sheetsFor_1 rfl (Nat.le_of_ble_eq_true rfl) (pc' := 2) rfl ?_
  refine vv_iconst cx dM_sheetsFor_2 (v := 0) (by decide) (pc' := 3) rfl ?_
  refine vv_istore_n cx dM_sheetsFor_3 rfl (Nat.le_of_ble_eq_true rfl) (pc' := 4) rfl ?_
  exact loop n 0 (by omega)
set_option maxRecDepth 100000 in
set_option maxHeartbeats 4000000 in
theorem tM_isNothingLeft (l : Launch) (g : pq_G) (h : pq_H) {W n : Nat} {w nm pr : Nat → Nat} (A : Nat) (lf : Nat → Nat) (hs : pq_mo h W n w nm pr) (hA : A + 5 ≤ 160) (hl9 : pq_sub h 120 A lf) (hlf : ∀ i, i < 5 → lf i ≤ 6) : XI l yM_isNothingLeft wM_isNothingLeft rM_isNothingLeft g 0 0 [.ref (g.2.2 116), .int (nI A)] h (fun r h9 => h9 = h ∧ pq_fl r (pq_sum lf n = 0)) (pq_no) := by
  refine XI.of (cc := cM_isNothingLeft) (maxL := 4) (ret := (some .boolean)) (by decide +kernel) (by simp [Value.category]) (Nat.le_of_ble_eq_true rfl) ?_
  intro p e s m below meth c cx hX hr hlocks hex
  have hn5 := hs.2.1.2.2
  have hn := hs.1.2.1
  have hXb : pq_sum lf n ≤ 30 := Nat.le_trans (pq_sum_bd (B := 6) (fun i hi => hlf i (by omega))) (by omega)
  have loop : ∀ (d i : Nat), i + d = n → VV p l e rM_isNothingLeft s m [.ref (g.2.2 116), .int (nI A)].toArray below meth c (vx_MQ below (pq_Qi g (fun r h9 => h9 = h ∧ pq_fl r (pq_sum lf n = 0)) s.heap.size) (pq_Qx g (pq_no) s.heap.size) [.ref (g.2.2 116), .int (nI A)].toArray s 0 0 (pq_A g s.heap.size)) g 0 0 h 4 [some (.ref (g.2.2 116)), some (.int (nI A)), some (.int (nI (pq_sum lf i))), some (.int (nI i))] [] := by
    intro d
    induction d with
    | zero =>
      intro i hi
      have e1 : i = n := by omega
      subst e1
      refine vv_iload_n cx dM_isNothingLeft_4 rfl rfl (pc' := 5) rfl ?_
      refine vv_aload_n cx dM_isNothingLeft_5 rfl rfl (pc' := 6) rfl ?_
      refine vv_getI cx (C := RM) (T := TM) (NN := 15) 116 2 (by decide) sh_116 rfl rfl (by decide) lyM ww_556 dM_isNothingLeft_6 (pc' := 9) rfl ?_
      refine vv_icmp_ge cx dM_isNothingLeft_9 (tgt := 29) (by decide) (pc' := 12) rfl (fun c9 => ?_) (fun c9 => ?_)
      · refine vv_iload_n cx dM_isNothingLeft_29 rfl rfl (pc' := 30) rfl ?_
        refine vv_if_ne cx dM_isNothingLeft_30 (tgt := 37) (by decide) (pc' := 33) rfl (fun c30 => ?_) (fun c30 => ?_)
        · refine vv_iconst cx dM_isNothingLeft_37 (v := 0) (by decide) (pc' := 38) rfl ?_
          refine vv_zret cx hr hlocks dM_isNothingLeft_38 rfl (Nat.le_of_ble_eq_true rfl) (Nat.le_of_ble_eq_true rfl) ?_
          first | exact ⟨rfl, Or.inl ⟨rfl, Decidable.byContradiction (fun q => nI_ne0 (Nat.pos_of_ne_zero q) (by omega) c30)⟩⟩ | exact ⟨rfl, Or.inr ⟨rfl, fun q => c30 (by rw [q]; rfl)⟩⟩
        · refine vv_iconst cx dM_isNothingLeft_33 (v := 1) (by decide) (pc' := 34) rfl ?_
          refine vv_goto cx dM_isNothingLeft_34 (tgt := 38) (by decide) ?_
          refine vv_zret cx hr hlocks dM_isNothingLeft_38 rfl (Nat.le_of_ble_eq_true rfl) (Nat.le_of_ble_eq_true rfl) ?_
          first | exact ⟨rfl, Or.inl ⟨rfl, Decidable.byContradiction (fun q => nI_ne0 (Nat.pos_of_ne_zero q) (by omega) c30)⟩⟩ | exact ⟨rfl, Or.inr ⟨rfl, fun q => c30 (by rw [q]; rfl)⟩⟩
      · exact absurd (Int32.le_refl _) (by rw [hn] at c9; exact c9)
    | succ d ih =>
      intro i hi
      have hlt : i < n := by omega
      refine vv_iload_n cx dM_isNothingLeft_4 rfl rfl (pc' := 5) rfl ?_
      refine vv_aload_n cx dM_isNothingLeft_5 rfl rfl (pc' := 6) rfl ?_
      refine vv_getI cx (C := RM) (T := TM) (NN := 15) 116 2 (by decide) sh_116 rfl rfl (by decide) lyM ww_556 dM_isNothingLeft_6 (pc' := 9) rfl ?_
      refine vv_icmp_ge cx dM_isNothingLeft_9 (tgt := 29) (by decide) (pc' := 12) rfl (fun c9 => ?_) (fun c9 => ?_)
      · exact absurd (by rw [hn] at c9; exact c9) (nI_ge hlt (by omega))
      · refine vv_iload_n cx dM_isNothingLeft_12 rfl rfl (pc' := 13) rfl ?_
        refine vv_aload_n cx dM_isNothingLeft_13 rfl rfl (pc' := 14) rfl ?_
        refine vv_getR cx (C := RM) (T := TM) (NN := 15) 116 6 _ (by decide) sh_116 rfl rfl (by decide) lyM ww_560 dM_isNothingLeft_14 (pc' := 17) rfl ?_
        refine vv_iload_n cx dM_isNothingLeft_17 rfl rfl (pc' := 18) rfl ?_
        refine vv_iload_n cx dM_isNothingLeft_18 rfl rfl (pc' := 19) rfl ?_
        refine vv_iadd cx dM_isNothingLeft_19 (pc' := 20) rfl ?_
        rw [nI_add]
        refine vv_iald cx _ (by decide) sh_120 (vp_in_nI (n := A + i) (by omega) (by decide)) dM_isNothingLeft_20 (pc' := 21) rfl ?_
        rw [nI_clamp (n := A + i) (by omega), hl9 i (by omega)]
        refine vv_iadd cx dM_isNothingLeft_21 (pc' := 22) rfl ?_
        rw [nI_add, show pq_sum lf i + lf i = pq_sum lf (i + 1) from rfl]
        refine vv_istore_n cx dM_isNothingLeft_22 rfl (Nat.le_of_ble_eq_true rfl) (pc' := 23) rfl ?_
        refine vv_iinc cx dM_isNothingLeft_23 rfl pq_n1 (pc' := 26) rfl ?_
        refine vv_goto cx dM_isNothingLeft_26 (tgt := 4) (by decide) ?_
        exact ih (i + 1) (by omega)
  refine vv_iconst cx dM_isNothingLeft_0 (v := 0) (by decide) (pc' := 1) rfl ?_
  refine vv_istore_n cx dM_isNothingLeft_1 rfl (Nat.le_of_ble_eq_true rfl) (pc' := 2) rfl ?_
  refine vv_iconst cx dM_isNothingLeft_2 (v := 0) (by decide) (pc' := 3) rfl ?_
  refine vv_istore_n cx dM_isNothingLeft_3 rfl (Nat.le_of_ble_eq_true rfl) (pc' := 4) rfl ?_
  exact loop n 0 (by omega)
set_option maxRecDepth 100000 in
set_option maxHeartbeats 4000000 in
theorem tM_lowestLeft (l : Launch) (g : pq_G) (h : pq_H) (A z : Nat) (lf : Nat → Nat) (hA : A + 5 ≤ 160) (hl9 : pq_sub h 120 A lf) (hz5 : z < 5) (hz : 0 < lf z) (hz6 : lf z ≤ 6) (h0 : ∀ i, i < z → lf i = 0) : XI l yM_lowestLeft wM_lowestLeft rM_lowestLeft g 0 0 [.ref (g.2.2 116), .int (nI A)] h (fun r h9 => h9 = h ∧ r = nI z) (pq_no) := by
  refine XI.of (cc := cM_lowestLeft) (maxL := 3) (ret := (some .int)) (by decide +kernel) (by simp [Value.category]) (Nat.le_of_ble_eq_true rfl) ?_
  intro p e s m below meth c cx hX hr hlocks hex
  have loop : ∀ (d i : Nat), i + d = z → VV p l e rM_lowestLeft s m [.ref (g.2.2 116), .int (nI A)].toArray below meth c (vx_MQ below (pq_Qi g (fun r h9 => h9 = h ∧ r = nI z) s.heap.size) (pq_Qx g (pq_no) s.heap.size) [.ref (g.2.2 116), .int (nI A)].toArray s 0 0 (pq_A g s.heap.size)) g 0 0 h 2 [some (.ref (g.2.2 116)), some (.int (nI A)), some (.int (nI i))] [] := by
    intro d
    induction d with
    | zero =>
      intro i hi
      have e1 : i = z := by omega
      subst e1
      refine vv_aload_n cx dM_lowestLeft_2 rfl rfl (pc' := 3) rfl ?_
      refine vv_getR cx (C := RM) (T := TM) (NN := 15) 116 6 _ (by decide) sh_116 rfl rfl (by decide) lyM ww_560 dM_lowestLeft_3 (pc' := 6) rfl ?_
      refine vv_iload_n cx dM_lowestLeft_6 rfl rfl (pc' := 7) rfl ?_
      refine vv_iload_n cx dM_lowestLeft_7 rfl rfl (pc' := 8) rfl ?_
      refine vv_iadd cx dM_lowestLeft_8 (pc' := 9) rfl ?_
      rw [nI_add]
      refine vv_iald cx _ (by decide) sh_120 (vp_in_nI (n := A + i) (by omega) (by decide)) dM_lowestLeft_9 (pc' := 10) rfl ?_
      rw [nI_clamp (n := A + i) (by omega), hl9 i (by omega)]
      refine vv_if_ne cx dM_lowestLeft_10 (tgt := 19) (by decide) (pc' := 13) rfl (fun c10 => ?_) (fun c10 => ?_)
      · refine vv_iload_n cx dM_lowestLeft_19 rfl rfl (pc' := 20) rfl ?_
        refine vv_iret cx hr hlocks dM_lowestLeft_20 (Nat.le_of_ble_eq_true rfl) (Nat.le_of_ble_eq_true rfl) ?_
        exact ⟨rfl, rfl⟩
      · exact absurd c10 (nI_ne0 hz (by omega))
    | succ d ih =>
      intro i hi
      refine vv_aload_n cx dM_lowestLeft_2 rfl rfl (pc' := 3) rfl ?_
      refine vv_getR cx (C := RM) (T := TM) (NN := 15) 116 6 _ (by decide) sh_116 rfl rfl (by decide) lyM ww_560 dM_lowestLeft_3 (pc' := 6) rfl ?_
      refine vv_iload_n cx dM_lowestLeft_6 rfl rfl (pc' := 7) rfl ?_
      refine vv_iload_n cx dM_lowestLeft_7 rfl rfl (pc' := 8) rfl ?_
      refine vv_iadd cx dM_lowestLeft_8 (pc' := 9) rfl ?_
      rw [nI_add]
      refine vv_iald cx _ (by decide) sh_120 (vp_in_nI (n := A + i) (by omega) (by decide)) dM_lowestLeft_9 (pc' := 10) rfl ?_
      rw [nI_clamp (n := A + i) (by omega), hl9 i (by omega)]
      refine vv_if_ne cx dM_lowestLeft_10 (tgt := 19) (by decide) (pc' := 13) rfl (fun c10 => ?_) (fun c10 => ?_)
      · exact absurd (by rw [h0 i (by omega)]; rfl) c10
      · refine vv_iinc cx dM_lowestLeft_13 rfl pq_n1 (pc' := 16) rfl ?_
        refine vv_goto cx dM_lowestLeft_16 (tgt := 2) (by decide) ?_
        exact ih (i + 1) (by omega)
  refine vv_iconst cx dM_lowestLeft_0 (v := 0) (by decide) (pc' := 1) rfl ?_
  refine vv_istore_n cx dM_lowestLeft_1 rfl (Nat.le_of_ble_eq_true rfl) (pc' := 2) rfl ?_
  exact loop z 0 (by omega)
set_option maxRecDepth 100000 in
set_option maxHeartbeats 4000000 in
theorem tM_goesOn (l : Launch) (g : pq_G) (h : pq_H) {W n : Nat} {w nm pr : Nat → Nat} (k : Nat) (lf : Nat → Nat) (bs : Option Nat) (hs : pq_mo h W n w nm pr) (hk : k ≤ 30) (hl9 : pq_sub h 120 (5 * k) lf) (hlf : ∀ i, i < 5 → lf i ≤ 6) (hbs8 : h 116 8 = pq_bsI bs) (hbs : ∀ b, bs = some b → b ≤ 30) : XI l yM_goesOn wM_goesOn rM_goesOn g 0 0 [.ref (g.2.2 116), .int (nI k)] h (fun r h9 => (r = 0 ∧ pq_boundb W n w lf k bs = true ∧ h9 = h) ∨ (r = 1 ∧ ¬ pq_boundb W n w lf k bs = true ∧ ¬ pq_wd n w lf = 0 ∧ h9 = h) ∨ (r = 0 ∧ ¬ pq_boundb W n w lf k bs = true ∧ pq_wd n w lf = 0 ∧ pq_but [116, 122] h h9 ∧ h9 116 8 = nI k ∧ (∀ j, j ≠ 8 → h9 116 j = h 116 j) ∧ ∀ i, i < 5 * k → h9 122 i = h 121 i)) (pq_no) := by
  refine XI.of (cc := cM_goesOn) (maxL := 3) (ret := (some .boolean)) (by decide +kernel) (by simp [Value.category]) (Nat.le_of_ble_eq_true rfl) ?_
  intro p e s m below meth c cx hX hr hlocks hex
  obtain ⟨-, ⟨hW1, hW2, hn5⟩, hb, hw1, -⟩ := id hs
  have hXb : pq_wd n w lf ≤ 30000 := pq_wd_bd hn5 (fun i hi => hlf i (by omega)) (fun i hi => (hb i (by omega)).1)
  have hub : pq_up (pq_wd n w lf) W ≤ 30000 := Nat.le_trans pq_up_bd hXb
  have e5 : (5 : Int32) * nI k = nI (5 * k) := by rw [show (5 : Int32) = nI 5 from rfl, pk_mul]
  have cp : ¬ pq_boundb W n w lf k bs = true → pq_wd n w lf = 0 → ∀ (d i : Nat) (h1 : pq_H), i + d = 5 * k → pq_but [116, 122] h h1 → h1 116 8 = nI k → (∀ j, j ≠ 8 → h1 116 j = h 116 j) → (∀ j, j < i → h1 122 j = h 121 j) → VV p l e rM_goesOn s m [.ref (g.2.2 116), .int (nI k)].toArray below meth c (vx_MQ below (pq_Qi g (fun r h9 => (r = 0 ∧ pq_boundb W n w lf k bs = true ∧ h9 = h) ∨ (r = 1 ∧ ¬ pq_boundb W n w lf k bs = true ∧ ¬ pq_wd n w lf = 0 ∧ h9 = h) ∨ (r = 0 ∧ ¬ pq_boundb W n w lf k bs = true ∧ pq_wd n w lf = 0 ∧ pq_but [116, 122] h h9 ∧ h9 116 8 = nI k ∧ (∀ j, j ≠ 8 → h9 116 j = h 116 j) ∧ ∀ i, i < 5 * k → h9 122 i = h 121 i)) s.heap.size) (pq_Qx g (pq_no) s.heap.size) [.ref (g.2.2 116), .int (nI k)].toArray s 0 0 (pq_A g s.heap.size)) g 0 0 h1 44 [some (.ref (g.2.2 116)), some (.int (nI k)), some (.int (nI i))] [] := by
    intro hnb hX0 d
    induction d with
    | zero =>
      intro i h1 hi g1 g2 g3 g4
      have e1 : i = 5 * k := by omega
      subst e1
      refine vv_iload_n cx dM_goesOn_44 rfl rfl (pc' := 45) rfl ?_
      refine vv_iconst cx dM_goesOn_45 (v := 5) (by decide) (pc' := 46) rfl ?_
      refine vv_iload_n cx dM_goesOn_46 rfl rfl (pc' := 47) rfl ?_
      refine vv_imul cx dM_goesOn_47 (pc' := 48) rfl ?_
      rw [e5]
      refine vv_icmp_ge cx dM_goesOn_48 (tgt := 69) (by decide) (pc' := 51) rfl (fun c48 => ?_) (fun c48 => ?_)
      · refine vv_iconst cx dM_goesOn_69 (v := 0) (by decide) (pc' := 70) rfl ?_
        refine vv_zret cx hr hlocks dM_goesOn_70 rfl (Nat.le_of_ble_eq_true rfl) (Nat.le_of_ble_eq_true rfl) ?_
        exact Or.inr (Or.inr ⟨rfl, hnb, hX0, g1, g2, g3, g4⟩)
      · exact absurd (Int32.le_refl _) c48
    | succ d ih =>
      intro i h1 hi g1 g2 g3 g4
      refine vv_iload_n cx dM_goesOn_44 rfl rfl (pc' := 45) rfl ?_
      refine vv_iconst cx dM_goesOn_45 (v := 5) (by decide) (pc' := 46) rfl ?_
      refine vv_iload_n cx dM_goesOn_46 rfl rfl (pc' := 47) rfl ?_
      refine vv_imul cx dM_goesOn_47 (pc' := 48) rfl ?_
      rw [e5]
      refine vv_icmp_ge cx dM_goesOn_48 (tgt := 69) (by decide) (pc' := 51) rfl (fun c48 => ?_) (fun c48 => ?_)
      · exact absurd c48 (nI_ge (by omega) (by omega))
      · refine vv_aload_n cx dM_goesOn_51 rfl rfl (pc' := 52) rfl ?_
        refine vv_getR cx (C := RM) (T := TM) (NN := 15) 116 9 _ (by decide) sh_116 rfl rfl (by decide) lyM ww_563 dM_goesOn_52 (pc' := 55) rfl ?_
        refine vv_iload_n cx dM_goesOn_55 rfl rfl (pc' := 56) rfl ?_
        refine vv_aload_n cx dM_goesOn_56 rfl rfl (pc' := 57) rfl ?_
        refine vv_getR cx (C := RM) (T := TM) (NN := 15) 116 7 _ (by decide) sh_116 rfl rfl (by decide) lyM ww_561 dM_goesOn_57 (pc' := 60) rfl ?_
        refine vv_iload_n cx dM_goesOn_60 rfl rfl (pc' := 61) rfl ?_
        refine vv_iald cx _ (by decide) sh_121 (vp_in_nI (n := i) (by omega) (by decide)) dM_goesOn_61 (pc' := 62) rfl ?_
        refine vv_iast cx _ (by decide) sh_122 (vp_in_nI (n := i) (by omega) (by decide)) dM_goesOn_62 (pc' := 63) rfl ?_
        rw [nI_clamp (n := i) (by omega)]
        refine vv_iinc cx dM_goesOn_63 rfl pq_n1 (pc' := 66) rfl ?_
        refine vv_goto cx dM_goesOn_66 (tgt := 44) (by decide) ?_
        refine ih (i + 1) _ (by omega) (g1.trans (pq_but.up (by decide))) (by rw [va_up_ne _ _ (by decide)]; exact g2) (fun j hj => by rw [va_up_ne _ _ (by decide)]; exact g3 j hj) (fun j hj => ?_)
        by_cases e9 : j = i
        · subst e9; rw [va_up_self, pk_us, g1 121 (by decide)]
        · rw [va_up_self, pk_un e9]; exact g4 j (by omega)
  have hgo : ¬ pq_boundb W n w lf k bs = true →  VV p l e rM_goesOn s m [.ref (g.2.2 116), .int (nI k)].toArray below meth c (vx_MQ below (pq_Qi g (fun r h9 => (r = 0 ∧ pq_boundb W n w lf k bs = true ∧ h9 = h) ∨ (r = 1 ∧ ¬ pq_boundb W n w lf k bs = true ∧ ¬ pq_wd n w lf = 0 ∧ h9 = h) ∨ (r = 0 ∧ ¬ pq_boundb W n w lf k bs = true ∧ pq_wd n w lf = 0 ∧ pq_but [116, 122] h h9 ∧ h9 116 8 = nI k ∧ (∀ j, j ≠ 8 → h9 116 j = h 116 j) ∧ ∀ i, i < 5 * k → h9 122 i = h 121 i)) s.heap.size) (pq_Qx g (pq_no) s.heap.size) [.ref (g.2.2 116), .int (nI k)].toArray s 0 0 (pq_A g s.heap.size)) g 0 0 h 25 [some (.ref (g.2.2 116)), some (.int (nI k)), none] [] := by
    intro hnb
    refine vv_aload_n cx dM_goesOn_25 rfl rfl (pc' := 26) rfl ?_
    refine vv_iconst cx dM_goesOn_26 (v := 5) (by decide) (pc' := 27) rfl ?_
    refine vv_iload_n cx dM_goesOn_27 rfl rfl (pc' := 28) rfl ?_
    refine vv_imul cx dM_goesOn_28 (pc' := 29) rfl ?_
    rw [e5]
    refine cc_Vi cx hX (tM_isNothingLeft l g h (5 * k) lf hs (by omega) hl9 hlf) kM_isNothingLeft ww_688 rfl rfl ⟨Nat.le_of_ble_eq_true rfl, Nat.le_of_ble_eq_true rfl⟩ 116 (by decide) sh_116 rfl rfl rfl rfl (Nat.le_of_ble_eq_true rfl) rfl ⟨Nat.le_of_ble_eq_true rfl, Nat.le_of_ble_eq_true rfl⟩ dM_goesOn_29 (pc' := 32) rfl (fun _ _ q => q.elim) (fun r29 h29 q29 => ?_)
    obtain ⟨rfl, q29⟩ := q29
    rw [pq_wd_iff hw1] at q29
    refine vv_if_ne cx dM_goesOn_32 (tgt := 37) (by decide) (pc' := 35) rfl (fun c32 => ?_) (fun c32 => ?_)
    · refine vv_aload_n cx dM_goesOn_37 rfl rfl (pc' := 38) rfl ?_
      refine vv_iload_n cx dM_goesOn_38 rfl rfl (pc' := 39) rfl ?_
      refine vv_putI cx (C := RM) (T := TM) (NN := 15) 116 8 (by decide) sh_116 rfl rfl (by decide) lyM tyM tyM_ok nmM rfl rfl rfl ww_562 dM_goesOn_39 (pc' := 42) rfl ?_
      refine vv_iconst cx dM_goesOn_42 (v := 0) (by decide) (pc' := 43) rfl ?_
      refine vv_istore_n cx dM_goesOn_43 rfl (Nat.le_of_ble_eq_true rfl) (pc' := 44) rfl ?_
      exact cp hnb (q29.t c32) (5 * k) 0 _ (by omega) (pq_but.up (by decide)) (by rw [va_up_self, pk_us]) (fun j hj => by rw [va_up_self, pk_un hj]) (fun j hj => absurd hj (by omega))
    · refine vv_iconst cx dM_goesOn_35 (v := 1) (by decide) (pc' := 36) rfl ?_
      refine vv_zret cx hr hlocks dM_goesOn_36 rfl (Nat.le_of_ble_eq_true rfl) (Nat.le_of_ble_eq_true rfl) ?_
      exact Or.inr (Or.inl ⟨rfl, hnb, q29.f c32, rfl⟩)
  refine vv_aload_n cx dM_goesOn_0 rfl rfl (pc' := 1) rfl ?_
  refine vv_getI cx (C := RM) (T := TM) (NN := 15) 116 8 (by decide) sh_116 rfl rfl (by decide) lyM ww_562 dM_goesOn_1 (pc' := 4) rfl ?_
  rw [hbs8]
  refine vv_if_lt cx dM_goesOn_4 (tgt := 25) (by decide) (pc' := 7) rfl (fun c4 => ?_) (fun c4 => ?_)
  · refine hgo ?_
    rw [(pq_bsI_neg hbs).mp c4]
    exact (fun q => nomatch q)
  · obtain ⟨b, rfl⟩ : ∃ b, bs = some b := Option.ne_none_iff_exists'.mp (fun q => c4 ((pq_bsI_neg hbs).mpr q))
    have hb30 := hbs b rfl
    refine vv_iload_n cx dM_goesOn_7 rfl rfl (pc' := 8) rfl ?_
    refine vv_aload_n cx dM_goesOn_8 rfl rfl (pc' := 9) rfl ?_
    refine vv_iconst cx dM_goesOn_9 (v := 5) (by decide) (pc' := 10) rfl ?_
    refine vv_iload_n cx dM_goesOn_10 rfl rfl (pc' := 11) rfl ?_
    refine vv_imul cx dM_goesOn_11 (pc' := 12) rfl ?_
    rw [e5]
    refine cc_Vi cx hX (tM_sheetsFor l g h (5 * k) lf hs (by omega) hl9 hlf) kM_sheetsFor ww_684 rfl rfl ⟨Nat.le_of_ble_eq_true rfl, Nat.le_of_ble_eq_true rfl⟩ 116 (by decide) sh_116 rfl rfl rfl rfl (Nat.le_of_ble_eq_true rfl) rfl ⟨Nat.le_of_ble_eq_true rfl, Nat.le_of_ble_eq_true rfl⟩ dM_goesOn_12 (pc' := 15) rfl (fun _ _ q => q.elim) (fun r12 h12 q12 => ?_)
    obtain ⟨rfl, rfl⟩ := q12
    refine vv_iadd cx dM_goesOn_15 (pc' := 16) rfl ?_
    refine vv_aload_n cx dM_goesOn_16 rfl rfl (pc' := 17) rfl ?_
    refine vv_getI cx (C := RM) (T := TM) (NN := 15) 116 8 (by decide) sh_116 rfl rfl (by decide) lyM ww_562 dM_goesOn_17 (pc' := 20) rfl ?_
    rw [hbs8, nI_add]
    refine vv_icmp_lt cx dM_goesOn_20 (tgt := 25) (by decide) (pc' := 23) rfl (fun c20 => ?_) (fun c20 => ?_)
    · exact hgo (fun q => nI_nlt (pq_boundb_iff.mp q) (by omega) c20)
    · refine vv_iconst cx dM_goesOn_23 (v := 0) (by decide) (pc' := 24) rfl ?_
      refine vv_zret cx hr hlocks dM_goesOn_24 rfl (Nat.le_of_ble_eq_true rfl) (Nat.le_of_ble_eq_true rfl) ?_
      exact Or.inl ⟨rfl, pq_boundb_iff.mpr (Nat.le_of_not_lt (fun q => c20 (nI_lt q (by omega)))), rfl⟩

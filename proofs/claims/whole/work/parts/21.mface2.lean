/-! part 21: the reference's face: column, bound, designed, gap, cut, over -/
def pq_md (h : pq_H) (bs : Option Nat) (best : Nat → Nat → Nat) : Prop := h 116 8 = pq_bsI bs ∧ ∀ b, bs = some b → b ≤ 30 ∧ ∀ j, j < b → pq_sub h 122 (5 * j) (best j)
theorem pq_bsI_neg {bs : Option Nat} (hb : ∀ b, bs = some b → b ≤ 30) : (pq_bsI bs < 0 ↔ bs = none) := by
  cases bs with
  | none => exact ⟨fun _ => rfl, fun _ => by decide⟩
  | some b => exact ⟨fun q => absurd q (nI_pos (by have := hb b rfl; omega)), fun q => nomatch q⟩
theorem pq_subI {a b c : Int32} : a - b - c = a - (b + c) := by
  apply Int32.toBitVec_inj.mp
  show a.toBitVec - b.toBitVec - c.toBitVec = a.toBitVec - (b.toBitVec + c.toBitVec)
  rw [BitVec.sub_sub]
set_option maxRecDepth 100000 in
set_option maxHeartbeats 4000000 in
theorem tM_column (l : Launch) (g : pq_G) (h : pq_H) {W n : Nat} {w nm pr : Nat → Nat} (hs : pq_mo h W n w nm pr) : XI l yM_column wM_column rM_column g 0 0 [.ref (g.2.2 116)] h (fun r h9 => r = nI (pq_col W n w nm pr).1 ∧ pq_fc (pq_th 0 h) h9) (pq_no) := by
  refine XI.of (cc := cM_column) (maxL := 1) (ret := (some .int)) (by decide +kernel) (by simp [Value.category]) (Nat.le_of_ble_eq_true rfl) ?_
  intro p e s m below meth c cx hX hr hlocks hex
  refine vv_aload_n cx dM_column_0 rfl rfl (pc' := 1) rfl ?_
  refine vv_iconst cx dM_column_1 (v := 0) (by decide) (pc' := 2) rfl ?_
  refine vv_putI cx (C := RM) (T := TM) (NN := 15) 116 0 (by decide) sh_116 rfl rfl (by decide) lyM tyM tyM_ok nmM rfl rfl rfl ww_554 dM_column_2 (pc' := 5) rfl ?_
  refine vv_aload_n cx dM_column_5 rfl rfl (pc' := 6) rfl ?_
  refine cc_Vi cx hX (tM_findColumn l g (pq_th 0 h) hs.th) kM_findColumn ww_639 rfl rfl ⟨Nat.le_of_ble_eq_true rfl, Nat.le_of_ble_eq_true rfl⟩ 116 (by decide) sh_116 rfl rfl rfl rfl (Nat.le_of_ble_eq_true rfl) rfl ⟨Nat.le_of_ble_eq_true rfl, Nat.le_of_ble_eq_true rfl⟩ dM_column_6 (pc' := 9) rfl (fun _ _ q => q.elim) (fun r6 h6 q6 => ?_)
  refine vv_iret cx hr hlocks dM_column_9 (Nat.le_of_ble_eq_true rfl) (Nat.le_of_ble_eq_true rfl) ?_
  exact ⟨q6.1, q6.2.2⟩
set_option maxRecDepth 100000 in
set_option maxHeartbeats 4000000 in
theorem tM_columnOf (l : Launch) (g : pq_G) (h : pq_H) {W n : Nat} {w nm pr : Nat → Nat} (x : Int32) (hs : pq_mo h W n w nm pr) : XI l yM_columnOf wM_columnOf rM_columnOf g 0 0 [.ref (g.2.2 116), .int x] h (fun r h9 => (¬ (0 ≤ x ∧ x < nI n) ∧ h9 = pq_th 1 h) ∨ ((0 ≤ x ∧ x < nI n) ∧ ∃ i, x = nI i ∧ i < n ∧ r = nI ((pq_col W n w nm pr).2 i) ∧ pq_fc (pq_th 0 h) h9)) (pq_no) := by
  refine XI.of (cc := cM_columnOf) (maxL := 2) (ret := (some .int)) (by decide +kernel) (by simp [Value.category]) (Nat.le_of_ble_eq_true rfl) ?_
  intro p e s m below meth c cx hX hr hlocks hex
  have hn5 := hs.2.1.2.2
  have ph : ∀ a : Int32, pq_fl a (¬ (0 ≤ x ∧ x < nI n)) →  VV p l e rM_columnOf s m [.ref (g.2.2 116), .int x].toArray below meth c (vx_MQ below (pq_Qi g (fun r h9 => (¬ (0 ≤ x ∧ x < nI n) ∧ h9 = pq_th 1 h) ∨ ((0 ≤ x ∧ x < nI n) ∧ ∃ i, x = nI i ∧ i < n ∧ r = nI ((pq_col W n w nm pr).2 i) ∧ pq_fc (pq_th 0 h) h9)) s.heap.size) (pq_Qx g (pq_no) s.heap.size) [.ref (g.2.2 116), .int x].toArray s 0 0 (pq_A g s.heap.size)) g 0 0 h 14 [some (.ref (g.2.2 116)), some (.int x)] [.int a, .ref (g.2.2 116)] := by
    intro a ha
    refine vv_iconst cx dM_columnOf_14 (v := 0) (by decide) (pc' := 15) rfl ?_
    refine vv_iconst cx dM_columnOf_15 (v := 0) (by decide) (pc' := 16) rfl ?_
    refine vv_iconst cx dM_columnOf_16 (v := 0) (by decide) (pc' := 17) rfl ?_
    refine cc_Vi cx hX (tM_throwing l g h a 0 0 0) kM_throwing ww_611 rfl rfl ⟨Nat.le_of_ble_eq_true rfl, Nat.le_of_ble_eq_true rfl⟩ 116 (by decide) sh_116 rfl rfl rfl rfl (Nat.le_of_ble_eq_true rfl) rfl ⟨Nat.le_of_ble_eq_true rfl, Nat.le_of_ble_eq_true rfl⟩ dM_columnOf_17 (pc' := 20) rfl (fun _ _ q => q.elim) (fun r17 h17 q17 => ?_)
    obtain ⟨rfl, q17⟩ := q17
    refine vv_if_eq cx dM_columnOf_20 (tgt := 25) (by decide) (pc' := 23) rfl (fun c20 => ?_) (fun c20 => ?_)
    · have hz : a = 0 := (pq_thr_all (q17.nt c20)).1
      subst hz
      have hix := ha.nt rfl
      obtain ⟨i, hi, hxi⟩ := pq_idx hix.1 hix.2 (by omega)
      rw [pq_thr0, show va_up h 116 (upd (h 116) 0 0) = pq_th 0 h from rfl]
      refine vv_aload_n cx dM_columnOf_25 rfl rfl (pc' := 26) rfl ?_
      refine cc_Vi cx hX (tM_findColumn l g (pq_th 0 h) hs.th) kM_findColumn ww_639 rfl rfl ⟨Nat.le_of_ble_eq_true rfl, Nat.le_of_ble_eq_true rfl⟩ 116 (by decide) sh_116 rfl rfl rfl rfl (Nat.le_of_ble_eq_true rfl) rfl ⟨Nat.le_of_ble_eq_true rfl, Nat.le_of_ble_eq_true rfl⟩ dM_columnOf_26 (pc' := 29) rfl (fun _ _ q => q.elim) (fun r26 h26 q26 => ?_)
      refine vv_pop cx dM_columnOf_29 rfl (pc' := 30) rfl ?_
      refine vv_aload_n cx dM_columnOf_30 rfl rfl (pc' := 31) rfl ?_
      refine vv_getR cx (C := RM) (T := TM) (NN := 15) 116 7 _ (by decide) sh_116 rfl rfl (by decide) lyM ww_561 dM_columnOf_31 (pc' := 34) rfl ?_
      refine vv_sipush cx dM_columnOf_34 (v := 155) (by decide) (pc' := 37) rfl ?_
      refine vv_iload_n cx dM_columnOf_37 rfl rfl (pc' := 38) rfl ?_
      refine vv_iadd cx dM_columnOf_38 (pc' := 39) rfl ?_
      rw [show (155 : Int32) + x = nI (155 + i) by rw [hxi]; exact nI_add 155 i]
      refine vv_iald cx _ (by decide) sh_121 (vp_in_nI (n := 155 + i) (by omega) (by decide)) dM_columnOf_39 (pc' := 40) rfl ?_
      rw [nI_clamp (n := 155 + i) (by omega)]
      refine vv_iret cx hr hlocks dM_columnOf_40 (Nat.le_of_ble_eq_true rfl) (Nat.le_of_ble_eq_true rfl) ?_
      exact Or.inr ⟨hix, i, hxi, hi, q26.2.1 i (by omega), q26.2.2⟩
    · refine vv_iconst cx dM_columnOf_23 (v := 0) (by decide) (pc' := 24) rfl ?_
      refine vv_iret cx hr hlocks dM_columnOf_24 (Nat.le_of_ble_eq_true rfl) (Nat.le_of_ble_eq_true rfl) ?_
      have hz : ¬ a = 0 := fun q => absurd (q17.t c20) (by rw [q]; decide)
      rw [pq_thr1 hz]
      exact Or.inl ⟨ha.t hz, rfl⟩
  refine vv_aload_n cx dM_columnOf_0 rfl rfl (pc' := 1) rfl ?_
  refine vv_aload_n cx dM_columnOf_1 rfl rfl (pc' := 2) rfl ?_
  refine vv_iload_n cx dM_columnOf_2 rfl rfl (pc' := 3) rfl ?_
  refine cc_Vi cx hX (tM_isOrder l g h x hs) kM_isOrder ww_627 rfl rfl ⟨Nat.le_of_ble_eq_true rfl, Nat.le_of_ble_eq_true rfl⟩ 116 (by decide) sh_116 rfl rfl rfl rfl (Nat.le_of_ble_eq_true rfl) rfl ⟨Nat.le_of_ble_eq_true rfl, Nat.le_of_ble_eq_true rfl⟩ dM_columnOf_3 (pc' := 6) rfl (fun _ _ q => q.elim) (fun r3 h3 q3 => ?_)
  obtain ⟨rfl, q3⟩ := q3
  refine vv_if_ne cx dM_columnOf_6 (tgt := 13) (by decide) (pc' := 9) rfl (fun c6 => ?_) (fun c6 => ?_)
  · refine vv_iconst cx dM_columnOf_13 (v := 0) (by decide) (pc' := 14) rfl ?_
    first | exact ph 1 (Or.inl ⟨rfl, q3.f c6⟩) | exact ph 0 (Or.inr ⟨rfl, fun z => z (q3.t c6)⟩)
  · refine vv_iconst cx dM_columnOf_9 (v := 1) (by decide) (pc' := 10) rfl ?_
    refine vv_goto cx dM_columnOf_10 (tgt := 14) (by decide) ?_
    first | exact ph 1 (Or.inl ⟨rfl, q3.f c6⟩) | exact ph 0 (Or.inr ⟨rfl, fun z => z (q3.t c6)⟩)
set_option maxRecDepth 100000 in
set_option maxHeartbeats 4000000 in
theorem tM_boundNow (l : Launch) (g : pq_G) (h : pq_H) {W n : Nat} {w nm pr : Nat → Nat} (hs : pq_mo h W n w nm pr) : XI l yM_boundNow wM_boundNow rM_boundNow g 0 0 [.ref (g.2.2 116)] h (fun r h9 => r = nI (pq_up (pq_price n pr nm) (pq_col W n w nm pr).1) ∧ pq_fc h h9) (pq_no) := by
  refine XI.of (cc := cM_boundNow) (maxL := 4) (ret := (some .int)) (by decide +kernel) (by simp [Value.category]) (Nat.le_of_ble_eq_true rfl) ?_
  intro p e s m below meth c cx hX hr hlocks hex
  have hn5 := hs.2.1.2.2
  have hbb : ∀ i, i < 5 → nm i ≤ 6 ∧ pr i ≤ 1000 := fun i hi => (hs.2.2.1 i hi).2
  have hcb := pq_col_bd (W := W) (w := w) hn5 hbb
  have hpb : pq_price n pr nm ≤ 30000 := Nat.le_trans (pq_sum_bd (B := 6000) (fun i hi => Nat.le_trans (Nat.mul_le_mul (hbb i (by omega)).1 (hbb i (by omega)).2) (by decide))) (by omega)
  have loop : ∀ (h1 : pq_H), pq_fc h h1 → ∀ (d i : Nat), i + d = n → VV p l e rM_boundNow s m [.ref (g.2.2 116)].toArray below meth c (vx_MQ below (pq_Qi g (fun r h9 => r = nI (pq_up (pq_price n pr nm) (pq_col W n w nm pr).1) ∧ pq_fc h h9) s.heap.size) (pq_Qx g (pq_no) s.heap.size) [.ref (g.2.2 116)].toArray s 0 0 (pq_A g s.heap.size)) g 0 0 h1 9 [some (.ref (g.2.2 116)), some (.int (nI (pq_col W n w nm pr).1)), some (.int (nI (pq_sum (fun i => nm i * pr i) i))), some (.int (nI i))] [] := by
    intro h1 hfc d
    have hs1 := hs.fc hfc
    have hn := hs1.1.2.1
    induction d with
    | zero =>
      intro i hi
      have e1 : i = n := by omega
      subst e1
      refine vv_iload_n cx dM_boundNow_9 rfl rfl (pc' := 10) rfl ?_
      refine vv_aload_n cx dM_boundNow_10 rfl rfl (pc' := 11) rfl ?_
      refine vv_getI cx (C := RM) (T := TM) (NN := 15) 116 2 (by decide) sh_116 rfl rfl (by decide) lyM ww_556 dM_boundNow_11 (pc' := 14) rfl ?_
      refine vv_icmp_ge cx dM_boundNow_14 (tgt := 39) (by decide) (pc' := 17) rfl (fun c14 => ?_) (fun c14 => ?_)
      · refine vv_iload_n cx dM_boundNow_39 rfl rfl (pc' := 40) rfl ?_
        refine vv_if_ne cx dM_boundNow_40 (tgt := 47) (by decide) (pc' := 43) rfl (fun c40 => ?_) (fun c40 => ?_)
        · have hc0 : 0 < (pq_col W i w nm pr).1 := Nat.pos_of_ne_zero (fun q => c40 (by rw [q]; rfl))
          refine vv_iload_n cx dM_boundNow_47 rfl rfl (pc' := 48) rfl ?_
          refine vv_iload_n cx dM_boundNow_48 rfl rfl (pc' := 49) rfl ?_
          refine vv_iadd cx dM_boundNow_49 (pc' := 50) rfl ?_
          refine vv_iconst cx dM_boundNow_50 (v := 1) (by decide) (pc' := 51) rfl ?_
          refine vv_isub cx dM_boundNow_51 (pc' := 52) rfl ?_
          refine vv_iload_n cx dM_boundNow_52 rfl rfl (pc' := 53) rfl ?_
          refine vv_idiv cx dM_boundNow_53 (nI_ne0 hc0 (by omega)) (pc' := 54) rfl ?_
          refine vv_iret cx hr hlocks dM_boundNow_54 (Nat.le_of_ble_eq_true rfl) (Nat.le_of_ble_eq_true rfl) ?_
          refine ⟨?_, hfc⟩
          first
            | (have hc0 : (pq_col W i w nm pr).1 = 0 := Decidable.byContradiction (fun q => nI_ne0 (Nat.pos_of_ne_zero q) (by omega) c40)
               unfold pq_up; rw [if_pos hc0]; rfl)
            | (unfold pq_up
               rw [if_neg (by omega), nI_add, show (1 : Int32) = nI 1 from rfl, pk_sub (by omega)]
               exact pk_div (by have : pq_sum (fun i => nm i * pr i) i ≤ 30000 := hpb; omega) hc0 (by omega))
        · refine vv_iconst cx dM_boundNow_43 (v := 0) (by decide) (pc' := 44) rfl ?_
          refine vv_goto cx dM_boundNow_44 (tgt := 54) (by decide) ?_
          refine vv_iret cx hr hlocks dM_boundNow_54 (Nat.le_of_ble_eq_true rfl) (Nat.le_of_ble_eq_true rfl) ?_
          refine ⟨?_, hfc⟩
          first
            | (have hc0 : (pq_col W i w nm pr).1 = 0 := Decidable.byContradiction (fun q => nI_ne0 (Nat.pos_of_ne_zero q) (by omega) c40)
               unfold pq_up; rw [if_pos hc0]; rfl)
            | (unfold pq_up
               rw [if_neg (by omega), nI_add, show (1 : Int32) = nI 1 from rfl, pk_sub (by omega)]
               exact pk_div (by have : pq_sum (fun i => nm i * pr i) i ≤ 30000 := hpb; omega) hc0 (by omega))
      · exact absurd (Int32.le_refl _) (by rw [hn] at c14; exact c14)
    | succ d ih =>
      intro i hi
      have hlt : i < n := by omega
      refine vv_iload_n cx dM_boundNow_9 rfl rfl (pc' := 10) rfl ?_
      refine vv_aload_n cx dM_boundNow_10 rfl rfl (pc' := 11) rfl ?_
      refine vv_getI cx (C := RM) (T := TM) (NN := 15) 116 2 (by decide) sh_116 rfl rfl (by decide) lyM ww_556 dM_boundNow_11 (pc' := 14) rfl ?_
      refine vv_icmp_ge cx dM_boundNow_14 (tgt := 39) (by decide) (pc' := 17) rfl (fun c14 => ?_) (fun c14 => ?_)
      · exact absurd (by rw [hn] at c14; exact c14) (nI_ge hlt (by omega))
      · refine vv_iload_n cx dM_boundNow_17 rfl rfl (pc' := 18) rfl ?_
        refine vv_aload_n cx dM_boundNow_18 rfl rfl (pc' := 19) rfl ?_
        refine vv_getR cx (C := RM) (T := TM) (NN := 15) 116 4 _ (by decide) sh_116 rfl rfl (by decide) lyM ww_558 dM_boundNow_19 (pc' := 22) rfl ?_
        refine vv_iload_n cx dM_boundNow_22 rfl rfl (pc' := 23) rfl ?_
        refine vv_iald cx _ (by decide) sh_118 (vp_in_nI (by omega) (by decide)) dM_boundNow_23 (pc' := 24) rfl ?_
        refine vv_aload_n cx dM_boundNow_24 rfl rfl (pc' := 25) rfl ?_
        refine vv_getR cx (C := RM) (T := TM) (NN := 15) 116 5 _ (by decide) sh_116 rfl rfl (by decide) lyM ww_559 dM_boundNow_25 (pc' := 28) rfl ?_
        refine vv_iload_n cx dM_boundNow_28 rfl rfl (pc' := 29) rfl ?_
        refine vv_iald cx _ (by decide) sh_119 (vp_in_nI (by omega) (by decide)) dM_boundNow_29 (pc' := 30) rfl ?_
        rw [nI_clamp (n := i) (by omega), hs1.1.2.2.2.1 i (by omega), hs1.1.2.2.2.2 i (by omega)]
        refine vv_imul cx dM_boundNow_30 (pc' := 31) rfl ?_
        rw [pk_mul]
        refine vv_iadd cx dM_boundNow_31 (pc' := 32) rfl ?_
        rw [nI_add, show pq_sum (fun i => nm i * pr i) i + nm i * pr i = pq_sum (fun i => nm i * pr i) (i + 1) from rfl]
        refine vv_istore_n cx dM_boundNow_32 rfl (Nat.le_of_ble_eq_true rfl) (pc' := 33) rfl ?_
        refine vv_iinc cx dM_boundNow_33 rfl pq_n1 (pc' := 36) rfl ?_
        refine vv_goto cx dM_boundNow_36 (tgt := 9) (by decide) ?_
        exact ih (i + 1) (by omega)
  refine vv_aload_n cx dM_boundNow_0 rfl rfl (pc' := 1) rfl ?_
  refine cc_Vi cx hX (tM_findColumn l g h hs) kM_findColumn ww_639 rfl rfl ⟨Nat.le_of_ble_eq_true rfl, Nat.le_of_ble_eq_true rfl⟩ 116 (by decide) sh_116 rfl rfl rfl rfl (Nat.le_of_ble_eq_true rfl) rfl ⟨Nat.le_of_ble_eq_true rfl, Nat.le_of_ble_eq_true rfl⟩ dM_boundNow_1 (pc' := 4) rfl (fun _ _ q => q.elim) (fun r1 h1 q1 => ?_)
  obtain ⟨rfl, q1, q2⟩ := q1
  refine vv_istore_n cx dM_boundNow_4 rfl (Nat.le_of_ble_eq_true rfl) (pc' := 5) rfl ?_
  refine vv_iconst cx dM_boundNow_5 (v := 0) (by decide) (pc' := 6) rfl ?_
  refine vv_istore_n cx dM_boundNow_6 rfl (Nat.le_of_ble_eq_true rfl) (pc' := 7) rfl ?_
  refine vv_iconst cx dM_boundNow_7 (v := 0) (by decide) (pc' := 8) rfl ?_
  refine vv_istore_n cx dM_boundNow_8 rfl (Nat.le_of_ble_eq_true rfl) (pc' := 9) rfl ?_
  exact loop h1 q2 n 0 (by omega)
set_option maxRecDepth 100000 in
set_option maxHeartbeats 4000000 in
theorem tM_bound (l : Launch) (g : pq_G) (h : pq_H) {W n : Nat} {w nm pr : Nat → Nat} (hs : pq_mo h W n w nm pr) : XI l yM_bound wM_bound rM_bound g 0 0 [.ref (g.2.2 116)] h (fun r h9 => r = nI (pq_up (pq_price n pr nm) (pq_col W n w nm pr).1) ∧ pq_fc (pq_th 0 h) h9) (pq_no) := by
  refine XI.of (cc := cM_bound) (maxL := 1) (ret := (some .int)) (by decide +kernel) (by simp [Value.category]) (Nat.le_of_ble_eq_true rfl) ?_
  intro p e s m below meth c cx hX hr hlocks hex
  refine vv_aload_n cx dM_bound_0 rfl rfl (pc' := 1) rfl ?_
  refine vv_iconst cx dM_bound_1 (v := 0) (by decide) (pc' := 2) rfl ?_
  refine vv_putI cx (C := RM) (T := TM) (NN := 15) 116 0 (by decide) sh_116 rfl rfl (by decide) lyM tyM tyM_ok nmM rfl rfl rfl ww_554 dM_bound_2 (pc' := 5) rfl ?_
  refine vv_aload_n cx dM_bound_5 rfl rfl (pc' := 6) rfl ?_
  refine cc_Vi cx hX (tM_boundNow l g (pq_th 0 h) hs.th) kM_boundNow ww_667 rfl rfl ⟨Nat.le_of_ble_eq_true rfl, Nat.le_of_ble_eq_true rfl⟩ 116 (by decide) sh_116 rfl rfl rfl rfl (Nat.le_of_ble_eq_true rfl) rfl ⟨Nat.le_of_ble_eq_true rfl, Nat.le_of_ble_eq_true rfl⟩ dM_bound_6 (pc' := 9) rfl (fun _ _ q => q.elim) (fun r6 h6 q6 => ?_)
  refine vv_iret cx hr hlocks dM_bound_9 (Nat.le_of_ble_eq_true rfl) (Nat.le_of_ble_eq_true rfl) ?_
  exact q6
set_option maxRecDepth 100000 in
set_option maxHeartbeats 4000000 in
theorem tM_designed (l : Launch) (g : pq_G) (h : pq_H) (x : Int32) : XI l yM_designed wM_designed rM_designed g 0 0 [.ref (g.2.2 116), .int x] h (fun r h9 => (¬ (0 ≤ x ∧ x ≤ 1) ∧ h9 = pq_th 1 h) ∨ ((0 ≤ x ∧ x ≤ 1) ∧ h 116 10 = 0 ∧ h9 = pq_th 2 h) ∨ ((0 ≤ x ∧ x ≤ 1) ∧ ¬ h 116 10 = 0 ∧ h9 = pq_th 0 h ∧ ((x = 1 ∧ r = h 116 12) ∨ (¬ x = 1 ∧ h 116 11 = 0 ∧ r = 0) ∨ (¬ x = 1 ∧ ¬ h 116 11 = 0 ∧ r = 1)))) (pq_no) := by
  refine XI.of (cc := cM_designed) (maxL := 2) (ret := (some .int)) (by decide +kernel) (by simp [Value.category]) (Nat.le_of_ble_eq_true rfl) ?_
  intro p e s m below meth c cx hX hr hlocks hex
  have ph2 : ∀ a b : Int32, pq_fl a (¬ (0 ≤ x ∧ x ≤ 1)) → pq_fl b (h 116 10 = 0) →  VV p l e rM_designed s m [.ref (g.2.2 116), .int x].toArray below meth c (vx_MQ below (pq_Qi g (fun r h9 => (¬ (0 ≤ x ∧ x ≤ 1) ∧ h9 = pq_th 1 h) ∨ ((0 ≤ x ∧ x ≤ 1) ∧ h 116 10 = 0 ∧ h9 = pq_th 2 h) ∨ ((0 ≤ x ∧ x ≤ 1) ∧ ¬ h 116 10 = 0 ∧ h9 = pq_th 0 h ∧ ((x = 1 ∧ r = h 116 12) ∨ (¬ x = 1 ∧ h 116 11 = 0 ∧ r = 0) ∨ (¬ x = 1 ∧ ¬ h 116 11 = 0 ∧ r = 1)))) s.heap.size) (pq_Qx g (pq_no) s.heap.size) [.ref (g.2.2 116), .int x].toArray s 0 0 (pq_A g s.heap.size)) g 0 0 h 27 [some (.ref (g.2.2 116)), some (.int x)] [.int b, .int a, .ref (g.2.2 116)] := by
    intro a b ha hb
    refine vv_iconst cx dM_designed_27 (v := 0) (by decide) (pc' := 28) rfl ?_
    refine vv_iconst cx dM_designed_28 (v := 0) (by decide) (pc' := 29) rfl ?_
    refine cc_Vi cx hX (tM_throwing l g h a b 0 0) kM_throwing ww_611 rfl rfl ⟨Nat.le_of_ble_eq_true rfl, Nat.le_of_ble_eq_true rfl⟩ 116 (by decide) sh_116 rfl rfl rfl rfl (Nat.le_of_ble_eq_true rfl) rfl ⟨Nat.le_of_ble_eq_true rfl, Nat.le_of_ble_eq_true rfl⟩ dM_designed_29 (pc' := 32) rfl (fun _ _ q => q.elim) (fun r29 h29 q29 => ?_)
    obtain ⟨rfl, q29⟩ := q29
    refine vv_if_eq cx dM_designed_32 (tgt := 37) (by decide) (pc' := 35) rfl (fun c32 => ?_) (fun c32 => ?_)
    · obtain ⟨hz1, hz2, -⟩ := pq_thr_all (q29.nt c32)
      subst hz1 hz2
      rw [pq_thr0, show va_up h 116 (upd (h 116) 0 0) = pq_th 0 h from rfl]
      refine vv_iload_n cx dM_designed_37 rfl rfl (pc' := 38) rfl ?_
      refine vv_iconst cx dM_designed_38 (v := 1) (by decide) (pc' := 39) rfl ?_
      refine vv_icmp_ne cx dM_designed_39 (tgt := 49) (by decide) (pc' := 42) rfl (fun c39 => ?_) (fun c39 => ?_)
      · refine vv_aload_n cx dM_designed_49 rfl rfl (pc' := 50) rfl ?_
        refine vv_getI cx (C := RM) (T := TM) (NN := 15) 116 11 (by decide) sh_116 rfl rfl (by decide) lyM ww_565 dM_designed_50 (pc' := 53) rfl ?_
        rw [pq_th_j (by decide)]
        refine vv_if_eq cx dM_designed_53 (tgt := 60) (by decide) (pc' := 56) rfl (fun c53 => ?_) (fun c53 => ?_)
        · refine vv_iconst cx dM_designed_60 (v := 0) (by decide) (pc' := 61) rfl ?_
          refine vv_iret cx hr hlocks dM_designed_61 (Nat.le_of_ble_eq_true rfl) (Nat.le_of_ble_eq_true rfl) ?_
          refine Or.inr (Or.inr ⟨ha.nt rfl, hb.f rfl, rfl, ?_⟩)
          first | exact Or.inl ⟨c39, rfl⟩ | exact Or.inr (Or.inl ⟨c39, c53, rfl⟩) | exact Or.inr (Or.inr ⟨c39, c53, rfl⟩)
        · refine vv_iconst cx dM_designed_56 (v := 1) (by decide) (pc' := 57) rfl ?_
          refine vv_goto cx dM_designed_57 (tgt := 61) (by decide) ?_
          refine vv_iret cx hr hlocks dM_designed_61 (Nat.le_of_ble_eq_true rfl) (Nat.le_of_ble_eq_true rfl) ?_
          refine Or.inr (Or.inr ⟨ha.nt rfl, hb.f rfl, rfl, ?_⟩)
          first | exact Or.inl ⟨c39, rfl⟩ | exact Or.inr (Or.inl ⟨c39, c53, rfl⟩) | exact Or.inr (Or.inr ⟨c39, c53, rfl⟩)
      · refine vv_aload_n cx dM_designed_42 rfl rfl (pc' := 43) rfl ?_
        refine vv_getI cx (C := RM) (T := TM) (NN := 15) 116 12 (by decide) sh_116 rfl rfl (by decide) lyM ww_566 dM_designed_43 (pc' := 46) rfl ?_
        rw [pq_th_j (by decide)]
        refine vv_goto cx dM_designed_46 (tgt := 61) (by decide) ?_
        refine vv_iret cx hr hlocks dM_designed_61 (Nat.le_of_ble_eq_true rfl) (Nat.le_of_ble_eq_true rfl) ?_
        refine Or.inr (Or.inr ⟨ha.nt rfl, hb.f rfl, rfl, ?_⟩)
        first | exact Or.inl ⟨c39, rfl⟩ | exact Or.inr (Or.inl ⟨c39, c53, rfl⟩) | exact Or.inr (Or.inr ⟨c39, c53, rfl⟩)
    · refine vv_iconst cx dM_designed_35 (v := 0) (by decide) (pc' := 36) rfl ?_
      refine vv_iret cx hr hlocks dM_designed_36 (Nat.le_of_ble_eq_true rfl) (Nat.le_of_ble_eq_true rfl) ?_
      by_cases hz : a = 0
      · subst hz
        have hbz : ¬ b = 0 := fun q => absurd (q29.t c32) (by rw [q]; decide)
        rw [pq_thr2 hbz]
        exact Or.inr (Or.inl ⟨ha.nt rfl, hb.t hbz, rfl⟩)
      · rw [pq_thr1 hz]
        exact Or.inl ⟨ha.t hz, rfl⟩
  have ph1 : ∀ a : Int32, pq_fl a (¬ (0 ≤ x ∧ x ≤ 1)) →  VV p l e rM_designed s m [.ref (g.2.2 116), .int x].toArray below meth c (vx_MQ below (pq_Qi g (fun r h9 => (¬ (0 ≤ x ∧ x ≤ 1) ∧ h9 = pq_th 1 h) ∨ ((0 ≤ x ∧ x ≤ 1) ∧ h 116 10 = 0 ∧ h9 = pq_th 2 h) ∨ ((0 ≤ x ∧ x ≤ 1) ∧ ¬ h 116 10 = 0 ∧ h9 = pq_th 0 h ∧ ((x = 1 ∧ r = h 116 12) ∨ (¬ x = 1 ∧ h 116 11 = 0 ∧ r = 0) ∨ (¬ x = 1 ∧ ¬ h 116 11 = 0 ∧ r = 1)))) s.heap.size) (pq_Qx g (pq_no) s.heap.size) [.ref (g.2.2 116), .int x].toArray s 0 0 (pq_A g s.heap.size)) g 0 0 h 15 [some (.ref (g.2.2 116)), some (.int x)] [.int a, .ref (g.2.2 116)] := by
    intro a ha
    refine vv_aload_n cx dM_designed_15 rfl rfl (pc' := 16) rfl ?_
    refine vv_getI cx (C := RM) (T := TM) (NN := 15) 116 10 (by decide) sh_116 rfl rfl (by decide) lyM ww_564 dM_designed_16 (pc' := 19) rfl ?_
    refine vv_if_ne cx dM_designed_19 (tgt := 26) (by decide) (pc' := 22) rfl (fun c19 => ?_) (fun c19 => ?_)
    · refine vv_iconst cx dM_designed_26 (v := 0) (by decide) (pc' := 27) rfl ?_
      first | exact ph2 a 1 ha (Or.inl ⟨rfl, c19⟩) | exact ph2 a 0 ha (Or.inr ⟨rfl, c19⟩)
    · refine vv_iconst cx dM_designed_22 (v := 1) (by decide) (pc' := 23) rfl ?_
      refine vv_goto cx dM_designed_23 (tgt := 27) (by decide) ?_
      first | exact ph2 a 1 ha (Or.inl ⟨rfl, c19⟩) | exact ph2 a 0 ha (Or.inr ⟨rfl, c19⟩)
  refine vv_aload_n cx dM_designed_0 rfl rfl (pc' := 1) rfl ?_
  refine vv_iload_n cx dM_designed_1 rfl rfl (pc' := 2) rfl ?_
  refine vv_iconst cx dM_designed_2 (v := 0) (by decide) (pc' := 3) rfl ?_
  refine vv_iconst cx dM_designed_3 (v := 1) (by decide) (pc' := 4) rfl ?_
  refine cc_Si cx hX (tM_in l g h x 0 1) kM_in ww_608 rfl rfl ⟨Nat.le_of_ble_eq_true rfl, Nat.le_of_ble_eq_true rfl⟩ rfl rfl (Nat.le_of_ble_eq_true rfl) rfl ⟨Nat.le_of_ble_eq_true rfl, Nat.le_of_ble_eq_true rfl⟩ dM_designed_4 (pc' := 7) rfl (fun _ _ q => q.elim) (fun r4 h4 q4 => ?_)
  obtain ⟨rfl, q4⟩ := q4
  refine vv_if_ne cx dM_designed_7 (tgt := 14) (by decide) (pc' := 10) rfl (fun c7 => ?_) (fun c7 => ?_)
  · refine vv_iconst cx dM_designed_14 (v := 0) (by decide) (pc' := 15) rfl ?_
    first | exact ph1 1 (Or.inl ⟨rfl, q4.f c7⟩) | exact ph1 0 (Or.inr ⟨rfl, fun z => z (q4.t c7)⟩)
  · refine vv_iconst cx dM_designed_10 (v := 1) (by decide) (pc' := 11) rfl ?_
    refine vv_goto cx dM_designed_11 (tgt := 15) (by decide) ?_
    first | exact ph1 1 (Or.inl ⟨rfl, q4.f c7⟩) | exact ph1 0 (Or.inr ⟨rfl, fun z => z (q4.t c7)⟩)
set_option maxRecDepth 100000 in
set_option maxHeartbeats 4000000 in
theorem tM_gap (l : Launch) (g : pq_G) (h : pq_H) {W n : Nat} {w nm pr : Nat → Nat} (bs : Option Nat) (best : Nat → Nat → Nat) (hs : pq_mo h W n w nm pr) (hmd : pq_md h bs best) : XI l yM_gap wM_gap rM_gap g 0 0 [.ref (g.2.2 116)] h (fun r h9 => (bs = none ∧ h9 = pq_th 1 h) ∨ (¬ bs = none ∧ r = pq_bsI bs - nI (max (pq_up (pq_wd n w nm) W) (pq_up (pq_price n pr nm) (pq_col W n w nm pr).1)) ∧ pq_fc (pq_th 0 h) h9)) (pq_no) := by
  refine XI.of (cc := cM_gap) (maxL := 4) (ret := (some .int)) (by decide +kernel) (by simp [Value.category]) (Nat.le_of_ble_eq_true rfl) ?_
  intro p e s m below meth c cx hX hr hlocks hex
  have hn5 := hs.2.1.2.2
  have hW := hs.2.1.1
  have hbs : ∀ b, bs = some b → b ≤ 30 := fun b q => (hmd.2 b q).1
  have hXb : pq_wd n w nm ≤ 30000 := pq_wd_bd hn5 (fun i hi => (hs.2.2.1 i (by omega)).2.1) (fun i hi => (hs.2.2.1 i (by omega)).1)
  have hub : pq_up (pq_wd n w nm) W ≤ 30000 := Nat.le_trans pq_up_bd hXb
  have hbb : ∀ i, i < 5 → nm i ≤ 6 ∧ pr i ≤ 1000 := fun i hi => (hs.2.2.1 i hi).2
  have hpb : pq_price n pr nm ≤ 30000 := Nat.le_trans (pq_sum_bd (B := 6000) (fun i hi => Nat.le_trans (Nat.mul_le_mul (hbb i (by omega)).1 (hbb i (by omega)).2) (by decide))) (by omega)
  have hvb : pq_up (pq_price n pr nm) (pq_col W n w nm pr).1 ≤ 30000 := Nat.le_trans pq_up_bd hpb
  have hs0 : pq_mo (pq_th 0 h) W n w nm pr := hs.th
  have hn := hs0.1.2.1
  have loop : ¬ bs = none → ∀ (d i : Nat) (u3 : Option Value), i + d = n → VV p l e rM_gap s m [.ref (g.2.2 116)].toArray below meth c (vx_MQ below (pq_Qi g (fun r h9 => (bs = none ∧ h9 = pq_th 1 h) ∨ (¬ bs = none ∧ r = pq_bsI bs - nI (max (pq_up (pq_wd n w nm) W) (pq_up (pq_price n pr nm) (pq_col W n w nm pr).1)) ∧ pq_fc (pq_th 0 h) h9)) s.heap.size) (pq_Qx g (pq_no) s.heap.size) [.ref (g.2.2 116)].toArray s 0 0 (pq_A g s.heap.size)) g 0 0 (pq_th 0 h) 28 [some (.ref (g.2.2 116)), some (.int (nI (pq_sum (fun i => nm i * w i) i))), some (.int (nI i)), u3] [] := by
    intro hbn d
    induction d with
    | zero =>
      intro i u3 hi
      have e1 : i = n := by omega
      subst e1
      refine vv_iload_n cx dM_gap_28 rfl rfl (pc' := 29) rfl ?_
      refine vv_aload_n cx dM_gap_29 rfl rfl (pc' := 30) rfl ?_
      refine vv_getI cx (C := RM) (T := TM) (NN := 15) 116 2 (by decide) sh_116 rfl rfl (by decide) lyM ww_556 dM_gap_30 (pc' := 33) rfl ?_
      refine vv_icmp_ge cx dM_gap_33 (tgt := 58) (by decide) (pc' := 36) rfl (fun c33 => ?_) (fun c33 => ?_)
      · refine vv_iload_n cx dM_gap_58 rfl rfl (pc' := 59) rfl ?_
        refine vv_aload_n cx dM_gap_59 rfl rfl (pc' := 60) rfl ?_
        refine vv_getI cx (C := RM) (T := TM) (NN := 15) 116 1 (by decide) sh_116 rfl rfl (by decide) lyM ww_555 dM_gap_60 (pc' := 63) rfl ?_
        rw [hs0.1.1]
        refine vv_iadd cx dM_gap_63 (pc' := 64) rfl ?_
        refine vv_iconst cx dM_gap_64 (v := 1) (by decide) (pc' := 65) rfl ?_
        refine vv_isub cx dM_gap_65 (pc' := 66) rfl ?_
        refine vv_aload_n cx dM_gap_66 rfl rfl (pc' := 67) rfl ?_
        refine vv_getI cx (C := RM) (T := TM) (NN := 15) 116 1 (by decide) sh_116 rfl rfl (by decide) lyM ww_555 dM_gap_67 (pc' := 70) rfl ?_
        rw [hs0.1.1]
        refine vv_idiv cx dM_gap_70 (nI_ne0 (by omega) (by have := hs.2.1.2.1; omega)) (pc' := 71) rfl ?_
        rw [nI_add, show (1 : Int32) = nI 1 from rfl, pk_sub (by omega), pk_div (by have : pq_sum (fun j => nm j * w j) i ≤ 30000 := hXb; have := hs.2.1.2.1; omega) (by omega) (by have := hs.2.1.2.1; omega), show (pq_sum (fun j => nm j * w j) i + W - 1) / W = pq_up (pq_wd i w nm) W from (if_neg (by omega)).symm]
        refine vv_istore_n cx dM_gap_71 rfl (Nat.le_of_ble_eq_true rfl) (pc' := 72) rfl ?_
        refine vv_aload_n cx dM_gap_72 rfl rfl (pc' := 73) rfl ?_
        refine cc_Vi cx hX (tM_boundNow l g _ hs0) kM_boundNow ww_667 rfl rfl ⟨Nat.le_of_ble_eq_true rfl, Nat.le_of_ble_eq_true rfl⟩ 116 (by decide) sh_116 rfl rfl rfl rfl (Nat.le_of_ble_eq_true rfl) rfl ⟨Nat.le_of_ble_eq_true rfl, Nat.le_of_ble_eq_true rfl⟩ dM_gap_73 (pc' := 76) rfl (fun _ _ q => q.elim) (fun r73 h73 q73 => ?_)
        obtain ⟨rfl, q73⟩ := q73
        refine vv_istore_n cx dM_gap_76 rfl (Nat.le_of_ble_eq_true rfl) (pc' := 77) rfl ?_
        refine vv_aload_n cx dM_gap_77 rfl rfl (pc' := 78) rfl ?_
        refine vv_getI cx (C := RM) (T := TM) (NN := 15) 116 8 (by decide) sh_116 rfl rfl (by decide) lyM ww_562 dM_gap_78 (pc' := 81) rfl ?_
        rw [show h73 116 8 = pq_bsI bs by rw [q73.1 116 (by decide) (by decide), pq_th_j (by decide)]; exact hmd.1]
        refine vv_iload_n cx dM_gap_81 rfl rfl (pc' := 82) rfl ?_
        refine vv_iload_n cx dM_gap_82 rfl rfl (pc' := 83) rfl ?_
        refine vv_icmp_le cx dM_gap_83 (tgt := 90) (by decide) (pc' := 86) rfl (fun c83 => ?_) (fun c83 => ?_)
        · refine vv_iload_n cx dM_gap_90 rfl rfl (pc' := 91) rfl ?_
          first | rw [show nI (pq_up (pq_wd i w nm) W) = nI (max (pq_up (pq_wd i w nm) W) (pq_up (pq_price i pr nm) (pq_col W i w nm pr).1)) by rw [Nat.max_eq_left (Nat.le_of_lt (Nat.lt_of_not_le (fun q => c83 (nI_le q (by omega)))))]] | rw [show nI (pq_up (pq_price i pr nm) (pq_col W i w nm pr).1) = nI (max (pq_up (pq_wd i w nm) W) (pq_up (pq_price i pr nm) (pq_col W i w nm pr).1)) by rw [Nat.max_eq_right (Nat.le_of_not_lt (fun q => nI_ge q (by omega) c83))]]
          refine vv_isub cx dM_gap_91 (pc' := 92) rfl ?_
          refine vv_iret cx hr hlocks dM_gap_92 (Nat.le_of_ble_eq_true rfl) (Nat.le_of_ble_eq_true rfl) ?_
          exact Or.inr ⟨hbn, rfl, q73⟩
        · refine vv_iload_n cx dM_gap_86 rfl rfl (pc' := 87) rfl ?_
          refine vv_goto cx dM_gap_87 (tgt := 91) (by decide) ?_
          first | rw [show nI (pq_up (pq_wd i w nm) W) = nI (max (pq_up (pq_wd i w nm) W) (pq_up (pq_price i pr nm) (pq_col W i w nm pr).1)) by rw [Nat.max_eq_left (Nat.le_of_lt (Nat.lt_of_not_le (fun q => c83 (nI_le q (by omega)))))]] | rw [show nI (pq_up (pq_price i pr nm) (pq_col W i w nm pr).1) = nI (max (pq_up (pq_wd i w nm) W) (pq_up (pq_price i pr nm) (pq_col W i w nm pr).1)) by rw [Nat.max_eq_right (Nat.le_of_not_lt (fun q => nI_ge q (by omega) c83))]]
          refine vv_isub cx dM_gap_91 (pc' := 92) rfl ?_
          refine vv_iret cx hr hlocks dM_gap_92 (Nat.le_of_ble_eq_true rfl) (Nat.le_of_ble_eq_true rfl) ?_
          exact Or.inr ⟨hbn, rfl, q73⟩
      · exact absurd (Int32.le_refl _) (by rw [hn] at c33; exact c33)
    | succ d ih =>
      intro i u3 hi
      have hlt : i < n := by omega
      refine vv_iload_n cx dM_gap_28 rfl rfl (pc' := 29) rfl ?_
      refine vv_aload_n cx dM_gap_29 rfl rfl (pc' := 30) rfl ?_
      refine vv_getI cx (C := RM) (T := TM) (NN := 15) 116 2 (by decide) sh_116 rfl rfl (by decide) lyM ww_556 dM_gap_30 (pc' := 33) rfl ?_
      refine vv_icmp_ge cx dM_gap_33 (tgt := 58) (by decide) (pc' := 36) rfl (fun c33 => ?_) (fun c33 => ?_)
      · exact absurd (by rw [hn] at c33; exact c33) (nI_ge hlt (by omega))
      · refine vv_iload_n cx dM_gap_36 rfl rfl (pc' := 37) rfl ?_
        refine vv_aload_n cx dM_gap_37 rfl rfl (pc' := 38) rfl ?_
        refine vv_getR cx (C := RM) (T := TM) (NN := 15) 116 4 _ (by decide) sh_116 rfl rfl (by decide) lyM ww_558 dM_gap_38 (pc' := 41) rfl ?_
        refine vv_iload_n cx dM_gap_41 rfl rfl (pc' := 42) rfl ?_
        refine vv_iald cx _ (by decide) sh_118 (vp_in_nI (by omega) (by decide)) dM_gap_42 (pc' := 43) rfl ?_
        refine vv_aload_n cx dM_gap_43 rfl rfl (pc' := 44) rfl ?_
        refine vv_getR cx (C := RM) (T := TM) (NN := 15) 116 3 _ (by decide) sh_116 rfl rfl (by decide) lyM ww_557 dM_gap_44 (pc' := 47) rfl ?_
        refine vv_iload_n cx dM_gap_47 rfl rfl (pc' := 48) rfl ?_
        refine vv_iald cx _ (by decide) sh_117 (vp_in_nI (by omega) (by decide)) dM_gap_48 (pc' := 49) rfl ?_
        rw [nI_clamp (n := i) (by omega), hs0.1.2.2.2.1 i (by omega), hs0.1.2.2.1 i (by omega)]
        refine vv_imul cx dM_gap_49 (pc' := 50) rfl ?_
        rw [pk_mul]
        refine vv_iadd cx dM_gap_50 (pc' := 51) rfl ?_
        rw [nI_add, show pq_sum (fun i => nm i * w i) i + nm i * w i = pq_sum (fun i => nm i * w i) (i + 1) from rfl]
        refine vv_istore_n cx dM_gap_51 rfl (Nat.le_of_ble_eq_true rfl) (pc' := 52) rfl ?_
        refine vv_iinc cx dM_gap_52 rfl pq_n1 (pc' := 55) rfl ?_
        refine vv_goto cx dM_gap_55 (tgt := 28) (by decide) ?_
        exact ih (i + 1) _ (by omega)
  have ph : ∀ a : Int32, pq_fl a (bs = none) →  VV p l e rM_gap s m [.ref (g.2.2 116)].toArray below meth c (vx_MQ below (pq_Qi g (fun r h9 => (bs = none ∧ h9 = pq_th 1 h) ∨ (¬ bs = none ∧ r = pq_bsI bs - nI (max (pq_up (pq_wd n w nm) W) (pq_up (pq_price n pr nm) (pq_col W n w nm pr).1)) ∧ pq_fc (pq_th 0 h) h9)) s.heap.size) (pq_Qx g (pq_no) s.heap.size) [.ref (g.2.2 116)].toArray s 0 0 (pq_A g s.heap.size)) g 0 0 h 13 [some (.ref (g.2.2 116)), none, none, none] [.int a, .ref (g.2.2 116)] := by
    intro a ha
    refine vv_iconst cx dM_gap_13 (v := 0) (by decide) (pc' := 14) rfl ?_
    refine vv_iconst cx dM_gap_14 (v := 0) (by decide) (pc' := 15) rfl ?_
    refine vv_iconst cx dM_gap_15 (v := 0) (by decide) (pc' := 16) rfl ?_
    refine cc_Vi cx hX (tM_throwing l g h a 0 0 0) kM_throwing ww_611 rfl rfl ⟨Nat.le_of_ble_eq_true rfl, Nat.le_of_ble_eq_true rfl⟩ 116 (by decide) sh_116 rfl rfl rfl rfl (Nat.le_of_ble_eq_true rfl) rfl ⟨Nat.le_of_ble_eq_true rfl, Nat.le_of_ble_eq_true rfl⟩ dM_gap_16 (pc' := 19) rfl (fun _ _ q => q.elim) (fun r16 h16 q16 => ?_)
    obtain ⟨rfl, q16⟩ := q16
    refine vv_if_eq cx dM_gap_19 (tgt := 24) (by decide) (pc' := 22) rfl (fun c19 => ?_) (fun c19 => ?_)
    · have hz : a = 0 := (pq_thr_all (q16.nt c19)).1
      subst hz
      rw [pq_thr0, show va_up h 116 (upd (h 116) 0 0) = pq_th 0 h from rfl]
      refine vv_iconst cx dM_gap_24 (v := 0) (by decide) (pc' := 25) rfl ?_
      refine vv_istore_n cx dM_gap_25 rfl (Nat.le_of_ble_eq_true rfl) (pc' := 26) rfl ?_
      refine vv_iconst cx dM_gap_26 (v := 0) (by decide) (pc' := 27) rfl ?_
      refine vv_istore_n cx dM_gap_27 rfl (Nat.le_of_ble_eq_true rfl) (pc' := 28) rfl ?_
      exact loop (ha.f rfl) n 0 _ (by omega)
    · refine vv_iconst cx dM_gap_22 (v := 0) (by decide) (pc' := 23) rfl ?_
      refine vv_iret cx hr hlocks dM_gap_23 (Nat.le_of_ble_eq_true rfl) (Nat.le_of_ble_eq_true rfl) ?_
      have hz : ¬ a = 0 := fun q => absurd (q16.t c19) (by rw [q]; decide)
      rw [pq_thr1 hz]
      exact Or.inl ⟨ha.t hz, rfl⟩
  refine vv_aload_n cx dM_gap_0 rfl rfl (pc' := 1) rfl ?_
  refine vv_aload_n cx dM_gap_1 rfl rfl (pc' := 2) rfl ?_
  refine vv_getI cx (C := RM) (T := TM) (NN := 15) 116 8 (by decide) sh_116 rfl rfl (by decide) lyM ww_562 dM_gap_2 (pc' := 5) rfl ?_
  rw [hmd.1]
  refine vv_if_ge cx dM_gap_5 (tgt := 12) (by decide) (pc' := 8) rfl (fun c5 => ?_) (fun c5 => ?_)
  · refine vv_iconst cx dM_gap_12 (v := 0) (by decide) (pc' := 13) rfl ?_
    first | exact ph 1 (Or.inl ⟨rfl, (pq_bsI_neg hbs).mp (Int32.not_le.mp c5)⟩) | exact ph 0 (Or.inr ⟨rfl, fun q => absurd ((pq_bsI_neg hbs).mpr q) (Int32.not_lt.mpr c5)⟩)
  · refine vv_iconst cx dM_gap_8 (v := 1) (by decide) (pc' := 9) rfl ?_
    refine vv_goto cx dM_gap_9 (tgt := 13) (by decide) ?_
    first | exact ph 1 (Or.inl ⟨rfl, (pq_bsI_neg hbs).mp (Int32.not_le.mp c5)⟩) | exact ph 0 (Or.inr ⟨rfl, fun q => absurd ((pq_bsI_neg hbs).mpr q) (Int32.not_lt.mpr c5)⟩)
set_option maxRecDepth 100000 in
set_option maxHeartbeats 4000000 in
theorem tM_refuses (l : Launch) (g : pq_G) (h : pq_H) (bs : Option Nat) (x gd : Int32) (hmd : h 116 8 = pq_bsI bs) (hbs : ∀ b, bs = some b → b ≤ 30) : XI l yM_refuses wM_refuses rM_refuses g 0 0 [.ref (g.2.2 116), .int x, .int gd] h (fun r h9 => (bs = none ∧ r = 1 ∧ h9 = pq_th 2 h) ∨ (¬ bs = none ∧ ¬ ((0 ≤ x ∧ x < pq_bsI bs) ∧ ¬ gd = 0) ∧ r = 1 ∧ h9 = pq_th 1 h) ∨ (¬ bs = none ∧ (0 ≤ x ∧ x < pq_bsI bs) ∧ ¬ gd = 0 ∧ r = 0 ∧ h9 = pq_th 0 h)) (pq_no) := by
  refine XI.of (cc := cM_refuses) (maxL := 3) (ret := (some .boolean)) (by decide +kernel) (by simp [Value.category]) (Nat.le_of_ble_eq_true rfl) ?_
  intro p e s m below meth c cx hX hr hlocks hex
  have ph2 : ¬ bs = none → ∀ a : Int32, pq_fl a (¬ ((0 ≤ x ∧ x < pq_bsI bs) ∧ ¬ gd = 0)) →  VV p l e rM_refuses s m [.ref (g.2.2 116), .int x, .int gd].toArray below meth c (vx_MQ below (pq_Qi g (fun r h9 => (bs = none ∧ r = 1 ∧ h9 = pq_th 2 h) ∨ (¬ bs = none ∧ ¬ ((0 ≤ x ∧ x < pq_bsI bs) ∧ ¬ gd = 0) ∧ r = 1 ∧ h9 = pq_th 1 h) ∨ (¬ bs = none ∧ (0 ≤ x ∧ x < pq_bsI bs) ∧ ¬ gd = 0 ∧ r = 0 ∧ h9 = pq_th 0 h)) s.heap.size) (pq_Qx g (pq_no) s.heap.size) [.ref (g.2.2 116), .int x, .int gd].toArray s 0 0 (pq_A g s.heap.size)) g 0 0 (pq_th 0 h) 48 [some (.ref (g.2.2 116)), some (.int x), some (.int gd)] [.int a, .ref (g.2.2 116)] := by
    intro hbn a ha
    refine vv_iconst cx dM_refuses_48 (v := 0) (by decide) (pc' := 49) rfl ?_
    refine vv_iconst cx dM_refuses_49 (v := 0) (by decide) (pc' := 50) rfl ?_
    refine vv_iconst cx dM_refuses_50 (v := 0) (by decide) (pc' := 51) rfl ?_
    refine cc_Vi cx hX (tM_throwing l g _ a 0 0 0) kM_throwing ww_611 rfl rfl ⟨Nat.le_of_ble_eq_true rfl, Nat.le_of_ble_eq_true rfl⟩ 116 (by decide) sh_116 rfl rfl rfl rfl (Nat.le_of_ble_eq_true rfl) rfl ⟨Nat.le_of_ble_eq_true rfl, Nat.le_of_ble_eq_true rfl⟩ dM_refuses_51 (pc' := 54) rfl (fun _ _ q => q.elim) (fun r51 h51 q51 => ?_)
    obtain ⟨rfl, q51⟩ := q51
    refine vv_zret cx hr hlocks dM_refuses_54 q51.z (Nat.le_of_ble_eq_true rfl) (Nat.le_of_ble_eq_true rfl) ?_
    rw [show va_up (pq_th 0 h) 116 (upd (pq_th 0 h 116) 0 (pq_thr a 0 0 0)) = pq_th (pq_thr a 0 0 0) (pq_th 0 h) from rfl, pq_th_th]
    by_cases hz : a = 0
    · subst hz
      have hr1 : r51 = 0 := by rcases q51 with q | q; exact absurd rfl q.2; exact q.1
      obtain ⟨z1, z2⟩ := ha.nt rfl
      exact Or.inr (Or.inr ⟨hbn, z1, z2, hr1, rfl⟩)
    · rw [pq_thr1 hz] at q51 ⊢
      have hr1 : r51 = 1 := by rcases q51 with q | q; exact q.1; exact absurd (by decide) q.2
      exact Or.inr (Or.inl ⟨hbn, ha.t hz, hr1, rfl⟩)
  have ph1 : ∀ a : Int32, pq_fl a (bs = none) →  VV p l e rM_refuses s m [.ref (g.2.2 116), .int x, .int gd].toArray below meth c (vx_MQ below (pq_Qi g (fun r h9 => (bs = none ∧ r = 1 ∧ h9 = pq_th 2 h) ∨ (¬ bs = none ∧ ¬ ((0 ≤ x ∧ x < pq_bsI bs) ∧ ¬ gd = 0) ∧ r = 1 ∧ h9 = pq_th 1 h) ∨ (¬ bs = none ∧ (0 ≤ x ∧ x < pq_bsI bs) ∧ ¬ gd = 0 ∧ r = 0 ∧ h9 = pq_th 0 h)) s.heap.size) (pq_Qx g (pq_no) s.heap.size) [.ref (g.2.2 116), .int x, .int gd].toArray s 0 0 (pq_A g s.heap.size)) g 0 0 h 14 [some (.ref (g.2.2 116)), some (.int x), some (.int gd)] [.int a, .int 0, .ref (g.2.2 116)] := by
    intro a ha
    refine vv_iconst cx dM_refuses_14 (v := 0) (by decide) (pc' := 15) rfl ?_
    refine vv_iconst cx dM_refuses_15 (v := 0) (by decide) (pc' := 16) rfl ?_
    refine cc_Vi cx hX (tM_throwing l g h 0 a 0 0) kM_throwing ww_611 rfl rfl ⟨Nat.le_of_ble_eq_true rfl, Nat.le_of_ble_eq_true rfl⟩ 116 (by decide) sh_116 rfl rfl rfl rfl (Nat.le_of_ble_eq_true rfl) rfl ⟨Nat.le_of_ble_eq_true rfl, Nat.le_of_ble_eq_true rfl⟩ dM_refuses_16 (pc' := 19) rfl (fun _ _ q => q.elim) (fun r16 h16 q16 => ?_)
    obtain ⟨rfl, q16⟩ := q16
    refine vv_if_eq cx dM_refuses_19 (tgt := 24) (by decide) (pc' := 22) rfl (fun c19 => ?_) (fun c19 => ?_)
    · have hz : a = 0 := (pq_thr_all (q16.nt c19)).2.1
      subst hz
      have hbn := ha.f rfl
      obtain ⟨b, hb9⟩ : ∃ b, bs = some b := Option.ne_none_iff_exists'.mp hbn
      rw [pq_thr0, show va_up h 116 (upd (h 116) 0 0) = pq_th 0 h from rfl]
      refine vv_aload_n cx dM_refuses_24 rfl rfl (pc' := 25) rfl ?_
      refine vv_iload_n cx dM_refuses_25 rfl rfl (pc' := 26) rfl ?_
      refine vv_iconst cx dM_refuses_26 (v := 0) (by decide) (pc' := 27) rfl ?_
      refine vv_aload_n cx dM_refuses_27 rfl rfl (pc' := 28) rfl ?_
      refine vv_getI cx (C := RM) (T := TM) (NN := 15) 116 8 (by decide) sh_116 rfl rfl (by decide) lyM ww_562 dM_refuses_28 (pc' := 31) rfl ?_
      rw [show pq_th 0 h 116 8 = nI b by rw [pq_th_j (by decide), hmd, hb9]; rfl]
      refine vv_iconst cx dM_refuses_31 (v := 1) (by decide) (pc' := 32) rfl ?_
      refine vv_isub cx dM_refuses_32 (pc' := 33) rfl ?_
      refine cc_Si cx hX (tM_in l g _ x 0 (nI b - 1)) kM_in ww_608 rfl rfl ⟨Nat.le_of_ble_eq_true rfl, Nat.le_of_ble_eq_true rfl⟩ rfl rfl (Nat.le_of_ble_eq_true rfl) rfl ⟨Nat.le_of_ble_eq_true rfl, Nat.le_of_ble_eq_true rfl⟩ dM_refuses_33 (pc' := 36) rfl (fun _ _ q => q.elim) (fun r33 h33 q33 => ?_)
      obtain ⟨rfl, q33⟩ := q33
      rw [pq_ord (by have := hbs b hb9; omega), show nI b = pq_bsI bs by rw [hb9]; rfl] at q33
      refine vv_if_eq cx dM_refuses_36 (tgt := 43) (by decide) (pc' := 39) rfl (fun c36 => ?_) (fun c36 => ?_)
      · refine vv_iconst cx dM_refuses_43 (v := 1) (by decide) (pc' := 44) rfl ?_
        refine vv_goto cx dM_refuses_44 (tgt := 48) (by decide) ?_
        first | exact ph2 hbn 1 (Or.inl ⟨rfl, fun z => q33.f c36 z.1⟩) | exact ph2 hbn 0 (Or.inr ⟨rfl, fun z => z ⟨q33.t c36, c40⟩⟩) | exact ph2 hbn 1 (Or.inl ⟨rfl, fun z => z.2 c40⟩)
      · refine vv_iload_n cx dM_refuses_39 rfl rfl (pc' := 40) rfl ?_
        refine vv_if_ne cx dM_refuses_40 (tgt := 47) (by decide) (pc' := 43) rfl (fun c40 => ?_) (fun c40 => ?_)
        · refine vv_iconst cx dM_refuses_47 (v := 0) (by decide) (pc' := 48) rfl ?_
          first | exact ph2 hbn 1 (Or.inl ⟨rfl, fun z => q33.f c36 z.1⟩) | exact ph2 hbn 0 (Or.inr ⟨rfl, fun z => z ⟨q33.t c36, c40⟩⟩) | exact ph2 hbn 1 (Or.inl ⟨rfl, fun z => z.2 c40⟩)
        · refine vv_iconst cx dM_refuses_43 (v := 1) (by decide) (pc' := 44) rfl ?_
          refine vv_goto cx dM_refuses_44 (tgt := 48) (by decide) ?_
          first | exact ph2 hbn 1 (Or.inl ⟨rfl, fun z => q33.f c36 z.1⟩) | exact ph2 hbn 0 (Or.inr ⟨rfl, fun z => z ⟨q33.t c36, c40⟩⟩) | exact ph2 hbn 1 (Or.inl ⟨rfl, fun z => z.2 c40⟩)
    · refine vv_iconst cx dM_refuses_22 (v := 1) (by decide) (pc' := 23) rfl ?_
      refine vv_zret cx hr hlocks dM_refuses_23 rfl (Nat.le_of_ble_eq_true rfl) (Nat.le_of_ble_eq_true rfl) ?_
      have hz : ¬ a = 0 := fun q => absurd (q16.t c19) (by rw [q]; decide)
      rw [pq_thr2 hz]
      exact Or.inl ⟨ha.t hz, rfl, rfl⟩
  refine vv_aload_n cx dM_refuses_0 rfl rfl (pc' := 1) rfl ?_
  refine vv_iconst cx dM_refuses_1 (v := 0) (by decide) (pc' := 2) rfl ?_
  refine vv_aload_n cx dM_refuses_2 rfl rfl (pc' := 3) rfl ?_
  refine vv_getI cx (C := RM) (T := TM) (NN := 15) 116 8 (by decide) sh_116 rfl rfl (by decide) lyM ww_562 dM_refuses_3 (pc' := 6) rfl ?_
  rw [hmd]
  refine vv_if_ge cx dM_refuses_6 (tgt := 13) (by decide) (pc' := 9) rfl (fun c6 => ?_) (fun c6 => ?_)
  · refine vv_iconst cx dM_refuses_13 (v := 0) (by decide) (pc' := 14) rfl ?_
    first | exact ph1 1 (Or.inl ⟨rfl, (pq_bsI_neg hbs).mp (Int32.not_le.mp c6)⟩) | exact ph1 0 (Or.inr ⟨rfl, fun q => absurd ((pq_bsI_neg hbs).mpr q) (Int32.not_lt.mpr c6)⟩)
  · refine vv_iconst cx dM_refuses_9 (v := 1) (by decide) (pc' := 10) rfl ?_
    refine vv_goto cx dM_refuses_10 (tgt := 14) (by decide) ?_
    first | exact ph1 1 (Or.inl ⟨rfl, (pq_bsI_neg hbs).mp (Int32.not_le.mp c6)⟩) | exact ph1 0 (Or.inr ⟨rfl, fun q => absurd ((pq_bsI_neg hbs).mpr q) (Int32.not_lt.mpr c6)⟩)
set_option maxRecDepth 100000 in
set_option maxHeartbeats 4000000 in
theorem tM_cut (l : Launch) (g : pq_G) (h : pq_H) {W n : Nat} {w nm pr : Nat → Nat} (bs : Option Nat) (best : Nat → Nat → Nat) (x y : Int32) (hs : pq_mo h W n w nm pr) (hmd : pq_md h bs best) : XI l yM_cut wM_cut rM_cut g 0 0 [.ref (g.2.2 116), .int x, .int y] h (fun r h9 => (bs = none ∧ h9 = pq_th 2 h) ∨ (¬ bs = none ∧ ¬ ((0 ≤ x ∧ x < pq_bsI bs) ∧ 0 ≤ y ∧ y < nI n) ∧ h9 = pq_th 1 h) ∨ (h9 = pq_th 0 h ∧ ∃ b j i, bs = some b ∧ x = nI j ∧ j < b ∧ y = nI i ∧ i < n ∧ r = nI (best j i))) (pq_no) := by
  refine XI.of (cc := cM_cut) (maxL := 3) (ret := (some .int)) (by decide +kernel) (by simp [Value.category]) (Nat.le_of_ble_eq_true rfl) ?_
  intro p e s m below meth c cx hX hr hlocks hex
  have hn5 := hs.2.1.2.2
  have hbs : ∀ b, bs = some b → b ≤ 30 := fun b q => (hmd.2 b q).1
  refine vv_aload_n cx dM_cut_0 rfl rfl (pc' := 1) rfl ?_
  refine vv_iload_n cx dM_cut_1 rfl rfl (pc' := 2) rfl ?_
  refine vv_aload_n cx dM_cut_2 rfl rfl (pc' := 3) rfl ?_
  refine vv_iload_n cx dM_cut_3 rfl rfl (pc' := 4) rfl ?_
  refine cc_Vi cx hX (tM_isOrder l g h y hs) kM_isOrder ww_627 rfl rfl ⟨Nat.le_of_ble_eq_true rfl, Nat.le_of_ble_eq_true rfl⟩ 116 (by decide) sh_116 rfl rfl rfl rfl (Nat.le_of_ble_eq_true rfl) rfl ⟨Nat.le_of_ble_eq_true rfl, Nat.le_of_ble_eq_true rfl⟩ dM_cut_4 (pc' := 7) rfl (fun _ _ q => q.elim) (fun r4 h4 q4 => ?_)
  obtain ⟨rfl, q4⟩ := q4
  refine cc_Vi cx hX (tM_refuses l g _ bs x r4 hmd.1 hbs) kM_refuses ww_708 rfl rfl ⟨Nat.le_of_ble_eq_true rfl, Nat.le_of_ble_eq_true rfl⟩ 116 (by decide) sh_116 rfl rfl rfl rfl (Nat.le_of_ble_eq_true rfl) rfl ⟨Nat.le_of_ble_eq_true rfl, Nat.le_of_ble_eq_true rfl⟩ dM_cut_7 (pc' := 10) rfl (fun _ _ q => q.elim) (fun r7 h7 q7 => ?_)
  refine vv_if_eq cx dM_cut_10 (tgt := 15) (by decide) (pc' := 13) rfl (fun c10 => ?_) (fun c10 => ?_)
  · obtain ⟨q1, q2, q3, q5⟩ : ¬ bs = none ∧ (0 ≤ x ∧ x < pq_bsI bs) ∧ (0 ≤ y ∧ y < nI n) ∧ h7 = pq_th 0 h4 := by rcases q7 with ⟨-, q, -⟩ | ⟨-, -, q, -⟩ | ⟨q1, q2, q3, -, q5⟩; exact absurd c10 (by rw [q]; decide); exact absurd c10 (by rw [q]; decide); exact ⟨q1, q2, q4.t q3, q5⟩
    subst q5
    obtain ⟨b, j, hb, hj, hxj⟩ := pq_bsI_lt hbs q2.1 q2.2
    obtain ⟨i, hi, hyi⟩ := pq_idx q3.1 q3.2 (by omega)
    have hb30 := hbs b hb
    subst hxj hyi
    refine vv_aload_n cx dM_cut_15 rfl rfl (pc' := 16) rfl ?_
    refine vv_getR cx (C := RM) (T := TM) (NN := 15) 116 9 _ (by decide) sh_116 rfl rfl (by decide) lyM ww_563 dM_cut_16 (pc' := 19) rfl ?_
    refine vv_iconst cx dM_cut_19 (v := 5) (by decide) (pc' := 20) rfl ?_
    refine vv_iload_n cx dM_cut_20 rfl rfl (pc' := 21) rfl ?_
    refine vv_imul cx dM_cut_21 (pc' := 22) rfl ?_
    refine vv_iload_n cx dM_cut_22 rfl rfl (pc' := 23) rfl ?_
    refine vv_iadd cx dM_cut_23 (pc' := 24) rfl ?_
    rw [show (5 : Int32) * nI j + nI i = nI (5 * j + i) by rw [show (5 : Int32) = nI 5 from rfl, pk_mul, nI_add]]
    refine vv_iald cx _ (by decide) sh_122 (vp_in_nI (by omega) (by decide)) dM_cut_24 (pc' := 25) rfl ?_
    rw [nI_clamp (n := 5 * j + i) (by omega)]
    refine vv_iret cx hr hlocks dM_cut_25 (Nat.le_of_ble_eq_true rfl) (Nat.le_of_ble_eq_true rfl) ?_
    exact Or.inr (Or.inr ⟨rfl, b, j, i, hb, rfl, hj, rfl, hi, by rw [pq_th_ne (by decide)]; exact (hmd.2 b hb).2 j hj i (by omega)⟩)
  · refine vv_iconst cx dM_cut_13 (v := 0) (by decide) (pc' := 14) rfl ?_
    refine vv_iret cx hr hlocks dM_cut_14 (Nat.le_of_ble_eq_true rfl) (Nat.le_of_ble_eq_true rfl) ?_
    rcases q7 with ⟨q1, -, rfl⟩ | ⟨q1, q2, -, rfl⟩ | ⟨-, -, -, q, -⟩
    · exact Or.inl ⟨q1, rfl⟩
    · exact Or.inr (Or.inl ⟨q1, fun z => q2 ⟨z.1, fun q => q4.f q z.2⟩, rfl⟩)
    · exact absurd q c10
set_option maxRecDepth 100000 in
set_option maxHeartbeats 4000000 in
theorem tM_over (l : Launch) (g : pq_G) (h : pq_H) {W n : Nat} {w nm pr : Nat → Nat} (bs : Option Nat) (best : Nat → Nat → Nat) (x : Int32) (hs : pq_mo h W n w nm pr) (hmd : pq_md h bs best) : XI l yM_over wM_over rM_over g 0 0 [.ref (g.2.2 116), .int x] h (fun r h9 => (bs = none ∧ h9 = pq_th 2 h) ∨ (¬ bs = none ∧ ¬ (0 ≤ x ∧ x < pq_bsI bs) ∧ h9 = pq_th 1 h) ∨ (h9 = pq_th 0 h ∧ ∃ b j, bs = some b ∧ x = nI j ∧ j < b ∧ r = nI W - nI (pq_sum (fun i => best j i * w i) n))) (pq_no) := by
  refine XI.of (cc := cM_over) (maxL := 4) (ret := (some .int)) (by decide +kernel) (by simp [Value.category]) (Nat.le_of_ble_eq_true rfl) ?_
  intro p e s m below meth c cx hX hr hlocks hex
  have hn5 := hs.2.1.2.2
  have hbs : ∀ b, bs = some b → b ≤ 30 := fun b q => (hmd.2 b q).1
  have hs0 : pq_mo (pq_th 0 h) W n w nm pr := hs.th
  have hn := hs0.1.2.1
  have loop : ∀ (b j : Nat), bs = some b → x = nI j → j < b → ∀ (d i : Nat), i + d = n → VV p l e rM_over s m [.ref (g.2.2 116), .int x].toArray below meth c (vx_MQ below (pq_Qi g (fun r h9 => (bs = none ∧ h9 = pq_th 2 h) ∨ (¬ bs = none ∧ ¬ (0 ≤ x ∧ x < pq_bsI bs) ∧ h9 = pq_th 1 h) ∨ (h9 = pq_th 0 h ∧ ∃ b j, bs = some b ∧ x = nI j ∧ j < b ∧ r = nI W - nI (pq_sum (fun i => best j i * w i) n))) s.heap.size) (pq_Qx g (pq_no) s.heap.size) [.ref (g.2.2 116), .int x].toArray s 0 0 (pq_A g s.heap.size)) g 0 0 (pq_th 0 h) 18 [some (.ref (g.2.2 116)), some (.int (nI j)), some (.int (nI W - nI (pq_sum (fun i => best j i * w i) i))), some (.int (nI i))] [] := by
    intro b j hb hxj hj d
    have hb30 := hbs b hb
    induction d with
    | zero =>
      intro i hi
      have e1 : i = n := by omega
      subst e1
      refine vv_iload_n cx dM_over_18 rfl rfl (pc' := 19) rfl ?_
      refine vv_aload_n cx dM_over_19 rfl rfl (pc' := 20) rfl ?_
      refine vv_getI cx (C := RM) (T := TM) (NN := 15) 116 2 (by decide) sh_116 rfl rfl (by decide) lyM ww_556 dM_over_20 (pc' := 23) rfl ?_
      refine vv_icmp_ge cx dM_over_23 (tgt := 52) (by decide) (pc' := 26) rfl (fun c23 => ?_) (fun c23 => ?_)
      · refine vv_iload_n cx dM_over_52 rfl rfl (pc' := 53) rfl ?_
        refine vv_iret cx hr hlocks dM_over_53 (Nat.le_of_ble_eq_true rfl) (Nat.le_of_ble_eq_true rfl) ?_
        exact Or.inr (Or.inr ⟨rfl, b, j, hb, hxj, hj, rfl⟩)
      · exact absurd (Int32.le_refl _) (by rw [hn] at c23; exact c23)
    | succ d ih =>
      intro i hi
      have hlt : i < n := by omega
      have hbi : pq_th 0 h 122 (5 * j + i) = nI (best j i) := by rw [pq_th_ne (by decide)]; exact (hmd.2 b hb).2 j hj i (by omega)
      refine vv_iload_n cx dM_over_18 rfl rfl (pc' := 19) rfl ?_
      refine vv_aload_n cx dM_over_19 rfl rfl (pc' := 20) rfl ?_
      refine vv_getI cx (C := RM) (T := TM) (NN := 15) 116 2 (by decide) sh_116 rfl rfl (by decide) lyM ww_556 dM_over_20 (pc' := 23) rfl ?_
      refine vv_icmp_ge cx dM_over_23 (tgt := 52) (by decide) (pc' := 26) rfl (fun c23 => ?_) (fun c23 => ?_)
      · exact absurd (by rw [hn] at c23; exact c23) (nI_ge hlt (by omega))
      · refine vv_iload_n cx dM_over_26 rfl rfl (pc' := 27) rfl ?_
        refine vv_aload_n cx dM_over_27 rfl rfl (pc' := 28) rfl ?_
        refine vv_getR cx (C := RM) (T := TM) (NN := 15) 116 9 _ (by decide) sh_116 rfl rfl (by decide) lyM ww_563 dM_over_28 (pc' := 31) rfl ?_
        refine vv_iconst cx dM_over_31 (v := 5) (by decide) (pc' := 32) rfl ?_
        refine vv_iload_n cx dM_over_32 rfl rfl (pc' := 33) rfl ?_
        refine vv_imul cx dM_over_33 (pc' := 34) rfl ?_
        refine vv_iload_n cx dM_over_34 rfl rfl (pc' := 35) rfl ?_
        refine vv_iadd cx dM_over_35 (pc' := 36) rfl ?_
        rw [show (5 : Int32) * nI j + nI i = nI (5 * j + i) by rw [show (5 : Int32) = nI 5 from rfl, pk_mul, nI_add]]
        refine vv_iald cx _ (by decide) sh_122 (vp_in_nI (by omega) (by decide)) dM_over_36 (pc' := 37) rfl ?_
        refine vv_aload_n cx dM_over_37 rfl rfl (pc' := 38) rfl ?_
        refine vv_getR cx (C := RM) (T := TM) (NN := 15) 116 3 _ (by decide) sh_116 rfl rfl (by decide) lyM ww_557 dM_over_38 (pc' := 41) rfl ?_
        refine vv_iload_n cx dM_over_41 rfl rfl (pc' := 42) rfl ?_
        refine vv_iald cx _ (by decide) sh_117 (vp_in_nI (by omega) (by decide)) dM_over_42 (pc' := 43) rfl ?_
        rw [nI_clamp (n := 5 * j + i) (by omega), nI_clamp (n := i) (by omega), hbi, hs0.1.2.2.1 i (by omega)]
        refine vv_imul cx dM_over_43 (pc' := 44) rfl ?_
        rw [pk_mul]
        refine vv_isub cx dM_over_44 (pc' := 45) rfl ?_
        rw [pq_subI, nI_add, show pq_sum (fun i => best j i * w i) i + best j i * w i = pq_sum (fun i => best j i * w i) (i + 1) from rfl]
        refine vv_istore_n cx dM_over_45 rfl (Nat.le_of_ble_eq_true rfl) (pc' := 46) rfl ?_
        refine vv_iinc cx dM_over_46 rfl pq_n1 (pc' := 49) rfl ?_
        refine vv_goto cx dM_over_49 (tgt := 18) (by decide) ?_
        exact ih (i + 1) (by omega)
  refine vv_aload_n cx dM_over_0 rfl rfl (pc' := 1) rfl ?_
  refine vv_iload_n cx dM_over_1 rfl rfl (pc' := 2) rfl ?_
  refine vv_iconst cx dM_over_2 (v := 1) (by decide) (pc' := 3) rfl ?_
  refine cc_Vi cx hX (tM_refuses l g h bs x 1 hmd.1 hbs) kM_refuses ww_708 rfl rfl ⟨Nat.le_of_ble_eq_true rfl, Nat.le_of_ble_eq_true rfl⟩ 116 (by decide) sh_116 rfl rfl rfl rfl (Nat.le_of_ble_eq_true rfl) rfl ⟨Nat.le_of_ble_eq_true rfl, Nat.le_of_ble_eq_true rfl⟩ dM_over_3 (pc' := 6) rfl (fun _ _ q => q.elim) (fun r3 h3 q3 => ?_)
  refine vv_if_eq cx dM_over_6 (tgt := 11) (by decide) (pc' := 9) rfl (fun c6 => ?_) (fun c6 => ?_)
  · obtain ⟨q2, q5⟩ : (0 ≤ x ∧ x < pq_bsI bs) ∧ h3 = pq_th 0 h := by rcases q3 with ⟨-, q, -⟩ | ⟨-, -, q, -⟩ | ⟨-, q2, -, -, q5⟩; exact absurd c6 (by rw [q]; decide); exact absurd c6 (by rw [q]; decide); exact ⟨q2, q5⟩
    subst q5
    obtain ⟨b, j, hb, hj, hxj⟩ := pq_bsI_lt hbs q2.1 q2.2
    refine vv_aload_n cx dM_over_11 rfl rfl (pc' := 12) rfl ?_
    refine vv_getI cx (C := RM) (T := TM) (NN := 15) 116 1 (by decide) sh_116 rfl rfl (by decide) lyM ww_555 dM_over_12 (pc' := 15) rfl ?_
    rw [hs0.1.1]
    refine vv_istore_n cx dM_over_15 rfl (Nat.le_of_ble_eq_true rfl) (pc' := 16) rfl ?_
    refine vv_iconst cx dM_over_16 (v := 0) (by decide) (pc' := 17) rfl ?_
    refine vv_istore_n cx dM_over_17 rfl (Nat.le_of_ble_eq_true rfl) (pc' := 18) rfl ?_
    have hl9 := loop b j hb hxj hj n 0 (by omega)
    rw [← hxj] at hl9
    have e0 : nI W - nI (pq_sum (fun i => best j i * w i) 0) = nI W := by show nI W - nI 0 = nI W; rw [pk_sub (Nat.zero_le _), Nat.sub_zero]
    rw [e0] at hl9
    exact hl9
  · refine vv_iconst cx dM_over_9 (v := 0) (by decide) (pc' := 10) rfl ?_
    refine vv_iret cx hr hlocks dM_over_10 (Nat.le_of_ble_eq_true rfl) (Nat.le_of_ble_eq_true rfl) ?_
    rcases q3 with ⟨q1, -, rfl⟩ | ⟨q1, q2, -, rfl⟩ | ⟨-, -, -, q, -⟩
    · exact Or.inl ⟨q1, rfl⟩
    · exact Or.inr (Or.inl ⟨q1, fun z => q2 ⟨z, by decide⟩, rfl⟩)
    · exact absurd q c6

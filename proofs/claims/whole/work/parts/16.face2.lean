/-! part 16: the face's methods, second half -/
/-- the design that stands: its sheets, its rows -/
def pq_de (h : pq_H) (n : Nat) (bs : Option Nat) (best : Nat → Nat → Nat) : Prop := h 3 5 = pq_bsI bs ∧ ∀ b, bs = some b → b ≤ 30 ∧ (∀ j, j < b → pq_sm n (best j)) ∧ pq_rws h 46 best b
/-- the kept patterns -/
def pq_so (h : pq_H) (c : Nat) (kp : Nat → Nat → Nat) : Prop := h 4 0 = nI c ∧ c ≤ 40 ∧ ∀ j, j < c → pq_row h (76 + j) (kp j) ∧ ∀ i, i < 5 → kp j i ≤ 6
theorem pq_bsI_lt {bs : Option Nat} {x : Int32} (hb : ∀ b, bs = some b → b ≤ 30) (h0 : 0 ≤ x) (h1 : x < pq_bsI bs) : ∃ b j, bs = some b ∧ j < b ∧ x = nI j := by
  cases bs with
  | none => exact absurd (Int32.lt_of_le_of_lt h0 h1) (by decide)
  | some b =>
    obtain ⟨j, hj, e⟩ := pq_idx h0 h1 (by have := hb b rfl; omega)
    exact ⟨b, j, rfl, hj, e⟩
theorem pq_lt5 {i : Nat} {y : Int32} (hi : i ≤ 6) (hyi : y = nI i) (h6 : ¬ y = 6) (h5 : ¬ y = 5) : i < 5 := by
  rcases (show i = 6 ∨ i = 5 ∨ i < 5 by omega) with q | q | q
  · exact absurd (by rw [hyi, q]; rfl) h6
  · exact absurd (by rw [hyi, q]; rfl) h5
  · exact q
theorem pq_ne1 {k : Nat} (h : k < 1000) : ¬ nI k = -1 := by
  intro q
  have h1 : (nI k).toInt = (-1 : Int32).toInt := by rw [q]
  rw [nI_toInt (by omega)] at h1
  have h2 : (-1 : Int32).toInt = -1 := by decide
  omega
theorem pq_maxI {x y : Nat} (hx : x < 2 ^ 31) (hy : y < 2 ^ 31) : (if nI x < nI y then nI y else nI x) = nI (max x y) := by
  by_cases q : x < y
  · rw [if_pos (nI_lt q hy), Nat.max_eq_right (by omega)]
  · rw [if_neg (nI_nlt (by omega) hx), Nat.max_eq_left (by omega)]
set_option maxRecDepth 100000 in
set_option maxHeartbeats 4000000 in
theorem tP_design (l : Launch) (hl : l.stackTraces = false) (g : pq_G) (h : pq_H) {W n : Nat} {w nm pr : Nat → Nat} (x : Int32) (hs : pq_st h W n w nm pr) (hz : pq_zs h n) : XI l yP_design wP_design rP_design g 1 6 [.ref (g.2.2 0), .int x] h (fun r h9 => ∃ most, x = nI most ∧ most ≤ 100000 ∧ (∀ i, i < n → ¬ (0 < nm i ∧ W < w i)) ∧ r = h9 3 5 ∧ pq_gb h h9 ∧ pq_zs h9 n ∧ pq_fin h9 W n w nm most) (fun E h9 => h9 = h ∧ ((E = xIAE ∧ ¬ (0 ≤ x ∧ x ≤ 100000)) ∨ (E = xUOE ∧ (0 ≤ x ∧ x ≤ 100000) ∧ ∃ i, i < n ∧ 0 < nm i ∧ W < w i))) := by
  refine XI.of (cc := cP_design) (maxL := 2) (ret := (some .int)) (by decide +kernel) (by simp [Value.category]) (Nat.le_of_ble_eq_true rfl) ?_
  intro p e s m below meth c cx hX hr hlocks hex
  refine vv_iload_n cx dP_design_0 rfl rfl (pc' := 1) rfl ?_
  refine vv_if_lt cx dP_design_1 (tgt := 10) (by decide) (pc' := 4) rfl (fun c1 => ?_) (fun c1 => ?_)
  · refine vv_throw cx hX hl hex hlocks (cls := "java/lang/IllegalArgumentException") (text := "no such number of steps") (names := ["java/lang/RuntimeException", "java/lang/Exception"]) (by decide +kernel) (by decide +kernel) ww_221 ww_10 thIAE_at thIAE_good (by decide +kernel) dP_design_10 dP_design_13 dP_design_14 dP_design_16 dP_design_19 rfl (Nat.le_of_ble_eq_true rfl) (Nat.le_of_ble_eq_true rfl) (Nat.le_of_ble_eq_true rfl) (Nat.le_of_ble_eq_true rfl) (Nat.le_of_ble_eq_true rfl) (Nat.le_of_ble_eq_true rfl) ?_
    first | exact ⟨rfl, Or.inl ⟨rfl, fun q => absurd q.1 (Int32.not_le.mpr c1)⟩⟩ | exact ⟨rfl, Or.inl ⟨rfl, fun q => absurd q.2 c7⟩⟩
  · refine vv_iload_n cx dP_design_4 rfl rfl (pc' := 5) rfl ?_
    refine vv_ldc cx (v := 100000) dP_design_5 ww_387 (pc' := 7) rfl ?_
    refine vv_icmp_le cx dP_design_7 (tgt := 20) (by decide) (pc' := 10) rfl (fun c7 => ?_) (fun c7 => ?_)
    · have hrg : 0 ≤ x ∧ x ≤ 100000 := ⟨Int32.not_lt.mp c1, c7⟩
      obtain ⟨most, hm, rfl⟩ := pq_rng (n := 100000) (M := 100000) rfl hrg.1 hrg.2
      refine vv_aload_n cx dP_design_20 rfl rfl (pc' := 21) rfl ?_
      refine vv_getR cx (C := RP) (T := TP) (NN := 4) 0 0 _ (by decide) sh_0 rfl rfl (by decide) lyP ww_142 dP_design_21 (pc' := 24) rfl ?_
      refine cc_Vi cx hX (tS_somePieceIsTooWide l g h hs) kS_somePieceIsTooWide ww_389 rfl rfl ⟨Nat.le_of_ble_eq_true rfl, Nat.le_of_ble_eq_true rfl⟩ 1 (by decide) sh_1 rfl rfl rfl rfl (Nat.le_of_ble_eq_true rfl) rfl ⟨Nat.le_of_ble_eq_true rfl, Nat.le_of_ble_eq_true rfl⟩ dP_design_24 (pc' := 27) rfl (fun _ _ q => q.elim) (fun r24 h24 q24 => ?_)
      obtain ⟨rfl, q24⟩ := q24
      refine vv_if_eq cx dP_design_27 (tgt := 40) (by decide) (pc' := 30) rfl (fun c27 => ?_) (fun c27 => ?_)
      · have hno : ∀ i, i < n → ¬ (0 < nm i ∧ W < w i) := by rcases q24 with q | q; exact absurd c27 (by rw [q.1]; decide); exact q.2
        have he : pq_env W n w nm := ⟨hs.2.1.2.2, fun i hi => (hs.2.2.1 i hi).2.1, hs.2.2.2.2, hs.2.2.2.1, fun i hi q => Nat.le_of_not_lt (fun z => hno i hi ⟨q, z⟩)⟩
        refine vv_aload_n cx dP_design_40 rfl rfl (pc' := 41) rfl ?_
        refine vv_getR cx (C := RP) (T := TP) (NN := 4) 0 2 _ (by decide) sh_0 rfl rfl (by decide) lyP ww_144 dP_design_41 (pc' := 44) rfl ?_
        refine vv_iload_n cx dP_design_44 rfl rfl (pc' := 45) rfl ?_
        refine cc_Vv cx hX (tG_run l g _ most hs he hm hz) kG_run ww_409 rfl rfl ⟨Nat.le_of_ble_eq_true rfl, Nat.le_of_ble_eq_true rfl⟩ 3 (by decide) sh_3 rfl rfl rfl rfl (Nat.le_of_ble_eq_true rfl) rfl ⟨Nat.le_of_ble_eq_true rfl, Nat.le_of_ble_eq_true rfl⟩ dP_design_45 (pc' := 48) rfl (fun _ _ q => q.elim) (fun h45 q45 => ?_)
        refine vv_aload_n cx dP_design_48 rfl rfl (pc' := 49) rfl ?_
        refine vv_getR cx (C := RP) (T := TP) (NN := 4) 0 2 _ (by decide) sh_0 rfl rfl (by decide) lyP ww_144 dP_design_49 (pc' := 52) rfl ?_
        refine vv_getI cx (C := RG) (T := TG) (NN := 9) 3 5 (by decide) sh_3 rfl rfl (by decide) lyG ww_92 dP_design_52 (pc' := 55) rfl ?_
        refine vv_iret cx hr hlocks dP_design_55 (Nat.le_of_ble_eq_true rfl) (Nat.le_of_ble_eq_true rfl) ?_
        exact ⟨most, rfl, hm, hno, rfl, q45⟩
      · refine vv_throw cx hX hl hex hlocks (cls := "java/lang/UnsupportedOperationException") (text := "a piece is wider than a sheet") (names := ["java/lang/RuntimeException", "java/lang/Exception"]) (by decide +kernel) (by decide +kernel) ww_393 ww_15 thUOE_at thUOE_good (by decide +kernel) dP_design_30 dP_design_33 dP_design_34 dP_design_36 dP_design_39 rfl (Nat.le_of_ble_eq_true rfl) (Nat.le_of_ble_eq_true rfl) (Nat.le_of_ble_eq_true rfl) (Nat.le_of_ble_eq_true rfl) (Nat.le_of_ble_eq_true rfl) (Nat.le_of_ble_eq_true rfl) ?_
        rcases q24 with q | q
        · exact ⟨rfl, Or.inr ⟨rfl, hrg, q.2⟩⟩
        · exact absurd q.1 c27
    · refine vv_throw cx hX hl hex hlocks (cls := "java/lang/IllegalArgumentException") (text := "no such number of steps") (names := ["java/lang/RuntimeException", "java/lang/Exception"]) (by decide +kernel) (by decide +kernel) ww_221 ww_10 thIAE_at thIAE_good (by decide +kernel) dP_design_10 dP_design_13 dP_design_14 dP_design_16 dP_design_19 rfl (Nat.le_of_ble_eq_true rfl) (Nat.le_of_ble_eq_true rfl) (Nat.le_of_ble_eq_true rfl) (Nat.le_of_ble_eq_true rfl) (Nat.le_of_ble_eq_true rfl) (Nat.le_of_ble_eq_true rfl) ?_
      first | exact ⟨rfl, Or.inl ⟨rfl, fun q => absurd q.1 (Int32.not_le.mpr c1)⟩⟩ | exact ⟨rfl, Or.inl ⟨rfl, fun q => absurd q.2 c7⟩⟩
set_option maxRecDepth 100000 in
set_option maxHeartbeats 4000000 in
theorem tP_designed (l : Launch) (hl : l.stackTraces = false) (g : pq_G) (h : pq_H) (x : Int32) : XI l yP_designed wP_designed rP_designed g 1 6 [.ref (g.2.2 0), .int x] h (fun r h9 => h9 = h ∧ (0 ≤ x ∧ x ≤ 1) ∧ ¬ h 3 6 = 0 ∧ ((x = 0 ∧ h 3 7 = 0 ∧ r = 0) ∨ (x = 0 ∧ ¬ h 3 7 = 0 ∧ r = 1) ∨ (¬ x = 0 ∧ r = h 3 8))) (fun E h9 => h9 = h ∧ ((E = xIOE ∧ ¬ (0 ≤ x ∧ x ≤ 1)) ∨ (E = xISE ∧ (0 ≤ x ∧ x ≤ 1) ∧ h 3 6 = 0))) := by
  refine XI.of (cc := cP_designed) (maxL := 2) (ret := (some .int)) (by decide +kernel) (by simp [Value.category]) (Nat.le_of_ble_eq_true rfl) ?_
  intro p e s m below meth c cx hX hr hlocks hex
  refine vv_iload_n cx dP_designed_0 rfl rfl (pc' := 1) rfl ?_
  refine vv_if_lt cx dP_designed_1 (tgt := 9) (by decide) (pc' := 4) rfl (fun c1 => ?_) (fun c1 => ?_)
  · refine vv_throw cx hX hl hex hlocks (cls := "java/lang/IndexOutOfBoundsException") (text := "no such what") (names := ["java/lang/RuntimeException", "java/lang/Exception"]) (by decide +kernel) (by decide +kernel) ww_344 ww_12 thIOE_at thIOE_good (by decide +kernel) dP_designed_9 dP_designed_12 dP_designed_13 dP_designed_15 dP_designed_18 rfl (Nat.le_of_ble_eq_true rfl) (Nat.le_of_ble_eq_true rfl) (Nat.le_of_ble_eq_true rfl) (Nat.le_of_ble_eq_true rfl) (Nat.le_of_ble_eq_true rfl) (Nat.le_of_ble_eq_true rfl) ?_
    first | exact ⟨rfl, Or.inl ⟨rfl, fun q => absurd q.1 (Int32.not_le.mpr c1)⟩⟩ | exact ⟨rfl, Or.inl ⟨rfl, fun q => absurd q.2 c6⟩⟩
  · refine vv_iload_n cx dP_designed_4 rfl rfl (pc' := 5) rfl ?_
    refine vv_iconst cx dP_designed_5 (v := 1) (by decide) (pc' := 6) rfl ?_
    refine vv_icmp_le cx dP_designed_6 (tgt := 19) (by decide) (pc' := 9) rfl (fun c6 => ?_) (fun c6 => ?_)
    · refine vv_aload_n cx dP_designed_19 rfl rfl (pc' := 20) rfl ?_
      refine vv_getR cx (C := RP) (T := TP) (NN := 4) 0 2 _ (by decide) sh_0 rfl rfl (by decide) lyP ww_144 dP_designed_20 (pc' := 23) rfl ?_
      refine vv_getI cx (C := RG) (T := TG) (NN := 9) 3 6 (by decide) sh_3 rfl rfl (by decide) lyG ww_94 dP_designed_23 (pc' := 26) rfl ?_
      refine vv_if_ne cx dP_designed_26 (tgt := 39) (by decide) (pc' := 29) rfl (fun c26 => ?_) (fun c26 => ?_)
      · refine vv_iload_n cx dP_designed_39 rfl rfl (pc' := 40) rfl ?_
        refine vv_if_ne cx dP_designed_40 (tgt := 59) (by decide) (pc' := 43) rfl (fun c40 => ?_) (fun c40 => ?_)
        · refine vv_aload_n cx dP_designed_59 rfl rfl (pc' := 60) rfl ?_
          refine vv_getR cx (C := RP) (T := TP) (NN := 4) 0 2 _ (by decide) sh_0 rfl rfl (by decide) lyP ww_144 dP_designed_60 (pc' := 63) rfl ?_
          refine vv_getI cx (C := RG) (T := TG) (NN := 9) 3 8 (by decide) sh_3 rfl rfl (by decide) lyG ww_98 dP_designed_63 (pc' := 66) rfl ?_
          refine vv_iret cx hr hlocks dP_designed_66 (Nat.le_of_ble_eq_true rfl) (Nat.le_of_ble_eq_true rfl) ?_
          exact ⟨rfl, ⟨Int32.not_lt.mp c1, c6⟩, c26, Or.inr (Or.inr ⟨c40, rfl⟩)⟩
        · refine vv_aload_n cx dP_designed_43 rfl rfl (pc' := 44) rfl ?_
          refine vv_getR cx (C := RP) (T := TP) (NN := 4) 0 2 _ (by decide) sh_0 rfl rfl (by decide) lyP ww_144 dP_designed_44 (pc' := 47) rfl ?_
          refine vv_getI cx (C := RG) (T := TG) (NN := 9) 3 7 (by decide) sh_3 rfl rfl (by decide) lyG ww_96 dP_designed_47 (pc' := 50) rfl ?_
          refine vv_if_eq cx dP_designed_50 (tgt := 57) (by decide) (pc' := 53) rfl (fun c50 => ?_) (fun c50 => ?_)
          · refine vv_iconst cx dP_designed_57 (v := 0) (by decide) (pc' := 58) rfl ?_
            refine vv_iret cx hr hlocks dP_designed_58 (Nat.le_of_ble_eq_true rfl) (Nat.le_of_ble_eq_true rfl) ?_
            first | exact ⟨rfl, ⟨Int32.not_lt.mp c1, c6⟩, c26, Or.inl ⟨c40, c50, rfl⟩⟩ | exact ⟨rfl, ⟨Int32.not_lt.mp c1, c6⟩, c26, Or.inr (Or.inl ⟨c40, c50, rfl⟩)⟩
          · refine vv_iconst cx dP_designed_53 (v := 1) (by decide) (pc' := 54) rfl ?_
            refine vv_goto cx dP_designed_54 (tgt := 58) (by decide) ?_
            refine vv_iret cx hr hlocks dP_designed_58 (Nat.le_of_ble_eq_true rfl) (Nat.le_of_ble_eq_true rfl) ?_
            first | exact ⟨rfl, ⟨Int32.not_lt.mp c1, c6⟩, c26, Or.inl ⟨c40, c50, rfl⟩⟩ | exact ⟨rfl, ⟨Int32.not_lt.mp c1, c6⟩, c26, Or.inr (Or.inl ⟨c40, c50, rfl⟩)⟩
      · refine vv_throw cx hX hl hex hlocks (cls := "java/lang/IllegalStateException") (text := "nothing was designed") (names := ["java/lang/RuntimeException", "java/lang/Exception"]) (by decide +kernel) (by decide +kernel) ww_310 ww_11 thISE_at thISE_good (by decide +kernel) dP_designed_29 dP_designed_32 dP_designed_33 dP_designed_35 dP_designed_38 rfl (Nat.le_of_ble_eq_true rfl) (Nat.le_of_ble_eq_true rfl) (Nat.le_of_ble_eq_true rfl) (Nat.le_of_ble_eq_true rfl) (Nat.le_of_ble_eq_true rfl) (Nat.le_of_ble_eq_true rfl) ?_
        exact ⟨rfl, Or.inr ⟨rfl, ⟨Int32.not_lt.mp c1, c6⟩, c26⟩⟩
    · refine vv_throw cx hX hl hex hlocks (cls := "java/lang/IndexOutOfBoundsException") (text := "no such what") (names := ["java/lang/RuntimeException", "java/lang/Exception"]) (by decide +kernel) (by decide +kernel) ww_344 ww_12 thIOE_at thIOE_good (by decide +kernel) dP_designed_9 dP_designed_12 dP_designed_13 dP_designed_15 dP_designed_18 rfl (Nat.le_of_ble_eq_true rfl) (Nat.le_of_ble_eq_true rfl) (Nat.le_of_ble_eq_true rfl) (Nat.le_of_ble_eq_true rfl) (Nat.le_of_ble_eq_true rfl) (Nat.le_of_ble_eq_true rfl) ?_
      first | exact ⟨rfl, Or.inl ⟨rfl, fun q => absurd q.1 (Int32.not_le.mpr c1)⟩⟩ | exact ⟨rfl, Or.inl ⟨rfl, fun q => absurd q.2 c6⟩⟩
set_option maxRecDepth 100000 in
set_option maxHeartbeats 4000000 in
theorem tP_gap (l : Launch) (hl : l.stackTraces = false) (g : pq_G) (h : pq_H) {W n : Nat} {w nm pr : Nat → Nat} (hs : pq_st h W n w nm pr) (hd : pq_dn h W n w nm pr) : XI l yP_gap wP_gap rP_gap g 1 6 [.ref (g.2.2 0)] h (fun r h9 => ¬ h 3 5 = -1 ∧ r = h 3 5 - nI (max (pq_up (pq_wd n w nm) W) (pq_up (pq_price n pr nm) (pq_col W n w nm pr).1)) ∧ pq_but [2, 11, 12] h h9 ∧ pq_z h9 12 n ∧ pq_dk h9 W n w nm pr) (fun E h9 => E = xISE ∧ h9 = h ∧ h 3 5 = -1) := by
  refine XI.of (cc := cP_gap) (maxL := 2) (ret := (some .int)) (by decide +kernel) (by simp [Value.category]) (Nat.le_of_ble_eq_true rfl) ?_
  intro p e s m below meth c cx hX hr hlocks hex
  have hn5 := hs.2.1.2.2
  have hXb : pq_wd n w nm ≤ 30000 := pq_wd_bd hn5 (fun i hi => (hs.2.2.1 i (by omega)).2.1) (fun i hi => (hs.2.2.1 i (by omega)).1)
  have hub : pq_up (pq_wd n w nm) W ≤ 30000 := Nat.le_trans pq_up_bd hXb
  have hbb : ∀ i, i < 5 → nm i ≤ 6 ∧ pr i ≤ 1000 := fun i hi => (hs.2.2.1 i hi).2
  have hpb : pq_price n pr nm ≤ 30000 := Nat.le_trans (pq_sum_bd (B := 6000) (fun i hi => Nat.le_trans (Nat.mul_le_mul (hbb i (by omega)).1 (hbb i (by omega)).2) (by decide))) (by omega)
  have hvb : pq_up (pq_price n pr nm) (pq_col W n w nm pr).1 ≤ 30000 := Nat.le_trans pq_up_bd hpb
  refine vv_aload_n cx dP_gap_0 rfl rfl (pc' := 1) rfl ?_
  refine cc_Vv cx hX (tP_requireDesign l hl g h) kP_requireDesign ww_471 rfl rfl ⟨Nat.le_of_ble_eq_true rfl, Nat.le_of_ble_eq_true rfl⟩ 0 (by decide) sh_0 rfl rfl rfl rfl (Nat.le_of_ble_eq_true rfl) rfl ⟨Nat.le_of_ble_eq_true rfl, Nat.le_of_ble_eq_true rfl⟩ dP_gap_1 (pc' := 4) rfl (fun E h9 q9 => vx_pass cx hex hlocks (Nat.le_of_ble_eq_true rfl) (Nat.le_of_ble_eq_true rfl) (q9)) (fun h1 q1 => ?_)
  obtain ⟨rfl, q1⟩ := q1
  refine vv_aload_n cx dP_gap_4 rfl rfl (pc' := 5) rfl ?_
  refine vv_getR cx (C := RP) (T := TP) (NN := 4) 0 0 _ (by decide) sh_0 rfl rfl (by decide) lyP ww_142 dP_gap_5 (pc' := 8) rfl ?_
  refine vv_aload_n cx dP_gap_8 rfl rfl (pc' := 9) rfl ?_
  refine vv_getR cx (C := RP) (T := TP) (NN := 4) 0 0 _ (by decide) sh_0 rfl rfl (by decide) lyP ww_142 dP_gap_9 (pc' := 12) rfl ?_
  refine cc_Vi cx hX (tS_widthOfAll l g _ hs) kS_widthOfAll ww_476 rfl rfl ⟨Nat.le_of_ble_eq_true rfl, Nat.le_of_ble_eq_true rfl⟩ 1 (by decide) sh_1 rfl rfl rfl rfl (Nat.le_of_ble_eq_true rfl) rfl ⟨Nat.le_of_ble_eq_true rfl, Nat.le_of_ble_eq_true rfl⟩ dP_gap_12 (pc' := 15) rfl (fun _ _ q => q.elim) (fun r12 h12 q12 => ?_)
  obtain ⟨rfl, rfl⟩ := q12
  refine cc_Vi cx hX (tS_sheetsFor l g _ (pq_wd n w nm) (by omega) hs) kS_sheetsFor ww_477 rfl rfl ⟨Nat.le_of_ble_eq_true rfl, Nat.le_of_ble_eq_true rfl⟩ 1 (by decide) sh_1 rfl rfl rfl rfl (Nat.le_of_ble_eq_true rfl) rfl ⟨Nat.le_of_ble_eq_true rfl, Nat.le_of_ble_eq_true rfl⟩ dP_gap_15 (pc' := 18) rfl (fun _ _ q => q.elim) (fun r15 h15 q15 => ?_)
  obtain ⟨rfl, rfl⟩ := q15
  refine vv_istore_n cx dP_gap_18 rfl (Nat.le_of_ble_eq_true rfl) (pc' := 19) rfl ?_
  refine vv_aload_n cx dP_gap_19 rfl rfl (pc' := 20) rfl ?_
  refine vv_getR cx (C := RP) (T := TP) (NN := 4) 0 2 _ (by decide) sh_0 rfl rfl (by decide) lyP ww_144 dP_gap_20 (pc' := 23) rfl ?_
  refine vv_getI cx (C := RG) (T := TG) (NN := 9) 3 5 (by decide) sh_3 rfl rfl (by decide) lyG ww_92 dP_gap_23 (pc' := 26) rfl ?_
  refine vv_iload_n cx dP_gap_26 rfl rfl (pc' := 27) rfl ?_
  refine vv_aload_n cx dP_gap_27 rfl rfl (pc' := 28) rfl ?_
  refine cc_Vi cx hX (tP_boundByPrices l g _ hs hd) kP_boundByPrices ww_201 rfl rfl ⟨Nat.le_of_ble_eq_true rfl, Nat.le_of_ble_eq_true rfl⟩ 0 (by decide) sh_0 rfl rfl rfl rfl (Nat.le_of_ble_eq_true rfl) rfl ⟨Nat.le_of_ble_eq_true rfl, Nat.le_of_ble_eq_true rfl⟩ dP_gap_28 (pc' := 31) rfl (fun _ _ q => q.elim) (fun r28 h28 q28 => ?_)
  obtain ⟨rfl, q28⟩ := q28
  refine vv_max cx ww_478 ww_479 ww_13 ww_480 (Nat.le_of_ble_eq_true rfl) (Nat.le_of_ble_eq_true rfl) (Nat.le_of_ble_eq_true rfl) (Nat.le_of_ble_eq_true rfl) rfl dP_gap_31 (pc' := 34) rfl ?_
  rw [pq_maxI (by omega) (by omega)]
  refine vv_isub cx dP_gap_34 (pc' := 35) rfl ?_
  refine vv_iret cx hr hlocks dP_gap_35 (Nat.le_of_ble_eq_true rfl) (Nat.le_of_ble_eq_true rfl) ?_
  exact ⟨q1, rfl, q28⟩
set_option maxRecDepth 100000 in
set_option maxHeartbeats 4000000 in
theorem tP_cut (l : Launch) (hl : l.stackTraces = false) (g : pq_G) (h : pq_H) {W n : Nat} {w nm pr : Nat → Nat} (bs : Option Nat) (best : Nat → Nat → Nat) (x y : Int32) (hs : pq_st h W n w nm pr) (hde : pq_de h n bs best) : XI l yP_cut wP_cut rP_cut g 3 18 [.ref (g.2.2 0), .int x, .int y] h (fun r h9 => h9 = h ∧ ∃ b j i, bs = some b ∧ x = nI j ∧ j < b ∧ y = nI i ∧ i < n ∧ r = nI (best j i)) (fun E h9 => h9 = h ∧ ((E = xISE ∧ h 3 5 = -1) ∨ (E = xIOE ∧ ¬ h 3 5 = -1 ∧ ¬ (0 ≤ x ∧ x < h 3 5 ∧ 0 ≤ y ∧ y < nI n)))) := by
  refine XI.of (cc := cP_cut) (maxL := 3) (ret := (some .int)) (by decide +kernel) (by simp [Value.category]) (Nat.le_of_ble_eq_true rfl) ?_
  intro p e s m below meth c cx hX hr hlocks hex
  have hn5 := hs.2.1.2.2
  have hn := hs.1.2.1
  refine vv_aload_n cx dP_cut_0 rfl rfl (pc' := 1) rfl ?_
  refine cc_Vv cx hX (tP_requireDesign l hl g h) kP_requireDesign ww_471 rfl rfl ⟨Nat.le_of_ble_eq_true rfl, Nat.le_of_ble_eq_true rfl⟩ 0 (by decide) sh_0 rfl rfl rfl rfl (Nat.le_of_ble_eq_true rfl) rfl ⟨Nat.le_of_ble_eq_true rfl, Nat.le_of_ble_eq_true rfl⟩ dP_cut_1 (pc' := 4) rfl (fun E h9 q9 => vx_pass cx hex hlocks (Nat.le_of_ble_eq_true rfl) (Nat.le_of_ble_eq_true rfl) (⟨q9.2.1, Or.inl ⟨q9.1, q9.2.2⟩⟩)) (fun h1 q1 => ?_)
  obtain ⟨rfl, q1⟩ := q1
  refine vv_aload_n cx dP_cut_4 rfl rfl (pc' := 5) rfl ?_
  refine vv_iload_n cx dP_cut_5 rfl rfl (pc' := 6) rfl ?_
  refine cc_Vv cx hX (tP_requireSheet l hl g _ x) kP_requireSheet ww_488 rfl rfl ⟨Nat.le_of_ble_eq_true rfl, Nat.le_of_ble_eq_true rfl⟩ 0 (by decide) sh_0 rfl rfl rfl rfl (Nat.le_of_ble_eq_true rfl) rfl ⟨Nat.le_of_ble_eq_true rfl, Nat.le_of_ble_eq_true rfl⟩ dP_cut_6 (pc' := 9) rfl (fun E h9 q9 => vx_pass cx hex hlocks (Nat.le_of_ble_eq_true rfl) (Nat.le_of_ble_eq_true rfl) (⟨q9.2.1, Or.inr ⟨q9.1, q1, fun z => q9.2.2 ⟨z.1, z.2.1⟩⟩⟩)) (fun h6 q6 => ?_)
  obtain ⟨rfl, q6⟩ := q6
  have hbs : ∀ b, bs = some b → b ≤ 30 := fun b q => (hde.2 b q).1
  have hx2 := q6.2
  rw [hde.1] at hx2
  obtain ⟨b, j, hb, hj, hxj⟩ := pq_bsI_lt hbs q6.1 hx2
  subst hb
  have hbb := hde.2 b rfl
  have hv : vp_in x 30 := by rw [hxj]; exact vp_in_nI (by omega) (by decide)
  have hcl := pq_clN hxj (show j < 1000 by omega)
  refine vv_aload_n cx dP_cut_9 rfl rfl (pc' := 10) rfl ?_
  refine vv_getR cx (C := RP) (T := TP) (NN := 4) 0 0 _ (by decide) sh_0 rfl rfl (by decide) lyP ww_142 dP_cut_10 (pc' := 13) rfl ?_
  refine vv_iload_n cx dP_cut_13 rfl rfl (pc' := 14) rfl ?_
  refine cc_Vi cx hX (tS_has l g _ y) kS_has ww_340 rfl rfl ⟨Nat.le_of_ble_eq_true rfl, Nat.le_of_ble_eq_true rfl⟩ 1 (by decide) sh_1 rfl rfl rfl rfl (Nat.le_of_ble_eq_true rfl) rfl ⟨Nat.le_of_ble_eq_true rfl, Nat.le_of_ble_eq_true rfl⟩ dP_cut_14 (pc' := 17) rfl (fun _ _ q => q.elim) (fun r14 h14 q14 => ?_)
  obtain ⟨rfl, q14⟩ := q14
  rw [hn] at q14
  refine vv_if_ne cx dP_cut_17 (tgt := 30) (by decide) (pc' := 20) rfl (fun c17 => ?_) (fun c17 => ?_)
  · have hiy : 0 ≤ y ∧ y < nI n := by rcases q14 with q | q; exact q.2; exact absurd q.1 c17
    obtain ⟨i, hi, hyi⟩ := pq_idx hiy.1 hiy.2 (by omega)
    refine vv_aload_n cx dP_cut_30 rfl rfl (pc' := 31) rfl ?_
    refine vv_getR cx (C := RP) (T := TP) (NN := 4) 0 2 _ (by decide) sh_0 rfl rfl (by decide) lyP ww_144 dP_cut_31 (pc' := 34) rfl ?_
    refine vv_getR cx (C := RG) (T := TG) (NN := 9) 3 4 _ (by decide) sh_3 rfl rfl (by decide) lyG ww_90 dP_cut_34 (pc' := 37) rfl ?_
    refine vv_iload_n cx dP_cut_37 rfl rfl (pc' := 38) rfl ?_
    refine vv_aaldq cx _ (by decide) sh_6 (show 46 + x.toNatClampNeg = 46 + j by rw [hcl]) hv dP_cut_38 (pc' := 39) rfl ?_
    refine vv_iload_n cx dP_cut_39 rfl rfl (pc' := 40) rfl ?_
    refine vv_iald cx _ (show 46 + j < 125 by omega) (sh_row (by omega) (by omega)) (pq_in5 hyi (by omega)) dP_cut_40 (pc' := 41) rfl ?_
    refine vv_iret cx hr hlocks dP_cut_41 (Nat.le_of_ble_eq_true rfl) (Nat.le_of_ble_eq_true rfl) ?_
    exact ⟨rfl, b, j, i, rfl, hxj, hj, hyi, hi, by rw [pq_clN hyi (by omega)]; exact hbb.2.2 j hj i (by omega)⟩
  · refine vv_throw cx hX hl hex hlocks (cls := "java/lang/IndexOutOfBoundsException") (text := "no such order") (names := ["java/lang/RuntimeException", "java/lang/Exception"]) (by decide +kernel) (by decide +kernel) ww_344 ww_12 thIOE_at thIOE_good (by decide +kernel) dP_cut_20 dP_cut_23 dP_cut_24 dP_cut_26 dP_cut_29 rfl (Nat.le_of_ble_eq_true rfl) (Nat.le_of_ble_eq_true rfl) (Nat.le_of_ble_eq_true rfl) (Nat.le_of_ble_eq_true rfl) (Nat.le_of_ble_eq_true rfl) (Nat.le_of_ble_eq_true rfl) ?_
    rcases q14 with q | q
    · exact absurd c17 (by rw [q.1]; decide)
    · exact ⟨rfl, Or.inr ⟨rfl, q1, fun z => q.2 z.2.2⟩⟩
set_option maxRecDepth 100000 in
set_option maxHeartbeats 4000000 in
theorem tP_over (l : Launch) (hl : l.stackTraces = false) (g : pq_G) (h : pq_H) {W n : Nat} {w nm pr : Nat → Nat} (bs : Option Nat) (best : Nat → Nat → Nat) (x : Int32) (hs : pq_st h W n w nm pr) (hde : pq_de h n bs best) : XI l yP_over wP_over rP_over g 2 12 [.ref (g.2.2 0), .int x] h (fun r h9 => h9 = h ∧ ∃ b j, bs = some b ∧ x = nI j ∧ j < b ∧ r = nI W - nI (pq_sum (fun i => best j i * w i) n)) (fun E h9 => h9 = h ∧ ((E = xISE ∧ h 3 5 = -1) ∨ (E = xIOE ∧ ¬ h 3 5 = -1 ∧ ¬ (0 ≤ x ∧ x < h 3 5)))) := by
  refine XI.of (cc := cP_over) (maxL := 2) (ret := (some .int)) (by decide +kernel) (by simp [Value.category]) (Nat.le_of_ble_eq_true rfl) ?_
  intro p e s m below meth c cx hX hr hlocks hex
  have hn5 := hs.2.1.2.2
  refine vv_aload_n cx dP_over_0 rfl rfl (pc' := 1) rfl ?_
  refine cc_Vv cx hX (tP_requireDesign l hl g h) kP_requireDesign ww_471 rfl rfl ⟨Nat.le_of_ble_eq_true rfl, Nat.le_of_ble_eq_true rfl⟩ 0 (by decide) sh_0 rfl rfl rfl rfl (Nat.le_of_ble_eq_true rfl) rfl ⟨Nat.le_of_ble_eq_true rfl, Nat.le_of_ble_eq_true rfl⟩ dP_over_1 (pc' := 4) rfl (fun E h9 q9 => vx_pass cx hex hlocks (Nat.le_of_ble_eq_true rfl) (Nat.le_of_ble_eq_true rfl) (⟨q9.2.1, Or.inl ⟨q9.1, q9.2.2⟩⟩)) (fun h1 q1 => ?_)
  obtain ⟨rfl, q1⟩ := q1
  refine vv_aload_n cx dP_over_4 rfl rfl (pc' := 5) rfl ?_
  refine vv_iload_n cx dP_over_5 rfl rfl (pc' := 6) rfl ?_
  refine cc_Vv cx hX (tP_requireSheet l hl g _ x) kP_requireSheet ww_488 rfl rfl ⟨Nat.le_of_ble_eq_true rfl, Nat.le_of_ble_eq_true rfl⟩ 0 (by decide) sh_0 rfl rfl rfl rfl (Nat.le_of_ble_eq_true rfl) rfl ⟨Nat.le_of_ble_eq_true rfl, Nat.le_of_ble_eq_true rfl⟩ dP_over_6 (pc' := 9) rfl (fun E h9 q9 => vx_pass cx hex hlocks (Nat.le_of_ble_eq_true rfl) (Nat.le_of_ble_eq_true rfl) (⟨q9.2.1, Or.inr ⟨q9.1, q1, q9.2.2⟩⟩)) (fun h6 q6 => ?_)
  obtain ⟨rfl, q6⟩ := q6
  have hbs : ∀ b, bs = some b → b ≤ 30 := fun b q => (hde.2 b q).1
  have hx2 := q6.2
  rw [hde.1] at hx2
  obtain ⟨b, j, hb, hj, hxj⟩ := pq_bsI_lt hbs q6.1 hx2
  subst hb
  have hbb := hde.2 b rfl
  have hv : vp_in x 30 := by rw [hxj]; exact vp_in_nI (by omega) (by decide)
  have hcl := pq_clN hxj (show j < 1000 by omega)
  refine vv_aload_n cx dP_over_9 rfl rfl (pc' := 10) rfl ?_
  refine vv_getR cx (C := RP) (T := TP) (NN := 4) 0 0 _ (by decide) sh_0 rfl rfl (by decide) lyP ww_142 dP_over_10 (pc' := 13) rfl ?_
  refine vv_getI cx (C := RS) (T := TS) (NN := 5) 1 0 (by decide) sh_1 rfl rfl (by decide) lyS ww_31 dP_over_13 (pc' := 16) rfl ?_
  rw [hs.1.1]
  refine vv_aload_n cx dP_over_16 rfl rfl (pc' := 17) rfl ?_
  refine vv_getR cx (C := RP) (T := TP) (NN := 4) 0 0 _ (by decide) sh_0 rfl rfl (by decide) lyP ww_142 dP_over_17 (pc' := 20) rfl ?_
  refine vv_aload_n cx dP_over_20 rfl rfl (pc' := 21) rfl ?_
  refine vv_getR cx (C := RP) (T := TP) (NN := 4) 0 2 _ (by decide) sh_0 rfl rfl (by decide) lyP ww_144 dP_over_21 (pc' := 24) rfl ?_
  refine vv_getR cx (C := RG) (T := TG) (NN := 9) 3 4 _ (by decide) sh_3 rfl rfl (by decide) lyG ww_90 dP_over_24 (pc' := 27) rfl ?_
  refine vv_iload_n cx dP_over_27 rfl rfl (pc' := 28) rfl ?_
  refine vv_aaldq cx _ (by decide) sh_6 (show 46 + x.toNatClampNeg = 46 + j by rw [hcl]) hv dP_over_28 (pc' := 29) rfl ?_
  refine cc_Vi cx hX (tS_widthOf l g _ (46 + j) (best j) (show 46 + j < 125 by omega) (sh_row (by omega) (by omega)) hs (fun i hi => hbb.2.2 j hj i (by omega))) kS_widthOf ww_500 rfl rfl ⟨Nat.le_of_ble_eq_true rfl, Nat.le_of_ble_eq_true rfl⟩ 1 (by decide) sh_1 rfl rfl rfl rfl (Nat.le_of_ble_eq_true rfl) rfl ⟨Nat.le_of_ble_eq_true rfl, Nat.le_of_ble_eq_true rfl⟩ dP_over_29 (pc' := 32) rfl (fun _ _ q => q.elim) (fun r29 h29 q29 => ?_)
  obtain ⟨rfl, rfl⟩ := q29
  refine vv_isub cx dP_over_32 (pc' := 33) rfl ?_
  refine vv_iret cx hr hlocks dP_over_33 (Nat.le_of_ble_eq_true rfl) (Nat.le_of_ble_eq_true rfl) ?_
  exact ⟨rfl, b, j, rfl, hxj, hj, rfl⟩
set_option maxRecDepth 100000 in
set_option maxHeartbeats 4000000 in
theorem tP_keep (l : Launch) (hl : l.stackTraces = false) (g : pq_G) (h : pq_H) {n : Nat} (bs : Option Nat) (best : Nat → Nat → Nat) (c9 : Nat) (x y : Int32) (hde : pq_de h n bs best) (hc : h 4 0 = nI c9) (hc40 : c9 ≤ 40) : XI l yP_keep wP_keep rP_keep g 3 18 [.ref (g.2.2 0), .int x, .int y] h (fun r h9 => ∃ b j, bs = some b ∧ x = nI j ∧ j < b ∧ (0 ≤ y ∧ y ≤ 9999) ∧ ((∃ k, k < c9 ∧ r = nI k ∧ (∀ i, i < 5 → h (76 + k) i = h (46 + j) i) ∧ (∀ z, z < k → ¬ (∀ i, i < 5 → h (76 + z) i = h (46 + j) i)) ∧ pq_but [14, 15] h h9 ∧ h9 14 = upd (h 14) k (h 14 k + 1) ∧ h9 15 = upd (h 15) k (if h 15 k < y then y else h 15 k)) ∨ ((∀ z, z < c9 → ¬ (∀ i, i < 5 → h (76 + z) i = h (46 + j) i)) ∧ c9 < 40 ∧ r = nI c9 ∧ pq_but [4, 14, 15, 76 + c9] h h9 ∧ h9 4 0 = nI (c9 + 1) ∧ (∀ i, i < 5 → h9 (76 + c9) i = h (46 + j) i) ∧ h9 14 = upd (h 14) c9 1 ∧ h9 15 = upd (h 15) c9 y))) (fun E h9 => h9 = h ∧ ((E = xISE ∧ h 3 5 = -1) ∨ (E = xIOE ∧ ¬ h 3 5 = -1 ∧ ¬ (0 ≤ x ∧ x < h 3 5)) ∨ (E = xIAE ∧ ¬ h 3 5 = -1 ∧ (0 ≤ x ∧ x < h 3 5) ∧ ¬ (0 ≤ y ∧ y ≤ 9999)) ∨ (E = xUOE ∧ ¬ h 3 5 = -1 ∧ (0 ≤ x ∧ x < h 3 5) ∧ (0 ≤ y ∧ y ≤ 9999) ∧ c9 = 40 ∧ ∃ j, x = nI j ∧ j < 30 ∧ ∀ z, z < c9 → ¬ (∀ i, i < 5 → h (76 + z) i = h (46 + j) i)))) := by
  refine XI.of (cc := cP_keep) (maxL := 5) (ret := (some .int)) (by decide +kernel) (by simp [Value.category]) (Nat.le_of_ble_eq_true rfl) ?_
  intro p e s m below meth c cx hX hr hlocks hex
  refine vv_aload_n cx dP_keep_0 rfl rfl (pc' := 1) rfl ?_
  refine cc_Vv cx hX (tP_requireDesign l hl g h) kP_requireDesign ww_471 rfl rfl ⟨Nat.le_of_ble_eq_true rfl, Nat.le_of_ble_eq_true rfl⟩ 0 (by decide) sh_0 rfl rfl rfl rfl (Nat.le_of_ble_eq_true rfl) rfl ⟨Nat.le_of_ble_eq_true rfl, Nat.le_of_ble_eq_true rfl⟩ dP_keep_1 (pc' := 4) rfl (fun E h9 q9 => vx_pass cx hex hlocks (Nat.le_of_ble_eq_true rfl) (Nat.le_of_ble_eq_true rfl) (⟨q9.2.1, Or.inl ⟨q9.1, q9.2.2⟩⟩)) (fun h1 q1 => ?_)
  obtain ⟨rfl, q1⟩ := q1
  refine vv_aload_n cx dP_keep_4 rfl rfl (pc' := 5) rfl ?_
  refine vv_iload_n cx dP_keep_5 rfl rfl (pc' := 6) rfl ?_
  refine cc_Vv cx hX (tP_requireSheet l hl g _ x) kP_requireSheet ww_488 rfl rfl ⟨Nat.le_of_ble_eq_true rfl, Nat.le_of_ble_eq_true rfl⟩ 0 (by decide) sh_0 rfl rfl rfl rfl (Nat.le_of_ble_eq_true rfl) rfl ⟨Nat.le_of_ble_eq_true rfl, Nat.le_of_ble_eq_true rfl⟩ dP_keep_6 (pc' := 9) rfl (fun E h9 q9 => vx_pass cx hex hlocks (Nat.le_of_ble_eq_true rfl) (Nat.le_of_ble_eq_true rfl) (⟨q9.2.1, Or.inr (Or.inl ⟨q9.1, q1, q9.2.2⟩)⟩)) (fun h6 q6 => ?_)
  obtain ⟨rfl, q6⟩ := q6
  have hbs : ∀ b, bs = some b → b ≤ 30 := fun b q => (hde.2 b q).1
  have hx2 := q6.2
  rw [hde.1] at hx2
  obtain ⟨b, j, hb, hj, hxj⟩ := pq_bsI_lt hbs q6.1 hx2
  subst hb
  have hbb := hde.2 b rfl
  have hv : vp_in x 30 := by rw [hxj]; exact vp_in_nI (by omega) (by decide)
  have hcl := pq_clN hxj (show j < 1000 by omega)
  refine vv_iload_n cx dP_keep_9 rfl rfl (pc' := 10) rfl ?_
  refine vv_if_lt cx dP_keep_10 (tgt := 20) (by decide) (pc' := 13) rfl (fun c10 => ?_) (fun c10 => ?_)
  · refine vv_throw cx hX hl hex hlocks (cls := "java/lang/IllegalArgumentException") (text := "no such day") (names := ["java/lang/RuntimeException", "java/lang/Exception"]) (by decide +kernel) (by decide +kernel) ww_221 ww_10 thIAE_at thIAE_good (by decide +kernel) dP_keep_20 dP_keep_23 dP_keep_24 dP_keep_26 dP_keep_29 rfl (Nat.le_of_ble_eq_true rfl) (Nat.le_of_ble_eq_true rfl) (Nat.le_of_ble_eq_true rfl) (Nat.le_of_ble_eq_true rfl) (Nat.le_of_ble_eq_true rfl) (Nat.le_of_ble_eq_true rfl) ?_
    first | exact ⟨rfl, Or.inr (Or.inr (Or.inl ⟨rfl, q1, q6, fun z => absurd z.1 (Int32.not_le.mpr c10)⟩))⟩ | exact ⟨rfl, Or.inr (Or.inr (Or.inl ⟨rfl, q1, q6, fun z => absurd z.2 c17⟩))⟩
  · refine vv_iload_n cx dP_keep_13 rfl rfl (pc' := 14) rfl ?_
    refine vv_sipush cx dP_keep_14 (v := 9999) (by decide) (pc' := 17) rfl ?_
    refine vv_icmp_le cx dP_keep_17 (tgt := 30) (by decide) (pc' := 20) rfl (fun c17 => ?_) (fun c17 => ?_)
    · have hdy : 0 ≤ y ∧ y ≤ 9999 := ⟨Int32.not_lt.mp c10, c17⟩
      refine vv_aload_n cx dP_keep_30 rfl rfl (pc' := 31) rfl ?_
      refine vv_getR cx (C := RP) (T := TP) (NN := 4) 0 2 _ (by decide) sh_0 rfl rfl (by decide) lyP ww_144 dP_keep_31 (pc' := 34) rfl ?_
      refine vv_getR cx (C := RG) (T := TG) (NN := 9) 3 4 _ (by decide) sh_3 rfl rfl (by decide) lyG ww_90 dP_keep_34 (pc' := 37) rfl ?_
      refine vv_iload_n cx dP_keep_37 rfl rfl (pc' := 38) rfl ?_
      refine vv_aaldq cx _ (by decide) sh_6 (show 46 + x.toNatClampNeg = 46 + j by rw [hcl]) hv dP_keep_38 (pc' := 39) rfl ?_
      refine vv_astore_n cx dP_keep_39 rfl (Nat.le_of_ble_eq_true rfl) (pc' := 40) rfl ?_
      refine vv_aload_n cx dP_keep_40 rfl rfl (pc' := 41) rfl ?_
      refine vv_getR cx (C := RP) (T := TP) (NN := 4) 0 3 _ (by decide) sh_0 rfl rfl (by decide) lyP ww_145 dP_keep_41 (pc' := 44) rfl ?_
      refine vv_aload_n cx dP_keep_44 rfl rfl (pc' := 45) rfl ?_
      refine cc_Vi cx hX (tT_find l g _ (46 + j) c9 ⟨by omega, by omega⟩ hc hc40) kT_find ww_509 rfl rfl ⟨Nat.le_of_ble_eq_true rfl, Nat.le_of_ble_eq_true rfl⟩ 4 (by decide) sh_4 rfl rfl rfl rfl (Nat.le_of_ble_eq_true rfl) rfl ⟨Nat.le_of_ble_eq_true rfl, Nat.le_of_ble_eq_true rfl⟩ dP_keep_45 (pc' := 48) rfl (fun _ _ q => q.elim) (fun r45 h45 q45 => ?_)
      obtain ⟨rfl, q45⟩ := q45
      refine vv_istore cx dP_keep_48 (Nat.le_of_ble_eq_true rfl) (pc' := 50) rfl ?_
      refine vv_iload cx dP_keep_50 rfl (pc' := 52) rfl ?_
      refine vv_iconst cx dP_keep_52 (v := -1) (by decide) (pc' := 53) rfl ?_
      refine vv_icmp_eq cx dP_keep_53 (tgt := 69) (by decide) (pc' := 56) rfl (fun c53 => ?_) (fun c53 => ?_)
      · have hno : ∀ z, z < c9 → ¬ (∀ i, i < 5 → h45 (76 + z) i = h45 (46 + j) i) := by rcases q45 with ⟨k, a1, a2, a3, a4⟩ | q; exact absurd (a2 ▸ c53) (pq_ne1 (by omega)); exact q.2
        refine vv_aload_n cx dP_keep_69 rfl rfl (pc' := 70) rfl ?_
        refine vv_getR cx (C := RP) (T := TP) (NN := 4) 0 3 _ (by decide) sh_0 rfl rfl (by decide) lyP ww_145 dP_keep_70 (pc' := 73) rfl ?_
        refine vv_getI cx (C := RT) (T := TT) (NN := 4) 4 0 (by decide) sh_4 rfl rfl (by decide) lyT ww_126 dP_keep_73 (pc' := 76) rfl ?_
        refine vv_bipush cx dP_keep_76 (v := 40) (by decide) (pc' := 78) rfl ?_
        rw [hc]
        refine vv_icmp_lt cx dP_keep_78 (tgt := 91) (by decide) (pc' := 81) rfl (fun c78 => ?_) (fun c78 => ?_)
        · refine vv_aload_n cx dP_keep_91 rfl rfl (pc' := 92) rfl ?_
          refine vv_getR cx (C := RP) (T := TP) (NN := 4) 0 3 _ (by decide) sh_0 rfl rfl (by decide) lyP ww_145 dP_keep_92 (pc' := 95) rfl ?_
          refine vv_aload_n cx dP_keep_95 rfl rfl (pc' := 96) rfl ?_
          refine vv_iload_n cx dP_keep_96 rfl rfl (pc' := 97) rfl ?_
          have hlt : c9 < 40 := Nat.lt_of_not_le (fun q => nI_nlt (a := c9) (b := 40) q (by omega) c78)
          refine cc_Vi cx hX (tT_add l g _ (46 + j) c9 y ⟨by omega, by omega⟩ hc hlt) kT_add ww_522 rfl rfl ⟨Nat.le_of_ble_eq_true rfl, Nat.le_of_ble_eq_true rfl⟩ 4 (by decide) sh_4 rfl rfl rfl rfl (Nat.le_of_ble_eq_true rfl) rfl ⟨Nat.le_of_ble_eq_true rfl, Nat.le_of_ble_eq_true rfl⟩ dP_keep_97 (pc' := 100) rfl (fun _ _ q => q.elim) (fun r97 h97 q97 => ?_)
          refine vv_iret cx hr hlocks dP_keep_100 (Nat.le_of_ble_eq_true rfl) (Nat.le_of_ble_eq_true rfl) ?_
          exact ⟨b, j, rfl, hxj, hj, hdy, Or.inr ⟨hno, hlt, q97⟩⟩
        · refine vv_throw cx hX hl hex hlocks (cls := "java/lang/UnsupportedOperationException") (text := "forty others are kept") (names := ["java/lang/RuntimeException", "java/lang/Exception"]) (by decide +kernel) (by decide +kernel) ww_393 ww_15 thUOE_at thUOE_good (by decide +kernel) dP_keep_81 dP_keep_84 dP_keep_85 dP_keep_87 dP_keep_90 rfl (Nat.le_of_ble_eq_true rfl) (Nat.le_of_ble_eq_true rfl) (Nat.le_of_ble_eq_true rfl) (Nat.le_of_ble_eq_true rfl) (Nat.le_of_ble_eq_true rfl) (Nat.le_of_ble_eq_true rfl) ?_
          exact ⟨rfl, Or.inr (Or.inr (Or.inr ⟨rfl, q1, q6, hdy, by have := Nat.le_of_not_lt (fun q => c78 (nI_lt (b := 40) q (by decide))); omega, j, hxj, by omega, hno⟩))⟩
      · obtain ⟨k, hk, rfl, hk1, hk2⟩ : ∃ k, k < c9 ∧ r45 = nI k ∧ (∀ i, i < 5 → h45 (76 + k) i = h45 (46 + j) i) ∧ ∀ z, z < k → ¬ (∀ i, i < 5 → h45 (76 + z) i = h45 (46 + j) i) := by rcases q45 with ⟨k, a1, a2, a3, a4⟩ | q; exact ⟨k, a1, a2, a3, a4⟩; exact absurd q.1 c53
        refine vv_aload_n cx dP_keep_56 rfl rfl (pc' := 57) rfl ?_
        refine vv_getR cx (C := RP) (T := TP) (NN := 4) 0 3 _ (by decide) sh_0 rfl rfl (by decide) lyP ww_145 dP_keep_57 (pc' := 60) rfl ?_
        refine vv_iload cx dP_keep_60 rfl (pc' := 62) rfl ?_
        refine vv_iload_n cx dP_keep_62 rfl rfl (pc' := 63) rfl ?_
        refine cc_Vv cx hX (tT_countAgain l g _ k y (by omega)) kT_countAgain ww_516 rfl rfl ⟨Nat.le_of_ble_eq_true rfl, Nat.le_of_ble_eq_true rfl⟩ 4 (by decide) sh_4 rfl rfl rfl rfl (Nat.le_of_ble_eq_true rfl) rfl ⟨Nat.le_of_ble_eq_true rfl, Nat.le_of_ble_eq_true rfl⟩ dP_keep_63 (pc' := 66) rfl (fun _ _ q => q.elim) (fun h63 q63 => ?_)
        refine vv_iload cx dP_keep_66 rfl (pc' := 68) rfl ?_
        refine vv_iret cx hr hlocks dP_keep_68 (Nat.le_of_ble_eq_true rfl) (Nat.le_of_ble_eq_true rfl) ?_
        exact ⟨b, j, rfl, hxj, hj, hdy, Or.inl ⟨k, hk, rfl, hk1, hk2, q63⟩⟩
    · refine vv_throw cx hX hl hex hlocks (cls := "java/lang/IllegalArgumentException") (text := "no such day") (names := ["java/lang/RuntimeException", "java/lang/Exception"]) (by decide +kernel) (by decide +kernel) ww_221 ww_10 thIAE_at thIAE_good (by decide +kernel) dP_keep_20 dP_keep_23 dP_keep_24 dP_keep_26 dP_keep_29 rfl (Nat.le_of_ble_eq_true rfl) (Nat.le_of_ble_eq_true rfl) (Nat.le_of_ble_eq_true rfl) (Nat.le_of_ble_eq_true rfl) (Nat.le_of_ble_eq_true rfl) (Nat.le_of_ble_eq_true rfl) ?_
      first | exact ⟨rfl, Or.inr (Or.inr (Or.inl ⟨rfl, q1, q6, fun z => absurd z.1 (Int32.not_le.mpr c10)⟩))⟩ | exact ⟨rfl, Or.inr (Or.inr (Or.inl ⟨rfl, q1, q6, fun z => absurd z.2 c17⟩))⟩
set_option maxRecDepth 100000 in
set_option maxHeartbeats 4000000 in
theorem tP_kept (l : Launch) (hl : l.stackTraces = false) (g : pq_G) (h : pq_H) (c9 : Nat) (x y : Int32) (hc : h 4 0 = nI c9) (hc40 : c9 ≤ 40) : XI l yP_kept wP_kept rP_kept g 1 6 [.ref (g.2.2 0), .int x, .int y] h (fun r h9 => h9 = h ∧ ∃ j, x = nI j ∧ j < c9 ∧ ((y = 6 ∧ r = h 15 j) ∨ (y = 5 ∧ r = h 14 j) ∨ ∃ i, y = nI i ∧ i < 5 ∧ r = h (76 + j) i)) (fun E h9 => E = xIOE ∧ h9 = h ∧ ¬ ((0 ≤ x ∧ x < nI c9) ∧ 0 ≤ y ∧ y ≤ 6)) := by
  refine XI.of (cc := cP_kept) (maxL := 3) (ret := (some .int)) (by decide +kernel) (by simp [Value.category]) (Nat.le_of_ble_eq_true rfl) ?_
  intro p e s m below meth c cx hX hr hlocks hex
  refine vv_iload_n cx dP_kept_0 rfl rfl (pc' := 1) rfl ?_
  refine vv_if_lt cx dP_kept_1 (tgt := 15) (by decide) (pc' := 4) rfl (fun c1 => ?_) (fun c1 => ?_)
  · refine vv_throw cx hX hl hex hlocks (cls := "java/lang/IndexOutOfBoundsException") (text := "no such kept pattern") (names := ["java/lang/RuntimeException", "java/lang/Exception"]) (by decide +kernel) (by decide +kernel) ww_344 ww_12 thIOE_at thIOE_good (by decide +kernel) dP_kept_15 dP_kept_18 dP_kept_19 dP_kept_21 dP_kept_24 rfl (Nat.le_of_ble_eq_true rfl) (Nat.le_of_ble_eq_true rfl) (Nat.le_of_ble_eq_true rfl) (Nat.le_of_ble_eq_true rfl) (Nat.le_of_ble_eq_true rfl) (Nat.le_of_ble_eq_true rfl) ?_
    first | exact ⟨rfl, rfl, fun q => absurd q.1.1 (Int32.not_le.mpr c1)⟩ | exact ⟨rfl, rfl, fun q => absurd q.1.2 c12⟩
  · refine vv_iload_n cx dP_kept_4 rfl rfl (pc' := 5) rfl ?_
    refine vv_aload_n cx dP_kept_5 rfl rfl (pc' := 6) rfl ?_
    refine vv_getR cx (C := RP) (T := TP) (NN := 4) 0 3 _ (by decide) sh_0 rfl rfl (by decide) lyP ww_145 dP_kept_6 (pc' := 9) rfl ?_
    refine vv_getI cx (C := RT) (T := TT) (NN := 4) 4 0 (by decide) sh_4 rfl rfl (by decide) lyT ww_126 dP_kept_9 (pc' := 12) rfl ?_
    rw [hc]
    refine vv_icmp_lt cx dP_kept_12 (tgt := 25) (by decide) (pc' := 15) rfl (fun c12 => ?_) (fun c12 => ?_)
    · obtain ⟨j, hj, hxj⟩ := pq_idx (Int32.not_lt.mp c1) c12 (by omega)
      have hv : vp_in x 40 := by rw [hxj]; exact vp_in_nI (by omega) (by decide)
      have hcl := pq_clN hxj (show j < 1000 by omega)
      refine vv_iload_n cx dP_kept_25 rfl rfl (pc' := 26) rfl ?_
      refine vv_if_lt cx dP_kept_26 (tgt := 35) (by decide) (pc' := 29) rfl (fun c26 => ?_) (fun c26 => ?_)
      · refine vv_throw cx hX hl hex hlocks (cls := "java/lang/IndexOutOfBoundsException") (text := "no such what") (names := ["java/lang/RuntimeException", "java/lang/Exception"]) (by decide +kernel) (by decide +kernel) ww_344 ww_12 thIOE_at thIOE_good (by decide +kernel) dP_kept_35 dP_kept_38 dP_kept_39 dP_kept_41 dP_kept_44 rfl (Nat.le_of_ble_eq_true rfl) (Nat.le_of_ble_eq_true rfl) (Nat.le_of_ble_eq_true rfl) (Nat.le_of_ble_eq_true rfl) (Nat.le_of_ble_eq_true rfl) (Nat.le_of_ble_eq_true rfl) ?_
        first | exact ⟨rfl, rfl, fun q => absurd q.2.1 (Int32.not_le.mpr c26)⟩ | exact ⟨rfl, rfl, fun q => absurd q.2.2 c32⟩
      · refine vv_iload_n cx dP_kept_29 rfl rfl (pc' := 30) rfl ?_
        refine vv_bipush cx dP_kept_30 (v := 6) (by decide) (pc' := 32) rfl ?_
        refine vv_icmp_le cx dP_kept_32 (tgt := 45) (by decide) (pc' := 35) rfl (fun c32 => ?_) (fun c32 => ?_)
        · refine vv_iload_n cx dP_kept_45 rfl rfl (pc' := 46) rfl ?_
          refine vv_bipush cx dP_kept_46 (v := 6) (by decide) (pc' := 48) rfl ?_
          refine vv_icmp_ne cx dP_kept_48 (tgt := 61) (by decide) (pc' := 51) rfl (fun c48 => ?_) (fun c48 => ?_)
          · refine vv_iload_n cx dP_kept_61 rfl rfl (pc' := 62) rfl ?_
            refine vv_iconst cx dP_kept_62 (v := 5) (by decide) (pc' := 63) rfl ?_
            refine vv_icmp_ne cx dP_kept_63 (tgt := 76) (by decide) (pc' := 66) rfl (fun c63 => ?_) (fun c63 => ?_)
            · obtain ⟨i, hi, hyi⟩ := pq_rng (n := 6) (M := 6) rfl (Int32.not_lt.mp c26) c32
              have hi5 : i < 5 := pq_lt5 hi hyi c48 c63
              refine vv_aload_n cx dP_kept_76 rfl rfl (pc' := 77) rfl ?_
              refine vv_getR cx (C := RP) (T := TP) (NN := 4) 0 3 _ (by decide) sh_0 rfl rfl (by decide) lyP ww_145 dP_kept_77 (pc' := 80) rfl ?_
              refine vv_getR cx (C := RT) (T := TT) (NN := 4) 4 1 _ (by decide) sh_4 rfl rfl (by decide) lyT ww_128 dP_kept_80 (pc' := 83) rfl ?_
              refine vv_iload_n cx dP_kept_83 rfl rfl (pc' := 84) rfl ?_
              refine vv_aaldq cx _ (by decide) sh_7 (show 76 + x.toNatClampNeg = 76 + j by rw [hcl]) hv dP_kept_84 (pc' := 85) rfl ?_
              refine vv_iload_n cx dP_kept_85 rfl rfl (pc' := 86) rfl ?_
              refine vv_iald cx _ (show 76 + j < 125 by omega) (sh_row (by omega) (by omega)) (pq_in5 hyi hi5) dP_kept_86 (pc' := 87) rfl ?_
              refine vv_iret cx hr hlocks dP_kept_87 (Nat.le_of_ble_eq_true rfl) (Nat.le_of_ble_eq_true rfl) ?_
              exact ⟨rfl, j, hxj, hj, Or.inr (Or.inr ⟨i, hyi, hi5, by rw [pq_clN hyi (by omega)]⟩)⟩
            · refine vv_aload_n cx dP_kept_66 rfl rfl (pc' := 67) rfl ?_
              refine vv_getR cx (C := RP) (T := TP) (NN := 4) 0 3 _ (by decide) sh_0 rfl rfl (by decide) lyP ww_145 dP_kept_67 (pc' := 70) rfl ?_
              refine vv_getR cx (C := RT) (T := TT) (NN := 4) 4 2 _ (by decide) sh_4 rfl rfl (by decide) lyT ww_130 dP_kept_70 (pc' := 73) rfl ?_
              refine vv_iload_n cx dP_kept_73 rfl rfl (pc' := 74) rfl ?_
              refine vv_iald cx _ (by decide) sh_14 hv dP_kept_74 (pc' := 75) rfl ?_
              refine vv_iret cx hr hlocks dP_kept_75 (Nat.le_of_ble_eq_true rfl) (Nat.le_of_ble_eq_true rfl) ?_
              exact ⟨rfl, j, hxj, hj, Or.inr (Or.inl ⟨c63, by rw [hcl]⟩)⟩
          · refine vv_aload_n cx dP_kept_51 rfl rfl (pc' := 52) rfl ?_
            refine vv_getR cx (C := RP) (T := TP) (NN := 4) 0 3 _ (by decide) sh_0 rfl rfl (by decide) lyP ww_145 dP_kept_52 (pc' := 55) rfl ?_
            refine vv_getR cx (C := RT) (T := TT) (NN := 4) 4 3 _ (by decide) sh_4 rfl rfl (by decide) lyT ww_132 dP_kept_55 (pc' := 58) rfl ?_
            refine vv_iload_n cx dP_kept_58 rfl rfl (pc' := 59) rfl ?_
            refine vv_iald cx _ (by decide) sh_15 hv dP_kept_59 (pc' := 60) rfl ?_
            refine vv_iret cx hr hlocks dP_kept_60 (Nat.le_of_ble_eq_true rfl) (Nat.le_of_ble_eq_true rfl) ?_
            exact ⟨rfl, j, hxj, hj, Or.inl ⟨c48, by rw [hcl]⟩⟩
        · refine vv_throw cx hX hl hex hlocks (cls := "java/lang/IndexOutOfBoundsException") (text := "no such what") (names := ["java/lang/RuntimeException", "java/lang/Exception"]) (by decide +kernel) (by decide +kernel) ww_344 ww_12 thIOE_at thIOE_good (by decide +kernel) dP_kept_35 dP_kept_38 dP_kept_39 dP_kept_41 dP_kept_44 rfl (Nat.le_of_ble_eq_true rfl) (Nat.le_of_ble_eq_true rfl) (Nat.le_of_ble_eq_true rfl) (Nat.le_of_ble_eq_true rfl) (Nat.le_of_ble_eq_true rfl) (Nat.le_of_ble_eq_true rfl) ?_
          first | exact ⟨rfl, rfl, fun q => absurd q.2.1 (Int32.not_le.mpr c26)⟩ | exact ⟨rfl, rfl, fun q => absurd q.2.2 c32⟩
    · refine vv_throw cx hX hl hex hlocks (cls := "java/lang/IndexOutOfBoundsException") (text := "no such kept pattern") (names := ["java/lang/RuntimeException", "java/lang/Exception"]) (by decide +kernel) (by decide +kernel) ww_344 ww_12 thIOE_at thIOE_good (by decide +kernel) dP_kept_15 dP_kept_18 dP_kept_19 dP_kept_21 dP_kept_24 rfl (Nat.le_of_ble_eq_true rfl) (Nat.le_of_ble_eq_true rfl) (Nat.le_of_ble_eq_true rfl) (Nat.le_of_ble_eq_true rfl) (Nat.le_of_ble_eq_true rfl) (Nat.le_of_ble_eq_true rfl) ?_
      first | exact ⟨rfl, rfl, fun q => absurd q.1.1 (Int32.not_le.mpr c1)⟩ | exact ⟨rfl, rfl, fun q => absurd q.1.2 c12⟩
/-- the i-th of the places under c that have P -/
def pq_nth (P : Nat → Bool) : Nat → Nat → Nat → Option Nat
  | 0, _, _ => none
  | f + 1, k, i => if P k then (if i = 0 then some k else pq_nth P f (k + 1) (i - 1)) else pq_nth P f (k + 1) i
def pq_fitb (W n : Nat) (w nm a : Nat → Nat) : Bool := decide ((∀ i, i < n → a i ≤ nm i) ∧ pq_sum (fun i => a i * w i) n ≤ W)
def pq_opI : Option Nat → Int32
  | none => -1
  | some b => nI b
set_option maxRecDepth 100000 in
set_option maxHeartbeats 4000000 in
theorem tP_fitting (l : Launch) (hl : l.stackTraces = false) (g : pq_G) (h : pq_H) {W n : Nat} {w nm pr : Nat → Nat} (c9 : Nat) (kp : Nat → Nat → Nat) (x : Int32) (hs : pq_st h W n w nm pr) (hso : pq_so h c9 kp) : XI l yP_fitting wP_fitting rP_fitting g 1 6 [.ref (g.2.2 0), .int x] h (fun r h9 => h9 = h ∧ ∃ i, x = nI i ∧ i < 2 ^ 31 ∧ r = pq_opI (pq_nth (fun k => pq_fitb W n w nm (kp k)) c9 0 i)) (fun E h9 => E = xIOE ∧ h9 = h ∧ x < 0) := by
  refine XI.of (cc := cP_fitting) (maxL := 4) (ret := (some .int)) (by decide +kernel) (by simp [Value.category]) (Nat.le_of_ble_eq_true rfl) ?_
  intro p e s m below meth c cx hX hr hlocks hex
  obtain ⟨hc, hc40, hkp⟩ := id hso
  have loop : ∀ (i0 : Nat), x = nI i0 → i0 < 2 ^ 31 → ∀ (d k i : Nat) (y2 y3 : Int32), y3 = nI k → y2 = nI i → i < 2 ^ 31 → k + d = c9 → pq_nth (fun k => pq_fitb W n w nm (kp k)) d k i = pq_nth (fun k => pq_fitb W n w nm (kp k)) c9 0 i0 → VV p l e rP_fitting s m [.ref (g.2.2 0), .int x].toArray below meth c (vx_MQ below (pq_Qi g (fun r h9 => h9 = h ∧ ∃ i, x = nI i ∧ i < 2 ^ 31 ∧ r = pq_opI (pq_nth (fun k => pq_fitb W n w nm (kp k)) c9 0 i)) s.heap.size) (pq_Qx g (fun E h9 => E = xIOE ∧ h9 = h ∧ x < 0) s.heap.size) [.ref (g.2.2 0), .int x].toArray s 1 6 (pq_A g s.heap.size)) g 0 0 h 18 [some (.ref (g.2.2 0)), some (.int x), some (.int y2), some (.int y3)] [] := by
    intro i0 hx0 hi0 d
    induction d with
    | zero =>
      intro k i y2 y3 hy3 hy2 hi hk hf
      have e1 : k = c9 := by omega
      subst e1
      refine vv_iload_n cx dP_fitting_18 rfl rfl (pc' := 19) rfl ?_
      refine vv_aload_n cx dP_fitting_19 rfl rfl (pc' := 20) rfl ?_
      refine vv_getR cx (C := RP) (T := TP) (NN := 4) 0 3 _ (by decide) sh_0 rfl rfl (by decide) lyP ww_145 dP_fitting_20 (pc' := 23) rfl ?_
      refine vv_getI cx (C := RT) (T := TT) (NN := 4) 4 0 (by decide) sh_4 rfl rfl (by decide) lyT ww_126 dP_fitting_23 (pc' := 26) rfl ?_
      refine vv_icmp_ge cx dP_fitting_26 (tgt := 63) (by decide) (pc' := 29) rfl (fun c26 => ?_) (fun c26 => ?_)
      · refine vv_iconst cx dP_fitting_63 (v := -1) (by decide) (pc' := 64) rfl ?_
        refine vv_iret cx hr hlocks dP_fitting_64 (Nat.le_of_ble_eq_true rfl) (Nat.le_of_ble_eq_true rfl) ?_
        exact ⟨rfl, i0, hx0, hi0, by rw [← hf]; rfl⟩
      · exact absurd (Int32.le_refl _) (by rw [hy3, hc] at c26; exact c26)
    | succ d ih =>
      intro k i y2 y3 hy3 hy2 hi hk hf
      have hlt : k < c9 := by omega
      have hv : vp_in y3 40 := by rw [hy3]; exact vp_in_nI (by omega) (by decide)
      have hcl := pq_clN hy3 (show k < 1000 by omega)
      have hkk := hkp k hlt
      have hf2 : (if pq_fitb W n w nm (kp k) then (if i = 0 then some k else pq_nth (fun k => pq_fitb W n w nm (kp k)) d (k + 1) (i - 1)) else pq_nth (fun k => pq_fitb W n w nm (kp k)) d (k + 1) i) = pq_nth (fun k => pq_fitb W n w nm (kp k)) c9 0 i0 := hf
      refine vv_iload_n cx dP_fitting_18 rfl rfl (pc' := 19) rfl ?_
      refine vv_aload_n cx dP_fitting_19 rfl rfl (pc' := 20) rfl ?_
      refine vv_getR cx (C := RP) (T := TP) (NN := 4) 0 3 _ (by decide) sh_0 rfl rfl (by decide) lyP ww_145 dP_fitting_20 (pc' := 23) rfl ?_
      refine vv_getI cx (C := RT) (T := TT) (NN := 4) 4 0 (by decide) sh_4 rfl rfl (by decide) lyT ww_126 dP_fitting_23 (pc' := 26) rfl ?_
      refine vv_icmp_ge cx dP_fitting_26 (tgt := 63) (by decide) (pc' := 29) rfl (fun c26 => ?_) (fun c26 => ?_)
      · exact absurd (by rw [hy3, hc] at c26; exact c26) (nI_ge hlt (by omega))
      · refine vv_aload_n cx dP_fitting_29 rfl rfl (pc' := 30) rfl ?_
        refine vv_getR cx (C := RP) (T := TP) (NN := 4) 0 0 _ (by decide) sh_0 rfl rfl (by decide) lyP ww_142 dP_fitting_30 (pc' := 33) rfl ?_
        refine vv_aload_n cx dP_fitting_33 rfl rfl (pc' := 34) rfl ?_
        refine vv_getR cx (C := RP) (T := TP) (NN := 4) 0 3 _ (by decide) sh_0 rfl rfl (by decide) lyP ww_145 dP_fitting_34 (pc' := 37) rfl ?_
        refine vv_getR cx (C := RT) (T := TT) (NN := 4) 4 1 _ (by decide) sh_4 rfl rfl (by decide) lyT ww_128 dP_fitting_37 (pc' := 40) rfl ?_
        refine vv_iload_n cx dP_fitting_40 rfl rfl (pc' := 41) rfl ?_
        refine vv_aaldq cx _ (by decide) sh_7 (show 76 + y3.toNatClampNeg = 76 + k by rw [hcl]) hv dP_fitting_41 (pc' := 42) rfl ?_
        refine cc_Vi cx hX (tS_isPattern l g h (76 + k) (kp k) (show 76 + k < 125 by omega) (sh_row (by omega) (by omega)) hs hkk.1 hkk.2) kS_isPattern ww_543 rfl rfl ⟨Nat.le_of_ble_eq_true rfl, Nat.le_of_ble_eq_true rfl⟩ 1 (by decide) sh_1 rfl rfl rfl rfl (Nat.le_of_ble_eq_true rfl) rfl ⟨Nat.le_of_ble_eq_true rfl, Nat.le_of_ble_eq_true rfl⟩ dP_fitting_42 (pc' := 45) rfl (fun _ _ q => q.elim) (fun r42 h42 q42 => ?_)
        obtain ⟨rfl, q42⟩ := q42
        refine vv_if_eq cx dP_fitting_45 (tgt := 57) (by decide) (pc' := 48) rfl (fun c45 => ?_) (fun c45 => ?_)
        · first | (have hnf : ¬ pq_fitb W n w nm (kp k) = true := by rcases q42 with q | q; exact absurd c45 (by rw [q.1]; decide); exact fun z => q.2 (of_decide_eq_true z)) | skip
          refine vv_iinc cx dP_fitting_57 rfl rfl (pc' := 60) rfl ?_
          refine vv_goto cx dP_fitting_60 (tgt := 18) (by decide) ?_
          first
          | (rw [if_pos hfit, if_neg hi1] at hf2; exact ih (k + 1) (i - 1) _ _ (pq_nI1 hy3) (by rw [hy2, show i = (i - 1) + 1 by omega]; exact pk_m1 _) (by omega) (by omega) hf2)
          | (rw [if_neg hnf] at hf2; exact ih (k + 1) i _ _ (pq_nI1 hy3) hy2 hi (by omega) hf2)
        · have hfit : pq_fitb W n w nm (kp k) = true := by rcases q42 with q | q; exact decide_eq_true q.2; exact absurd q.1 c45
          refine vv_iload_n cx dP_fitting_48 rfl rfl (pc' := 49) rfl ?_
          refine vv_if_ne cx dP_fitting_49 (tgt := 54) (by decide) (pc' := 52) rfl (fun c49 => ?_) (fun c49 => ?_)
          · have hi1 : ¬ i = 0 := fun q => c49 (by rw [hy2, q]; rfl)
            refine vv_iinc cx dP_fitting_54 rfl rfl (pc' := 57) rfl ?_
            first | (have hnf : ¬ pq_fitb W n w nm (kp k) = true := by rcases q42 with q | q; exact absurd c45 (by rw [q.1]; decide); exact fun z => q.2 (of_decide_eq_true z)) | skip
            refine vv_iinc cx dP_fitting_57 rfl rfl (pc' := 60) rfl ?_
            refine vv_goto cx dP_fitting_60 (tgt := 18) (by decide) ?_
            first
            | (rw [if_pos hfit, if_neg hi1] at hf2; exact ih (k + 1) (i - 1) _ _ (pq_nI1 hy3) (by rw [hy2, show i = (i - 1) + 1 by omega]; exact pk_m1 _) (by omega) (by omega) hf2)
            | (rw [if_neg hnf] at hf2; exact ih (k + 1) i _ _ (pq_nI1 hy3) hy2 hi (by omega) hf2)
          · refine vv_iload_n cx dP_fitting_52 rfl rfl (pc' := 53) rfl ?_
            refine vv_iret cx hr hlocks dP_fitting_53 (Nat.le_of_ble_eq_true rfl) (Nat.le_of_ble_eq_true rfl) ?_
            rw [if_pos hfit, if_pos (show i = 0 from Decidable.byContradiction (fun q => nI_ne0 (Nat.pos_of_ne_zero q) hi (by rw [← hy2]; exact c49)))] at hf2
            exact ⟨rfl, i0, hx0, hi0, by rw [← hf2]; exact hy3⟩
  refine vv_iload_n cx dP_fitting_0 rfl rfl (pc' := 1) rfl ?_
  refine vv_if_ge cx dP_fitting_1 (tgt := 14) (by decide) (pc' := 4) rfl (fun c1 => ?_) (fun c1 => ?_)
  · obtain ⟨i0, hi0, hx0⟩ := nI_of (Int32.not_lt.mpr c1)
    refine vv_iload_n cx dP_fitting_14 rfl rfl (pc' := 15) rfl ?_
    refine vv_istore_n cx dP_fitting_15 rfl (Nat.le_of_ble_eq_true rfl) (pc' := 16) rfl ?_
    refine vv_iconst cx dP_fitting_16 (v := 0) (by decide) (pc' := 17) rfl ?_
    refine vv_istore_n cx dP_fitting_17 rfl (Nat.le_of_ble_eq_true rfl) (pc' := 18) rfl ?_
    exact loop i0 hx0 hi0 c9 0 i0 _ _ nI_0.symm hx0 hi0 (by omega) rfl
  · refine vv_throw cx hX hl hex hlocks (cls := "java/lang/IndexOutOfBoundsException") (text := "below the first one") (names := ["java/lang/RuntimeException", "java/lang/Exception"]) (by decide +kernel) (by decide +kernel) ww_344 ww_12 thIOE_at thIOE_good (by decide +kernel) dP_fitting_4 dP_fitting_7 dP_fitting_8 dP_fitting_10 dP_fitting_13 rfl (Nat.le_of_ble_eq_true rfl) (Nat.le_of_ble_eq_true rfl) (Nat.le_of_ble_eq_true rfl) (Nat.le_of_ble_eq_true rfl) (Nat.le_of_ble_eq_true rfl) (Nat.le_of_ble_eq_true rfl) ?_
    exact ⟨rfl, rfl, Int32.not_le.mp c1⟩

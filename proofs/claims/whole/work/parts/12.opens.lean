/-! part 12: Designing: opens, goesOn, run -/
theorem pq_top1 : ∀ n, n < 6 → (n = 0 ∧ (if nI n - 1 < nI n - 1 then nI n - 1 else nI n - 1) < 0) ∨ (0 < n ∧ (if nI n - 1 < nI n - 1 then nI n - 1 else nI n - 1) = nI (n - 1)) := by decide +kernel
theorem pq_up_bd {x W : Nat} : pq_up x W ≤ x := by
  unfold pq_up
  split
  · omega
  · rename_i h
    rcases Nat.eq_zero_or_pos x with q | q
    · subst q; rw [Nat.div_eq_of_lt (by omega)]; exact Nat.le_refl _
    · refine Nat.le_trans (Nat.div_le_div_right (c := W) (show x + W - 1 ≤ x * W by
        have h1 : W ≤ x * W := Nat.le_mul_of_pos_left W q
        have h2 : x ≤ x * W := Nat.le_mul_of_pos_right x (by omega)
        rcases Nat.eq_or_lt_of_le (show 1 ≤ x from q) with e1 | e1
        · rw [← e1]; omega
        · rcases Nat.eq_or_lt_of_le (show 1 ≤ W by omega) with e2 | e2
          · rw [← e2]; omega
          · have : x * W = (x - 1) * (W - 1) + x + W - 1 := by
              obtain ⟨a, rfl⟩ : ∃ a, x = a + 1 := ⟨x - 1, by omega⟩
              obtain ⟨b, rfl⟩ : ∃ b, W = b + 1 := ⟨W - 1, by omega⟩
              simp [Nat.add_mul, Nat.mul_add]
              omega
            omega)) ?_
      rw [Nat.mul_div_cancel _ (by omega)]
      exact Nat.le_refl _
theorem pq_wd_bd {n : Nat} {w a : Nat → Nat} (hn : n ≤ 5) (ha : ∀ i, i < n → a i ≤ 6) (hw : ∀ i, i < n → w i ≤ 1000) : pq_wd n w a ≤ 30000 :=
  Nat.le_trans (pq_sum_bd (B := 6000) (fun i hi => Nat.le_trans (Nat.mul_le_mul (ha i hi) (hw i hi)) (by decide))) (by omega)
theorem pq_wd_sub {n : Nat} {w a lf : Nat → Nat} (h : ∀ i, i < n → a i ≤ lf i) : pq_wd n w lf - pq_wd n w a = pq_wd n w (fun i => lf i - a i) ∧ pq_wd n w a ≤ pq_wd n w lf := by
  have h1 := pq_sum_sub (f := fun i => lf i * w i) (g := fun i => a i * w i) (n := n) (fun i hi => Nat.mul_le_mul_right _ (h i hi))
  have h2 : pq_sum (fun i => (lf i - a i) * w i) n = pq_sum (fun i => lf i * w i - a i * w i) n := pq_sum_congr (fun i _ => Nat.sub_mul _ _ _)
  constructor
  · show pq_sum (fun i => lf i * w i) n - pq_sum (fun i => a i * w i) n = pq_sum (fun i => (lf i - a i) * w i) n
    omega
  · show pq_sum (fun i => a i * w i) n ≤ pq_sum (fun i => lf i * w i) n
    omega
theorem pq_bsI_ne {b : Nat} (h : b ≤ 30) : ¬ nI b = -1 := by
  intro q
  have h1 : (nI b).toInt = (-1 : Int32).toInt := by rw [q]
  rw [nI_toInt (by omega)] at h1
  have h2 : (-1 : Int32).toInt = -1 := by decide
  omega
theorem pq_bsI_some {bs : Option Nat} (h : ¬ pq_bsI bs = -1) : ∃ b, bs = some b := by
  cases bs with
  | none => exact absurd rfl h
  | some b => exact ⟨b, rfl⟩
set_option maxRecDepth 100000 in
set_option maxHeartbeats 4000000 in
theorem tG_goesOn (l : Launch) (g : pq_G) (h : pq_H) {W n : Nat} {w nm pr : Nat → Nat} (kr : Nat) (a lf : Nat → Nat) (hkr : 16 ≤ kr ∧ kr < 116) (hs : pq_st h W n w nm pr) (ha : pq_row h kr a) (hl9 : pq_row h 13 lf) (hlf : ∀ i, i < 5 → lf i ≤ 6) (hpat : pq_pat W n w lf a) : XI l yG_goesOn wG_goesOn rG_goesOn g 0 0 [.ref (g.2.2 3), .ref (g.2.2 kr)] h (fun r h9 => (r = 1 ∧ ∃ b, pq_next W n w lf a (pq_low lf n) n = some b ∧ pq_only kr h h9 ∧ pq_row h9 kr b) ∨ (r = 0 ∧ pq_next W n w lf a (pq_low lf n) n = none ∧ h9 = h)) (pq_no) := by
  refine XI.of (cc := cG_goesOn) (maxL := 2) (ret := (some .boolean)) (by decide +kernel) (by simp [Value.category]) (Nat.le_of_ble_eq_true rfl) ?_
  intro p e s m below meth c cx hX hr hlocks hex
  have hn5 : n ≤ 5 := hs.2.1.2.2
  refine vv_aload_n cx dG_goesOn_0 rfl rfl (pc' := 1) rfl ?_
  refine vv_getR cx (C := RG) (T := TG) (NN := 9) 3 0 _ (by decide) sh_3 rfl rfl (by decide) lyG ww_85 dG_goesOn_1 (pc' := 4) rfl ?_
  refine vv_aload_n cx dG_goesOn_4 rfl rfl (pc' := 5) rfl ?_
  refine vv_aload_n cx dG_goesOn_5 rfl rfl (pc' := 6) rfl ?_
  refine vv_getR cx (C := RG) (T := TG) (NN := 9) 3 1 _ (by decide) sh_3 rfl rfl (by decide) lyG ww_86 dG_goesOn_6 (pc' := 9) rfl ?_
  refine vv_aload_n cx dG_goesOn_9 rfl rfl (pc' := 10) rfl ?_
  refine vv_getR cx (C := RG) (T := TG) (NN := 9) 3 0 _ (by decide) sh_3 rfl rfl (by decide) lyG ww_85 dG_goesOn_10 (pc' := 13) rfl ?_
  refine vv_getI cx (C := RS) (T := TS) (NN := 5) 1 1 (by decide) sh_1 rfl rfl (by decide) lyS ww_34 dG_goesOn_13 (pc' := 16) rfl ?_
  rw [hs.1.2.1]
  refine vv_iconst cx dG_goesOn_16 (v := 1) (by decide) (pc' := 17) rfl ?_
  refine vv_isub cx dG_goesOn_17 (pc' := 18) rfl ?_
  refine vv_aload_n cx dG_goesOn_18 rfl rfl (pc' := 19) rfl ?_
  refine cc_Vi cx hX (tG_lowestLeft l g h lf hs hl9 hlf) kG_lowestLeft ww_450 rfl rfl ⟨Nat.le_of_ble_eq_true rfl, Nat.le_of_ble_eq_true rfl⟩ 3 (by decide) sh_3 rfl rfl rfl rfl (Nat.le_of_ble_eq_true rfl) rfl ⟨Nat.le_of_ble_eq_true rfl, Nat.le_of_ble_eq_true rfl⟩ dG_goesOn_19 (pc' := 22) rfl (fun _ _ q => q.elim) (fun r19 h19 q19 => ?_)
  obtain ⟨rfl, hnd⟩ := q19
  refine cc_Vi cx hX (tS_nextPattern l g _ kr 13 a lf (nI n - 1) r19 (pq_low lf n) n (Or.inr hkr) (Or.inl ⟨by decide, by decide⟩) (by omega) (by omega) hs ha hl9 hpat hlf hnd (Nat.le_refl _) (pq_top1 n (by omega))) kS_nextPattern ww_454 rfl rfl ⟨Nat.le_of_ble_eq_true rfl, Nat.le_of_ble_eq_true rfl⟩ 1 (by decide) sh_1 rfl rfl rfl rfl (Nat.le_of_ble_eq_true rfl) rfl ⟨Nat.le_of_ble_eq_true rfl, Nat.le_of_ble_eq_true rfl⟩ dG_goesOn_22 (pc' := 25) rfl (fun _ _ q => q.elim) (fun r22 h22 q22 => ?_)
  refine vv_zret cx hr hlocks dG_goesOn_25 (by rcases q22 with q | q <;> rw [q.1] <;> rfl) (Nat.le_of_ble_eq_true rfl) (Nat.le_of_ble_eq_true rfl) ?_
  exact q22
set_option maxRecDepth 100000 in
set_option maxHeartbeats 4000000 in
theorem tG_opens (l : Launch) (g : pq_G) (h : pq_H) {W n : Nat} {w nm pr : Nat → Nat} (k : Nat) (lf : Nat → Nat) (bs : Option Nat) (sp st : Nat) (hs : pq_st h W n w nm pr) (hc : pq_cr h lf (pq_wd n w lf) bs sp st) (hlf : ∀ i, i < 5 → lf i ≤ 6) (hk : k ≤ 30) (hk30 : ¬ pq_wd n w lf = 0 → k < 30) (hb : ∀ b, bs = some b → b ≤ 30) (hz : pq_zs h n) : XI l yG_opens wG_opens rG_opens g 0 0 [.ref (g.2.2 3), .int (nI k)] h (fun r h9 => (r = 0 ∧ pq_boundb W n w lf k bs = true ∧ h9 = h) ∨ (r = 0 ∧ ¬ pq_boundb W n w lf k bs = true ∧ pq_wd n w lf = 0 ∧ pq_gb h h9 ∧ pq_cr h9 lf (pq_wd n w lf) (some k) sp st ∧ (∀ j, j < 30 → h9 (16 + j) = h (16 + j)) ∧ ∀ j, j < k → ∀ i, i < 5 → h9 (46 + j) i = h (16 + j) i) ∨ (r = 1 ∧ ¬ pq_boundb W n w lf k bs = true ∧ ¬ pq_wd n w lf = 0 ∧ pq_only (16 + k) h h9 ∧ pq_row h9 (16 + k) (pq_first W n w lf))) (pq_no) := by
  refine XI.of (cc := cG_opens) (maxL := 2) (ret := (some .boolean)) (by decide +kernel) (by simp [Value.category]) (Nat.le_of_ble_eq_true rfl) ?_
  intro p e s m below meth c cx hX hr hlocks hex
  have hn5 : n ≤ 5 := hs.2.1.2.2
  have hXb : pq_wd n w lf ≤ 30000 := pq_wd_bd hn5 (fun i hi => hlf i (by omega)) (fun i hi => (hs.2.2.1 i (by omega)).1)
  have hub : pq_up (pq_wd n w lf) W ≤ 30000 := Nat.le_trans pq_up_bd hXb
  obtain ⟨c1, c2, c3, c4, c5, c6⟩ := id hc
  have hgo : ¬ pq_boundb W n w lf k bs = true →  VV p l e rG_opens s m [.ref (g.2.2 3), .int (nI k)].toArray below meth c (vx_MQ below (pq_Qi g (fun r h9 => (r = 0 ∧ pq_boundb W n w lf k bs = true ∧ h9 = h) ∨ (r = 0 ∧ ¬ pq_boundb W n w lf k bs = true ∧ pq_wd n w lf = 0 ∧ pq_gb h h9 ∧ pq_cr h9 lf (pq_wd n w lf) (some k) sp st ∧ (∀ j, j < 30 → h9 (16 + j) = h (16 + j)) ∧ ∀ j, j < k → ∀ i, i < 5 → h9 (46 + j) i = h (16 + j) i) ∨ (r = 1 ∧ ¬ pq_boundb W n w lf k bs = true ∧ ¬ pq_wd n w lf = 0 ∧ pq_only (16 + k) h h9 ∧ pq_row h9 (16 + k) (pq_first W n w lf))) s.heap.size) (pq_Qx g (pq_no) s.heap.size) [.ref (g.2.2 3), .int (nI k)].toArray s 0 0 (pq_A g s.heap.size)) g 0 0 h 30 [some (.ref (g.2.2 3)), some (.int (nI k))] [] := by
    intro hnb
    refine vv_aload_n cx dG_opens_30 rfl rfl (pc' := 31) rfl ?_
    refine vv_getI cx (C := RG) (T := TG) (NN := 9) 3 2 (by decide) sh_3 rfl rfl (by decide) lyG ww_87 dG_opens_31 (pc' := 34) rfl ?_
    rw [c2]
    refine vv_if_ne cx dG_opens_34 (tgt := 44) (by decide) (pc' := 37) rfl (fun c34 => ?_) (fun c34 => ?_)
    · have hX0 : ¬ pq_wd n w lf = 0 := fun q => c34 (by rw [q]; rfl)
      have hkl := hk30 hX0
      obtain ⟨a0, ha0, hz0⟩ := hz k hkl
      have hv : vp_in (nI k) 30 := vp_in_nI hkl (by decide)
      refine vv_iload_n cx dG_opens_44 rfl rfl (pc' := 45) rfl ?_
      refine vv_bipush cx dG_opens_45 (v := 30) (by decide) (pc' := 47) rfl ?_
      refine vv_icmp_lt cx dG_opens_47 (tgt := 52) (by decide) (pc' := 50) rfl (fun c47 => ?_) (fun c47 => ?_)
      · refine vv_aload_n cx dG_opens_52 rfl rfl (pc' := 53) rfl ?_
        refine vv_getR cx (C := RG) (T := TG) (NN := 9) 3 0 _ (by decide) sh_3 rfl rfl (by decide) lyG ww_85 dG_opens_53 (pc' := 56) rfl ?_
        refine vv_aload_n cx dG_opens_56 rfl rfl (pc' := 57) rfl ?_
        refine vv_getR cx (C := RG) (T := TG) (NN := 9) 3 3 _ (by decide) sh_3 rfl rfl (by decide) lyG ww_88 dG_opens_57 (pc' := 60) rfl ?_
        refine vv_iload_n cx dG_opens_60 rfl rfl (pc' := 61) rfl ?_
        refine vv_aaldq cx _ (by decide) sh_5 (show 16 + (nI k).toNatClampNeg = 16 + k by rw [nI_clamp (by omega)]) hv dG_opens_61 (pc' := 62) rfl ?_
        refine vv_aload_n cx dG_opens_62 rfl rfl (pc' := 63) rfl ?_
        refine vv_getR cx (C := RG) (T := TG) (NN := 9) 3 1 _ (by decide) sh_3 rfl rfl (by decide) lyG ww_86 dG_opens_63 (pc' := 66) rfl ?_
        refine cc_Vv cx hX (tS_firstPattern l g h (16 + k) 13 a0 lf (Or.inr ⟨by omega, by omega⟩) (Or.inl ⟨by decide, by decide⟩) (by omega) (by omega) hs ha0 c1 hlf) kS_firstPattern ww_432 rfl rfl ⟨Nat.le_of_ble_eq_true rfl, Nat.le_of_ble_eq_true rfl⟩ 1 (by decide) sh_1 rfl rfl rfl rfl (Nat.le_of_ble_eq_true rfl) rfl ⟨Nat.le_of_ble_eq_true rfl, Nat.le_of_ble_eq_true rfl⟩ dG_opens_66 (pc' := 69) rfl (fun _ _ q => q.elim) (fun h66 q66 => ?_)
        refine vv_iconst cx dG_opens_69 (v := 1) (by decide) (pc' := 70) rfl ?_
        refine vv_zret cx hr hlocks dG_opens_70 rfl (Nat.le_of_ble_eq_true rfl) (Nat.le_of_ble_eq_true rfl) ?_
        exact Or.inr (Or.inr ⟨rfl, hnb, hX0, q66.1, fun i hi => by rw [q66.2 i hi, pq_fill_first hz0 i hi]⟩)
      · exact absurd (nI_lt (b := 30) hkl (by decide) : nI k < nI 30) c47
    · have hX0 : pq_wd n w lf = 0 := Decidable.byContradiction (fun q => nI_ne0 (Nat.pos_of_ne_zero q) (by omega) c34)
      refine vv_aload_n cx dG_opens_37 rfl rfl (pc' := 38) rfl ?_
      refine vv_iload_n cx dG_opens_38 rfl rfl (pc' := 39) rfl ?_
      refine cc_Vv cx hX (tG_takeAsBest l g h k hk) kG_takeAsBest ww_428 rfl rfl ⟨Nat.le_of_ble_eq_true rfl, Nat.le_of_ble_eq_true rfl⟩ 3 (by decide) sh_3 rfl rfl rfl rfl (Nat.le_of_ble_eq_true rfl) rfl ⟨Nat.le_of_ble_eq_true rfl, Nat.le_of_ble_eq_true rfl⟩ dG_opens_39 (pc' := 42) rfl (fun _ _ q => q.elim) (fun h39 q39 => ?_)
      obtain ⟨g1, g2, g3, g4⟩ := q39
      refine vv_iconst cx dG_opens_42 (v := 0) (by decide) (pc' := 43) rfl ?_
      refine vv_zret cx hr hlocks dG_opens_43 rfl (Nat.le_of_ble_eq_true rfl) (Nat.le_of_ble_eq_true rfl) ?_
      refine Or.inr (Or.inl ⟨rfl, hnb, hX0, fun q a1 a2 a3 => g1 q a1 (by omega), ⟨c1.of (g1 13 (by decide) (by decide)), ?_, g3, ?_, ?_, ?_⟩, fun j hj => g1 (16 + j) (by omega) (by omega), g2⟩)
      · rw [g4 2 (by decide)]; exact c2
      · rw [g4 6 (by decide)]; exact c4
      · rw [g4 7 (by decide)]; exact c5
      · rw [g4 8 (by decide)]; exact c6
  refine vv_aload_n cx dG_opens_0 rfl rfl (pc' := 1) rfl ?_
  refine vv_getI cx (C := RG) (T := TG) (NN := 9) 3 5 (by decide) sh_3 rfl rfl (by decide) lyG ww_91 dG_opens_1 (pc' := 4) rfl ?_
  refine vv_iconst cx dG_opens_4 (v := -1) (by decide) (pc' := 5) rfl ?_
  rw [c3]
  refine vv_icmp_eq cx dG_opens_5 (tgt := 30) (by decide) (pc' := 8) rfl (fun c5 => ?_) (fun c5 => ?_)
  · refine hgo ?_
    cases bs with
    | none => exact (fun q => nomatch q)
    | some b => exact absurd c5 (pq_bsI_ne (hb b rfl))
  · obtain ⟨b, rfl⟩ := pq_bsI_some c5
    have hb30 := hb b rfl
    refine vv_iload_n cx dG_opens_8 rfl rfl (pc' := 9) rfl ?_
    refine vv_aload_n cx dG_opens_9 rfl rfl (pc' := 10) rfl ?_
    refine vv_getR cx (C := RG) (T := TG) (NN := 9) 3 0 _ (by decide) sh_3 rfl rfl (by decide) lyG ww_85 dG_opens_10 (pc' := 13) rfl ?_
    refine vv_aload_n cx dG_opens_13 rfl rfl (pc' := 14) rfl ?_
    refine vv_getI cx (C := RG) (T := TG) (NN := 9) 3 2 (by decide) sh_3 rfl rfl (by decide) lyG ww_87 dG_opens_14 (pc' := 17) rfl ?_
    rw [c2]
    refine cc_Vi cx hX (tS_sheetsFor l g h (pq_wd n w lf) (by omega) hs) kS_sheetsFor ww_423 rfl rfl ⟨Nat.le_of_ble_eq_true rfl, Nat.le_of_ble_eq_true rfl⟩ 1 (by decide) sh_1 rfl rfl rfl rfl (Nat.le_of_ble_eq_true rfl) rfl ⟨Nat.le_of_ble_eq_true rfl, Nat.le_of_ble_eq_true rfl⟩ dG_opens_17 (pc' := 20) rfl (fun _ _ q => q.elim) (fun r17 h17 q17 => ?_)
    obtain ⟨rfl, rfl⟩ := q17
    refine vv_iadd cx dG_opens_20 (pc' := 21) rfl ?_
    refine vv_aload_n cx dG_opens_21 rfl rfl (pc' := 22) rfl ?_
    refine vv_getI cx (C := RG) (T := TG) (NN := 9) 3 5 (by decide) sh_3 rfl rfl (by decide) lyG ww_91 dG_opens_22 (pc' := 25) rfl ?_
    rw [c3, nI_add]
    refine vv_icmp_lt cx dG_opens_25 (tgt := 30) (by decide) (pc' := 28) rfl (fun c25 => ?_) (fun c25 => ?_)
    · exact hgo (fun q => nI_nlt (pq_boundb_iff.mp q) (by omega) c25)
    · refine vv_iconst cx dG_opens_28 (v := 0) (by decide) (pc' := 29) rfl ?_
      refine vv_zret cx hr hlocks dG_opens_29 rfl (Nat.le_of_ble_eq_true rfl) (Nat.le_of_ble_eq_true rfl) ?_
      exact Or.inl ⟨rfl, pq_boundb_iff.mpr (Nat.le_of_not_lt (fun q => c25 (nI_lt q (by omega)))), rfl⟩

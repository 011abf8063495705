/-! part 13: Designing.run follows the machine -/
theorem pq_open_b {W n : Nat} {w num : Nat → Nat} {k : Nat} {rows best : Nat → Nat → Nat} {bs : Option Nat} {st sp : Nat} (h : pq_boundb W n w (pq_L num rows k) k bs = true) : pq_open W n w num k rows bs best st sp = (1, k, rows, bs, best, st, sp) := if_pos h
theorem pq_open_z {W n : Nat} {w num : Nat → Nat} {k : Nat} {rows best : Nat → Nat → Nat} {bs : Option Nat} {st sp : Nat} (h : ¬ pq_boundb W n w (pq_L num rows k) k bs = true) (h0 : pq_wd n w (pq_L num rows k) = 0) : pq_open W n w num k rows bs best st sp = (1, k, rows, some k, rows, st, sp) := (if_neg h).trans (if_pos h0)
theorem pq_open_f {W n : Nat} {w num : Nat → Nat} {k : Nat} {rows best : Nat → Nat → Nat} {bs : Option Nat} {st sp : Nat} (h : ¬ pq_boundb W n w (pq_L num rows k) k bs = true) (h0 : ¬ pq_wd n w (pq_L num rows k) = 0) : pq_open W n w num k rows bs best st sp = (0, k, va_up rows k (pq_first W n w (pq_L num rows k)), bs, best, st, sp) := (if_neg h).trans (if_neg h0)
theorem pq_back_s {W n : Nat} {w num : Nat → Nat} {k : Nat} {rows best : Nat → Nat → Nat} {bs : Option Nat} {st sp : Nat} {b : Nat → Nat} (h : pq_next W n w (pq_L num rows k) (rows k) (pq_low (pq_L num rows k) n) n = some b) : pq_back W n w num k rows bs best st sp = (0, k, va_up rows k b, bs, best, st, sp) := by
  unfold pq_back; rw [h]
theorem pq_back_n {W n : Nat} {w num : Nat → Nat} {k : Nat} {rows best : Nat → Nat → Nat} {bs : Option Nat} {st sp : Nat} (h : pq_next W n w (pq_L num rows k) (rows k) (pq_low (pq_L num rows k) n) n = none) : pq_back W n w num k rows bs best st sp = (1, k, rows, bs, best, st, sp) := by
  unfold pq_back; rw [h]
theorem pq_stp0 {W n : Nat} {w num : Nat → Nat} {most k : Nat} {rows best : Nat → Nat → Nat} {bs : Option Nat} {st sp : Nat} (h : st < most) : pq_stp W n w num most (0, k, rows, bs, best, st, sp) = pq_open W n w num (k + 1) rows bs best (st + 1) sp := if_neg (by omega)
theorem pq_stp0e {W n : Nat} {w num : Nat → Nat} {most k : Nat} {rows best : Nat → Nat → Nat} {bs : Option Nat} {st sp : Nat} (h : most ≤ st) : pq_stp W n w num most (0, k, rows, bs, best, st, sp) = (2, k, rows, bs, best, st, 1) := if_pos h
/-- how a designing ends, in the class's cells -/
def pq_fin (h9 : pq_H) (W n : Nat) (w nm : Nat → Nat) (most : Nat) : Prop := ∃ (k : Nat) (rows best : Nat → Nat → Nat) (bs : Option Nat) (st sp : Nat), pq_reach W n w nm most (2, k, rows, bs, best, st, sp) ∧ h9 3 5 = pq_bsI bs ∧ h9 3 6 = 1 ∧ h9 3 7 = nI sp ∧ h9 3 8 = nI st ∧ ∀ b, bs = some b → b ≤ 30 ∧ (∀ j, j < b → pq_sm n (best j)) ∧ pq_rws h9 46 best b
theorem pq_L_hi {W n : Nat} {w num : Nat → Nat} (he : pq_env W n w num) {rows : Nat → Nat → Nat} {k i : Nat} (h : n ≤ i) (h5 : i < 5) : pq_L num rows k i = 0 := by
  have := he.2.2.1 i h h5
  have := pq_L_le (num := num) (rows := rows) (k := k) (i := i)
  omega
theorem pq_L_back {W n : Nat} {w num : Nat → Nat} (he : pq_env W n w num) {rows : Nat → Nat → Nat} {k : Nat} (h : pq_ok W n w num rows k) {i : Nat} (h5 : i < 5) : pq_L num rows (k + 1) i + rows k i = pq_L num rows k i := by
  rw [pq_L_succ]
  rcases Nat.lt_or_ge i n with q | q
  · have := h.1.1 i q; omega
  · rw [h.1.2.2 i q h5, pq_L_hi he q h5]
theorem pq_k_lt {W n : Nat} {w num : Nat → Nat} (he : pq_env W n w num) {rows : Nat → Nat → Nat} {k : Nat} (h : ∀ j, j < k → pq_ok W n w num rows j) (h0 : ¬ pq_wd n w (pq_L num rows k) = 0) : k < 30 := by
  have h1 := pq_tot h
  have h2 := he.tot
  obtain ⟨q1, q2, -⟩ := pq_low_of he h0
  have h3 := pq_sum_pos (f := pq_L num rows k) q1
  omega
theorem pq_ok_wd {W n : Nat} {w num : Nat → Nat} (he : pq_env W n w num) {rows : Nat → Nat → Nat} {k : Nat} (h : pq_ok W n w num rows k) : ¬ pq_wd n w (pq_L num rows k) = 0 := fun q => by
  have h1 := pq_wd_zero he.2.2.2.1 q _ h.2.1
  have h2 := h.1.1 _ h.2.1
  have h3 := h.2.2
  omega
set_option maxRecDepth 100000 in
set_option maxHeartbeats 4000000 in
theorem tG_run (l : Launch) (g : pq_G) (h : pq_H) {W n : Nat} {w nm pr : Nat → Nat} (most : Nat) (hs : pq_st h W n w nm pr) (he : pq_env W n w nm) (hm : most ≤ 100000) (hz : pq_zs h n) : XV l yG_run wG_run rG_run g 0 0 [.ref (g.2.2 3), .int (nI most)] h (fun h9 => pq_gb h h9 ∧ pq_zs h9 n ∧ pq_fin h9 W n w nm most) (pq_no) := by
  refine XV.of (cc := cG_run) (maxL := 5) (ret := none) (by decide +kernel) (by simp [Value.category]) (Nat.le_of_ble_eq_true rfl) ?_
  intro p e s m below meth c cx hX hr hlocks hex
  have hn5 : n ≤ 5 := hs.2.1.2.2
  have hL6 : ∀ (rows : Nat → Nat → Nat) (k i : Nat), i < 5 → pq_L nm rows k i ≤ 6 := fun rows k i hi => Nat.le_trans pq_L_le (he.2.1 i hi)
  have loop : ∀ (F tt mo k : Nat) (rows best : Nat → Nat → Nat) (bs : Option Nat) (st sp : Nat) (h1 : pq_H) (y2 y3 y4 : Int32), tt + F = 200002 → tt + k = 2 * st → st ≤ most → y2 = nI k → ((mo = 0 ∧ y3 = 1 ∧ pq_rws h1 16 rows (k + 1)) ∨ (mo = 1 ∧ y3 = 0 ∧ pq_rws h1 16 rows k)) → y4 = nI tt → pq_reach W n w nm most (mo, k, rows, bs, best, st, sp) → pq_inv W n w nm (mo, k, rows, bs, best, st, sp) → pq_gb h h1 → pq_cr h1 (pq_L nm rows k) (pq_wd n w (pq_L nm rows k)) bs sp st → pq_zs h1 n → (∀ b, bs = some b → pq_rws h1 46 best b) → VV p l e rG_run s m [.ref (g.2.2 3), .int (nI most)].toArray below meth c (vx_MQ below (pq_Qv g (fun h9 => pq_gb h h9 ∧ pq_zs h9 n ∧ pq_fin h9 W n w nm most) s.heap.size) (pq_Qx g (pq_no) s.heap.size) [.ref (g.2.2 3), .int (nI most)].toArray s 0 0 (pq_A g s.heap.size)) g 0 0 h1 48 [some (.ref (g.2.2 3)), some (.int (nI most)), some (.int y2), some (.int y3), some (.int y4)] [] := by
    intro F
    induction F with
    | zero =>
      intro tt mo k rows best bs st sp h1 y2 y3 y4 h2 h3 h4
      exact absurd h2 (by omega)
    | succ F ih =>
      intro tt mo k rows best bs st sp h1 y2 y3 y4 hF htt hst hy2 hmo hy4 hre hin hgb hcr hzs hbest
      have hs1 := hs.gb hgb
      obtain ⟨c1, c2, c3, c4, c5, c6⟩ := id hcr
      have h52 : ¬ (200002 : Int32) ≤ y4 := by rw [hy4]; exact (nI_ge (b := 200002) (by omega) (by decide) : ¬ nI 200002 ≤ nI tt)
      have hk30 : k ≤ 30 := by have := pq_tot hin.1; have := he.tot; omega
      have hb30 : ∀ b, bs = some b → b ≤ 30 := fun b q => (hin.2.2 b q).1
      rcases hmo with ⟨rfl, rfl, hrws⟩ | ⟨rfl, rfl, hrws⟩
      · refine vv_iload cx dG_run_48 rfl (pc' := 50) rfl ?_
        refine vv_ldc cx (v := 200002) dG_run_50 ww_433 (pc' := 52) rfl ?_
        refine vv_icmp_ge cx dG_run_52 (tgt := 140) (by decide) (pc' := 55) rfl (fun c52 => ?_) (fun c52 => ?_)
        · exact absurd c52 h52
        · refine vv_iload_n cx dG_run_55 rfl rfl (pc' := 56) rfl ?_
          refine vv_if_eq cx dG_run_56 (tgt := 105) (by decide) (pc' := 59) rfl (fun c56 => ?_) (fun c56 => ?_)
          · exact absurd c56 (by decide)
          · have hokk := hin.2.1 rfl
            have hk29 : k < 30 := pq_k_lt he hin.1 (pq_ok_wd he hokk)
            have hv2 : vp_in y2 30 := by rw [hy2]; exact vp_in_nI hk29 (by decide)
            have hcl2 := pq_clN hy2 (show k < 1000 by omega)
            have hin1 : ∀ j, j < k + 1 → pq_ok W n w nm rows j := fun j hj => (Nat.lt_or_ge j k).elim (hin.1 j) (fun q => by rw [show j = k by omega]; exact hokk)
            have hws := pq_wd_sub (w := w) hokk.1.1
            have hLe : pq_wd n w (fun i => pq_L nm rows k i - rows k i) = pq_wd n w (pq_L nm rows (k + 1)) := pq_sum_congr (fun i _ => by rw [pq_L_succ])
            refine vv_aload_n cx dG_run_59 rfl rfl (pc' := 60) rfl ?_
            refine vv_getI cx (C := RG) (T := TG) (NN := 9) 3 8 (by decide) sh_3 rfl rfl (by decide) lyG ww_97 dG_run_60 (pc' := 63) rfl ?_
            refine vv_iload_n cx dG_run_63 rfl rfl (pc' := 64) rfl ?_
            rw [c6]
            refine vv_icmp_lt cx dG_run_64 (tgt := 73) (by decide) (pc' := 67) rfl (fun c64 => ?_) (fun c64 => ?_)
            · have hms : st < most := Nat.lt_of_not_le (fun q => nI_nlt q (by omega) c64)
              refine vv_aload_n cx dG_run_73 rfl rfl (pc' := 74) rfl ?_
              refine vv_dup cx dG_run_74 rfl (pc' := 75) rfl ?_
              refine vv_getI cx (C := RG) (T := TG) (NN := 9) 3 8 (by decide) sh_3 rfl rfl (by decide) lyG ww_97 dG_run_75 (pc' := 78) rfl ?_
              refine vv_iconst cx dG_run_78 (v := 1) (by decide) (pc' := 79) rfl ?_
              refine vv_iadd cx dG_run_79 (pc' := 80) rfl ?_
              rw [c6, nI_1]
              refine vv_putI cx (C := RG) (T := TG) (NN := 9) 3 8 (by decide) sh_3 rfl rfl (by decide) lyG tyG tyG_ok nmG rfl rfl rfl ww_97 dG_run_80 (pc' := 83) rfl ?_
              have hs2 := hs1.but (L := [3]) (pq_but.up (h := h1) (k := 3) (f := upd (h1 3) 8 (nI (st + 1))) (by decide)) (by decide)
              refine vv_aload_n cx dG_run_83 rfl rfl (pc' := 84) rfl ?_
              refine vv_aload_n cx dG_run_84 rfl rfl (pc' := 85) rfl ?_
              refine vv_getR cx (C := RG) (T := TG) (NN := 9) 3 3 _ (by decide) sh_3 rfl rfl (by decide) lyG ww_88 dG_run_85 (pc' := 88) rfl ?_
              refine vv_iload_n cx dG_run_88 rfl rfl (pc' := 89) rfl ?_
              refine vv_aaldq cx _ (by decide) sh_5 (show 16 + y2.toNatClampNeg = 16 + k by rw [hcl2]) hv2 dG_run_89 (pc' := 90) rfl ?_
              refine cc_Vv cx hX (tG_lay l g _ (16 + k) (pq_wd n w (pq_L nm rows k)) (rows k) (pq_L nm rows k) ⟨by omega, by omega⟩ hs2 ((hrws k (by omega)).of (va_up_ne _ _ (by omega))) (c1.of (va_up_ne _ _ (by decide))) (by rw [va_up_self, pk_un (by decide)]; exact c2) hokk.1.2.2 hokk.1.1 hws.2) kG_lay ww_434 rfl rfl ⟨Nat.le_of_ble_eq_true rfl, Nat.le_of_ble_eq_true rfl⟩ 3 (by decide) sh_3 rfl rfl rfl rfl (Nat.le_of_ble_eq_true rfl) rfl ⟨Nat.le_of_ble_eq_true rfl, Nat.le_of_ble_eq_true rfl⟩ dG_run_90 (pc' := 93) rfl (fun _ _ q => q.elim) (fun h90 q90 => ?_)
              obtain ⟨g1, g2, g3, g4⟩ := q90
              have hs90 := hs2.but g1 (by decide)
              have hgb90 : pq_gb h h90 := hgb.trans (pq_but.gb ((pq_but.up (by decide)).trans g1))
              have hrow90 : ∀ q, q ≠ 3 → q ≠ 13 → h90 q = h1 q := fun q q1 q2 => (g1 q (by simp [q1, q2])).trans (va_up_ne _ _ q1)
              have hcr90 : pq_cr h90 (pq_L nm rows (k + 1)) (pq_wd n w (pq_L nm rows (k + 1))) bs sp (st + 1) := ⟨fun i hi => by rw [g2 i hi, pq_L_succ], by rw [g3, hws.1, hLe], by rw [g4 5 (by decide), va_up_self, pk_un (by decide)]; exact c3, by rw [g4 6 (by decide), va_up_self, pk_un (by decide)]; exact c4, by rw [g4 7 (by decide), va_up_self, pk_un (by decide)]; exact c5, by rw [g4 8 (by decide), va_up_self, pk_us]⟩
              have hzs90 : pq_zs h90 n := hzs.of (fun j hj => hrow90 (16 + j) (by omega) (by omega))
              have hrws90 : pq_rws h90 16 rows (k + 1) := hrws.of (fun j hj => hrow90 (16 + j) (by omega) (by omega))
              have hre2 := hre.stp
              have hin2 := pq_inv_stp (most := most) he hin
              rw [pq_stp0 hms] at hre2 hin2
              refine vv_iinc cx dG_run_93 rfl rfl (pc' := 96) rfl ?_
              refine vv_aload_n cx dG_run_96 rfl rfl (pc' := 97) rfl ?_
              refine vv_iload_n cx dG_run_97 rfl rfl (pc' := 98) rfl ?_
              rw [pq_nI1 hy2]
              refine cc_Vi cx hX (tG_opens l g h90 (k + 1) (pq_L nm rows (k + 1)) bs sp (st + 1) hs90 hcr90 (fun i hi => hL6 rows (k + 1) i hi) (by omega) (pq_k_lt he hin1) hb30 hzs90) kG_opens ww_419 rfl rfl ⟨Nat.le_of_ble_eq_true rfl, Nat.le_of_ble_eq_true rfl⟩ 3 (by decide) sh_3 rfl rfl rfl rfl (Nat.le_of_ble_eq_true rfl) rfl ⟨Nat.le_of_ble_eq_true rfl, Nat.le_of_ble_eq_true rfl⟩ dG_run_98 (pc' := 101) rfl (fun _ _ q => q.elim) (fun r98 h98 q98 => ?_)
              refine vv_istore_n cx dG_run_101 rfl (Nat.le_of_ble_eq_true rfl) (pc' := 102) rfl ?_
              refine vv_goto cx dG_run_102 (tgt := 134) (by decide) ?_
              refine vv_iinc cx dG_run_134 rfl rfl (pc' := 137) rfl ?_
              refine vv_goto cx dG_run_137 (tgt := 48) (by decide) ?_
              rcases q98 with ⟨rfl, b1, rfl⟩ | ⟨rfl, b1, b2, b3, b4, b5, b6⟩ | ⟨rfl, b1, b2, b3, b4⟩
              · rw [pq_open_b b1] at hre2 hin2
                exact ih (tt + 1) 1 (k + 1) rows best bs (st + 1) sp _ _ _ _ (by omega) (by omega) (by omega) rfl (Or.inr ⟨rfl, rfl, hrws90⟩) (pq_nI1 hy4) hre2 hin2 hgb90 hcr90 hzs90 (fun b q => (hbest b q).of (fun j hj => hrow90 (46 + j) (by omega) (by omega)))
              · rw [pq_open_z b1 b2] at hre2 hin2
                exact ih (tt + 1) 1 (k + 1) rows rows (some (k + 1)) (st + 1) sp _ _ _ _ (by omega) (by omega) (by omega) rfl (Or.inr ⟨rfl, rfl, hrws90.of (fun j hj => b5 j (by omega))⟩) (pq_nI1 hy4) hre2 hin2 (hgb90.trans b3) b4 (hzs90.of (fun j hj => b5 j hj)) (fun b q => by cases q; exact fun j hj i hi => by rw [b6 j hj i hi]; exact hrws90 j hj i hi)
              · rw [pq_open_f b1 b2] at hre2 hin2
                have hk1 : k + 1 < 30 := pq_k_lt he hin1 b2
                refine ih (tt + 1) 0 (k + 1) (va_up rows (k + 1) (pq_first W n w (pq_L nm rows (k + 1)))) best bs (st + 1) sp _ _ _ _ (by omega) (by omega) (by omega) rfl (Or.inl ⟨rfl, rfl, fun j hj => ?_⟩) (pq_nI1 hy4) hre2 hin2 (hgb90.trans (b3.gb ⟨by omega, by omega⟩)) ?_ (fun j hj => ?_) (fun b q => (hbest b q).of (fun j hj => (b3 (46 + j) (by omega)).trans (hrow90 (46 + j) (by omega) (by omega))))
                · by_cases e9 : j = k + 1
                  · subst e9; rw [va_up_self]; exact b4
                  · rw [va_up_ne _ _ e9]; exact (hrws90 j (by omega)).of (b3 (16 + j) (by omega))
                · rw [pq_L_up (Nat.le_refl _)]
                  obtain ⟨d1, d2, d3, d4, d5, d6⟩ := hcr90
                  exact ⟨d1.of (b3 13 (by omega)), by rw [b3 3 (by omega)]; exact d2, by rw [b3 3 (by omega)]; exact d3, by rw [b3 3 (by omega)]; exact d4, by rw [b3 3 (by omega)]; exact d5, by rw [b3 3 (by omega)]; exact d6⟩
                · by_cases e9 : j = k + 1
                  · subst e9; exact ⟨_, b4, pq_first_pat.2.2⟩
                  · exact (hzs90 j hj).of (b3 (16 + j) (by omega))
            · have hms : most ≤ st := Nat.le_of_not_lt (fun q => c64 (nI_lt q (by omega)))
              refine vv_aload_n cx dG_run_67 rfl rfl (pc' := 68) rfl ?_
              refine vv_iconst cx dG_run_68 (v := 1) (by decide) (pc' := 69) rfl ?_
              refine vv_putI cx (C := RG) (T := TG) (NN := 9) 3 7 (by decide) sh_3 rfl rfl (by decide) lyG tyG tyG_ok nmG rfl rfl rfl ww_95 dG_run_69 (pc' := 72) rfl ?_
              refine vv_vret cx hr hlocks dG_run_72 (Nat.le_of_ble_eq_true rfl) (Nat.le_of_ble_eq_true rfl) ?_
              refine ⟨hgb.trans (pq_but.gb (pq_but.up (by decide))), hzs.of (fun j hj => va_up_ne _ _ (by omega)), k, rows, best, bs, st, 1, ?_, ?_, ?_, ?_, ?_, fun b q => ⟨(hin.2.2 b q).1, (hin.2.2 b q).2, (hbest b q).of (fun j hj => va_up_ne _ _ (by omega))⟩⟩
              · have := hre.stp
                rw [pq_stp0e hms] at this
                exact this
              · rw [va_up_self, pk_un (by decide)]; exact c3
              · rw [va_up_self, pk_un (by decide)]; exact c4
              · rw [va_up_self, pk_us]; rfl
              · rw [va_up_self, pk_un (by decide)]; exact c6
      · refine vv_iload cx dG_run_48 rfl (pc' := 50) rfl ?_
        refine vv_ldc cx (v := 200002) dG_run_50 ww_433 (pc' := 52) rfl ?_
        refine vv_icmp_ge cx dG_run_52 (tgt := 140) (by decide) (pc' := 55) rfl (fun c52 => ?_) (fun c52 => ?_)
        · exact absurd c52 h52
        · refine vv_iload_n cx dG_run_55 rfl rfl (pc' := 56) rfl ?_
          refine vv_if_eq cx dG_run_56 (tgt := 105) (by decide) (pc' := 59) rfl (fun c56 => ?_) (fun c56 => ?_)
          · refine vv_iload_n cx dG_run_105 rfl rfl (pc' := 106) rfl ?_
            refine vv_if_gt cx dG_run_106 (tgt := 110) (by decide) (pc' := 109) rfl (fun c106 => ?_) (fun c106 => ?_)
            · have hkp : 0 < k := by rw [hy2] at c106; exact pq_pos c106
              obtain ⟨k, rfl⟩ : ∃ k9, k = k9 + 1 := ⟨k - 1, by omega⟩
              have hokk := hin.1 k (by omega)
              have hv2 : vp_in (nI k) 30 := vp_in_nI (by omega) (by decide)
              have hws := pq_wd_sub (w := w) hokk.1.1
              have hLe : pq_wd n w (fun i => pq_L nm rows k i - rows k i) = pq_wd n w (pq_L nm rows (k + 1)) := pq_sum_congr (fun i _ => by rw [pq_L_succ])
              refine vv_iinc cx dG_run_110 rfl (pq_nIm hy2) (pc' := 113) rfl ?_
              refine vv_aload_n cx dG_run_113 rfl rfl (pc' := 114) rfl ?_
              refine vv_aload_n cx dG_run_114 rfl rfl (pc' := 115) rfl ?_
              refine vv_getR cx (C := RG) (T := TG) (NN := 9) 3 3 _ (by decide) sh_3 rfl rfl (by decide) lyG ww_88 dG_run_115 (pc' := 118) rfl ?_
              refine vv_iload_n cx dG_run_118 rfl rfl (pc' := 119) rfl ?_
              refine vv_aaldq cx _ (by decide) sh_5 (show 16 + (nI k).toNatClampNeg = 16 + k by rw [nI_clamp (by omega)]) hv2 dG_run_119 (pc' := 120) rfl ?_
              refine cc_Vv cx hX (tG_takeBack l g h1 (16 + k) (pq_wd n w (pq_L nm rows (k + 1))) (rows k) (pq_L nm rows (k + 1)) ⟨by omega, by omega⟩ hs1 (hrws k (by omega)) c1 c2 hokk.1.2.2) kG_takeBack ww_442 rfl rfl ⟨Nat.le_of_ble_eq_true rfl, Nat.le_of_ble_eq_true rfl⟩ 3 (by decide) sh_3 rfl rfl rfl rfl (Nat.le_of_ble_eq_true rfl) rfl ⟨Nat.le_of_ble_eq_true rfl, Nat.le_of_ble_eq_true rfl⟩ dG_run_120 (pc' := 123) rfl (fun _ _ q => q.elim) (fun h120 q120 => ?_)
              obtain ⟨g1, g2, g3, g4⟩ := q120
              have hs120 := hs1.but g1 (by decide)
              have hgb120 : pq_gb h h120 := hgb.trans (pq_but.gb g1)
              have hrow120 : ∀ q, q ≠ 3 → q ≠ 13 → h120 q = h1 q := fun q q1 q2 => g1 q (by simp [q1, q2])
              have hcr120 : pq_cr h120 (pq_L nm rows k) (pq_wd n w (pq_L nm rows k)) bs sp st := ⟨fun i hi => (g2 i hi).trans (congrArg nI (pq_L_back he hokk hi)), by rw [g3, ← hLe, ← hws.1, Nat.sub_add_cancel hws.2], by rw [g4 5 (by decide)]; exact c3, by rw [g4 6 (by decide)]; exact c4, by rw [g4 7 (by decide)]; exact c5, by rw [g4 8 (by decide)]; exact c6⟩
              have hzs120 : pq_zs h120 n := hzs.of (fun j hj => hrow120 (16 + j) (by omega) (by omega))
              have hrws120 : pq_rws h120 16 rows (k + 1) := hrws.of (fun j hj => hrow120 (16 + j) (by omega) (by omega))
              have hre2 : pq_reach W n w nm most (pq_back W n w nm k rows bs best st sp) := hre.stp
              have hin2 : pq_inv W n w nm (pq_back W n w nm k rows bs best st sp) := pq_inv_stp (most := most) he hin
              refine vv_aload_n cx dG_run_123 rfl rfl (pc' := 124) rfl ?_
              refine vv_aload_n cx dG_run_124 rfl rfl (pc' := 125) rfl ?_
              refine vv_getR cx (C := RG) (T := TG) (NN := 9) 3 3 _ (by decide) sh_3 rfl rfl (by decide) lyG ww_88 dG_run_125 (pc' := 128) rfl ?_
              refine vv_iload_n cx dG_run_128 rfl rfl (pc' := 129) rfl ?_
              refine vv_aaldq cx _ (by decide) sh_5 (show 16 + (nI k).toNatClampNeg = 16 + k by rw [nI_clamp (by omega)]) hv2 dG_run_129 (pc' := 130) rfl ?_
              refine cc_Vi cx hX (tG_goesOn l g h120 (16 + k) (rows k) (pq_L nm rows k) ⟨by omega, by omega⟩ hs120 (hrws120 k (by omega)) hcr120.1 (fun i hi => hL6 rows k i hi) hokk.1) kG_goesOn ww_446 rfl rfl ⟨Nat.le_of_ble_eq_true rfl, Nat.le_of_ble_eq_true rfl⟩ 3 (by decide) sh_3 rfl rfl rfl rfl (Nat.le_of_ble_eq_true rfl) rfl ⟨Nat.le_of_ble_eq_true rfl, Nat.le_of_ble_eq_true rfl⟩ dG_run_130 (pc' := 133) rfl (fun _ _ q => q.elim) (fun r130 h130 q130 => ?_)
              refine vv_istore_n cx dG_run_133 rfl (Nat.le_of_ble_eq_true rfl) (pc' := 134) rfl ?_
              refine vv_iinc cx dG_run_134 rfl rfl (pc' := 137) rfl ?_
              refine vv_goto cx dG_run_137 (tgt := 48) (by decide) ?_
              rcases q130 with ⟨rfl, b, b1, b3, b4⟩ | ⟨rfl, b1, rfl⟩
              · rw [pq_back_s b1] at hre2 hin2
                refine ih (tt + 1) 0 k (va_up rows k b) best bs st sp _ _ _ _ (by omega) (by omega) hst rfl (Or.inl ⟨rfl, rfl, fun j hj => ?_⟩) (pq_nI1 hy4) hre2 hin2 (hgb120.trans (b3.gb ⟨by omega, by omega⟩)) ?_ (fun j hj => ?_) (fun b q => (hbest b q).of (fun j hj => (b3 (46 + j) (by omega)).trans (hrow120 (46 + j) (by omega) (by omega))))
                · by_cases e9 : j = k
                  · subst e9; rw [va_up_self]; exact b4
                  · rw [va_up_ne _ _ e9]; exact (hrws120 j (by omega)).of (b3 (16 + j) (by omega))
                · rw [pq_L_up (Nat.le_refl _)]
                  obtain ⟨d1, d2, d3, d4, d5, d6⟩ := hcr120
                  exact ⟨d1.of (b3 13 (by omega)), by rw [b3 3 (by omega)]; exact d2, by rw [b3 3 (by omega)]; exact d3, by rw [b3 3 (by omega)]; exact d4, by rw [b3 3 (by omega)]; exact d5, by rw [b3 3 (by omega)]; exact d6⟩
                · by_cases e9 : j = k
                  · subst e9; exact ⟨_, b4, (pq_next_pat hokk.1 (Nat.le_refl _) b1).2.2⟩
                  · exact (hzs120 j hj).of (b3 (16 + j) (by omega))
              · rw [pq_back_n b1] at hre2 hin2
                exact ih (tt + 1) 1 k rows best bs st sp _ _ _ _ (by omega) (by omega) hst rfl (Or.inr ⟨rfl, rfl, fun j hj => hrws120 j (by omega)⟩) (pq_nI1 hy4) hre2 hin2 hgb120 hcr120 hzs120 (fun b q => (hbest b q).of (fun j hj => hrow120 (46 + j) (by omega) (by omega)))
            · refine vv_vret cx hr hlocks dG_run_109 (Nat.le_of_ble_eq_true rfl) (Nat.le_of_ble_eq_true rfl) ?_
              have hk0 : k = 0 := Nat.eq_zero_of_not_pos (fun q => c106 (by rw [hy2]; exact nI_lt q (by omega)))
              subst hk0
              refine ⟨hgb, hzs, 0, rows, best, bs, st, sp, ?_, c3, c4, c5, c6, fun b q => ⟨(hin.2.2 b q).1, (hin.2.2 b q).2, hbest b q⟩⟩
              exact hre.stp
          · exact absurd rfl c56
  refine vv_aload_n cx dG_run_0 rfl rfl (pc' := 1) rfl ?_
  refine cc_Vv cx hX (tG_forget l g h) kG_forget ww_413 rfl rfl ⟨Nat.le_of_ble_eq_true rfl, Nat.le_of_ble_eq_true rfl⟩ 3 (by decide) sh_3 rfl rfl rfl rfl (Nat.le_of_ble_eq_true rfl) rfl ⟨Nat.le_of_ble_eq_true rfl, Nat.le_of_ble_eq_true rfl⟩ dG_run_1 (pc' := 4) rfl (fun _ _ q => q.elim) (fun h1 q1 => ?_)
  obtain ⟨f1, f5, f6, f7, f8⟩ := q1
  refine vv_aload_n cx dG_run_4 rfl rfl (pc' := 5) rfl ?_
  refine vv_iconst cx dG_run_5 (v := 1) (by decide) (pc' := 6) rfl ?_
  refine vv_putI cx (C := RG) (T := TG) (NN := 9) 3 6 (by decide) sh_3 rfl rfl (by decide) lyG tyG tyG_ok nmG rfl rfl rfl ww_93 dG_run_6 (pc' := 9) rfl ?_
  have hst1 : pq_st (va_up h1 3 (upd (h1 3) 6 1)) W n w nm pr := (hs.but (f1.but (L := [3]) (by decide)) (by decide)).but (L := [3]) (pq_but.up (by decide)) (by decide)
  refine vv_aload_n cx dG_run_9 rfl rfl (pc' := 10) rfl ?_
  refine vv_getR cx (C := RG) (T := TG) (NN := 9) 3 0 _ (by decide) sh_3 rfl rfl (by decide) lyG ww_85 dG_run_10 (pc' := 13) rfl ?_
  refine vv_getR cx (C := RS) (T := TS) (NN := 5) 1 3 _ (by decide) sh_1 rfl rfl (by decide) lyS ww_38 dG_run_13 (pc' := 16) rfl ?_
  refine vv_iconst cx dG_run_16 (v := 0) (by decide) (pc' := 17) rfl ?_
  refine vv_aload_n cx dG_run_17 rfl rfl (pc' := 18) rfl ?_
  refine vv_getR cx (C := RG) (T := TG) (NN := 9) 3 1 _ (by decide) sh_3 rfl rfl (by decide) lyG ww_86 dG_run_18 (pc' := 21) rfl ?_
  refine vv_iconst cx dG_run_21 (v := 0) (by decide) (pc' := 22) rfl ?_
  refine vv_iconst cx dG_run_22 (v := 5) (by decide) (pc' := 23) rfl ?_
  refine vv_copy cx _ _ (by decide) (by decide) rfl rfl (by decide) (by decide) (by decide) (by decide) (by decide) ww_414 ww_192 ww_191 ww_14 (Nat.le_of_ble_eq_true rfl) (by decide) rfl dG_run_23 (pc' := 26) rfl ?_
  refine vv_aload_n cx dG_run_26 rfl rfl (pc' := 27) rfl ?_
  refine vv_aload_n cx dG_run_27 rfl rfl (pc' := 28) rfl ?_
  refine vv_getR cx (C := RG) (T := TG) (NN := 9) 3 0 _ (by decide) sh_3 rfl rfl (by decide) lyG ww_85 dG_run_28 (pc' := 31) rfl ?_
  generalize hg2 : va_up (va_up h1 3 (upd (h1 3) 6 1)) 13 _ = h2
  have hb2 : pq_but [3, 13] h h2 := by rw [← hg2]; exact ((f1.but (by decide)).trans (pq_but.up (by decide))).trans (pq_but.up (by decide))
  have hs2 := hs.but hb2 (by decide)
  have h213 : pq_row h2 13 nm := fun i hi => by rw [← hg2, va_up_self, pq_cpy5 hi]; exact hst1.1.2.2.2.1 i hi
  have h23 : h2 3 = upd (h1 3) 6 1 := by rw [← hg2, va_up_ne _ _ (by decide), va_up_self]
  refine cc_Vi cx hX (tS_widthOfAll l g h2 hs2) kS_widthOfAll ww_415 rfl rfl ⟨Nat.le_of_ble_eq_true rfl, Nat.le_of_ble_eq_true rfl⟩ 1 (by decide) sh_1 rfl rfl rfl rfl (Nat.le_of_ble_eq_true rfl) rfl ⟨Nat.le_of_ble_eq_true rfl, Nat.le_of_ble_eq_true rfl⟩ dG_run_31 (pc' := 34) rfl (fun _ _ q => q.elim) (fun r31 h31 q31 => ?_)
  obtain ⟨rfl, rfl⟩ := q31
  refine vv_putI cx (C := RG) (T := TG) (NN := 9) 3 2 (by decide) sh_3 rfl rfl (by decide) lyG tyG tyG_ok nmG rfl rfl rfl ww_87 dG_run_34 (pc' := 37) rfl ?_
  refine vv_iconst cx dG_run_37 (v := 0) (by decide) (pc' := 38) rfl ?_
  refine vv_istore_n cx dG_run_38 rfl (Nat.le_of_ble_eq_true rfl) (pc' := 39) rfl ?_
  refine vv_aload_n cx dG_run_39 rfl rfl (pc' := 40) rfl ?_
  refine vv_iload_n cx dG_run_40 rfl rfl (pc' := 41) rfl ?_
  have hc0 : pq_cr (va_up h31 3 (upd (h31 3) 2 (nI (pq_sum (fun i => nm i * w i) n)))) (pq_L nm (fun _ _ => 0) 0) (pq_wd n w (pq_L nm (fun _ _ => 0) 0)) none 0 0 := ⟨h213.of (va_up_ne _ _ (by decide)), by rw [va_up_self, pk_us]; rfl, by rw [va_up_self, pk_un (by decide), h23, pk_un (by decide)]; exact f5, by rw [va_up_self, pk_un (by decide), h23, pk_us], by rw [va_up_self, pk_un (by decide), h23, pk_un (by decide), f7]; rfl, by rw [va_up_self, pk_un (by decide), h23, pk_un (by decide), f8]; rfl⟩
  have hb0 : pq_but [3, 13] h (va_up h31 3 (upd (h31 3) 2 (nI (pq_sum (fun i => nm i * w i) n)))) := hb2.trans (pq_but.up (by decide))
  have hz0 : pq_zs (va_up h31 3 (upd (h31 3) 2 (nI (pq_sum (fun i => nm i * w i) n)))) n := hz.of (fun j hj => hb0 (16 + j) (by simp; omega))
  have hre0 : pq_reach W n w nm most (pq_open W n w nm 0 (fun _ _ => 0) none (fun _ _ => 0) 0 0) := ⟨0, rfl⟩
  have hin0 : pq_inv W n w nm (pq_open W n w nm 0 (fun _ _ => 0) none (fun _ _ => 0) 0 0) := pq_inv_start he
  refine cc_Vi cx hX (tG_opens l g _ 0 (pq_L nm (fun _ _ => 0) 0) none 0 0 (hs.but hb0 (by decide)) hc0 (fun i hi => hL6 _ 0 i hi) (by omega) (fun _ => by omega) (fun b q => nomatch q) hz0) kG_opens ww_419 rfl rfl ⟨Nat.le_of_ble_eq_true rfl, Nat.le_of_ble_eq_true rfl⟩ 3 (by decide) sh_3 rfl rfl rfl rfl (Nat.le_of_ble_eq_true rfl) rfl ⟨Nat.le_of_ble_eq_true rfl, Nat.le_of_ble_eq_true rfl⟩ dG_run_41 (pc' := 44) rfl (fun _ _ q => q.elim) (fun r41 h41 q41 => ?_)
  refine vv_istore_n cx dG_run_44 rfl (Nat.le_of_ble_eq_true rfl) (pc' := 45) rfl ?_
  refine vv_iconst cx dG_run_45 (v := 0) (by decide) (pc' := 46) rfl ?_
  refine vv_istore cx dG_run_46 (Nat.le_of_ble_eq_true rfl) (pc' := 48) rfl ?_
  rcases q41 with ⟨rfl, b1, rfl⟩ | ⟨rfl, b1, b2, b3, b4, b5, b6⟩ | ⟨rfl, b1, b2, b3, b4⟩
  · exact nomatch b1
  · rw [pq_open_z b1 b2] at hre0 hin0
    exact loop 200002 0 1 0 _ _ (some 0) 0 0 _ _ _ _ (by omega) (by omega) (by omega) nI_0.symm (Or.inr ⟨rfl, rfl, fun j hj => absurd hj (by omega)⟩) nI_0.symm hre0 hin0 ((pq_but.gb hb0).trans b3) b4 (hz0.of (fun j hj => b5 j hj)) (fun b q => by cases q; exact fun j hj => absurd hj (by omega))
  · rw [pq_open_f b1 b2] at hre0 hin0
    refine loop 200002 0 0 0 (va_up (fun _ _ => 0) 0 (pq_first W n w (pq_L nm (fun _ _ => 0) 0))) _ none 0 0 _ _ _ _ (by omega) (by omega) (by omega) nI_0.symm (Or.inl ⟨rfl, rfl, fun j hj => ?_⟩) nI_0.symm hre0 hin0 ((pq_but.gb hb0).trans (b3.gb ⟨by omega, by omega⟩)) ?_ (fun j hj => ?_) (fun b q => nomatch q)
    · rw [show j = 0 by omega, va_up_self]; exact b4
    · rw [pq_L_up (Nat.le_refl _)]
      obtain ⟨d1, d2, d3, d4, d5, d6⟩ := hc0
      exact ⟨d1.of (b3 13 (by omega)), by rw [b3 3 (by omega)]; exact d2, by rw [b3 3 (by omega)]; exact d3, by rw [b3 3 (by omega)]; exact d4, by rw [b3 3 (by omega)]; exact d5, by rw [b3 3 (by omega)]; exact d6⟩
    · by_cases e9 : j = 0
      · subst e9; exact ⟨_, b4, pq_first_pat.2.2⟩
      · exact (hz0 j hj).of (b3 (16 + j) (by omega))

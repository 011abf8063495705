/-! part 23: the reference's fitting -/
theorem pq_room {W S : Nat} (hW : W < 2 ^ 30) (hS : S < 2 ^ 30) : (nI W - nI S < 0 ↔ W < S) := by
  have h1 := pk_sub_toInt hW hS
  rw [Int32.lt_iff_toInt_lt, h1, Int32.toInt_zero]
  omega
theorem pq_sub0 {x : Int32} : x - 0 = x := by
  apply Int32.toBitVec_inj.mp
  show x.toBitVec - 0#32 = x.toBitVec
  rw [BitVec.sub_zero]
def pq_cap (n : Nat) (nm : Nat → Nat) (i : Nat) : Nat := if i < n then nm i else 0
theorem pq_fit_iff {W n : Nat} {w nm a : Nat → Nat} (hn : n ≤ 5) (ha : pq_sm n a) : pq_fitb W n w nm a = true ↔ ((∀ i, i < 5 → a i ≤ pq_cap n nm i) ∧ pq_sum (fun i => a i * w i) n ≤ W) := by
  unfold pq_fitb
  rw [decide_eq_true_iff]
  constructor
  · intro q
    refine ⟨fun i hi => ?_, q.2⟩
    unfold pq_cap
    split
    · exact q.1 i (by assumption)
    · rw [(ha i hi).2 (by omega)]; exact Nat.le_refl _
  · intro q
    refine ⟨fun i hi => ?_, q.2⟩
    have := q.1 i (by omega)
    unfold pq_cap at this
    rw [if_pos hi] at this
    exact this
set_option maxRecDepth 100000 in
set_option maxHeartbeats 4000000 in
theorem tM_fitting (l : Launch) (g : pq_G) (h : pq_H) {W n : Nat} {w nm pr : Nat → Nat} (c9 : Nat) (kp : Nat → Nat → Nat) (x : Int32) (hs : pq_mo h W n w nm pr) (hms : pq_ms h c9 kp) (hsm : ∀ j, j < c9 → pq_sm n (kp j)) : XI l yM_fitting wM_fitting rM_fitting g 0 0 [.ref (g.2.2 116), .int x] h (fun r h9 => (x < 0 ∧ h9 = pq_th 1 h) ∨ (∃ i, x = nI i ∧ i < 2 ^ 31 ∧ h9 = pq_th 0 h ∧ r = pq_opI (pq_nth (fun k => pq_fitb W n w nm (kp k)) c9 0 i))) (pq_no) := by
  refine XI.of (cc := cM_fitting) (maxL := 8) (ret := (some .int)) (by decide +kernel) (by simp [Value.category]) (Nat.le_of_ble_eq_true rfl) ?_
  intro p e s m below meth c cx hX hr hlocks hex
  obtain ⟨hc, hc40, hkp⟩ := id hms
  have hs0 : pq_mo (pq_th 0 h) W n w nm pr := hs.th
  have hn := hs0.1.2.1
  obtain ⟨-, ⟨hW1, hW2, hn5⟩, hb, -, -⟩ := id hs
  have loop : ∀ (i0 : Nat), x = nI i0 → i0 < 2 ^ 31 → ∀ (d k cnt : Nat) (u4 u5 u6 u7 : Option Value), k + d = c9 → cnt ≤ i0 → cnt ≤ k → pq_nth (fun k => pq_fitb W n w nm (kp k)) d k (i0 - cnt) = pq_nth (fun k => pq_fitb W n w nm (kp k)) c9 0 i0 → VV p l e rM_fitting s m [.ref (g.2.2 116), .int x].toArray below meth c (vx_MQ below (pq_Qi g (fun r h9 => (x < 0 ∧ h9 = pq_th 1 h) ∨ (∃ i, x = nI i ∧ i < 2 ^ 31 ∧ h9 = pq_th 0 h ∧ r = pq_opI (pq_nth (fun k => pq_fitb W n w nm (kp k)) c9 0 i))) s.heap.size) (pq_Qx g (pq_no) s.heap.size) [.ref (g.2.2 116), .int x].toArray s 0 0 (pq_A g s.heap.size)) g 0 0 (pq_th 0 h) 25 [some (.ref (g.2.2 116)), some (.int x), some (.int (nI cnt)), some (.int (nI k)), u4, u5, u6, u7] [] := by
    intro i0 hx0 hi0 d
    induction d with
    | zero =>
      intro k cnt u4 u5 u6 u7 hk hcn hck hf
      have e1 : k = c9 := by omega
      subst e1
      have hc13 : pq_th 0 h 116 13 = nI k := (pq_th_j (by decide)).trans hc
      refine vv_iload_n cx dM_fitting_25 rfl rfl (pc' := 26) rfl ?_
      refine vv_aload_n cx dM_fitting_26 rfl rfl (pc' := 27) rfl ?_
      refine vv_getI cx (C := RM) (T := TM) (NN := 15) 116 13 (by decide) sh_116 rfl rfl (by decide) lyM ww_567 dM_fitting_27 (pc' := 30) rfl ?_
      refine vv_icmp_ge cx dM_fitting_30 (tgt := 172) (by decide) (pc' := 33) rfl (fun c30 => ?_) (fun c30 => ?_)
      · refine vv_iconst cx dM_fitting_172 (v := -1) (by decide) (pc' := 173) rfl ?_
        refine vv_iret cx hr hlocks dM_fitting_173 (Nat.le_of_ble_eq_true rfl) (Nat.le_of_ble_eq_true rfl) ?_
        exact Or.inr ⟨i0, hx0, hi0, rfl, by rw [← hf]; rfl⟩
      · exact absurd (Int32.le_refl _) (by rw [hc13] at c30; exact c30)
    | succ d ih =>
      intro k cnt u4 u5 u6 u7 hk hcn hck hf
      have hlt : k < c9 := by omega
      have hc13 : pq_th 0 h 116 13 = nI c9 := (pq_th_j (by decide)).trans hc
      have hkk := hkp k hlt
      have hk6 := hsm k hlt
      have hrow : ∀ i, i < 5 → pq_th 0 h 123 (7 * k + i) = nI (kp k i) := fun i hi => by rw [pq_th_ne (by decide)]; exact hkk i hi
      have hSb : pq_sum (fun i => kp k i * w i) n ≤ 30000 := Nat.le_trans (pq_sum_bd (B := 6000) (fun i hi => Nat.le_trans (Nat.mul_le_mul (hk6 i (by omega)).1 (hb i (by omega)).1) (by decide))) (by omega)
      have hf2 : (if pq_fitb W n w nm (kp k) then (if i0 - cnt = 0 then some k else pq_nth (fun k => pq_fitb W n w nm (kp k)) d (k + 1) (i0 - cnt - 1)) else pq_nth (fun k => pq_fitb W n w nm (kp k)) d (k + 1) (i0 - cnt)) = pq_nth (fun k => pq_fitb W n w nm (kp k)) c9 0 i0 := hf
      have inner : ∀ (d2 i : Nat) (y4 y5 : Int32) (u7 : Option Value), i + d2 = 5 → y4 = nI W - nI (pq_sum (fun i => kp k i * w i) (min i n)) → pq_fl y5 (∀ q, q < i → kp k q ≤ pq_cap n nm q) →  VV p l e rM_fitting s m [.ref (g.2.2 116), .int x].toArray below meth c (vx_MQ below (pq_Qi g (fun r h9 => (x < 0 ∧ h9 = pq_th 1 h) ∨ (∃ i, x = nI i ∧ i < 2 ^ 31 ∧ h9 = pq_th 0 h ∧ r = pq_opI (pq_nth (fun k => pq_fitb W n w nm (kp k)) c9 0 i))) s.heap.size) (pq_Qx g (pq_no) s.heap.size) [.ref (g.2.2 116), .int x].toArray s 0 0 (pq_A g s.heap.size)) g 0 0 (pq_th 0 h) 45 [some (.ref (g.2.2 116)), some (.int x), some (.int (nI cnt)), some (.int (nI k)), some (.int y4), some (.int y5), some (.int (nI i)), u7] [] := by
        intro d2
        induction d2 with
        | zero =>
          intro i y4 y5 u7 hi hy4 hy5
          have e1 : i = 5 := by omega
          subst e1
          rw [Nat.min_eq_right hn5] at hy4
          have hfi := pq_fit_iff (W := W) (w := w) (nm := nm) hn5 hk6
          have hrm : y4 < 0 ↔ W < pq_sum (fun i => kp k i * w i) n := by rw [hy4]; exact pq_room (by omega) (by omega)
          refine vv_iload cx dM_fitting_45 rfl (pc' := 47) rfl ?_
          refine vv_iconst cx dM_fitting_47 (v := 5) (by decide) (pc' := 48) rfl ?_
          refine vv_icmp_ge cx dM_fitting_48 (tgt := 146) (by decide) (pc' := 51) rfl (fun c48 => ?_) (fun c48 => ?_)
          · refine vv_iload cx dM_fitting_146 rfl (pc' := 148) rfl ?_
            refine vv_if_eq cx dM_fitting_148 (tgt := 166) (by decide) (pc' := 151) rfl (fun c148 => ?_) (fun c148 => ?_)
            · refine vv_iinc cx dM_fitting_166 rfl pq_n1 (pc' := 169) rfl ?_
              refine vv_goto cx dM_fitting_169 (tgt := 25) (by decide) ?_
              first
              | exact ih (k + 1) (cnt + 1) _ _ _ _ (by omega) hcl (by omega) hf2
              | (rw [if_neg (fun z => hy5.f c148 (hfi.mp z).1)] at hf2; exact ih (k + 1) cnt _ _ _ _ (by omega) hcn (by omega) hf2)
              | (rw [if_neg (fun z => absurd (hfi.mp z).2 (Nat.not_le.mpr (hrm.mp c153)))] at hf2; exact ih (k + 1) cnt _ _ _ _ (by omega) hcn (by omega) hf2)
            · refine vv_iload cx dM_fitting_151 rfl (pc' := 153) rfl ?_
              refine vv_if_lt cx dM_fitting_153 (tgt := 166) (by decide) (pc' := 156) rfl (fun c153 => ?_) (fun c153 => ?_)
              · refine vv_iinc cx dM_fitting_166 rfl pq_n1 (pc' := 169) rfl ?_
                refine vv_goto cx dM_fitting_169 (tgt := 25) (by decide) ?_
                first
                | exact ih (k + 1) (cnt + 1) _ _ _ _ (by omega) hcl (by omega) hf2
                | (rw [if_neg (fun z => hy5.f c148 (hfi.mp z).1)] at hf2; exact ih (k + 1) cnt _ _ _ _ (by omega) hcn (by omega) hf2)
                | (rw [if_neg (fun z => absurd (hfi.mp z).2 (Nat.not_le.mpr (hrm.mp c153)))] at hf2; exact ih (k + 1) cnt _ _ _ _ (by omega) hcn (by omega) hf2)
              · have hfit : pq_fitb W n w nm (kp k) = true := hfi.mpr ⟨hy5.t c148, Nat.le_of_not_lt (fun q => c153 (hrm.mpr q))⟩
                rw [if_pos hfit] at hf2
                refine vv_iload_n cx dM_fitting_156 rfl rfl (pc' := 157) rfl ?_
                refine vv_iload_n cx dM_fitting_157 rfl rfl (pc' := 158) rfl ?_
                refine vv_icmp_ne cx dM_fitting_158 (tgt := 163) (by decide) (pc' := 161) rfl (fun c158 => ?_) (fun c158 => ?_)
                · have hcl : cnt < i0 := Nat.lt_of_le_of_ne hcn (fun q => c158 (by rw [hx0, q]))
                  rw [if_neg (show ¬ i0 - cnt = 0 by omega), show i0 - cnt - 1 = i0 - (cnt + 1) by omega] at hf2
                  refine vv_iinc cx dM_fitting_163 rfl pq_n1 (pc' := 166) rfl ?_
                  refine vv_iinc cx dM_fitting_166 rfl pq_n1 (pc' := 169) rfl ?_
                  refine vv_goto cx dM_fitting_169 (tgt := 25) (by decide) ?_
                  first
                  | exact ih (k + 1) (cnt + 1) _ _ _ _ (by omega) hcl (by omega) hf2
                  | (rw [if_neg (fun z => hy5.f c148 (hfi.mp z).1)] at hf2; exact ih (k + 1) cnt _ _ _ _ (by omega) hcn (by omega) hf2)
                  | (rw [if_neg (fun z => absurd (hfi.mp z).2 (Nat.not_le.mpr (hrm.mp c153)))] at hf2; exact ih (k + 1) cnt _ _ _ _ (by omega) hcn (by omega) hf2)
                · refine vv_iload_n cx dM_fitting_161 rfl rfl (pc' := 162) rfl ?_
                  refine vv_iret cx hr hlocks dM_fitting_162 (Nat.le_of_ble_eq_true rfl) (Nat.le_of_ble_eq_true rfl) ?_
                  rw [if_pos (by rw [hx0] at c158; have := (nI_eq (by omega) hi0).mp c158; omega)] at hf2
                  exact Or.inr ⟨i0, hx0, hi0, rfl, by rw [← hf2]; rfl⟩
          · exact absurd (Int32.le_refl _) c48
        | succ d2 ih2 =>
          intro i y4 y5 u7 hi hy4 hy5
          have hri := hrow i (by omega)
          have hki := (hk6 i (by omega)).1
          have hnm := (hb i (by omega)).2.1
          have hgo : ∀ (y6 : Int32) (u8 : Option Value), pq_fl y6 (∀ q, q < i + 1 → kp k q ≤ pq_cap n nm q) →  VV p l e rM_fitting s m [.ref (g.2.2 116), .int x].toArray below meth c (vx_MQ below (pq_Qi g (fun r h9 => (x < 0 ∧ h9 = pq_th 1 h) ∨ (∃ i, x = nI i ∧ i < 2 ^ 31 ∧ h9 = pq_th 0 h ∧ r = pq_opI (pq_nth (fun k => pq_fitb W n w nm (kp k)) c9 0 i))) s.heap.size) (pq_Qx g (pq_no) s.heap.size) [.ref (g.2.2 116), .int x].toArray s 0 0 (pq_A g s.heap.size)) g 0 0 (pq_th 0 h) 100 [some (.ref (g.2.2 116)), some (.int x), some (.int (nI cnt)), some (.int (nI k)), some (.int y4), some (.int y5), some (.int (nI i)), u8] [.int y6] := by
            intro y6 u8 hy6
            rcases Nat.lt_or_ge i n with hin | hin
            · refine vv_istore cx dM_fitting_100 (Nat.le_of_ble_eq_true rfl) (pc' := 102) rfl ?_
              refine vv_iload cx dM_fitting_102 rfl (pc' := 104) rfl ?_
              refine vv_iload cx dM_fitting_104 rfl (pc' := 106) rfl ?_
              refine vv_aload_n cx dM_fitting_106 rfl rfl (pc' := 107) rfl ?_
              refine vv_getI cx (C := RM) (T := TM) (NN := 15) 116 2 (by decide) sh_116 rfl rfl (by decide) lyM ww_556 dM_fitting_107 (pc' := 110) rfl ?_
              rw [hn]
              refine vv_icmp_ge cx dM_fitting_110 (tgt := 136) (by decide) (pc' := 113) rfl (fun c110 => ?_) (fun c110 => ?_)
              · exact absurd c110 (nI_ge hin (by omega))
              · refine vv_aload_n cx dM_fitting_113 rfl rfl (pc' := 114) rfl ?_
                refine vv_getR cx (C := RM) (T := TM) (NN := 15) 116 14 _ (by decide) sh_116 rfl rfl (by decide) lyM ww_568 dM_fitting_114 (pc' := 117) rfl ?_
                refine vv_bipush cx dM_fitting_117 (v := 7) (by decide) (pc' := 119) rfl ?_
                refine vv_iload_n cx dM_fitting_119 rfl rfl (pc' := 120) rfl ?_
                refine vv_imul cx dM_fitting_120 (pc' := 121) rfl ?_
                refine vv_iload cx dM_fitting_121 rfl (pc' := 123) rfl ?_
                refine vv_iadd cx dM_fitting_123 (pc' := 124) rfl ?_
                rw [pq_77]
                refine vv_iald cx _ (by decide) sh_123 (vp_in_nI (n := 7 * k + i) (by omega) (by decide)) dM_fitting_124 (pc' := 125) rfl ?_
                refine vv_aload_n cx dM_fitting_125 rfl rfl (pc' := 126) rfl ?_
                refine vv_getR cx (C := RM) (T := TM) (NN := 15) 116 3 _ (by decide) sh_116 rfl rfl (by decide) lyM ww_557 dM_fitting_126 (pc' := 129) rfl ?_
                refine vv_iload cx dM_fitting_129 rfl (pc' := 131) rfl ?_
                refine vv_iald cx _ (by decide) sh_117 (vp_in_nI (n := i) (by omega) (by decide)) dM_fitting_131 (pc' := 132) rfl ?_
                rw [nI_clamp (n := 7 * k + i) (by omega), nI_clamp (n := i) (by omega), hri, hs0.1.2.2.1 i (by omega)]
                refine vv_imul cx dM_fitting_132 (pc' := 133) rfl ?_
                rw [pk_mul]
                refine vv_goto cx dM_fitting_133 (tgt := 137) (by decide) ?_
                refine vv_isub cx dM_fitting_137 (pc' := 138) rfl ?_
                refine vv_istore cx dM_fitting_138 (Nat.le_of_ble_eq_true rfl) (pc' := 140) rfl ?_
                refine vv_iinc cx dM_fitting_140 rfl pq_n1 (pc' := 143) rfl ?_
                refine vv_goto cx dM_fitting_143 (tgt := 45) (by decide) ?_
                refine ih2 (i + 1) _ y6 _ (by omega) ?_ hy6
                rw [hy4, Nat.min_eq_left (by omega), Nat.min_eq_left (by omega), pq_subI, nI_add]
                rfl
            · refine vv_istore cx dM_fitting_100 (Nat.le_of_ble_eq_true rfl) (pc' := 102) rfl ?_
              refine vv_iload cx dM_fitting_102 rfl (pc' := 104) rfl ?_
              refine vv_iload cx dM_fitting_104 rfl (pc' := 106) rfl ?_
              refine vv_aload_n cx dM_fitting_106 rfl rfl (pc' := 107) rfl ?_
              refine vv_getI cx (C := RM) (T := TM) (NN := 15) 116 2 (by decide) sh_116 rfl rfl (by decide) lyM ww_556 dM_fitting_107 (pc' := 110) rfl ?_
              rw [hn]
              refine vv_icmp_ge cx dM_fitting_110 (tgt := 136) (by decide) (pc' := 113) rfl (fun c110 => ?_) (fun c110 => ?_)
              · refine vv_iconst cx dM_fitting_136 (v := 0) (by decide) (pc' := 137) rfl ?_
                refine vv_isub cx dM_fitting_137 (pc' := 138) rfl ?_
                refine vv_istore cx dM_fitting_138 (Nat.le_of_ble_eq_true rfl) (pc' := 140) rfl ?_
                refine vv_iinc cx dM_fitting_140 rfl pq_n1 (pc' := 143) rfl ?_
                refine vv_goto cx dM_fitting_143 (tgt := 45) (by decide) ?_
                refine ih2 (i + 1) _ y6 _ (by omega) ?_ hy6
                rw [hy4, Nat.min_eq_right (by omega), Nat.min_eq_right (by omega), pq_sub0]
              · exact absurd (nI_le hin (by omega)) c110
          have hgo2 : ∀ v7 : Int32, v7 = nI (pq_cap n nm i) →  VV p l e rM_fitting s m [.ref (g.2.2 116), .int x].toArray below meth c (vx_MQ below (pq_Qi g (fun r h9 => (x < 0 ∧ h9 = pq_th 1 h) ∨ (∃ i, x = nI i ∧ i < 2 ^ 31 ∧ h9 = pq_th 0 h ∧ r = pq_opI (pq_nth (fun k => pq_fitb W n w nm (kp k)) c9 0 i))) s.heap.size) (pq_Qx g (pq_no) s.heap.size) [.ref (g.2.2 116), .int x].toArray s 0 0 (pq_A g s.heap.size)) g 0 0 (pq_th 0 h) 71 [some (.ref (g.2.2 116)), some (.int x), some (.int (nI cnt)), some (.int (nI k)), some (.int y4), some (.int y5), some (.int (nI i)), u7] [.int v7] := by
            intro v7 hv7
            have hcap : pq_cap n nm i ≤ 6 := by unfold pq_cap; split <;> omega
            refine vv_istore cx dM_fitting_71 (Nat.le_of_ble_eq_true rfl) (pc' := 73) rfl ?_
            refine vv_iload cx dM_fitting_73 rfl (pc' := 75) rfl ?_
            refine vv_if_eq cx dM_fitting_75 (tgt := 99) (by decide) (pc' := 78) rfl (fun c75 => ?_) (fun c75 => ?_)
            · refine vv_iconst cx dM_fitting_99 (v := 0) (by decide) (pc' := 100) rfl ?_
              first
              | exact hgo 0 _ (Or.inr ⟨rfl, fun z => hy5.f c75 (fun q hq => z q (by omega))⟩)
              | exact hgo 0 _ (Or.inr ⟨rfl, fun z => nI_nlt (z i (by omega)) (by omega) c92⟩)
              | exact hgo 1 _ (Or.inl ⟨rfl, fun q hq => (Nat.lt_or_ge q i).elim (hy5.t c75 q) (fun z => by rw [show q = i by omega]; exact Nat.le_of_not_lt (fun z2 => c92 (nI_lt z2 (by omega))))⟩)
            · refine vv_aload_n cx dM_fitting_78 rfl rfl (pc' := 79) rfl ?_
              refine vv_getR cx (C := RM) (T := TM) (NN := 15) 116 14 _ (by decide) sh_116 rfl rfl (by decide) lyM ww_568 dM_fitting_79 (pc' := 82) rfl ?_
              refine vv_bipush cx dM_fitting_82 (v := 7) (by decide) (pc' := 84) rfl ?_
              refine vv_iload_n cx dM_fitting_84 rfl rfl (pc' := 85) rfl ?_
              refine vv_imul cx dM_fitting_85 (pc' := 86) rfl ?_
              refine vv_iload cx dM_fitting_86 rfl (pc' := 88) rfl ?_
              refine vv_iadd cx dM_fitting_88 (pc' := 89) rfl ?_
              rw [pq_77]
              refine vv_iald cx _ (by decide) sh_123 (vp_in_nI (n := 7 * k + i) (by omega) (by decide)) dM_fitting_89 (pc' := 90) rfl ?_
              rw [nI_clamp (n := 7 * k + i) (by omega), hri]
              refine vv_iload cx dM_fitting_90 rfl (pc' := 92) rfl ?_
              rw [hv7]
              refine vv_icmp_gt cx dM_fitting_92 (tgt := 99) (by decide) (pc' := 95) rfl (fun c92 => ?_) (fun c92 => ?_)
              · refine vv_iconst cx dM_fitting_99 (v := 0) (by decide) (pc' := 100) rfl ?_
                first
                | exact hgo 0 _ (Or.inr ⟨rfl, fun z => hy5.f c75 (fun q hq => z q (by omega))⟩)
                | exact hgo 0 _ (Or.inr ⟨rfl, fun z => nI_nlt (z i (by omega)) (by omega) c92⟩)
                | exact hgo 1 _ (Or.inl ⟨rfl, fun q hq => (Nat.lt_or_ge q i).elim (hy5.t c75 q) (fun z => by rw [show q = i by omega]; exact Nat.le_of_not_lt (fun z2 => c92 (nI_lt z2 (by omega))))⟩)
              · refine vv_iconst cx dM_fitting_95 (v := 1) (by decide) (pc' := 96) rfl ?_
                refine vv_goto cx dM_fitting_96 (tgt := 100) (by decide) ?_
                first
                | exact hgo 0 _ (Or.inr ⟨rfl, fun z => hy5.f c75 (fun q hq => z q (by omega))⟩)
                | exact hgo 0 _ (Or.inr ⟨rfl, fun z => nI_nlt (z i (by omega)) (by omega) c92⟩)
                | exact hgo 1 _ (Or.inl ⟨rfl, fun q hq => (Nat.lt_or_ge q i).elim (hy5.t c75 q) (fun z => by rw [show q = i by omega]; exact Nat.le_of_not_lt (fun z2 => c92 (nI_lt z2 (by omega))))⟩)
          refine vv_iload cx dM_fitting_45 rfl (pc' := 47) rfl ?_
          refine vv_iconst cx dM_fitting_47 (v := 5) (by decide) (pc' := 48) rfl ?_
          refine vv_icmp_ge cx dM_fitting_48 (tgt := 146) (by decide) (pc' := 51) rfl (fun c48 => ?_) (fun c48 => ?_)
          · exact absurd c48 (nI_ge (b := 5) (by omega) (by decide))
          · refine vv_iload cx dM_fitting_51 rfl (pc' := 53) rfl ?_
            refine vv_aload_n cx dM_fitting_53 rfl rfl (pc' := 54) rfl ?_
            refine vv_getI cx (C := RM) (T := TM) (NN := 15) 116 2 (by decide) sh_116 rfl rfl (by decide) lyM ww_556 dM_fitting_54 (pc' := 57) rfl ?_
            rw [hn]
            refine vv_icmp_ge cx dM_fitting_57 (tgt := 70) (by decide) (pc' := 60) rfl (fun c57 => ?_) (fun c57 => ?_)
            · refine vv_iconst cx dM_fitting_70 (v := 0) (by decide) (pc' := 71) rfl ?_
              first
              | exact hgo2 _ (by unfold pq_cap; rw [nI_clamp (n := i) (by omega), if_pos (Nat.lt_of_not_le (fun q => c57 (nI_le q (by omega))))]; exact hs0.1.2.2.2.1 i (by omega))
              | exact hgo2 _ (by unfold pq_cap; rw [if_neg (fun q => nI_ge q (by omega) c57)]; rfl)
            · refine vv_aload_n cx dM_fitting_60 rfl rfl (pc' := 61) rfl ?_
              refine vv_getR cx (C := RM) (T := TM) (NN := 15) 116 4 _ (by decide) sh_116 rfl rfl (by decide) lyM ww_558 dM_fitting_61 (pc' := 64) rfl ?_
              refine vv_iload cx dM_fitting_64 rfl (pc' := 66) rfl ?_
              refine vv_iald cx _ (by decide) sh_118 (vp_in_nI (n := i) (by omega) (by decide)) dM_fitting_66 (pc' := 67) rfl ?_
              refine vv_goto cx dM_fitting_67 (tgt := 71) (by decide) ?_
              first
              | exact hgo2 _ (by unfold pq_cap; rw [nI_clamp (n := i) (by omega), if_pos (Nat.lt_of_not_le (fun q => c57 (nI_le q (by omega))))]; exact hs0.1.2.2.2.1 i (by omega))
              | exact hgo2 _ (by unfold pq_cap; rw [if_neg (fun q => nI_ge q (by omega) c57)]; rfl)
      refine vv_iload_n cx dM_fitting_25 rfl rfl (pc' := 26) rfl ?_
      refine vv_aload_n cx dM_fitting_26 rfl rfl (pc' := 27) rfl ?_
      refine vv_getI cx (C := RM) (T := TM) (NN := 15) 116 13 (by decide) sh_116 rfl rfl (by decide) lyM ww_567 dM_fitting_27 (pc' := 30) rfl ?_
      refine vv_icmp_ge cx dM_fitting_30 (tgt := 172) (by decide) (pc' := 33) rfl (fun c30 => ?_) (fun c30 => ?_)
      · exact absurd (by rw [hc13] at c30; exact c30) (nI_ge hlt (by omega))
      · refine vv_aload_n cx dM_fitting_33 rfl rfl (pc' := 34) rfl ?_
        refine vv_getI cx (C := RM) (T := TM) (NN := 15) 116 1 (by decide) sh_116 rfl rfl (by decide) lyM ww_555 dM_fitting_34 (pc' := 37) rfl ?_
        rw [hs0.1.1]
        refine vv_istore cx dM_fitting_37 (Nat.le_of_ble_eq_true rfl) (pc' := 39) rfl ?_
        refine vv_iconst cx dM_fitting_39 (v := 1) (by decide) (pc' := 40) rfl ?_
        refine vv_istore cx dM_fitting_40 (Nat.le_of_ble_eq_true rfl) (pc' := 42) rfl ?_
        refine vv_iconst cx dM_fitting_42 (v := 0) (by decide) (pc' := 43) rfl ?_
        refine vv_istore cx dM_fitting_43 (Nat.le_of_ble_eq_true rfl) (pc' := 45) rfl ?_
        refine inner 5 0 _ _ _ (by omega) ?_ (Or.inl ⟨rfl, fun q hq => absurd hq (by omega)⟩)
        rw [Nat.zero_min]
        show nI W = nI W - nI 0
        rw [pk_sub (Nat.zero_le _), Nat.sub_zero]
  have ph : ∀ a : Int32, pq_fl a (x < 0) →  VV p l e rM_fitting s m [.ref (g.2.2 116), .int x].toArray below meth c (vx_MQ below (pq_Qi g (fun r h9 => (x < 0 ∧ h9 = pq_th 1 h) ∨ (∃ i, x = nI i ∧ i < 2 ^ 31 ∧ h9 = pq_th 0 h ∧ r = pq_opI (pq_nth (fun k => pq_fitb W n w nm (kp k)) c9 0 i))) s.heap.size) (pq_Qx g (pq_no) s.heap.size) [.ref (g.2.2 116), .int x].toArray s 0 0 (pq_A g s.heap.size)) g 0 0 h 10 [some (.ref (g.2.2 116)), some (.int x), none, none, none, none, none, none] [.int a, .ref (g.2.2 116)] := by
    intro a ha
    refine vv_iconst cx dM_fitting_10 (v := 0) (by decide) (pc' := 11) rfl ?_
    refine vv_iconst cx dM_fitting_11 (v := 0) (by decide) (pc' := 12) rfl ?_
    refine vv_iconst cx dM_fitting_12 (v := 0) (by decide) (pc' := 13) rfl ?_
    refine cc_Vi cx hX (tM_throwing l g h a 0 0 0) kM_throwing ww_611 rfl rfl ⟨Nat.le_of_ble_eq_true rfl, Nat.le_of_ble_eq_true rfl⟩ 116 (by decide) sh_116 rfl rfl rfl rfl (Nat.le_of_ble_eq_true rfl) rfl ⟨Nat.le_of_ble_eq_true rfl, Nat.le_of_ble_eq_true rfl⟩ dM_fitting_13 (pc' := 16) rfl (fun _ _ q => q.elim) (fun r13 h13 q13 => ?_)
    obtain ⟨rfl, q13⟩ := q13
    refine vv_if_eq cx dM_fitting_16 (tgt := 21) (by decide) (pc' := 19) rfl (fun c16 => ?_) (fun c16 => ?_)
    · have hz : a = 0 := (pq_thr_all (q13.nt c16)).1
      subst hz
      obtain ⟨i0, hi0, hx0⟩ := nI_of (ha.f rfl)
      rw [pq_thr0, show va_up h 116 (upd (h 116) 0 0) = pq_th 0 h from rfl]
      refine vv_iconst cx dM_fitting_21 (v := 0) (by decide) (pc' := 22) rfl ?_
      refine vv_istore_n cx dM_fitting_22 rfl (Nat.le_of_ble_eq_true rfl) (pc' := 23) rfl ?_
      refine vv_iconst cx dM_fitting_23 (v := 0) (by decide) (pc' := 24) rfl ?_
      refine vv_istore_n cx dM_fitting_24 rfl (Nat.le_of_ble_eq_true rfl) (pc' := 25) rfl ?_
      exact loop i0 hx0 hi0 c9 0 0 _ _ _ _ (by omega) (by omega) (by omega) rfl
    · refine vv_iconst cx dM_fitting_19 (v := 0) (by decide) (pc' := 20) rfl ?_
      refine vv_iret cx hr hlocks dM_fitting_20 (Nat.le_of_ble_eq_true rfl) (Nat.le_of_ble_eq_true rfl) ?_
      have hz : ¬ a = 0 := fun q => absurd (q13.t c16) (by rw [q]; decide)
      rw [pq_thr1 hz]
      exact Or.inl ⟨ha.t hz, rfl⟩
  refine vv_aload_n cx dM_fitting_0 rfl rfl (pc' := 1) rfl ?_
  refine vv_iload_n cx dM_fitting_1 rfl rfl (pc' := 2) rfl ?_
  refine vv_if_ge cx dM_fitting_2 (tgt := 9) (by decide) (pc' := 5) rfl (fun c2 => ?_) (fun c2 => ?_)
  · refine vv_iconst cx dM_fitting_9 (v := 0) (by decide) (pc' := 10) rfl ?_
    first | exact ph 1 (Or.inl ⟨rfl, Int32.not_le.mp c2⟩) | exact ph 0 (Or.inr ⟨rfl, Int32.not_lt.mpr c2⟩)
  · refine vv_iconst cx dM_fitting_5 (v := 1) (by decide) (pc' := 6) rfl ?_
    refine vv_goto cx dM_fitting_6 (tgt := 10) (by decide) ?_
    first | exact ph 1 (Or.inl ⟨rfl, Int32.not_le.mp c2⟩) | exact ph 0 (Or.inr ⟨rfl, Int32.not_lt.mpr c2⟩)

/-! part 26: the reference's design -/
theorem tM_searchX (l : Launch) (g : pq_G) (h : pq_H) {W n : Nat} {w nm pr : Nat → Nat} (most : Nat) (x0 : Int32) (hx0 : x0 = nI most) (hs : pq_mo h W n w nm pr) (he : pq_env W n w nm) (hm : most ≤ 100000) (hl0 : pq_sub h 120 0 nm) (hbs0 : h 116 8 = -1) (hsp0 : h 116 11 = 0) (hst0 : h 116 12 = 0) : XV l yM_search wM_search rM_search g 0 0 [.ref (g.2.2 116), .int x0] h (fun h9 => pq_mb h h9 ∧ pq_mfin h9 W n w nm most) pq_no := by
  subst hx0
  exact tM_search l g h most hs he hm hl0 hbs0 hsp0 hst0
set_option maxRecDepth 100000 in
set_option maxHeartbeats 4000000 in
theorem tM_design (l : Launch) (g : pq_G) (h : pq_H) {W n : Nat} {w nm pr : Nat → Nat} (x : Int32) (hs : pq_mo h W n w nm pr) : XI l yM_design wM_design rM_design g 0 0 [.ref (g.2.2 116), .int x] h (fun r h9 => (¬ (0 ≤ x ∧ x ≤ 100000) ∧ h9 = pq_th 1 h) ∨ ((0 ≤ x ∧ x ≤ 100000) ∧ (∃ i, i < n ∧ 0 < nm i ∧ W < w i) ∧ h9 = pq_th 2 h) ∨ (∃ most, x = nI most ∧ most ≤ 100000 ∧ (∀ i, i < n → ¬ (0 < nm i ∧ W < w i)) ∧ r = h9 116 8 ∧ pq_mfin h9 W n w nm most ∧ h9 116 0 = 0 ∧ h9 116 10 = 1 ∧ (∀ q, q ∉ [116, 120, 121, 122] → h9 q = h q) ∧ ∀ j, j ≠ 0 → j ≠ 8 → j ≠ 10 → j ≠ 11 → j ≠ 12 → h9 116 j = h 116 j)) (pq_no) := by
  refine XI.of (cc := cM_design) (maxL := 4) (ret := (some .int)) (by decide +kernel) (by simp [Value.category]) (Nat.le_of_ble_eq_true rfl) ?_
  intro p e s m below meth c cx hX hr hlocks hex
  obtain ⟨-, ⟨hW1, hW2, hn5⟩, hb, hw1, hnm0⟩ := id hs
  have hn := hs.1.2.1
  have cp : ∀ (most : Nat), x = nI most → most ≤ 100000 → (∀ i, i < n → ¬ (0 < nm i ∧ W < w i)) → ∀ (h0 : pq_H), pq_only 116 h h0 → h0 116 0 = 0 → h0 116 10 = 1 → h0 116 11 = 0 → h0 116 12 = 0 → h0 116 8 = -1 → (∀ j, j ≠ 0 → j ≠ 8 → j ≠ 10 → j ≠ 11 → j ≠ 12 → h0 116 j = h 116 j) → ∀ (d i : Nat) (h1 : pq_H) (u2 : Option Value), i + d = 5 → pq_only 120 h0 h1 → (∀ j, j < i → h1 120 (0 + j) = nI (nm j)) → VV p l e rM_design s m [.ref (g.2.2 116), .int x].toArray below meth c (vx_MQ below (pq_Qi g (fun r h9 => (¬ (0 ≤ x ∧ x ≤ 100000) ∧ h9 = pq_th 1 h) ∨ ((0 ≤ x ∧ x ≤ 100000) ∧ (∃ i, i < n ∧ 0 < nm i ∧ W < w i) ∧ h9 = pq_th 2 h) ∨ (∃ most, x = nI most ∧ most ≤ 100000 ∧ (∀ i, i < n → ¬ (0 < nm i ∧ W < w i)) ∧ r = h9 116 8 ∧ pq_mfin h9 W n w nm most ∧ h9 116 0 = 0 ∧ h9 116 10 = 1 ∧ (∀ q, q ∉ [116, 120, 121, 122] → h9 q = h q) ∧ ∀ j, j ≠ 0 → j ≠ 8 → j ≠ 10 → j ≠ 11 → j ≠ 12 → h9 116 j = h 116 j)) s.heap.size) (pq_Qx g (pq_no) s.heap.size) [.ref (g.2.2 116), .int x].toArray s 0 0 (pq_A g s.heap.size)) g 0 0 h1 99 [some (.ref (g.2.2 116)), some (.int x), u2, some (.int (nI i))] [] := by
    intro most hxm hm hno h0 a1 a2 a3 a4 a5 a6 a7 d
    have hs0 : pq_mo h0 W n w nm pr := hs.of (a7 1 (by decide) (by decide) (by decide) (by decide) (by decide)) (a7 2 (by decide) (by decide) (by decide) (by decide) (by decide)) (a1 117 (by decide)) (a1 118 (by decide)) (a1 119 (by decide))
    have he : pq_env W n w nm := ⟨hn5, fun i hi => (hb i hi).2.1, hnm0, hw1, fun i hi q => Nat.le_of_not_lt (fun z => hno i hi ⟨q, z⟩)⟩
    induction d with
    | zero =>
      intro i h1 u2 hi ho hj
      have e1 : i = 5 := by omega
      subst e1
      have hs1 := hs0.only ho (by decide)
      refine vv_iload_n cx dM_design_99 rfl rfl (pc' := 100) rfl ?_
      refine vv_iconst cx dM_design_100 (v := 5) (by decide) (pc' := 101) rfl ?_
      refine vv_icmp_ge cx dM_design_101 (tgt := 134) (by decide) (pc' := 104) rfl (fun c101 => ?_) (fun c101 => ?_)
      · refine vv_aload_n cx dM_design_134 rfl rfl (pc' := 135) rfl ?_
        refine vv_iload_n cx dM_design_135 rfl rfl (pc' := 136) rfl ?_
        refine cc_Vv cx hX (tM_searchX l g h1 most x hxm hs1 he hm (fun i hi => hj i hi) (by rw [ho 116 (by decide)]; exact a6) (by rw [ho 116 (by decide)]; exact a4) (by rw [ho 116 (by decide)]; exact a5)) kM_search ww_676 rfl rfl ⟨Nat.le_of_ble_eq_true rfl, Nat.le_of_ble_eq_true rfl⟩ 116 (by decide) sh_116 rfl rfl rfl rfl (Nat.le_of_ble_eq_true rfl) rfl ⟨Nat.le_of_ble_eq_true rfl, Nat.le_of_ble_eq_true rfl⟩ dM_design_136 (pc' := 139) rfl (fun _ _ q => q.elim) (fun h136 q136 => ?_)
        refine vv_aload_n cx dM_design_139 rfl rfl (pc' := 140) rfl ?_
        refine vv_getI cx (C := RM) (T := TM) (NN := 15) 116 8 (by decide) sh_116 rfl rfl (by decide) lyM ww_562 dM_design_140 (pc' := 143) rfl ?_
        refine vv_iret cx hr hlocks dM_design_143 (Nat.le_of_ble_eq_true rfl) (Nat.le_of_ble_eq_true rfl) ?_
        refine Or.inr (Or.inr ⟨most, hxm, hm, hno, rfl, q136.2, ?_, ?_, fun q hq => ?_, fun j j0 j8 j10 j11 j12 => ?_⟩)
        · rw [q136.1.2 0 (by decide) (by decide) (by decide), ho 116 (by decide)]; exact a2
        · rw [q136.1.2 10 (by decide) (by decide) (by decide), ho 116 (by decide)]; exact a3
        · have hq2 := hq
          simp at hq2
          rw [q136.1.1 q hq, ho q hq2.2.1, a1 q hq2.1]
        · rw [q136.1.2 j j8 j11 j12, ho 116 (by decide)]; exact a7 j j0 j8 j10 j11 j12
      · exact absurd (Int32.le_refl _) c101
    | succ d ih =>
      intro i h1 u2 hi ho hj
      have hs1 := hs0.only ho (by decide)
      have hn1 := hs1.1.2.1
      refine vv_iload_n cx dM_design_99 rfl rfl (pc' := 100) rfl ?_
      refine vv_iconst cx dM_design_100 (v := 5) (by decide) (pc' := 101) rfl ?_
      refine vv_icmp_ge cx dM_design_101 (tgt := 134) (by decide) (pc' := 104) rfl (fun c101 => ?_) (fun c101 => ?_)
      · exact absurd c101 (nI_ge (b := 5) (by omega) (by decide))
      · refine vv_aload_n cx dM_design_104 rfl rfl (pc' := 105) rfl ?_
        refine vv_getR cx (C := RM) (T := TM) (NN := 15) 116 6 _ (by decide) sh_116 rfl rfl (by decide) lyM ww_560 dM_design_105 (pc' := 108) rfl ?_
        refine vv_iload_n cx dM_design_108 rfl rfl (pc' := 109) rfl ?_
        refine vv_iload_n cx dM_design_109 rfl rfl (pc' := 110) rfl ?_
        refine vv_aload_n cx dM_design_110 rfl rfl (pc' := 111) rfl ?_
        refine vv_getI cx (C := RM) (T := TM) (NN := 15) 116 2 (by decide) sh_116 rfl rfl (by decide) lyM ww_556 dM_design_111 (pc' := 114) rfl ?_
        rw [hn1]
        refine vv_icmp_ge cx dM_design_114 (tgt := 126) (by decide) (pc' := 117) rfl (fun c114 => ?_) (fun c114 => ?_)
        · refine vv_iconst cx dM_design_126 (v := 0) (by decide) (pc' := 127) rfl ?_
          refine vv_iast cx _ (by decide) sh_120 (vp_in_nI (n := i) (by omega) (by decide)) dM_design_127 (pc' := 128) rfl ?_
          rw [nI_clamp (n := i) (by omega)]
          refine vv_iinc cx dM_design_128 rfl pq_n1 (pc' := 131) rfl ?_
          refine vv_goto cx dM_design_131 (tgt := 99) (by decide) ?_
          refine ih (i + 1) _ _ (by omega) (ho.trans pq_only.up) (fun j hj6 => ?_)
          by_cases e9 : j = i
          · subst e9
            rw [va_up_self, Nat.zero_add]
            first
              | exact pk_us
              | exact pk_us.trans (by rw [hnm0 j (Nat.le_of_not_lt (fun q => nI_ge q (by omega) c114)) (by omega)]; rfl)
          · rw [va_up_self, pk_un (by omega)]; exact hj j (by omega)
        · refine vv_aload_n cx dM_design_117 rfl rfl (pc' := 118) rfl ?_
          refine vv_getR cx (C := RM) (T := TM) (NN := 15) 116 4 _ (by decide) sh_116 rfl rfl (by decide) lyM ww_558 dM_design_118 (pc' := 121) rfl ?_
          refine vv_iload_n cx dM_design_121 rfl rfl (pc' := 122) rfl ?_
          refine vv_iald cx _ (by decide) sh_118 (vp_in_nI (n := i) (by omega) (by decide)) dM_design_122 (pc' := 123) rfl ?_
          rw [nI_clamp (n := i) (by omega), hs1.1.2.2.2.1 i (by omega)]
          refine vv_goto cx dM_design_123 (tgt := 127) (by decide) ?_
          refine vv_iast cx _ (by decide) sh_120 (vp_in_nI (n := i) (by omega) (by decide)) dM_design_127 (pc' := 128) rfl ?_
          rw [nI_clamp (n := i) (by omega)]
          refine vv_iinc cx dM_design_128 rfl pq_n1 (pc' := 131) rfl ?_
          refine vv_goto cx dM_design_131 (tgt := 99) (by decide) ?_
          refine ih (i + 1) _ _ (by omega) (ho.trans pq_only.up) (fun j hj6 => ?_)
          by_cases e9 : j = i
          · subst e9
            rw [va_up_self, Nat.zero_add]
            first
              | exact pk_us
              | exact pk_us.trans (by rw [hnm0 j (Nat.le_of_not_lt (fun q => nI_ge q (by omega) c114)) (by omega)]; rfl)
          · rw [va_up_self, pk_un (by omega)]; exact hj j (by omega)
  have ph : ∀ (a b : Int32) (u3 : Option Value), pq_fl a (¬ (0 ≤ x ∧ x ≤ 100000)) → pq_fl b (∃ i, i < n ∧ 0 < nm i ∧ W < w i) →  VV p l e rM_design s m [.ref (g.2.2 116), .int x].toArray below meth c (vx_MQ below (pq_Qi g (fun r h9 => (¬ (0 ≤ x ∧ x ≤ 100000) ∧ h9 = pq_th 1 h) ∨ ((0 ≤ x ∧ x ≤ 100000) ∧ (∃ i, i < n ∧ 0 < nm i ∧ W < w i) ∧ h9 = pq_th 2 h) ∨ (∃ most, x = nI most ∧ most ≤ 100000 ∧ (∀ i, i < n → ¬ (0 < nm i ∧ W < w i)) ∧ r = h9 116 8 ∧ pq_mfin h9 W n w nm most ∧ h9 116 0 = 0 ∧ h9 116 10 = 1 ∧ (∀ q, q ∉ [116, 120, 121, 122] → h9 q = h q) ∧ ∀ j, j ≠ 0 → j ≠ 8 → j ≠ 10 → j ≠ 11 → j ≠ 12 → h9 116 j = h 116 j)) s.heap.size) (pq_Qx g (pq_no) s.heap.size) [.ref (g.2.2 116), .int x].toArray s 0 0 (pq_A g s.heap.size)) g 0 0 h 66 [some (.ref (g.2.2 116)), some (.int x), some (.int b), u3] [.int a, .ref (g.2.2 116)] := by
    intro a b u3 ha hb9
    refine vv_iload_n cx dM_design_66 rfl rfl (pc' := 67) rfl ?_
    refine vv_iconst cx dM_design_67 (v := 0) (by decide) (pc' := 68) rfl ?_
    refine vv_iconst cx dM_design_68 (v := 0) (by decide) (pc' := 69) rfl ?_
    refine cc_Vi cx hX (tM_throwing l g h a b 0 0) kM_throwing ww_611 rfl rfl ⟨Nat.le_of_ble_eq_true rfl, Nat.le_of_ble_eq_true rfl⟩ 116 (by decide) sh_116 rfl rfl rfl rfl (Nat.le_of_ble_eq_true rfl) rfl ⟨Nat.le_of_ble_eq_true rfl, Nat.le_of_ble_eq_true rfl⟩ dM_design_69 (pc' := 72) rfl (fun _ _ q => q.elim) (fun r69 h69 q69 => ?_)
    obtain ⟨rfl, q69⟩ := q69
    refine vv_if_eq cx dM_design_72 (tgt := 77) (by decide) (pc' := 75) rfl (fun c72 => ?_) (fun c72 => ?_)
    · obtain ⟨hz1, hz2, -⟩ := pq_thr_all (q69.nt c72)
      subst hz1 hz2
      have hrg := ha.nt rfl
      obtain ⟨most, hm, hxm⟩ := pq_rng (n := 100000) (M := 100000) rfl hrg.1 hrg.2
      have hno : ∀ i, i < n → ¬ (0 < nm i ∧ W < w i) := fun i hi q => hb9.f rfl ⟨i, hi, q⟩
      rw [pq_thr0, show va_up h 116 (upd (h 116) 0 0) = pq_th 0 h from rfl]
      refine vv_aload_n cx dM_design_77 rfl rfl (pc' := 78) rfl ?_
      refine vv_iconst cx dM_design_78 (v := 1) (by decide) (pc' := 79) rfl ?_
      refine vv_putI cx (C := RM) (T := TM) (NN := 15) 116 10 (by decide) sh_116 rfl rfl (by decide) lyM tyM tyM_ok nmM rfl rfl rfl ww_564 dM_design_79 (pc' := 82) rfl ?_
      refine vv_aload_n cx dM_design_82 rfl rfl (pc' := 83) rfl ?_
      refine vv_iconst cx dM_design_83 (v := 0) (by decide) (pc' := 84) rfl ?_
      refine vv_putI cx (C := RM) (T := TM) (NN := 15) 116 11 (by decide) sh_116 rfl rfl (by decide) lyM tyM tyM_ok nmM rfl rfl rfl ww_565 dM_design_84 (pc' := 87) rfl ?_
      refine vv_aload_n cx dM_design_87 rfl rfl (pc' := 88) rfl ?_
      refine vv_iconst cx dM_design_88 (v := 0) (by decide) (pc' := 89) rfl ?_
      refine vv_putI cx (C := RM) (T := TM) (NN := 15) 116 12 (by decide) sh_116 rfl rfl (by decide) lyM tyM tyM_ok nmM rfl rfl rfl ww_566 dM_design_89 (pc' := 92) rfl ?_
      refine vv_aload_n cx dM_design_92 rfl rfl (pc' := 93) rfl ?_
      refine vv_iconst cx dM_design_93 (v := -1) (by decide) (pc' := 94) rfl ?_
      refine vv_putI cx (C := RM) (T := TM) (NN := 15) 116 8 (by decide) sh_116 rfl rfl (by decide) lyM tyM tyM_ok nmM rfl rfl rfl ww_562 dM_design_94 (pc' := 97) rfl ?_
      refine vv_iconst cx dM_design_97 (v := 0) (by decide) (pc' := 98) rfl ?_
      refine vv_istore_n cx dM_design_98 rfl (Nat.le_of_ble_eq_true rfl) (pc' := 99) rfl ?_
      refine cp most hxm hm hno _ (fun q hq => ?_) ?_ ?_ ?_ ?_ ?_ (fun j j0 j8 j10 j11 j12 => ?_) 5 0 _ _ (by omega) pq_only.rfl' (fun j hj => absurd hj (by omega))
      · rw [va_up_ne _ _ hq, va_up_ne _ _ hq, va_up_ne _ _ hq, va_up_ne _ _ hq, pq_th_ne hq]
      · rw [va_up_self, pk_un (by decide), va_up_self, pk_un (by decide), va_up_self, pk_un (by decide), va_up_self, pk_un (by decide), pq_th_0]
      · rw [va_up_self, pk_un (by decide), va_up_self, pk_un (by decide), va_up_self, pk_un (by decide), va_up_self, pk_us]
      · rw [va_up_self, pk_un (by decide), va_up_self, pk_un (by decide), va_up_self, pk_us]
      · rw [va_up_self, pk_un (by decide), va_up_self, pk_us]
      · rw [va_up_self, pk_us]
      · rw [va_up_self, pk_un j8, va_up_self, pk_un j12, va_up_self, pk_un j11, va_up_self, pk_un j10, pq_th_j j0]
    · refine vv_iconst cx dM_design_75 (v := 0) (by decide) (pc' := 76) rfl ?_
      refine vv_iret cx hr hlocks dM_design_76 (Nat.le_of_ble_eq_true rfl) (Nat.le_of_ble_eq_true rfl) ?_
      by_cases hz : a = 0
      · subst hz
        have hbz : ¬ b = 0 := fun q => absurd (q69.t c72) (by rw [q]; decide)
        rw [pq_thr2 hbz]
        exact Or.inr (Or.inl ⟨ha.nt rfl, hb9.t hbz, rfl⟩)
      · rw [pq_thr1 hz]
        exact Or.inl ⟨ha.t hz, rfl⟩
  have loop : ∀ (d i : Nat) (y : Int32), i + d = n → pq_fl y (∃ q, q < i ∧ 0 < nm q ∧ W < w q) → VV p l e rM_design s m [.ref (g.2.2 116), .int x].toArray below meth c (vx_MQ below (pq_Qi g (fun r h9 => (¬ (0 ≤ x ∧ x ≤ 100000) ∧ h9 = pq_th 1 h) ∨ ((0 ≤ x ∧ x ≤ 100000) ∧ (∃ i, i < n ∧ 0 < nm i ∧ W < w i) ∧ h9 = pq_th 2 h) ∨ (∃ most, x = nI most ∧ most ≤ 100000 ∧ (∀ i, i < n → ¬ (0 < nm i ∧ W < w i)) ∧ r = h9 116 8 ∧ pq_mfin h9 W n w nm most ∧ h9 116 0 = 0 ∧ h9 116 10 = 1 ∧ (∀ q, q ∉ [116, 120, 121, 122] → h9 q = h q) ∧ ∀ j, j ≠ 0 → j ≠ 8 → j ≠ 10 → j ≠ 11 → j ≠ 12 → h9 116 j = h 116 j)) s.heap.size) (pq_Qx g (pq_no) s.heap.size) [.ref (g.2.2 116), .int x].toArray s 0 0 (pq_A g s.heap.size)) g 0 0 h 4 [some (.ref (g.2.2 116)), some (.int x), some (.int y), some (.int (nI i))] [] := by
    intro d
    induction d with
    | zero =>
      intro i y hi hy
      have e1 : i = n := by omega
      subst e1
      refine vv_iload_n cx dM_design_4 rfl rfl (pc' := 5) rfl ?_
      refine vv_aload_n cx dM_design_5 rfl rfl (pc' := 6) rfl ?_
      refine vv_getI cx (C := RM) (T := TM) (NN := 15) 116 2 (by decide) sh_116 rfl rfl (by decide) lyM ww_556 dM_design_6 (pc' := 9) rfl ?_
      refine vv_icmp_ge cx dM_design_9 (tgt := 50) (by decide) (pc' := 12) rfl (fun c9 => ?_) (fun c9 => ?_)
      · refine vv_aload_n cx dM_design_50 rfl rfl (pc' := 51) rfl ?_
        refine vv_iload_n cx dM_design_51 rfl rfl (pc' := 52) rfl ?_
        refine vv_iconst cx dM_design_52 (v := 0) (by decide) (pc' := 53) rfl ?_
        refine vv_ldc cx (v := 100000) dM_design_53 ww_675 (pc' := 55) rfl ?_
        refine cc_Si cx hX (tM_in l g h x 0 100000) kM_in ww_608 rfl rfl ⟨Nat.le_of_ble_eq_true rfl, Nat.le_of_ble_eq_true rfl⟩ rfl rfl (Nat.le_of_ble_eq_true rfl) rfl ⟨Nat.le_of_ble_eq_true rfl, Nat.le_of_ble_eq_true rfl⟩ dM_design_55 (pc' := 58) rfl (fun _ _ q => q.elim) (fun r55 h55 q55 => ?_)
        obtain ⟨rfl, q55⟩ := q55
        refine vv_if_ne cx dM_design_58 (tgt := 65) (by decide) (pc' := 61) rfl (fun c58 => ?_) (fun c58 => ?_)
        · refine vv_iconst cx dM_design_65 (v := 0) (by decide) (pc' := 66) rfl ?_
          first | exact ph 1 y _ (Or.inl ⟨rfl, q55.f c58⟩) hy | exact ph 0 y _ (Or.inr ⟨rfl, fun z => z (q55.t c58)⟩) hy
        · refine vv_iconst cx dM_design_61 (v := 1) (by decide) (pc' := 62) rfl ?_
          refine vv_goto cx dM_design_62 (tgt := 66) (by decide) ?_
          first | exact ph 1 y _ (Or.inl ⟨rfl, q55.f c58⟩) hy | exact ph 0 y _ (Or.inr ⟨rfl, fun z => z (q55.t c58)⟩) hy
      · exact absurd (Int32.le_refl _) (by rw [hn] at c9; exact c9)
    | succ d ih =>
      intro i y hi hy
      have hlt : i < n := by omega
      have hbi := hb i (by omega)
      have hgo : ∀ y2 : Int32, pq_fl y2 (∃ q, q < i + 1 ∧ 0 < nm q ∧ W < w q) →  VV p l e rM_design s m [.ref (g.2.2 116), .int x].toArray below meth c (vx_MQ below (pq_Qi g (fun r h9 => (¬ (0 ≤ x ∧ x ≤ 100000) ∧ h9 = pq_th 1 h) ∨ ((0 ≤ x ∧ x ≤ 100000) ∧ (∃ i, i < n ∧ 0 < nm i ∧ W < w i) ∧ h9 = pq_th 2 h) ∨ (∃ most, x = nI most ∧ most ≤ 100000 ∧ (∀ i, i < n → ¬ (0 < nm i ∧ W < w i)) ∧ r = h9 116 8 ∧ pq_mfin h9 W n w nm most ∧ h9 116 0 = 0 ∧ h9 116 10 = 1 ∧ (∀ q, q ∉ [116, 120, 121, 122] → h9 q = h q) ∧ ∀ j, j ≠ 0 → j ≠ 8 → j ≠ 10 → j ≠ 11 → j ≠ 12 → h9 116 j = h 116 j)) s.heap.size) (pq_Qx g (pq_no) s.heap.size) [.ref (g.2.2 116), .int x].toArray s 0 0 (pq_A g s.heap.size)) g 0 0 h 43 [some (.ref (g.2.2 116)), some (.int x), some (.int y), some (.int (nI i))] [.int y2] := by
        intro y2 hy2
        refine vv_istore_n cx dM_design_43 rfl (Nat.le_of_ble_eq_true rfl) (pc' := 44) rfl ?_
        refine vv_iinc cx dM_design_44 rfl pq_n1 (pc' := 47) rfl ?_
        refine vv_goto cx dM_design_47 (tgt := 4) (by decide) ?_
        exact ih (i + 1) y2 (by omega) hy2
      have hstep : ¬ (∃ q, q < i ∧ 0 < nm q ∧ W < w q) → ¬ (0 < nm i ∧ W < w i) → ¬ ∃ q, q < i + 1 ∧ 0 < nm q ∧ W < w q := fun q1 q2 ⟨q, z1, z2⟩ => by
        rcases Nat.lt_or_ge q i with z | z
        · exact q1 ⟨q, z, z2⟩
        · rw [show q = i by omega] at z2; exact q2 z2
      refine vv_iload_n cx dM_design_4 rfl rfl (pc' := 5) rfl ?_
      refine vv_aload_n cx dM_design_5 rfl rfl (pc' := 6) rfl ?_
      refine vv_getI cx (C := RM) (T := TM) (NN := 15) 116 2 (by decide) sh_116 rfl rfl (by decide) lyM ww_556 dM_design_6 (pc' := 9) rfl ?_
      refine vv_icmp_ge cx dM_design_9 (tgt := 50) (by decide) (pc' := 12) rfl (fun c9 => ?_) (fun c9 => ?_)
      · exact absurd (by rw [hn] at c9; exact c9) (nI_ge hlt (by omega))
      · refine vv_iload_n cx dM_design_12 rfl rfl (pc' := 13) rfl ?_
        refine vv_if_ne cx dM_design_13 (tgt := 38) (by decide) (pc' := 16) rfl (fun c13 => ?_) (fun c13 => ?_)
        · refine vv_iconst cx dM_design_38 (v := 1) (by decide) (pc' := 39) rfl ?_
          refine vv_goto cx dM_design_39 (tgt := 43) (by decide) ?_
          first
          | exact hgo 1 (Or.inl ⟨rfl, by obtain ⟨q, z1, z2⟩ := hy.t c13; exact ⟨q, by omega, z2⟩⟩)
          | exact hgo 0 (Or.inr ⟨rfl, hstep (hy.f (Decidable.byContradiction c13)) (fun z => nI_nle z.1 (by omega) c22)⟩)
          | exact hgo 0 (Or.inr ⟨rfl, hstep (hy.f c13) (fun z => nI_nle z.1 (by omega) c22)⟩)
          | exact hgo 0 (Or.inr ⟨rfl, hstep (hy.f c13) (fun z => nI_ge z.2 (by omega) c35)⟩)
          | exact hgo 1 (Or.inl ⟨rfl, i, by omega, pq_pos (Int32.not_le.mp c22), Nat.lt_of_not_le (fun q => c35 (nI_le q (by omega)))⟩)
        · refine vv_aload_n cx dM_design_16 rfl rfl (pc' := 17) rfl ?_
          refine vv_getR cx (C := RM) (T := TM) (NN := 15) 116 4 _ (by decide) sh_116 rfl rfl (by decide) lyM ww_558 dM_design_17 (pc' := 20) rfl ?_
          refine vv_iload_n cx dM_design_20 rfl rfl (pc' := 21) rfl ?_
          refine vv_iald cx _ (by decide) sh_118 (vp_in_nI (n := i) (by omega) (by decide)) dM_design_21 (pc' := 22) rfl ?_
          rw [nI_clamp (n := i) (by omega), hs.1.2.2.2.1 i (by omega)]
          refine vv_if_le cx dM_design_22 (tgt := 42) (by decide) (pc' := 25) rfl (fun c22 => ?_) (fun c22 => ?_)
          · refine vv_iconst cx dM_design_42 (v := 0) (by decide) (pc' := 43) rfl ?_
            first
            | exact hgo 1 (Or.inl ⟨rfl, by obtain ⟨q, z1, z2⟩ := hy.t c13; exact ⟨q, by omega, z2⟩⟩)
            | exact hgo 0 (Or.inr ⟨rfl, hstep (hy.f (Decidable.byContradiction c13)) (fun z => nI_nle z.1 (by omega) c22)⟩)
            | exact hgo 0 (Or.inr ⟨rfl, hstep (hy.f c13) (fun z => nI_nle z.1 (by omega) c22)⟩)
            | exact hgo 0 (Or.inr ⟨rfl, hstep (hy.f c13) (fun z => nI_ge z.2 (by omega) c35)⟩)
            | exact hgo 1 (Or.inl ⟨rfl, i, by omega, pq_pos (Int32.not_le.mp c22), Nat.lt_of_not_le (fun q => c35 (nI_le q (by omega)))⟩)
          · refine vv_aload_n cx dM_design_25 rfl rfl (pc' := 26) rfl ?_
            refine vv_getR cx (C := RM) (T := TM) (NN := 15) 116 3 _ (by decide) sh_116 rfl rfl (by decide) lyM ww_557 dM_design_26 (pc' := 29) rfl ?_
            refine vv_iload_n cx dM_design_29 rfl rfl (pc' := 30) rfl ?_
            refine vv_iald cx _ (by decide) sh_117 (vp_in_nI (n := i) (by omega) (by decide)) dM_design_30 (pc' := 31) rfl ?_
            refine vv_aload_n cx dM_design_31 rfl rfl (pc' := 32) rfl ?_
            refine vv_getI cx (C := RM) (T := TM) (NN := 15) 116 1 (by decide) sh_116 rfl rfl (by decide) lyM ww_555 dM_design_32 (pc' := 35) rfl ?_
            rw [nI_clamp (n := i) (by omega), hs.1.2.2.1 i (by omega), hs.1.1]
            refine vv_icmp_le cx dM_design_35 (tgt := 42) (by decide) (pc' := 38) rfl (fun c35 => ?_) (fun c35 => ?_)
            · refine vv_iconst cx dM_design_42 (v := 0) (by decide) (pc' := 43) rfl ?_
              first
              | exact hgo 1 (Or.inl ⟨rfl, by obtain ⟨q, z1, z2⟩ := hy.t c13; exact ⟨q, by omega, z2⟩⟩)
              | exact hgo 0 (Or.inr ⟨rfl, hstep (hy.f (Decidable.byContradiction c13)) (fun z => nI_nle z.1 (by omega) c22)⟩)
              | exact hgo 0 (Or.inr ⟨rfl, hstep (hy.f c13) (fun z => nI_nle z.1 (by omega) c22)⟩)
              | exact hgo 0 (Or.inr ⟨rfl, hstep (hy.f c13) (fun z => nI_ge z.2 (by omega) c35)⟩)
              | exact hgo 1 (Or.inl ⟨rfl, i, by omega, pq_pos (Int32.not_le.mp c22), Nat.lt_of_not_le (fun q => c35 (nI_le q (by omega)))⟩)
            · refine vv_iconst cx dM_design_38 (v := 1) (by decide) (pc' := 39) rfl ?_
              refine vv_goto cx dM_design_39 (tgt := 43) (by decide) ?_
              first
              | exact hgo 1 (Or.inl ⟨rfl, by obtain ⟨q, z1, z2⟩ := hy.t c13; exact ⟨q, by omega, z2⟩⟩)
              | exact hgo 0 (Or.inr ⟨rfl, hstep (hy.f (Decidable.byContradiction c13)) (fun z => nI_nle z.1 (by omega) c22)⟩)
              | exact hgo 0 (Or.inr ⟨rfl, hstep (hy.f c13) (fun z => nI_nle z.1 (by omega) c22)⟩)
              | exact hgo 0 (Or.inr ⟨rfl, hstep (hy.f c13) (fun z => nI_ge z.2 (by omega) c35)⟩)
              | exact hgo 1 (Or.inl ⟨rfl, i, by omega, pq_pos (Int32.not_le.mp c22), Nat.lt_of_not_le (fun q => c35 (nI_le q (by omega)))⟩)
  refine vv_iconst cx dM_design_0 (v := 0) (by decide) (pc' := 1) rfl ?_
  refine vv_istore_n cx dM_design_1 rfl (Nat.le_of_ble_eq_true rfl) (pc' := 2) rfl ?_
  refine vv_iconst cx dM_design_2 (v := 0) (by decide) (pc' := 3) rfl ?_
  refine vv_istore_n cx dM_design_3 rfl (Nat.le_of_ble_eq_true rfl) (pc' := 4) rfl ?_
  exact loop n 0 _ (by omega) (Or.inr ⟨rfl, fun ⟨q, z, _⟩ => absurd z (by omega)⟩)

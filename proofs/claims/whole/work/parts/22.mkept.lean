/-! part 22: the reference's kept patterns -/
def pq_ms (h : pq_H) (c : Nat) (kp : Nat → Nat → Nat) : Prop := h 116 13 = nI c ∧ c ≤ 40 ∧ ∀ j, j < c → pq_sub h 123 (7 * j) (kp j)
/-- kept pattern z has just the pieces of the best design's sheet j -/
def pq_eqr (h : pq_H) (z j : Nat) : Prop := ∀ i, i < 5 → h 123 (7 * z + i) = h 122 (5 * j + i)
theorem pq_57 {j i : Nat} : (5 : Int32) * nI j + nI i = nI (5 * j + i) := by rw [show (5 : Int32) = nI 5 from rfl, pk_mul, nI_add]
theorem pq_77 {j i : Nat} : (7 : Int32) * nI j + nI i = nI (7 * j + i) := by rw [show (7 : Int32) = nI 7 from rfl, pk_mul, nI_add]
set_option maxRecDepth 100000 in
set_option maxHeartbeats 4000000 in
theorem tM_keptAs (l : Launch) (g : pq_G) (h : pq_H) (j c9 : Nat) (x0 : Int32) (hx0 : x0 = nI j) (hc : h 116 13 = nI c9) (hc40 : c9 ≤ 40) (hj : j < 31) : XI l yM_keptAs wM_keptAs rM_keptAs g 0 0 [.ref (g.2.2 116), .int x0] h (fun r h9 => h9 = h ∧ ((∃ k, k < c9 ∧ r = nI k ∧ pq_eqr h k j ∧ ∀ z, z < k → ¬ pq_eqr h z j) ∨ (r = nI c9 ∧ ∀ z, z < c9 → ¬ pq_eqr h z j))) (pq_no) := by
  refine XI.of (cc := cM_keptAs) (maxL := 5) (ret := (some .int)) (by decide +kernel) (by simp [Value.category]) (Nat.le_of_ble_eq_true rfl) ?_
  intro p e s m below meth c cx hX hr hlocks hex
  subst hx0
  have loop : ∀ (d k : Nat) (u3 u4 : Option Value), k + d = c9 → (∀ z, z < k → ¬ pq_eqr h z j) → VV p l e rM_keptAs s m [.ref (g.2.2 116), .int (nI j)].toArray below meth c (vx_MQ below (pq_Qi g (fun r h9 => h9 = h ∧ ((∃ k, k < c9 ∧ r = nI k ∧ pq_eqr h k j ∧ ∀ z, z < k → ¬ pq_eqr h z j) ∨ (r = nI c9 ∧ ∀ z, z < c9 → ¬ pq_eqr h z j))) s.heap.size) (pq_Qx g (pq_no) s.heap.size) [.ref (g.2.2 116), .int (nI j)].toArray s 0 0 (pq_A g s.heap.size)) g 0 0 h 2 [some (.ref (g.2.2 116)), some (.int (nI j)), some (.int (nI k)), u3, u4] [] := by
    intro d
    induction d with
    | zero =>
      intro k u3 u4 hk hz
      have e1 : k = c9 := by omega
      subst e1
      refine vv_iload_n cx dM_keptAs_2 rfl rfl (pc' := 3) rfl ?_
      refine vv_aload_n cx dM_keptAs_3 rfl rfl (pc' := 4) rfl ?_
      refine vv_getI cx (C := RM) (T := TM) (NN := 15) 116 13 (by decide) sh_116 rfl rfl (by decide) lyM ww_567 dM_keptAs_4 (pc' := 7) rfl ?_
      refine vv_icmp_ge cx dM_keptAs_7 (tgt := 75) (by decide) (pc' := 10) rfl (fun c7 => ?_) (fun c7 => ?_)
      · refine vv_aload_n cx dM_keptAs_75 rfl rfl (pc' := 76) rfl ?_
        refine vv_getI cx (C := RM) (T := TM) (NN := 15) 116 13 (by decide) sh_116 rfl rfl (by decide) lyM ww_567 dM_keptAs_76 (pc' := 79) rfl ?_
        refine vv_iret cx hr hlocks dM_keptAs_79 (Nat.le_of_ble_eq_true rfl) (Nat.le_of_ble_eq_true rfl) ?_
        exact ⟨rfl, Or.inr ⟨hc, hz⟩⟩
      · exact absurd (Int32.le_refl _) (by rw [hc] at c7; exact c7)
    | succ d ih =>
      intro k u3 u4 hk hz
      have hlt : k < c9 := by omega
      have inner : ∀ (d2 i : Nat) (y : Int32), i + d2 = 5 → pq_fl y (∀ x, x < i → h 123 (7 * k + x) = h 122 (5 * j + x)) →  VV p l e rM_keptAs s m [.ref (g.2.2 116), .int (nI j)].toArray below meth c (vx_MQ below (pq_Qi g (fun r h9 => h9 = h ∧ ((∃ k, k < c9 ∧ r = nI k ∧ pq_eqr h k j ∧ ∀ z, z < k → ¬ pq_eqr h z j) ∨ (r = nI c9 ∧ ∀ z, z < c9 → ¬ pq_eqr h z j))) s.heap.size) (pq_Qx g (pq_no) s.heap.size) [.ref (g.2.2 116), .int (nI j)].toArray s 0 0 (pq_A g s.heap.size)) g 0 0 h 15 [some (.ref (g.2.2 116)), some (.int (nI j)), some (.int (nI k)), some (.int y), some (.int (nI i))] [] := by
        intro d2
        induction d2 with
        | zero =>
          intro i y hi hy
          have e1 : i = 5 := by omega
          subst e1
          refine vv_iload cx dM_keptAs_15 rfl (pc' := 17) rfl ?_
          refine vv_iconst cx dM_keptAs_17 (v := 5) (by decide) (pc' := 18) rfl ?_
          refine vv_icmp_ge cx dM_keptAs_18 (tgt := 63) (by decide) (pc' := 21) rfl (fun c18 => ?_) (fun c18 => ?_)
          · refine vv_iload_n cx dM_keptAs_63 rfl rfl (pc' := 64) rfl ?_
            refine vv_if_eq cx dM_keptAs_64 (tgt := 69) (by decide) (pc' := 67) rfl (fun c64 => ?_) (fun c64 => ?_)
            · refine vv_iinc cx dM_keptAs_69 rfl pq_n1 (pc' := 72) rfl ?_
              refine vv_goto cx dM_keptAs_72 (tgt := 2) (by decide) ?_
              refine ih (k + 1) _ _ (by omega) (fun z hz2 => ?_)
              rcases Nat.lt_or_ge z k with q | q
              · exact hz z q
              · rw [show z = k by omega]; exact hy.f c64
            · refine vv_iload_n cx dM_keptAs_67 rfl rfl (pc' := 68) rfl ?_
              refine vv_iret cx hr hlocks dM_keptAs_68 (Nat.le_of_ble_eq_true rfl) (Nat.le_of_ble_eq_true rfl) ?_
              exact ⟨rfl, Or.inl ⟨k, hlt, rfl, hy.t c64, hz⟩⟩
          · exact absurd (Int32.le_refl _) c18
        | succ d2 ih2 =>
          intro i y hi hy
          have hgo : ∀ y2 : Int32, pq_fl y2 (∀ x, x < i + 1 → h 123 (7 * k + x) = h 122 (5 * j + x)) →  VV p l e rM_keptAs s m [.ref (g.2.2 116), .int (nI j)].toArray below meth c (vx_MQ below (pq_Qi g (fun r h9 => h9 = h ∧ ((∃ k, k < c9 ∧ r = nI k ∧ pq_eqr h k j ∧ ∀ z, z < k → ¬ pq_eqr h z j) ∨ (r = nI c9 ∧ ∀ z, z < c9 → ¬ pq_eqr h z j))) s.heap.size) (pq_Qx g (pq_no) s.heap.size) [.ref (g.2.2 116), .int (nI j)].toArray s 0 0 (pq_A g s.heap.size)) g 0 0 h 56 [some (.ref (g.2.2 116)), some (.int (nI j)), some (.int (nI k)), some (.int y), some (.int (nI i))] [.int y2] := by
            intro y2 hy2
            refine vv_istore_n cx dM_keptAs_56 rfl (Nat.le_of_ble_eq_true rfl) (pc' := 57) rfl ?_
            refine vv_iinc cx dM_keptAs_57 rfl pq_n1 (pc' := 60) rfl ?_
            refine vv_goto cx dM_keptAs_60 (tgt := 15) (by decide) ?_
            exact ih2 (i + 1) y2 (by omega) hy2
          refine vv_iload cx dM_keptAs_15 rfl (pc' := 17) rfl ?_
          refine vv_iconst cx dM_keptAs_17 (v := 5) (by decide) (pc' := 18) rfl ?_
          refine vv_icmp_ge cx dM_keptAs_18 (tgt := 63) (by decide) (pc' := 21) rfl (fun c18 => ?_) (fun c18 => ?_)
          · exact absurd c18 (nI_ge (b := 5) (by omega) (by decide))
          · refine vv_iload_n cx dM_keptAs_21 rfl rfl (pc' := 22) rfl ?_
            refine vv_if_eq cx dM_keptAs_22 (tgt := 55) (by decide) (pc' := 25) rfl (fun c22 => ?_) (fun c22 => ?_)
            · refine vv_iconst cx dM_keptAs_55 (v := 0) (by decide) (pc' := 56) rfl ?_
              first
              | exact hgo 0 (Or.inr ⟨rfl, fun z => hy.f c22 (fun x hx => z x (by omega))⟩)
              | exact hgo 0 (Or.inr ⟨rfl, fun z => c48 (z i (by omega))⟩)
              | exact hgo 1 (Or.inl ⟨rfl, fun x hx => (Nat.lt_or_ge x i).elim (hy.t c22 x) (fun q => by rw [show x = i by omega]; exact c48)⟩)
            · refine vv_aload_n cx dM_keptAs_25 rfl rfl (pc' := 26) rfl ?_
              refine vv_getR cx (C := RM) (T := TM) (NN := 15) 116 14 _ (by decide) sh_116 rfl rfl (by decide) lyM ww_568 dM_keptAs_26 (pc' := 29) rfl ?_
              refine vv_bipush cx dM_keptAs_29 (v := 7) (by decide) (pc' := 31) rfl ?_
              refine vv_iload_n cx dM_keptAs_31 rfl rfl (pc' := 32) rfl ?_
              refine vv_imul cx dM_keptAs_32 (pc' := 33) rfl ?_
              refine vv_iload cx dM_keptAs_33 rfl (pc' := 35) rfl ?_
              refine vv_iadd cx dM_keptAs_35 (pc' := 36) rfl ?_
              rw [pq_77]
              refine vv_iald cx _ (by decide) sh_123 (vp_in_nI (n := 7 * k + i) (by omega) (by decide)) dM_keptAs_36 (pc' := 37) rfl ?_
              refine vv_aload_n cx dM_keptAs_37 rfl rfl (pc' := 38) rfl ?_
              refine vv_getR cx (C := RM) (T := TM) (NN := 15) 116 9 _ (by decide) sh_116 rfl rfl (by decide) lyM ww_563 dM_keptAs_38 (pc' := 41) rfl ?_
              refine vv_iconst cx dM_keptAs_41 (v := 5) (by decide) (pc' := 42) rfl ?_
              refine vv_iload_n cx dM_keptAs_42 rfl rfl (pc' := 43) rfl ?_
              refine vv_imul cx dM_keptAs_43 (pc' := 44) rfl ?_
              refine vv_iload cx dM_keptAs_44 rfl (pc' := 46) rfl ?_
              refine vv_iadd cx dM_keptAs_46 (pc' := 47) rfl ?_
              rw [pq_57]
              refine vv_iald cx _ (by decide) sh_122 (vp_in_nI (n := 5 * j + i) (by omega) (by decide)) dM_keptAs_47 (pc' := 48) rfl ?_
              rw [nI_clamp (n := 7 * k + i) (by omega), nI_clamp (n := 5 * j + i) (by omega)]
              refine vv_icmp_ne cx dM_keptAs_48 (tgt := 55) (by decide) (pc' := 51) rfl (fun c48 => ?_) (fun c48 => ?_)
              · refine vv_iconst cx dM_keptAs_55 (v := 0) (by decide) (pc' := 56) rfl ?_
                first
                | exact hgo 0 (Or.inr ⟨rfl, fun z => hy.f c22 (fun x hx => z x (by omega))⟩)
                | exact hgo 0 (Or.inr ⟨rfl, fun z => c48 (z i (by omega))⟩)
                | exact hgo 1 (Or.inl ⟨rfl, fun x hx => (Nat.lt_or_ge x i).elim (hy.t c22 x) (fun q => by rw [show x = i by omega]; exact c48)⟩)
              · refine vv_iconst cx dM_keptAs_51 (v := 1) (by decide) (pc' := 52) rfl ?_
                refine vv_goto cx dM_keptAs_52 (tgt := 56) (by decide) ?_
                first
                | exact hgo 0 (Or.inr ⟨rfl, fun z => hy.f c22 (fun x hx => z x (by omega))⟩)
                | exact hgo 0 (Or.inr ⟨rfl, fun z => c48 (z i (by omega))⟩)
                | exact hgo 1 (Or.inl ⟨rfl, fun x hx => (Nat.lt_or_ge x i).elim (hy.t c22 x) (fun q => by rw [show x = i by omega]; exact c48)⟩)
      refine vv_iload_n cx dM_keptAs_2 rfl rfl (pc' := 3) rfl ?_
      refine vv_aload_n cx dM_keptAs_3 rfl rfl (pc' := 4) rfl ?_
      refine vv_getI cx (C := RM) (T := TM) (NN := 15) 116 13 (by decide) sh_116 rfl rfl (by decide) lyM ww_567 dM_keptAs_4 (pc' := 7) rfl ?_
      refine vv_icmp_ge cx dM_keptAs_7 (tgt := 75) (by decide) (pc' := 10) rfl (fun c7 => ?_) (fun c7 => ?_)
      · exact absurd (by rw [hc] at c7; exact c7) (nI_ge hlt (by omega))
      · refine vv_iconst cx dM_keptAs_10 (v := 1) (by decide) (pc' := 11) rfl ?_
        refine vv_istore_n cx dM_keptAs_11 rfl (Nat.le_of_ble_eq_true rfl) (pc' := 12) rfl ?_
        refine vv_iconst cx dM_keptAs_12 (v := 0) (by decide) (pc' := 13) rfl ?_
        refine vv_istore cx dM_keptAs_13 (Nat.le_of_ble_eq_true rfl) (pc' := 15) rfl ?_
        exact inner 5 0 _ (by omega) (Or.inl ⟨rfl, fun x hx => absurd hx (by omega)⟩)
  refine vv_iconst cx dM_keptAs_0 (v := 0) (by decide) (pc' := 1) rfl ?_
  refine vv_istore_n cx dM_keptAs_1 rfl (Nat.le_of_ble_eq_true rfl) (pc' := 2) rfl ?_
  exact loop c9 0 _ _ (by omega) (fun z hz => absurd hz (by omega))
set_option maxRecDepth 100000 in
set_option maxHeartbeats 4000000 in
theorem tM_kept (l : Launch) (g : pq_G) (h : pq_H) (c9 : Nat) (x y : Int32) (hc : h 116 13 = nI c9) (hc40 : c9 ≤ 40) : XI l yM_kept wM_kept rM_kept g 0 0 [.ref (g.2.2 116), .int x, .int y] h (fun r h9 => (¬ ((0 ≤ x ∧ x < nI c9) ∧ 0 ≤ y ∧ y ≤ 6) ∧ h9 = pq_th 1 h) ∨ (h9 = pq_th 0 h ∧ ∃ j i, x = nI j ∧ j < c9 ∧ y = nI i ∧ i ≤ 6 ∧ r = h 123 (7 * j + i))) (pq_no) := by
  refine XI.of (cc := cM_kept) (maxL := 3) (ret := (some .int)) (by decide +kernel) (by simp [Value.category]) (Nat.le_of_ble_eq_true rfl) ?_
  intro p e s m below meth c cx hX hr hlocks hex
  have ph : ∀ a : Int32, pq_fl a (¬ ((0 ≤ x ∧ x < nI c9) ∧ 0 ≤ y ∧ y ≤ 6)) →  VV p l e rM_kept s m [.ref (g.2.2 116), .int x, .int y].toArray below meth c (vx_MQ below (pq_Qi g (fun r h9 => (¬ ((0 ≤ x ∧ x < nI c9) ∧ 0 ≤ y ∧ y ≤ 6) ∧ h9 = pq_th 1 h) ∨ (h9 = pq_th 0 h ∧ ∃ j i, x = nI j ∧ j < c9 ∧ y = nI i ∧ i ≤ 6 ∧ r = h 123 (7 * j + i))) s.heap.size) (pq_Qx g (pq_no) s.heap.size) [.ref (g.2.2 116), .int x, .int y].toArray s 0 0 (pq_A g s.heap.size)) g 0 0 h 30 [some (.ref (g.2.2 116)), some (.int x), some (.int y)] [.int a, .ref (g.2.2 116)] := by
    intro a ha
    refine vv_iconst cx dM_kept_30 (v := 0) (by decide) (pc' := 31) rfl ?_
    refine vv_iconst cx dM_kept_31 (v := 0) (by decide) (pc' := 32) rfl ?_
    refine vv_iconst cx dM_kept_32 (v := 0) (by decide) (pc' := 33) rfl ?_
    refine cc_Vi cx hX (tM_throwing l g h a 0 0 0) kM_throwing ww_611 rfl rfl ⟨Nat.le_of_ble_eq_true rfl, Nat.le_of_ble_eq_true rfl⟩ 116 (by decide) sh_116 rfl rfl rfl rfl (Nat.le_of_ble_eq_true rfl) rfl ⟨Nat.le_of_ble_eq_true rfl, Nat.le_of_ble_eq_true rfl⟩ dM_kept_33 (pc' := 36) rfl (fun _ _ q => q.elim) (fun r33 h33 q33 => ?_)
    obtain ⟨rfl, q33⟩ := q33
    refine vv_if_eq cx dM_kept_36 (tgt := 41) (by decide) (pc' := 39) rfl (fun c36 => ?_) (fun c36 => ?_)
    · have hz : a = 0 := (pq_thr_all (q33.nt c36)).1
      subst hz
      obtain ⟨r1, r2⟩ := ha.nt rfl
      obtain ⟨j, hj, hxj⟩ := pq_idx r1.1 r1.2 (by omega)
      obtain ⟨i, hi, hyi⟩ := pq_rng (n := 6) (M := 6) rfl r2.1 r2.2
      rw [pq_thr0, show va_up h 116 (upd (h 116) 0 0) = pq_th 0 h from rfl]
      refine vv_aload_n cx dM_kept_41 rfl rfl (pc' := 42) rfl ?_
      refine vv_getR cx (C := RM) (T := TM) (NN := 15) 116 14 _ (by decide) sh_116 rfl rfl (by decide) lyM ww_568 dM_kept_42 (pc' := 45) rfl ?_
      refine vv_bipush cx dM_kept_45 (v := 7) (by decide) (pc' := 47) rfl ?_
      refine vv_iload_n cx dM_kept_47 rfl rfl (pc' := 48) rfl ?_
      refine vv_imul cx dM_kept_48 (pc' := 49) rfl ?_
      refine vv_iload_n cx dM_kept_49 rfl rfl (pc' := 50) rfl ?_
      refine vv_iadd cx dM_kept_50 (pc' := 51) rfl ?_
      rw [show (7 : Int32) * x + y = nI (7 * j + i) by rw [hxj, hyi]; exact pq_77]
      refine vv_iald cx _ (by decide) sh_123 (vp_in_nI (n := 7 * j + i) (by omega) (by decide)) dM_kept_51 (pc' := 52) rfl ?_
      rw [nI_clamp (n := 7 * j + i) (by omega)]
      refine vv_iret cx hr hlocks dM_kept_52 (Nat.le_of_ble_eq_true rfl) (Nat.le_of_ble_eq_true rfl) ?_
      exact Or.inr ⟨rfl, j, i, hxj, hj, hyi, hi, by rw [pq_th_ne (by decide)]⟩
    · refine vv_iconst cx dM_kept_39 (v := 0) (by decide) (pc' := 40) rfl ?_
      refine vv_iret cx hr hlocks dM_kept_40 (Nat.le_of_ble_eq_true rfl) (Nat.le_of_ble_eq_true rfl) ?_
      have hz : ¬ a = 0 := fun q => absurd (q33.t c36) (by rw [q]; decide)
      rw [pq_thr1 hz]
      exact Or.inl ⟨ha.t hz, rfl⟩
  refine vv_aload_n cx dM_kept_0 rfl rfl (pc' := 1) rfl ?_
  refine vv_iload_n cx dM_kept_1 rfl rfl (pc' := 2) rfl ?_
  refine vv_iconst cx dM_kept_2 (v := 0) (by decide) (pc' := 3) rfl ?_
  refine vv_aload_n cx dM_kept_3 rfl rfl (pc' := 4) rfl ?_
  refine vv_getI cx (C := RM) (T := TM) (NN := 15) 116 13 (by decide) sh_116 rfl rfl (by decide) lyM ww_567 dM_kept_4 (pc' := 7) rfl ?_
  rw [hc]
  refine vv_iconst cx dM_kept_7 (v := 1) (by decide) (pc' := 8) rfl ?_
  refine vv_isub cx dM_kept_8 (pc' := 9) rfl ?_
  refine cc_Si cx hX (tM_in l g h x 0 (nI c9 - 1)) kM_in ww_608 rfl rfl ⟨Nat.le_of_ble_eq_true rfl, Nat.le_of_ble_eq_true rfl⟩ rfl rfl (Nat.le_of_ble_eq_true rfl) rfl ⟨Nat.le_of_ble_eq_true rfl, Nat.le_of_ble_eq_true rfl⟩ dM_kept_9 (pc' := 12) rfl (fun _ _ q => q.elim) (fun r9 h9 q9 => ?_)
  obtain ⟨rfl, q9⟩ := q9
  rw [pq_ord (by omega)] at q9
  refine vv_if_eq cx dM_kept_12 (tgt := 25) (by decide) (pc' := 15) rfl (fun c12 => ?_) (fun c12 => ?_)
  · refine vv_iconst cx dM_kept_25 (v := 1) (by decide) (pc' := 26) rfl ?_
    refine vv_goto cx dM_kept_26 (tgt := 30) (by decide) ?_
    first | exact ph 1 (Or.inl ⟨rfl, fun z => q9.f c12 z.1⟩) | exact ph 0 (Or.inr ⟨rfl, fun z => z ⟨q9.t c12, q19.t c22⟩⟩) | exact ph 1 (Or.inl ⟨rfl, fun z => q19.f c22 z.2⟩)
  · refine vv_iload_n cx dM_kept_15 rfl rfl (pc' := 16) rfl ?_
    refine vv_iconst cx dM_kept_16 (v := 0) (by decide) (pc' := 17) rfl ?_
    refine vv_bipush cx dM_kept_17 (v := 6) (by decide) (pc' := 19) rfl ?_
    refine cc_Si cx hX (tM_in l g _ y 0 6) kM_in ww_608 rfl rfl ⟨Nat.le_of_ble_eq_true rfl, Nat.le_of_ble_eq_true rfl⟩ rfl rfl (Nat.le_of_ble_eq_true rfl) rfl ⟨Nat.le_of_ble_eq_true rfl, Nat.le_of_ble_eq_true rfl⟩ dM_kept_19 (pc' := 22) rfl (fun _ _ q => q.elim) (fun r19 h19 q19 => ?_)
    obtain ⟨rfl, q19⟩ := q19
    refine vv_if_ne cx dM_kept_22 (tgt := 29) (by decide) (pc' := 25) rfl (fun c22 => ?_) (fun c22 => ?_)
    · refine vv_iconst cx dM_kept_29 (v := 0) (by decide) (pc' := 30) rfl ?_
      first | exact ph 1 (Or.inl ⟨rfl, fun z => q9.f c12 z.1⟩) | exact ph 0 (Or.inr ⟨rfl, fun z => z ⟨q9.t c12, q19.t c22⟩⟩) | exact ph 1 (Or.inl ⟨rfl, fun z => q19.f c22 z.2⟩)
    · refine vv_iconst cx dM_kept_25 (v := 1) (by decide) (pc' := 26) rfl ?_
      refine vv_goto cx dM_kept_26 (tgt := 30) (by decide) ?_
      first | exact ph 1 (Or.inl ⟨rfl, fun z => q9.f c12 z.1⟩) | exact ph 0 (Or.inr ⟨rfl, fun z => z ⟨q9.t c12, q19.t c22⟩⟩) | exact ph 1 (Or.inl ⟨rfl, fun z => q19.f c22 z.2⟩)
set_option maxRecDepth 100000 in
set_option maxHeartbeats 4000000 in
theorem tM_keep (l : Launch) (g : pq_G) (h : pq_H) (bs : Option Nat) (best : Nat → Nat → Nat) (c9 : Nat) (x y : Int32) (hmd : pq_md h bs best) (hc : h 116 13 = nI c9) (hc40 : c9 ≤ 40) : XI l yM_keep wM_keep rM_keep g 0 0 [.ref (g.2.2 116), .int x, .int y] h (fun r h9 => (bs = none ∧ h9 = pq_th 2 h) ∨ (¬ bs = none ∧ ¬ (0 ≤ x ∧ x < pq_bsI bs) ∧ h9 = pq_th 1 h) ∨ (¬ bs = none ∧ (0 ≤ x ∧ x < pq_bsI bs) ∧ ¬ (0 ≤ y ∧ y ≤ 9999) ∧ h9 = pq_th 3 h) ∨ (∃ b j, bs = some b ∧ x = nI j ∧ j < b ∧ (0 ≤ y ∧ y ≤ 9999) ∧ c9 = 40 ∧ (∀ z, z < c9 → ¬ pq_eqr h z j) ∧ h9 = pq_th 4 h) ∨ (∃ b j, bs = some b ∧ x = nI j ∧ j < b ∧ (0 ≤ y ∧ y ≤ 9999) ∧ pq_but [116, 123] h h9 ∧ h9 116 0 = 0 ∧ ((∃ k, k < c9 ∧ r = nI k ∧ pq_eqr h k j ∧ (∀ z, z < k → ¬ pq_eqr h z j) ∧ (∀ q, q ≠ 0 → h9 116 q = h 116 q) ∧ h9 123 (7 * k + 5) = h 123 (7 * k + 5) + 1 ∧ h9 123 (7 * k + 6) = (if h 123 (7 * k + 6) < y then y else h 123 (7 * k + 6)) ∧ ∀ p, p ≠ 7 * k + 5 → p ≠ 7 * k + 6 → h9 123 p = h 123 p) ∨ ((∀ z, z < c9 → ¬ pq_eqr h z j) ∧ c9 < 40 ∧ r = nI c9 ∧ h9 116 13 = nI (c9 + 1) ∧ (∀ q, q ≠ 0 → q ≠ 13 → h9 116 q = h 116 q) ∧ (∀ i, i < 5 → h9 123 (7 * c9 + i) = h 122 (5 * j + i)) ∧ h9 123 (7 * c9 + 5) = 1 ∧ h9 123 (7 * c9 + 6) = y ∧ ∀ p, (p < 7 * c9 ∨ 7 * c9 + 7 ≤ p) → h9 123 p = h 123 p)))) (pq_no) := by
  refine XI.of (cc := cM_keep) (maxL := 5) (ret := (some .int)) (by decide +kernel) (by simp [Value.category]) (Nat.le_of_ble_eq_true rfl) ?_
  intro p e s m below meth c cx hX hr hlocks hex
  have hbs : ∀ b, bs = some b → b ≤ 30 := fun b q => (hmd.2 b q).1
  have ph3 : ∀ (h2 : pq_H) (k : Nat) (u4 : Option Value), k < 40 →  (∀ h9 : pq_H, pq_only 123 h2 h9 → h9 123 (7 * k + 5) = h2 123 (7 * k + 5) + 1 → h9 123 (7 * k + 6) = (if h2 123 (7 * k + 6) < y then y else h2 123 (7 * k + 6)) → (∀ p, p ≠ 7 * k + 5 → p ≠ 7 * k + 6 → h9 123 p = h2 123 p) → (fun r h9 => (bs = none ∧ h9 = pq_th 2 h) ∨ (¬ bs = none ∧ ¬ (0 ≤ x ∧ x < pq_bsI bs) ∧ h9 = pq_th 1 h) ∨ (¬ bs = none ∧ (0 ≤ x ∧ x < pq_bsI bs) ∧ ¬ (0 ≤ y ∧ y ≤ 9999) ∧ h9 = pq_th 3 h) ∨ (∃ b j, bs = some b ∧ x = nI j ∧ j < b ∧ (0 ≤ y ∧ y ≤ 9999) ∧ c9 = 40 ∧ (∀ z, z < c9 → ¬ pq_eqr h z j) ∧ h9 = pq_th 4 h) ∨ (∃ b j, bs = some b ∧ x = nI j ∧ j < b ∧ (0 ≤ y ∧ y ≤ 9999) ∧ pq_but [116, 123] h h9 ∧ h9 116 0 = 0 ∧ ((∃ k, k < c9 ∧ r = nI k ∧ pq_eqr h k j ∧ (∀ z, z < k → ¬ pq_eqr h z j) ∧ (∀ q, q ≠ 0 → h9 116 q = h 116 q) ∧ h9 123 (7 * k + 5) = h 123 (7 * k + 5) + 1 ∧ h9 123 (7 * k + 6) = (if h 123 (7 * k + 6) < y then y else h 123 (7 * k + 6)) ∧ ∀ p, p ≠ 7 * k + 5 → p ≠ 7 * k + 6 → h9 123 p = h 123 p) ∨ ((∀ z, z < c9 → ¬ pq_eqr h z j) ∧ c9 < 40 ∧ r = nI c9 ∧ h9 116 13 = nI (c9 + 1) ∧ (∀ q, q ≠ 0 → q ≠ 13 → h9 116 q = h 116 q) ∧ (∀ i, i < 5 → h9 123 (7 * c9 + i) = h 122 (5 * j + i)) ∧ h9 123 (7 * c9 + 5) = 1 ∧ h9 123 (7 * c9 + 6) = y ∧ ∀ p, (p < 7 * c9 ∨ 7 * c9 + 7 ≤ p) → h9 123 p = h 123 p)))) (nI k) h9) → VV p l e rM_keep s m [.ref (g.2.2 116), .int x, .int y].toArray below meth c (vx_MQ below (pq_Qi g (fun r h9 => (bs = none ∧ h9 = pq_th 2 h) ∨ (¬ bs = none ∧ ¬ (0 ≤ x ∧ x < pq_bsI bs) ∧ h9 = pq_th 1 h) ∨ (¬ bs = none ∧ (0 ≤ x ∧ x < pq_bsI bs) ∧ ¬ (0 ≤ y ∧ y ≤ 9999) ∧ h9 = pq_th 3 h) ∨ (∃ b j, bs = some b ∧ x = nI j ∧ j < b ∧ (0 ≤ y ∧ y ≤ 9999) ∧ c9 = 40 ∧ (∀ z, z < c9 → ¬ pq_eqr h z j) ∧ h9 = pq_th 4 h) ∨ (∃ b j, bs = some b ∧ x = nI j ∧ j < b ∧ (0 ≤ y ∧ y ≤ 9999) ∧ pq_but [116, 123] h h9 ∧ h9 116 0 = 0 ∧ ((∃ k, k < c9 ∧ r = nI k ∧ pq_eqr h k j ∧ (∀ z, z < k → ¬ pq_eqr h z j) ∧ (∀ q, q ≠ 0 → h9 116 q = h 116 q) ∧ h9 123 (7 * k + 5) = h 123 (7 * k + 5) + 1 ∧ h9 123 (7 * k + 6) = (if h 123 (7 * k + 6) < y then y else h 123 (7 * k + 6)) ∧ ∀ p, p ≠ 7 * k + 5 → p ≠ 7 * k + 6 → h9 123 p = h 123 p) ∨ ((∀ z, z < c9 → ¬ pq_eqr h z j) ∧ c9 < 40 ∧ r = nI c9 ∧ h9 116 13 = nI (c9 + 1) ∧ (∀ q, q ≠ 0 → q ≠ 13 → h9 116 q = h 116 q) ∧ (∀ i, i < 5 → h9 123 (7 * c9 + i) = h 122 (5 * j + i)) ∧ h9 123 (7 * c9 + 5) = 1 ∧ h9 123 (7 * c9 + 6) = y ∧ ∀ p, (p < 7 * c9 ∨ 7 * c9 + 7 ≤ p) → h9 123 p = h 123 p)))) s.heap.size) (pq_Qx g (pq_no) s.heap.size) [.ref (g.2.2 116), .int x, .int y].toArray s 0 0 (pq_A g s.heap.size)) g 0 0 h2 136 [some (.ref (g.2.2 116)), some (.int x), some (.int y), some (.int (nI k)), u4] [] := by
    intro h2 k u4 hk hfin
    refine vv_aload_n cx dM_keep_136 rfl rfl (pc' := 137) rfl ?_
    refine vv_getR cx (C := RM) (T := TM) (NN := 15) 116 14 _ (by decide) sh_116 rfl rfl (by decide) lyM ww_568 dM_keep_137 (pc' := 140) rfl ?_
    refine vv_bipush cx dM_keep_140 (v := 7) (by decide) (pc' := 142) rfl ?_
    refine vv_iload_n cx dM_keep_142 rfl rfl (pc' := 143) rfl ?_
    refine vv_imul cx dM_keep_143 (pc' := 144) rfl ?_
    refine vv_iconst cx dM_keep_144 (v := 5) (by decide) (pc' := 145) rfl ?_
    refine vv_iadd cx dM_keep_145 (pc' := 146) rfl ?_
    rw [show (7 : Int32) * nI k + 5 = nI (7 * k + 5) from pq_77 (i := 5)]
    refine vv_dup2 cx dM_keep_146 rfl rfl (pc' := 147) rfl ?_
    refine vv_iald cx _ (by decide) sh_123 (vp_in_nI (n := 7 * k + 5) (by omega) (by decide)) dM_keep_147 (pc' := 148) rfl ?_
    rw [nI_clamp (n := 7 * k + 5) (by omega)]
    refine vv_iconst cx dM_keep_148 (v := 1) (by decide) (pc' := 149) rfl ?_
    refine vv_iadd cx dM_keep_149 (pc' := 150) rfl ?_
    refine vv_iast cx _ (by decide) sh_123 (vp_in_nI (n := 7 * k + 5) (by omega) (by decide)) dM_keep_150 (pc' := 151) rfl ?_
    rw [nI_clamp (n := 7 * k + 5) (by omega)]
    refine vv_iload_n cx dM_keep_151 rfl rfl (pc' := 152) rfl ?_
    refine vv_aload_n cx dM_keep_152 rfl rfl (pc' := 153) rfl ?_
    refine vv_getR cx (C := RM) (T := TM) (NN := 15) 116 14 _ (by decide) sh_116 rfl rfl (by decide) lyM ww_568 dM_keep_153 (pc' := 156) rfl ?_
    refine vv_bipush cx dM_keep_156 (v := 7) (by decide) (pc' := 158) rfl ?_
    refine vv_iload_n cx dM_keep_158 rfl rfl (pc' := 159) rfl ?_
    refine vv_imul cx dM_keep_159 (pc' := 160) rfl ?_
    refine vv_bipush cx dM_keep_160 (v := 6) (by decide) (pc' := 162) rfl ?_
    refine vv_iadd cx dM_keep_162 (pc' := 163) rfl ?_
    rw [show (7 : Int32) * nI k + 6 = nI (7 * k + 6) from pq_77 (i := 6)]
    refine vv_iald cx _ (by decide) sh_123 (vp_in_nI (n := 7 * k + 6) (by omega) (by decide)) dM_keep_163 (pc' := 164) rfl ?_
    rw [nI_clamp (n := 7 * k + 6) (by omega), va_up_self, pk_un (show 7 * k + 6 ≠ 7 * k + 5 by omega)]
    refine vv_icmp_le cx dM_keep_164 (tgt := 180) (by decide) (pc' := 167) rfl (fun c164 => ?_) (fun c164 => ?_)
    · first | rw [nI_clamp (n := 7 * k + 6) (by omega)] | skip
      refine vv_iload_n cx dM_keep_180 rfl rfl (pc' := 181) rfl ?_
      refine vv_iret cx hr hlocks dM_keep_181 (Nat.le_of_ble_eq_true rfl) (Nat.le_of_ble_eq_true rfl) ?_
      first
      | (refine hfin _ (pq_only.up.trans pq_only.up) ?_ ?_ (fun p p1 p2 => ?_)
         · rw [va_up_self, pk_un (by omega), va_up_self, pk_us]
         · rw [va_up_self, pk_us, if_pos (Int32.not_le.mp c164)]
         · rw [va_up_self, pk_un p2, va_up_self, pk_un p1])
      | (refine hfin _ pq_only.up ?_ ?_ (fun p p1 p2 => ?_)
         · rw [va_up_self, pk_us]
         · rw [va_up_self, pk_un (by omega), if_neg (Int32.not_lt.mpr c164)]
         · rw [va_up_self, pk_un p1])
    · refine vv_aload_n cx dM_keep_167 rfl rfl (pc' := 168) rfl ?_
      refine vv_getR cx (C := RM) (T := TM) (NN := 15) 116 14 _ (by decide) sh_116 rfl rfl (by decide) lyM ww_568 dM_keep_168 (pc' := 171) rfl ?_
      refine vv_bipush cx dM_keep_171 (v := 7) (by decide) (pc' := 173) rfl ?_
      refine vv_iload_n cx dM_keep_173 rfl rfl (pc' := 174) rfl ?_
      refine vv_imul cx dM_keep_174 (pc' := 175) rfl ?_
      refine vv_bipush cx dM_keep_175 (v := 6) (by decide) (pc' := 177) rfl ?_
      refine vv_iadd cx dM_keep_177 (pc' := 178) rfl ?_
      refine vv_iload_n cx dM_keep_178 rfl rfl (pc' := 179) rfl ?_
      rw [show (7 : Int32) * nI k + 6 = nI (7 * k + 6) from pq_77 (i := 6)]
      refine vv_iast cx _ (by decide) sh_123 (vp_in_nI (n := 7 * k + 6) (by omega) (by decide)) dM_keep_179 (pc' := 180) rfl ?_
      first | rw [nI_clamp (n := 7 * k + 6) (by omega)] | skip
      refine vv_iload_n cx dM_keep_180 rfl rfl (pc' := 181) rfl ?_
      refine vv_iret cx hr hlocks dM_keep_181 (Nat.le_of_ble_eq_true rfl) (Nat.le_of_ble_eq_true rfl) ?_
      first
      | (refine hfin _ (pq_only.up.trans pq_only.up) ?_ ?_ (fun p p1 p2 => ?_)
         · rw [va_up_self, pk_un (by omega), va_up_self, pk_us]
         · rw [va_up_self, pk_us, if_pos (Int32.not_le.mp c164)]
         · rw [va_up_self, pk_un p2, va_up_self, pk_un p1])
      | (refine hfin _ pq_only.up ?_ ?_ (fun p p1 p2 => ?_)
         · rw [va_up_self, pk_us]
         · rw [va_up_self, pk_un (by omega), if_neg (Int32.not_lt.mpr c164)]
         · rw [va_up_self, pk_un p1])
  have cp : ∀ (b j : Nat), bs = some b → x = nI j → j < b → (0 ≤ y ∧ y ≤ 9999) → (∀ z, z < c9 → ¬ pq_eqr h z j) → c9 < 40 → ∀ (d i : Nat) (h2 : pq_H), i + d = 5 → pq_only 123 (pq_th 0 h) h2 → (∀ q, q < i → h2 123 (7 * c9 + q) = h 122 (5 * j + q)) → (∀ p, (p < 7 * c9 ∨ 7 * c9 + 7 ≤ p) → h2 123 p = h 123 p) →  VV p l e rM_keep s m [.ref (g.2.2 116), .int x, .int y].toArray below meth c (vx_MQ below (pq_Qi g (fun r h9 => (bs = none ∧ h9 = pq_th 2 h) ∨ (¬ bs = none ∧ ¬ (0 ≤ x ∧ x < pq_bsI bs) ∧ h9 = pq_th 1 h) ∨ (¬ bs = none ∧ (0 ≤ x ∧ x < pq_bsI bs) ∧ ¬ (0 ≤ y ∧ y ≤ 9999) ∧ h9 = pq_th 3 h) ∨ (∃ b j, bs = some b ∧ x = nI j ∧ j < b ∧ (0 ≤ y ∧ y ≤ 9999) ∧ c9 = 40 ∧ (∀ z, z < c9 → ¬ pq_eqr h z j) ∧ h9 = pq_th 4 h) ∨ (∃ b j, bs = some b ∧ x = nI j ∧ j < b ∧ (0 ≤ y ∧ y ≤ 9999) ∧ pq_but [116, 123] h h9 ∧ h9 116 0 = 0 ∧ ((∃ k, k < c9 ∧ r = nI k ∧ pq_eqr h k j ∧ (∀ z, z < k → ¬ pq_eqr h z j) ∧ (∀ q, q ≠ 0 → h9 116 q = h 116 q) ∧ h9 123 (7 * k + 5) = h 123 (7 * k + 5) + 1 ∧ h9 123 (7 * k + 6) = (if h 123 (7 * k + 6) < y then y else h 123 (7 * k + 6)) ∧ ∀ p, p ≠ 7 * k + 5 → p ≠ 7 * k + 6 → h9 123 p = h 123 p) ∨ ((∀ z, z < c9 → ¬ pq_eqr h z j) ∧ c9 < 40 ∧ r = nI c9 ∧ h9 116 13 = nI (c9 + 1) ∧ (∀ q, q ≠ 0 → q ≠ 13 → h9 116 q = h 116 q) ∧ (∀ i, i < 5 → h9 123 (7 * c9 + i) = h 122 (5 * j + i)) ∧ h9 123 (7 * c9 + 5) = 1 ∧ h9 123 (7 * c9 + 6) = y ∧ ∀ p, (p < 7 * c9 ∨ 7 * c9 + 7 ≤ p) → h9 123 p = h 123 p)))) s.heap.size) (pq_Qx g (pq_no) s.heap.size) [.ref (g.2.2 116), .int x, .int y].toArray s 0 0 (pq_A g s.heap.size)) g 0 0 h2 66 [some (.ref (g.2.2 116)), some (.int x), some (.int y), some (.int (nI c9)), some (.int (nI i))] [] := by
    intro b j hb hxj hj hdy hno hc9 d
    have hb30 := hbs b hb
    induction d with
    | zero =>
      intro i h2 hi ho hq hp
      have e1 : i = 5 := by omega
      subst e1
      refine vv_iload cx dM_keep_66 rfl (pc' := 68) rfl ?_
      refine vv_iconst cx dM_keep_68 (v := 5) (by decide) (pc' := 69) rfl ?_
      refine vv_icmp_ge cx dM_keep_69 (tgt := 101) (by decide) (pc' := 72) rfl (fun c69 => ?_) (fun c69 => ?_)
      · refine vv_aload_n cx dM_keep_101 rfl rfl (pc' := 102) rfl ?_
        refine vv_getR cx (C := RM) (T := TM) (NN := 15) 116 14 _ (by decide) sh_116 rfl rfl (by decide) lyM ww_568 dM_keep_102 (pc' := 105) rfl ?_
        refine vv_bipush cx dM_keep_105 (v := 7) (by decide) (pc' := 107) rfl ?_
        refine vv_iload_n cx dM_keep_107 rfl rfl (pc' := 108) rfl ?_
        refine vv_imul cx dM_keep_108 (pc' := 109) rfl ?_
        refine vv_iconst cx dM_keep_109 (v := 5) (by decide) (pc' := 110) rfl ?_
        refine vv_iadd cx dM_keep_110 (pc' := 111) rfl ?_
        refine vv_iconst cx dM_keep_111 (v := 0) (by decide) (pc' := 112) rfl ?_
        rw [show (7 : Int32) * nI c9 + 5 = nI (7 * c9 + 5) from pq_77 (i := 5)]
        refine vv_iast cx _ (by decide) sh_123 (vp_in_nI (n := 7 * c9 + 5) (by omega) (by decide)) dM_keep_112 (pc' := 113) rfl ?_
        rw [nI_clamp (n := 7 * c9 + 5) (by omega)]
        refine vv_aload_n cx dM_keep_113 rfl rfl (pc' := 114) rfl ?_
        refine vv_getR cx (C := RM) (T := TM) (NN := 15) 116 14 _ (by decide) sh_116 rfl rfl (by decide) lyM ww_568 dM_keep_114 (pc' := 117) rfl ?_
        refine vv_bipush cx dM_keep_117 (v := 7) (by decide) (pc' := 119) rfl ?_
        refine vv_iload_n cx dM_keep_119 rfl rfl (pc' := 120) rfl ?_
        refine vv_imul cx dM_keep_120 (pc' := 121) rfl ?_
        refine vv_bipush cx dM_keep_121 (v := 6) (by decide) (pc' := 123) rfl ?_
        refine vv_iadd cx dM_keep_123 (pc' := 124) rfl ?_
        refine vv_iload_n cx dM_keep_124 rfl rfl (pc' := 125) rfl ?_
        rw [show (7 : Int32) * nI c9 + 6 = nI (7 * c9 + 6) from pq_77 (i := 6)]
        refine vv_iast cx _ (by decide) sh_123 (vp_in_nI (n := 7 * c9 + 6) (by omega) (by decide)) dM_keep_125 (pc' := 126) rfl ?_
        rw [nI_clamp (n := 7 * c9 + 6) (by omega)]
        refine vv_aload_n cx dM_keep_126 rfl rfl (pc' := 127) rfl ?_
        refine vv_dup cx dM_keep_127 rfl (pc' := 128) rfl ?_
        refine vv_getI cx (C := RM) (T := TM) (NN := 15) 116 13 (by decide) sh_116 rfl rfl (by decide) lyM ww_567 dM_keep_128 (pc' := 131) rfl ?_
        refine vv_iconst cx dM_keep_131 (v := 1) (by decide) (pc' := 132) rfl ?_
        rw [va_up_ne _ _ (show 116 ≠ 123 by decide), va_up_ne _ _ (show 116 ≠ 123 by decide), ho 116 (by decide), pq_th_j (by decide), hc]
        refine vv_iadd cx dM_keep_132 (pc' := 133) rfl ?_
        rw [nI_1]
        refine vv_putI cx (C := RM) (T := TM) (NN := 15) 116 13 (by decide) sh_116 rfl rfl (by decide) lyM tyM tyM_ok nmM rfl rfl rfl ww_567 dM_keep_133 (pc' := 136) rfl ?_
        refine ph3 _ c9 _ hc9 (fun h9 o1 o2 o3 o4 => ?_)
        generalize hg3 : va_up (va_up (va_up h2 123 (upd (h2 123) (7 * c9 + 5) 0)) 123 _) 116 _ = h3 at o1 o2 o3 o4
        have g123 : h3 123 = upd (upd (h2 123) (7 * c9 + 5) 0) (7 * c9 + 6) y := by rw [← hg3, va_up_ne _ _ (by decide), va_up_self, va_up_self]
        have g116 : h3 116 = upd (pq_th 0 h 116) 13 (nI (c9 + 1)) := by rw [← hg3, va_up_self, va_up_ne _ _ (by decide), va_up_ne _ _ (by decide), ho 116 (by decide)]
        have gk : ∀ q, q ≠ 116 → q ≠ 123 → h3 q = h q := fun q q1 q2 => by rw [← hg3, va_up_ne _ _ q1, va_up_ne _ _ q2, va_up_ne _ _ q2, ho q q2, pq_th_ne q1]
        rw [g123] at o2 o3
        refine Or.inr (Or.inr (Or.inr (Or.inr ⟨b, j, hb, hxj, hj, hdy, fun q hq9 => ?_, ?_, Or.inr ⟨hno, hc9, rfl, ?_, fun q q0 q13 => ?_, fun i hi9 => ?_, ?_, ?_, fun p hp9 => ?_⟩⟩)))
        · simp at hq9; rw [o1 q hq9.2, gk q hq9.1 hq9.2]
        · rw [o1 116 (by decide), g116, pk_un (by decide), pq_th_0]
        · rw [o1 116 (by decide), g116, pk_us]
        · rw [o1 116 (by decide), g116, pk_un q13, pq_th_j q0]
        · rw [o4 _ (by omega) (by omega), g123, pk_un (by omega), pk_un (by omega)]; exact hq i hi9
        · rw [o2, pk_un (by omega), pk_us]; rfl
        · rw [o3, pk_us, ite_self]
        · rw [o4 _ (by omega) (by omega), g123, pk_un (by omega), pk_un (by omega)]; exact hp p hp9
      · exact absurd (Int32.le_refl _) c69
    | succ d ih =>
      intro i h2 hi ho hq hp
      refine vv_iload cx dM_keep_66 rfl (pc' := 68) rfl ?_
      refine vv_iconst cx dM_keep_68 (v := 5) (by decide) (pc' := 69) rfl ?_
      refine vv_icmp_ge cx dM_keep_69 (tgt := 101) (by decide) (pc' := 72) rfl (fun c69 => ?_) (fun c69 => ?_)
      · exact absurd c69 (nI_ge (b := 5) (by omega) (by decide))
      · refine vv_aload_n cx dM_keep_72 rfl rfl (pc' := 73) rfl ?_
        refine vv_getR cx (C := RM) (T := TM) (NN := 15) 116 14 _ (by decide) sh_116 rfl rfl (by decide) lyM ww_568 dM_keep_73 (pc' := 76) rfl ?_
        refine vv_bipush cx dM_keep_76 (v := 7) (by decide) (pc' := 78) rfl ?_
        refine vv_iload_n cx dM_keep_78 rfl rfl (pc' := 79) rfl ?_
        refine vv_imul cx dM_keep_79 (pc' := 80) rfl ?_
        refine vv_iload cx dM_keep_80 rfl (pc' := 82) rfl ?_
        refine vv_iadd cx dM_keep_82 (pc' := 83) rfl ?_
        rw [pq_77]
        refine vv_aload_n cx dM_keep_83 rfl rfl (pc' := 84) rfl ?_
        refine vv_getR cx (C := RM) (T := TM) (NN := 15) 116 9 _ (by decide) sh_116 rfl rfl (by decide) lyM ww_563 dM_keep_84 (pc' := 87) rfl ?_
        refine vv_iconst cx dM_keep_87 (v := 5) (by decide) (pc' := 88) rfl ?_
        refine vv_iload_n cx dM_keep_88 rfl rfl (pc' := 89) rfl ?_
        refine vv_imul cx dM_keep_89 (pc' := 90) rfl ?_
        refine vv_iload cx dM_keep_90 rfl (pc' := 92) rfl ?_
        refine vv_iadd cx dM_keep_92 (pc' := 93) rfl ?_
        rw [show (5 : Int32) * x + nI i = nI (5 * j + i) by rw [hxj]; exact pq_57]
        refine vv_iald cx _ (by decide) sh_122 (vp_in_nI (n := 5 * j + i) (by omega) (by decide)) dM_keep_93 (pc' := 94) rfl ?_
        rw [nI_clamp (n := 5 * j + i) (by omega)]
        refine vv_iast cx _ (by decide) sh_123 (vp_in_nI (n := 7 * c9 + i) (by omega) (by decide)) dM_keep_94 (pc' := 95) rfl ?_
        rw [nI_clamp (n := 7 * c9 + i) (by omega)]
        refine vv_iinc cx dM_keep_95 rfl pq_n1 (pc' := 98) rfl ?_
        refine vv_goto cx dM_keep_98 (tgt := 66) (by decide) ?_
        refine ih (i + 1) _ (by omega) (ho.trans pq_only.up) (fun q hq9 => ?_) (fun p hp9 => by rw [va_up_self, pk_un (by omega)]; exact hp p hp9)
        by_cases e9 : q = i
        · subst e9; rw [va_up_self, pk_us, ho 122 (by decide), pq_th_ne (by decide)]
        · rw [va_up_self, pk_un (by omega)]; exact hq q (by omega)
  have ph2 : ∀ (b j : Nat), bs = some b → x = nI j → j < b → (0 ≤ x ∧ x < pq_bsI bs) → ∀ (r0 a3 a4 : Int32), ((∃ k, k < c9 ∧ r0 = nI k ∧ pq_eqr h k j ∧ ∀ z, z < k → ¬ pq_eqr h z j) ∨ (r0 = nI c9 ∧ ∀ z, z < c9 → ¬ pq_eqr h z j)) → pq_fl a3 (¬ (0 ≤ y ∧ y ≤ 9999)) → pq_fl a4 (r0 = 40) →  VV p l e rM_keep s m [.ref (g.2.2 116), .int x, .int y].toArray below meth c (vx_MQ below (pq_Qi g (fun r h9 => (bs = none ∧ h9 = pq_th 2 h) ∨ (¬ bs = none ∧ ¬ (0 ≤ x ∧ x < pq_bsI bs) ∧ h9 = pq_th 1 h) ∨ (¬ bs = none ∧ (0 ≤ x ∧ x < pq_bsI bs) ∧ ¬ (0 ≤ y ∧ y ≤ 9999) ∧ h9 = pq_th 3 h) ∨ (∃ b j, bs = some b ∧ x = nI j ∧ j < b ∧ (0 ≤ y ∧ y ≤ 9999) ∧ c9 = 40 ∧ (∀ z, z < c9 → ¬ pq_eqr h z j) ∧ h9 = pq_th 4 h) ∨ (∃ b j, bs = some b ∧ x = nI j ∧ j < b ∧ (0 ≤ y ∧ y ≤ 9999) ∧ pq_but [116, 123] h h9 ∧ h9 116 0 = 0 ∧ ((∃ k, k < c9 ∧ r = nI k ∧ pq_eqr h k j ∧ (∀ z, z < k → ¬ pq_eqr h z j) ∧ (∀ q, q ≠ 0 → h9 116 q = h 116 q) ∧ h9 123 (7 * k + 5) = h 123 (7 * k + 5) + 1 ∧ h9 123 (7 * k + 6) = (if h 123 (7 * k + 6) < y then y else h 123 (7 * k + 6)) ∧ ∀ p, p ≠ 7 * k + 5 → p ≠ 7 * k + 6 → h9 123 p = h 123 p) ∨ ((∀ z, z < c9 → ¬ pq_eqr h z j) ∧ c9 < 40 ∧ r = nI c9 ∧ h9 116 13 = nI (c9 + 1) ∧ (∀ q, q ≠ 0 → q ≠ 13 → h9 116 q = h 116 q) ∧ (∀ i, i < 5 → h9 123 (7 * c9 + i) = h 122 (5 * j + i)) ∧ h9 123 (7 * c9 + 5) = 1 ∧ h9 123 (7 * c9 + 6) = y ∧ ∀ p, (p < 7 * c9 ∨ 7 * c9 + 7 ≤ p) → h9 123 p = h 123 p)))) s.heap.size) (pq_Qx g (pq_no) s.heap.size) [.ref (g.2.2 116), .int x, .int y].toArray s 0 0 (pq_A g s.heap.size)) g 0 0 (pq_th 0 h) 47 [some (.ref (g.2.2 116)), some (.int x), some (.int y), some (.int r0), none] [.int a4, .int a3, .int 0, .int 0, .ref (g.2.2 116)] := by
    intro b j hb hxj hj hxr r0 a3 a4 hr0 h3 h4
    have hb30 := hbs b hb
    refine cc_Vi cx hX (tM_throwing l g _ 0 0 a3 a4) kM_throwing ww_611 rfl rfl ⟨Nat.le_of_ble_eq_true rfl, Nat.le_of_ble_eq_true rfl⟩ 116 (by decide) sh_116 rfl rfl rfl rfl (Nat.le_of_ble_eq_true rfl) rfl ⟨Nat.le_of_ble_eq_true rfl, Nat.le_of_ble_eq_true rfl⟩ dM_keep_47 (pc' := 50) rfl (fun _ _ q => q.elim) (fun r47 h47 q47 => ?_)
    obtain ⟨rfl, q47⟩ := q47
    rw [show va_up (pq_th 0 h) 116 (upd (pq_th 0 h 116) 0 (pq_thr 0 0 a3 a4)) = pq_th (pq_thr 0 0 a3 a4) (pq_th 0 h) from rfl, pq_th_th]
    refine vv_if_eq cx dM_keep_50 (tgt := 55) (by decide) (pc' := 53) rfl (fun c50 => ?_) (fun c50 => ?_)
    · obtain ⟨-, -, hz3, hz4⟩ := pq_thr_all (q47.nt c50)
      subst hz3 hz4
      have hdy := h3.nt rfl
      have hn40 := h4.f rfl
      rw [pq_thr0]
      refine vv_iload_n cx dM_keep_55 rfl rfl (pc' := 56) rfl ?_
      refine vv_aload_n cx dM_keep_56 rfl rfl (pc' := 57) rfl ?_
      refine vv_getI cx (C := RM) (T := TM) (NN := 15) 116 13 (by decide) sh_116 rfl rfl (by decide) lyM ww_567 dM_keep_57 (pc' := 60) rfl ?_
      rw [show pq_th 0 h 116 13 = nI c9 from (pq_th_j (by decide)).trans hc]
      refine vv_icmp_ne cx dM_keep_60 (tgt := 136) (by decide) (pc' := 63) rfl (fun c60 => ?_) (fun c60 => ?_)
      · obtain ⟨k, hk, rfl, hk1, hk2⟩ : ∃ k, k < c9 ∧ r0 = nI k ∧ pq_eqr h k j ∧ ∀ z, z < k → ¬ pq_eqr h z j := by rcases hr0 with q | ⟨q, -⟩; exact q; exact absurd q c60
        refine ph3 (pq_th 0 h) k _ (by omega) (fun h9 o1 o2 o3 o4 => ?_)
        rw [pq_th_ne (by decide)] at o2 o3
        exact Or.inr (Or.inr (Or.inr (Or.inr ⟨b, j, hb, hxj, hj, hdy, fun q hq => by simp at hq; rw [o1 q hq.2, pq_th_ne hq.1], by rw [o1 116 (by decide), pq_th_0], Or.inl ⟨k, hk, rfl, hk1, hk2, fun q q0 => by rw [o1 116 (by decide), pq_th_j q0], o2, o3, fun p p1 p2 => by rw [o4 p p1 p2, pq_th_ne (by decide)]⟩⟩)))
      · obtain ⟨rfl, hno⟩ : r0 = nI c9 ∧ ∀ z, z < c9 → ¬ pq_eqr h z j := by rcases hr0 with ⟨k, hk, q, -⟩ | q; exact absurd ((nI_eq (by omega) (by omega)).mp (q ▸ c60)) (by omega); exact q
        have hc9 : c9 < 40 := Nat.lt_of_le_of_ne hc40 (fun q => hn40 (by rw [q]; rfl))
        refine vv_iconst cx dM_keep_63 (v := 0) (by decide) (pc' := 64) rfl ?_
        refine vv_istore cx dM_keep_64 (Nat.le_of_ble_eq_true rfl) (pc' := 66) rfl ?_
        exact cp b j hb hxj hj hdy hno hc9 5 0 _ (by omega) pq_only.rfl' (fun i hi => absurd hi (by omega)) (fun p _ => by rw [pq_th_ne (by decide)])
    · refine vv_iconst cx dM_keep_53 (v := 0) (by decide) (pc' := 54) rfl ?_
      refine vv_iret cx hr hlocks dM_keep_54 (Nat.le_of_ble_eq_true rfl) (Nat.le_of_ble_eq_true rfl) ?_
      by_cases hz : a3 = 0
      · subst hz
        have hz4 : ¬ a4 = 0 := fun q => absurd (q47.t c50) (by rw [q]; decide)
        rw [pq_thr4 hz4]
        have e40 := h4.t hz4
        rcases hr0 with ⟨k, hk, e, -⟩ | ⟨e, hno⟩
        · rw [e] at e40
          exact absurd ((nI_eq (a := k) (b := 40) (by omega) (by decide)).mp e40) (by omega)
        · rw [e] at e40
          exact Or.inr (Or.inr (Or.inr (Or.inl ⟨b, j, hb, hxj, hj, h3.nt rfl, (nI_eq (a := c9) (b := 40) (by omega) (by decide)).mp e40, hno, rfl⟩)))
      · rw [pq_thr3 hz]
        exact Or.inr (Or.inr (Or.inl ⟨by rw [hb]; exact (fun q => nomatch q), hxr, h3.t hz, rfl⟩))
  have ph1 : ∀ (b j : Nat), bs = some b → x = nI j → j < b → (0 ≤ x ∧ x < pq_bsI bs) → ∀ (r0 a3 : Int32), ((∃ k, k < c9 ∧ r0 = nI k ∧ pq_eqr h k j ∧ ∀ z, z < k → ¬ pq_eqr h z j) ∨ (r0 = nI c9 ∧ ∀ z, z < c9 → ¬ pq_eqr h z j)) → pq_fl a3 (¬ (0 ≤ y ∧ y ≤ 9999)) →  VV p l e rM_keep s m [.ref (g.2.2 116), .int x, .int y].toArray below meth c (vx_MQ below (pq_Qi g (fun r h9 => (bs = none ∧ h9 = pq_th 2 h) ∨ (¬ bs = none ∧ ¬ (0 ≤ x ∧ x < pq_bsI bs) ∧ h9 = pq_th 1 h) ∨ (¬ bs = none ∧ (0 ≤ x ∧ x < pq_bsI bs) ∧ ¬ (0 ≤ y ∧ y ≤ 9999) ∧ h9 = pq_th 3 h) ∨ (∃ b j, bs = some b ∧ x = nI j ∧ j < b ∧ (0 ≤ y ∧ y ≤ 9999) ∧ c9 = 40 ∧ (∀ z, z < c9 → ¬ pq_eqr h z j) ∧ h9 = pq_th 4 h) ∨ (∃ b j, bs = some b ∧ x = nI j ∧ j < b ∧ (0 ≤ y ∧ y ≤ 9999) ∧ pq_but [116, 123] h h9 ∧ h9 116 0 = 0 ∧ ((∃ k, k < c9 ∧ r = nI k ∧ pq_eqr h k j ∧ (∀ z, z < k → ¬ pq_eqr h z j) ∧ (∀ q, q ≠ 0 → h9 116 q = h 116 q) ∧ h9 123 (7 * k + 5) = h 123 (7 * k + 5) + 1 ∧ h9 123 (7 * k + 6) = (if h 123 (7 * k + 6) < y then y else h 123 (7 * k + 6)) ∧ ∀ p, p ≠ 7 * k + 5 → p ≠ 7 * k + 6 → h9 123 p = h 123 p) ∨ ((∀ z, z < c9 → ¬ pq_eqr h z j) ∧ c9 < 40 ∧ r = nI c9 ∧ h9 116 13 = nI (c9 + 1) ∧ (∀ q, q ≠ 0 → q ≠ 13 → h9 116 q = h 116 q) ∧ (∀ i, i < 5 → h9 123 (7 * c9 + i) = h 122 (5 * j + i)) ∧ h9 123 (7 * c9 + 5) = 1 ∧ h9 123 (7 * c9 + 6) = y ∧ ∀ p, (p < 7 * c9 ∨ 7 * c9 + 7 ≤ p) → h9 123 p = h 123 p)))) s.heap.size) (pq_Qx g (pq_no) s.heap.size) [.ref (g.2.2 116), .int x, .int y].toArray s 0 0 (pq_A g s.heap.size)) g 0 0 (pq_th 0 h) 36 [some (.ref (g.2.2 116)), some (.int x), some (.int y), some (.int r0), none] [.int a3, .int 0, .int 0, .ref (g.2.2 116)] := by
    intro b j hb hxj hj hxr r0 a3 hr0 h3
    refine vv_iload_n cx dM_keep_36 rfl rfl (pc' := 37) rfl ?_
    refine vv_bipush cx dM_keep_37 (v := 40) (by decide) (pc' := 39) rfl ?_
    refine vv_icmp_ne cx dM_keep_39 (tgt := 46) (by decide) (pc' := 42) rfl (fun c39 => ?_) (fun c39 => ?_)
    · refine vv_iconst cx dM_keep_46 (v := 0) (by decide) (pc' := 47) rfl ?_
      first | exact ph2 b j hb hxj hj hxr r0 a3 1 hr0 h3 (Or.inl ⟨rfl, c39⟩) | exact ph2 b j hb hxj hj hxr r0 a3 0 hr0 h3 (Or.inr ⟨rfl, c39⟩)
    · refine vv_iconst cx dM_keep_42 (v := 1) (by decide) (pc' := 43) rfl ?_
      refine vv_goto cx dM_keep_43 (tgt := 47) (by decide) ?_
      first | exact ph2 b j hb hxj hj hxr r0 a3 1 hr0 h3 (Or.inl ⟨rfl, c39⟩) | exact ph2 b j hb hxj hj hxr r0 a3 0 hr0 h3 (Or.inr ⟨rfl, c39⟩)
  refine vv_aload_n cx dM_keep_0 rfl rfl (pc' := 1) rfl ?_
  refine vv_iload_n cx dM_keep_1 rfl rfl (pc' := 2) rfl ?_
  refine vv_iconst cx dM_keep_2 (v := 1) (by decide) (pc' := 3) rfl ?_
  refine cc_Vi cx hX (tM_refuses l g h bs x 1 hmd.1 hbs) kM_refuses ww_708 rfl rfl ⟨Nat.le_of_ble_eq_true rfl, Nat.le_of_ble_eq_true rfl⟩ 116 (by decide) sh_116 rfl rfl rfl rfl (Nat.le_of_ble_eq_true rfl) rfl ⟨Nat.le_of_ble_eq_true rfl, Nat.le_of_ble_eq_true rfl⟩ dM_keep_3 (pc' := 6) rfl (fun _ _ q => q.elim) (fun r3 h3 q3 => ?_)
  refine vv_if_eq cx dM_keep_6 (tgt := 11) (by decide) (pc' := 9) rfl (fun c6 => ?_) (fun c6 => ?_)
  · obtain ⟨q2, q5⟩ : (0 ≤ x ∧ x < pq_bsI bs) ∧ h3 = pq_th 0 h := by rcases q3 with ⟨-, q, -⟩ | ⟨-, -, q, -⟩ | ⟨-, q2, -, -, q5⟩; exact absurd c6 (by rw [q]; decide); exact absurd c6 (by rw [q]; decide); exact ⟨q2, q5⟩
    subst q5
    obtain ⟨b, j, hb, hj, hxj⟩ := pq_bsI_lt hbs q2.1 q2.2
    have hb30 := hbs b hb
    refine vv_aload_n cx dM_keep_11 rfl rfl (pc' := 12) rfl ?_
    refine vv_iload_n cx dM_keep_12 rfl rfl (pc' := 13) rfl ?_
    refine cc_Vi cx hX (tM_keptAs l g (pq_th 0 h) j c9 x hxj ((pq_th_j (by decide)).trans hc) hc40 (by omega)) kM_keptAs ww_720 rfl rfl ⟨Nat.le_of_ble_eq_true rfl, Nat.le_of_ble_eq_true rfl⟩ 116 (by decide) sh_116 rfl rfl rfl rfl (Nat.le_of_ble_eq_true rfl) rfl ⟨Nat.le_of_ble_eq_true rfl, Nat.le_of_ble_eq_true rfl⟩ dM_keep_13 (pc' := 16) rfl (fun _ _ q => q.elim) (fun r13 h13 q13 => ?_)
    obtain ⟨rfl, q13⟩ := q13
    have hr13 : ((∃ k, k < c9 ∧ r13 = nI k ∧ pq_eqr h k j ∧ ∀ z, z < k → ¬ pq_eqr h z j) ∨ (r13 = nI c9 ∧ ∀ z, z < c9 → ¬ pq_eqr h z j)) := by simpa only [pq_eqr, pq_th_ne (show (123 : Nat) ≠ 116 by decide), pq_th_ne (show (122 : Nat) ≠ 116 by decide)] using q13
    refine vv_istore_n cx dM_keep_16 rfl (Nat.le_of_ble_eq_true rfl) (pc' := 17) rfl ?_
    refine vv_aload_n cx dM_keep_17 rfl rfl (pc' := 18) rfl ?_
    refine vv_iconst cx dM_keep_18 (v := 0) (by decide) (pc' := 19) rfl ?_
    refine vv_iconst cx dM_keep_19 (v := 0) (by decide) (pc' := 20) rfl ?_
    refine vv_iload_n cx dM_keep_20 rfl rfl (pc' := 21) rfl ?_
    refine vv_iconst cx dM_keep_21 (v := 0) (by decide) (pc' := 22) rfl ?_
    refine vv_sipush cx dM_keep_22 (v := 9999) (by decide) (pc' := 25) rfl ?_
    refine cc_Si cx hX (tM_in l g _ y 0 9999) kM_in ww_608 rfl rfl ⟨Nat.le_of_ble_eq_true rfl, Nat.le_of_ble_eq_true rfl⟩ rfl rfl (Nat.le_of_ble_eq_true rfl) rfl ⟨Nat.le_of_ble_eq_true rfl, Nat.le_of_ble_eq_true rfl⟩ dM_keep_25 (pc' := 28) rfl (fun _ _ q => q.elim) (fun r25 h25 q25 => ?_)
    obtain ⟨rfl, q25⟩ := q25
    refine vv_if_ne cx dM_keep_28 (tgt := 35) (by decide) (pc' := 31) rfl (fun c28 => ?_) (fun c28 => ?_)
    · refine vv_iconst cx dM_keep_35 (v := 0) (by decide) (pc' := 36) rfl ?_
      first | exact ph1 b j hb hxj hj q2 r13 1 hr13 (Or.inl ⟨rfl, q25.f c28⟩) | exact ph1 b j hb hxj hj q2 r13 0 hr13 (Or.inr ⟨rfl, fun z => z (q25.t c28)⟩)
    · refine vv_iconst cx dM_keep_31 (v := 1) (by decide) (pc' := 32) rfl ?_
      refine vv_goto cx dM_keep_32 (tgt := 36) (by decide) ?_
      first | exact ph1 b j hb hxj hj q2 r13 1 hr13 (Or.inl ⟨rfl, q25.f c28⟩) | exact ph1 b j hb hxj hj q2 r13 0 hr13 (Or.inr ⟨rfl, fun z => z (q25.t c28)⟩)
  · refine vv_iconst cx dM_keep_9 (v := 0) (by decide) (pc' := 10) rfl ?_
    refine vv_iret cx hr hlocks dM_keep_10 (Nat.le_of_ble_eq_true rfl) (Nat.le_of_ble_eq_true rfl) ?_
    rcases q3 with ⟨q1, -, rfl⟩ | ⟨q1, q2, -, rfl⟩ | ⟨-, -, -, q, -⟩
    · exact Or.inl ⟨q1, rfl⟩
    · exact Or.inr (Or.inl ⟨q1, fun z => q2 ⟨z, by decide⟩, rfl⟩)
    · exact absurd q c6

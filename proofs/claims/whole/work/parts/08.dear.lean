/-! part 08: the rest of Slabs; the dearest pattern -/
def pq_but (L : List Nat) (h h' : pq_H) : Prop := ∀ k, k ∉ L → h' k = h k
theorem pq_but.rfl' {L : List Nat} {h : pq_H} : pq_but L h h := fun _ _ => rfl
theorem pq_but.trans {L : List Nat} {h h' h2 : pq_H} (a : pq_but L h h') (b : pq_but L h' h2) : pq_but L h h2 := fun k hk => (b k hk).trans (a k hk)
theorem pq_but.mono {L L' : List Nat} {h h' : pq_H} (a : pq_but L h h') (hs : ∀ k, k ∈ L → k ∈ L') : pq_but L' h h' := fun k hk => a k (fun q => hk (hs k q))
theorem pq_only.but {kr : Nat} {L : List Nat} {h h' : pq_H} (a : pq_only kr h h') (hk : kr ∈ L) : pq_but L h h' := fun k hq => a k (fun q => hq (q ▸ hk))
theorem pq_but.up {k : Nat} {L : List Nat} {h : pq_H} {f : Nat → Int32} (hk : k ∈ L) : pq_but L h (va_up h k f) := fun j hj => va_up_ne _ _ (fun q => hj (q ▸ hk))
theorem pq_cpy5 {f g : Nat → Int32} {i : Nat} (hi : i < 5) : va_cpy f g (0 : Int32).toNatClampNeg (0 : Int32).toNatClampNeg (5 : Int32).toNatClampNeg i = f i := by
  rw [show (0 : Int32).toNatClampNeg = 0 from rfl, show (5 : Int32).toNatClampNeg = 5 from rfl, pk_cpy_in (by omega) (by omega)]
  congr 1
  omega
theorem pq_in5 {y : Int32} {i : Nat} (hy : y = nI i) (hi : i < 5) : vp_in y 5 := by rw [hy]; exact vp_in_nI hi (by decide)
theorem pq_clN {y : Int32} {i : Nat} (hy : y = nI i) (hi : i < 1000) : y.toNatClampNeg = i := by rw [hy]; exact nI_clamp (by omega)
set_option maxRecDepth 100000 in
set_option maxHeartbeats 4000000 in
theorem tS_somePieceIsTooWide (l : Launch) (g : pq_G) (h : pq_H) {W n : Nat} {w nm pr : Nat → Nat} (hs : pq_st h W n w nm pr) : XI l yS_somePieceIsTooWide wS_somePieceIsTooWide rS_somePieceIsTooWide g 0 0 [.ref (g.2.2 1)] h (fun r h9 => h9 = h ∧ ((r = 1 ∧ ∃ i, i < n ∧ 0 < nm i ∧ W < w i) ∨ (r = 0 ∧ ∀ i, i < n → ¬ (0 < nm i ∧ W < w i)))) (pq_no) := by
  refine XI.of (cc := cS_somePieceIsTooWide) (maxL := 2) (ret := (some .boolean)) (by decide +kernel) (by simp [Value.category]) (Nat.le_of_ble_eq_true rfl) ?_
  intro p e s m below meth c cx hX hr hlocks hex
  obtain ⟨⟨hW, hn, hw, hnm, -⟩, ⟨hW1, hW2, hn5⟩, hb, -⟩ := id hs
  have loop : ∀ (d i : Nat) (y : Int32), y = nI i → i + d = n → (∀ j, j < i → ¬ (0 < nm j ∧ W < w j)) → VV p l e rS_somePieceIsTooWide s m [.ref (g.2.2 1)].toArray below meth c (vx_MQ below (pq_Qi g (fun r h9 => h9 = h ∧ ((r = 1 ∧ ∃ i, i < n ∧ 0 < nm i ∧ W < w i) ∨ (r = 0 ∧ ∀ i, i < n → ¬ (0 < nm i ∧ W < w i)))) s.heap.size) (pq_Qx g (pq_no) s.heap.size) [.ref (g.2.2 1)].toArray s 0 0 (pq_A g s.heap.size)) g 0 0 h 2 [some (.ref (g.2.2 1)), some (.int y)] [] := by
    intro d
    induction d with
    | zero =>
      intro i y hy hi hj
      have e1 : i = n := by omega
      subst e1
      refine vv_iload_n cx dS_somePieceIsTooWide_2 rfl rfl (pc' := 3) rfl ?_
      refine vv_aload_n cx dS_somePieceIsTooWide_3 rfl rfl (pc' := 4) rfl ?_
      refine vv_getI cx (C := RS) (T := TS) (NN := 5) 1 1 (by decide) sh_1 rfl rfl (by decide) lyS ww_32 dS_somePieceIsTooWide_4 (pc' := 7) rfl ?_
      refine vv_icmp_ge cx dS_somePieceIsTooWide_7 (tgt := 40) (by decide) (pc' := 10) rfl (fun c7 => ?_) (fun c7 => ?_)
      · refine vv_iconst cx dS_somePieceIsTooWide_40 (v := 0) (by decide) (pc' := 41) rfl ?_
        refine vv_zret cx hr hlocks dS_somePieceIsTooWide_41 rfl (Nat.le_of_ble_eq_true rfl) (Nat.le_of_ble_eq_true rfl) ?_
        exact ⟨rfl, Or.inr ⟨rfl, hj⟩⟩
      · exact absurd (Int32.le_refl _) (by rw [hy, hn] at c7; exact c7)
    | succ d ih =>
      intro i y hy hi hj
      have hlt : i < n := by omega
      have hv := pq_in5 hy (show i < 5 by omega)
      have hcl := pq_clN hy (show i < 1000 by omega)
      have hbi := hb i (by omega)
      have hgo : ¬ (0 < nm i ∧ W < w i) → ∀ j, j < i + 1 → ¬ (0 < nm j ∧ W < w j) := fun q j hj2 => by
        rcases Nat.lt_or_ge j i with q2 | q2
        · exact hj j q2
        · rw [show j = i by omega]; exact q
      refine vv_iload_n cx dS_somePieceIsTooWide_2 rfl rfl (pc' := 3) rfl ?_
      refine vv_aload_n cx dS_somePieceIsTooWide_3 rfl rfl (pc' := 4) rfl ?_
      refine vv_getI cx (C := RS) (T := TS) (NN := 5) 1 1 (by decide) sh_1 rfl rfl (by decide) lyS ww_32 dS_somePieceIsTooWide_4 (pc' := 7) rfl ?_
      refine vv_icmp_ge cx dS_somePieceIsTooWide_7 (tgt := 40) (by decide) (pc' := 10) rfl (fun c7 => ?_) (fun c7 => ?_)
      · exact absurd (by rw [hy, hn] at c7; exact c7) (nI_ge hlt (by omega))
      · refine vv_aload_n cx dS_somePieceIsTooWide_10 rfl rfl (pc' := 11) rfl ?_
        refine vv_getR cx (C := RS) (T := TS) (NN := 5) 1 3 _ (by decide) sh_1 rfl rfl (by decide) lyS ww_37 dS_somePieceIsTooWide_11 (pc' := 14) rfl ?_
        refine vv_iload_n cx dS_somePieceIsTooWide_14 rfl rfl (pc' := 15) rfl ?_
        refine vv_iald cx _ (by decide) sh_9 hv dS_somePieceIsTooWide_15 (pc' := 16) rfl ?_
        rw [hcl, hnm i (by omega)]
        refine vv_if_le cx dS_somePieceIsTooWide_16 (tgt := 34) (by decide) (pc' := 19) rfl (fun c16 => ?_) (fun c16 => ?_)
        · first | (replace c29 : ¬ W < w i := fun q => nI_ge q (by omega) c29) | (replace c16 : ¬ 0 < nm i := fun q => nI_nle q (by omega) c16)
          refine vv_iinc cx dS_somePieceIsTooWide_34 rfl rfl (pc' := 37) rfl ?_
          refine vv_goto cx dS_somePieceIsTooWide_37 (tgt := 2) (by decide) ?_
          refine ih (i + 1) _ (pq_nI1 hy) (by omega) (hgo ?_)
          first | exact fun q => c16 q.1 | exact fun q => c29 q.2
        · replace c16 : 0 < nm i := pq_pos (Int32.not_le.mp c16)
          refine vv_aload_n cx dS_somePieceIsTooWide_19 rfl rfl (pc' := 20) rfl ?_
          refine vv_getR cx (C := RS) (T := TS) (NN := 5) 1 2 _ (by decide) sh_1 rfl rfl (by decide) lyS ww_36 dS_somePieceIsTooWide_20 (pc' := 23) rfl ?_
          refine vv_iload_n cx dS_somePieceIsTooWide_23 rfl rfl (pc' := 24) rfl ?_
          refine vv_iald cx _ (by decide) sh_8 hv dS_somePieceIsTooWide_24 (pc' := 25) rfl ?_
          refine vv_aload_n cx dS_somePieceIsTooWide_25 rfl rfl (pc' := 26) rfl ?_
          refine vv_getI cx (C := RS) (T := TS) (NN := 5) 1 0 (by decide) sh_1 rfl rfl (by decide) lyS ww_30 dS_somePieceIsTooWide_26 (pc' := 29) rfl ?_
          rw [hcl, hw i (by omega), hW]
          refine vv_icmp_le cx dS_somePieceIsTooWide_29 (tgt := 34) (by decide) (pc' := 32) rfl (fun c29 => ?_) (fun c29 => ?_)
          · first | (replace c29 : ¬ W < w i := fun q => nI_ge q (by omega) c29) | (replace c16 : ¬ 0 < nm i := fun q => nI_nle q (by omega) c16)
            refine vv_iinc cx dS_somePieceIsTooWide_34 rfl rfl (pc' := 37) rfl ?_
            refine vv_goto cx dS_somePieceIsTooWide_37 (tgt := 2) (by decide) ?_
            refine ih (i + 1) _ (pq_nI1 hy) (by omega) (hgo ?_)
            first | exact fun q => c16 q.1 | exact fun q => c29 q.2
          · refine vv_iconst cx dS_somePieceIsTooWide_32 (v := 1) (by decide) (pc' := 33) rfl ?_
            refine vv_zret cx hr hlocks dS_somePieceIsTooWide_33 rfl (Nat.le_of_ble_eq_true rfl) (Nat.le_of_ble_eq_true rfl) ?_
            exact ⟨rfl, Or.inl ⟨rfl, i, hlt, c16, Nat.lt_of_not_le (fun q => c29 (nI_le q (by omega)))⟩⟩
  refine vv_iconst cx dS_somePieceIsTooWide_0 (v := 0) (by decide) (pc' := 1) rfl ?_
  refine vv_istore_n cx dS_somePieceIsTooWide_1 rfl (Nat.le_of_ble_eq_true rfl) (pc' := 2) rfl ?_
  exact loop n 0 _ nI_0.symm (by omega) (fun j hj => absurd hj (by omega))
set_option maxRecDepth 100000 in
set_option maxHeartbeats 4000000 in
theorem tS_isPattern (l : Launch) (g : pq_G) (h : pq_H) {W n : Nat} {w nm pr : Nat → Nat} (k : Nat) (a : Nat → Nat) (hk : k < pq_N) (hsh : pq_sh k = .inr (.inl 5)) (hs : pq_st h W n w nm pr) (ha : pq_row h k a) (ha6 : ∀ i, i < 5 → a i ≤ 6) : XI l yS_isPattern wS_isPattern rS_isPattern g 0 0 [.ref (g.2.2 1), .ref (g.2.2 k)] h (fun r h9 => h9 = h ∧ ((r = 1 ∧ (∀ i, i < n → a i ≤ nm i) ∧ pq_sum (fun i => a i * w i) n ≤ W) ∨ (r = 0 ∧ ¬ ((∀ i, i < n → a i ≤ nm i) ∧ pq_sum (fun i => a i * w i) n ≤ W)))) (pq_no) := by
  refine XI.of (cc := cS_isPattern) (maxL := 3) (ret := (some .boolean)) (by decide +kernel) (by simp [Value.category]) (Nat.le_of_ble_eq_true rfl) ?_
  intro p e s m below meth c cx hX hr hlocks hex
  obtain ⟨⟨hW, hn, hw, hnm, -⟩, ⟨hW1, hW2, hn5⟩, hb, -⟩ := id hs
  have hbd : pq_sum (fun i => a i * w i) n ≤ 30000 := Nat.le_trans (pq_sum_bd (B := 6000) (fun i hi => Nat.le_trans (Nat.mul_le_mul (ha6 i (by omega)) (hb i (by omega)).1) (by decide))) (by omega)
  have loop : ∀ (d i : Nat) (y : Int32), y = nI i → i + d = n → (∀ j, j < i → a j ≤ nm j) → VV p l e rS_isPattern s m [.ref (g.2.2 1), .ref (g.2.2 k)].toArray below meth c (vx_MQ below (pq_Qi g (fun r h9 => h9 = h ∧ ((r = 1 ∧ (∀ i, i < n → a i ≤ nm i) ∧ pq_sum (fun i => a i * w i) n ≤ W) ∨ (r = 0 ∧ ¬ ((∀ i, i < n → a i ≤ nm i) ∧ pq_sum (fun i => a i * w i) n ≤ W)))) s.heap.size) (pq_Qx g (pq_no) s.heap.size) [.ref (g.2.2 1), .ref (g.2.2 k)].toArray s 0 0 (pq_A g s.heap.size)) g 0 0 h 2 [some (.ref (g.2.2 1)), some (.ref (g.2.2 k)), some (.int y)] [] := by
    intro d
    induction d with
    | zero =>
      intro i y hy hi hj
      have e1 : i = n := by omega
      subst e1
      refine vv_iload_n cx dS_isPattern_2 rfl rfl (pc' := 3) rfl ?_
      refine vv_aload_n cx dS_isPattern_3 rfl rfl (pc' := 4) rfl ?_
      refine vv_getI cx (C := RS) (T := TS) (NN := 5) 1 1 (by decide) sh_1 rfl rfl (by decide) lyS ww_32 dS_isPattern_4 (pc' := 7) rfl ?_
      refine vv_icmp_ge cx dS_isPattern_7 (tgt := 30) (by decide) (pc' := 10) rfl (fun c7 => ?_) (fun c7 => ?_)
      · refine vv_aload_n cx dS_isPattern_30 rfl rfl (pc' := 31) rfl ?_
        refine vv_aload_n cx dS_isPattern_31 rfl rfl (pc' := 32) rfl ?_
        refine cc_Vi cx hX (tS_widthOf l g h k a hk hsh hs (fun i hi => ha i (by omega))) kS_widthOf ww_547 rfl rfl ⟨Nat.le_of_ble_eq_true rfl, Nat.le_of_ble_eq_true rfl⟩ 1 (by decide) sh_1 rfl rfl rfl rfl (Nat.le_of_ble_eq_true rfl) rfl ⟨Nat.le_of_ble_eq_true rfl, Nat.le_of_ble_eq_true rfl⟩ dS_isPattern_32 (pc' := 35) rfl (fun _ _ q => q.elim) (fun r32 h32 q32 => ?_)
        obtain ⟨rfl, rfl⟩ := q32
        refine vv_aload_n cx dS_isPattern_35 rfl rfl (pc' := 36) rfl ?_
        refine vv_getI cx (C := RS) (T := TS) (NN := 5) 1 0 (by decide) sh_1 rfl rfl (by decide) lyS ww_30 dS_isPattern_36 (pc' := 39) rfl ?_
        rw [hW]
        refine vv_icmp_gt cx dS_isPattern_39 (tgt := 46) (by decide) (pc' := 42) rfl (fun c39 => ?_) (fun c39 => ?_)
        · refine vv_iconst cx dS_isPattern_46 (v := 0) (by decide) (pc' := 47) rfl ?_
          refine vv_zret cx hr hlocks dS_isPattern_47 rfl (Nat.le_of_ble_eq_true rfl) (Nat.le_of_ble_eq_true rfl) ?_
          first | exact ⟨rfl, Or.inl ⟨rfl, hj, Nat.le_of_not_lt (fun q => c39 (nI_lt q (by omega)))⟩⟩ | exact ⟨rfl, Or.inr ⟨rfl, fun q => nI_nlt q.2 (by omega) c39⟩⟩
        · refine vv_iconst cx dS_isPattern_42 (v := 1) (by decide) (pc' := 43) rfl ?_
          refine vv_goto cx dS_isPattern_43 (tgt := 47) (by decide) ?_
          refine vv_zret cx hr hlocks dS_isPattern_47 rfl (Nat.le_of_ble_eq_true rfl) (Nat.le_of_ble_eq_true rfl) ?_
          first | exact ⟨rfl, Or.inl ⟨rfl, hj, Nat.le_of_not_lt (fun q => c39 (nI_lt q (by omega)))⟩⟩ | exact ⟨rfl, Or.inr ⟨rfl, fun q => nI_nlt q.2 (by omega) c39⟩⟩
      · exact absurd (Int32.le_refl _) (by rw [hy, hn] at c7; exact c7)
    | succ d ih =>
      intro i y hy hi hj
      have hlt : i < n := by omega
      have hv := pq_in5 hy (show i < 5 by omega)
      have hcl := pq_clN hy (show i < 1000 by omega)
      have hbi := hb i (by omega)
      have hai := ha6 i (by omega)
      refine vv_iload_n cx dS_isPattern_2 rfl rfl (pc' := 3) rfl ?_
      refine vv_aload_n cx dS_isPattern_3 rfl rfl (pc' := 4) rfl ?_
      refine vv_getI cx (C := RS) (T := TS) (NN := 5) 1 1 (by decide) sh_1 rfl rfl (by decide) lyS ww_32 dS_isPattern_4 (pc' := 7) rfl ?_
      refine vv_icmp_ge cx dS_isPattern_7 (tgt := 30) (by decide) (pc' := 10) rfl (fun c7 => ?_) (fun c7 => ?_)
      · exact absurd (by rw [hy, hn] at c7; exact c7) (nI_ge hlt (by omega))
      · refine vv_aload_n cx dS_isPattern_10 rfl rfl (pc' := 11) rfl ?_
        refine vv_iload_n cx dS_isPattern_11 rfl rfl (pc' := 12) rfl ?_
        refine vv_iald cx _ hk hsh hv dS_isPattern_12 (pc' := 13) rfl ?_
        refine vv_aload_n cx dS_isPattern_13 rfl rfl (pc' := 14) rfl ?_
        refine vv_getR cx (C := RS) (T := TS) (NN := 5) 1 3 _ (by decide) sh_1 rfl rfl (by decide) lyS ww_37 dS_isPattern_14 (pc' := 17) rfl ?_
        refine vv_iload_n cx dS_isPattern_17 rfl rfl (pc' := 18) rfl ?_
        refine vv_iald cx _ (by decide) sh_9 hv dS_isPattern_18 (pc' := 19) rfl ?_
        rw [hcl, hnm i (by omega), ha i (by omega)]
        refine vv_icmp_le cx dS_isPattern_19 (tgt := 24) (by decide) (pc' := 22) rfl (fun c19 => ?_) (fun c19 => ?_)
        · refine vv_iinc cx dS_isPattern_24 rfl rfl (pc' := 27) rfl ?_
          refine vv_goto cx dS_isPattern_27 (tgt := 2) (by decide) ?_
          refine ih (i + 1) _ (pq_nI1 hy) (by omega) (fun j hj2 => ?_)
          rcases Nat.lt_or_ge j i with q2 | q2
          · exact hj j q2
          · rw [show j = i by omega]; exact Nat.le_of_not_lt (fun q => nI_ge q (by omega) c19)
        · refine vv_iconst cx dS_isPattern_22 (v := 0) (by decide) (pc' := 23) rfl ?_
          refine vv_zret cx hr hlocks dS_isPattern_23 rfl (Nat.le_of_ble_eq_true rfl) (Nat.le_of_ble_eq_true rfl) ?_
          exact ⟨rfl, Or.inr ⟨rfl, fun q => c19 (nI_le (q.1 i hlt) (by omega))⟩⟩
  refine vv_iconst cx dS_isPattern_0 (v := 0) (by decide) (pc' := 1) rfl ?_
  refine vv_istore_n cx dS_isPattern_1 rfl (Nat.le_of_ble_eq_true rfl) (pc' := 2) rfl ?_
  exact loop n 0 _ nI_0.symm (by omega) (fun j hj => absurd hj (by omega))
set_option maxRecDepth 100000 in
set_option maxHeartbeats 4000000 in
theorem tS_add (l : Launch) (g : pq_G) (h : pq_H) {W n : Nat} {w nm pr : Nat → Nat} (x y : Nat) (hs : pq_st h W n w nm pr) (hn4 : n < 5) (hx : 1 ≤ x ∧ x ≤ 1000) (hy : y ≤ 6) : XI l yS_add wS_add rS_add g 0 0 [.ref (g.2.2 1), .int (nI x), .int (nI y)] h (fun r h9 => r = nI n ∧ pq_but [1, 8, 9, 10] h h9 ∧ pq_st h9 W (n + 1) (va_up w n x) (va_up nm n y) (va_up pr n 0)) (pq_no) := by
  refine XI.of (cc := cS_add) (maxL := 4) (ret := (some .int)) (by decide +kernel) (by simp [Value.category]) (Nat.le_of_ble_eq_true rfl) ?_
  intro p e s m below meth c cx hX hr hlocks hex
  obtain ⟨⟨hW, hn, hw, hnm, hpr⟩, ⟨hW1, hW2, hn5⟩, hb, hb1, hb0⟩ := id hs
  have hv := pq_in5 hn hn4
  have hcl := pq_clN hn (show n < 1000 by omega)
  refine vv_aload_n cx dS_add_0 rfl rfl (pc' := 1) rfl ?_
  refine vv_getI cx (C := RS) (T := TS) (NN := 5) 1 1 (by decide) sh_1 rfl rfl (by decide) lyS ww_32 dS_add_1 (pc' := 4) rfl ?_
  refine vv_istore_n cx dS_add_4 rfl (Nat.le_of_ble_eq_true rfl) (pc' := 5) rfl ?_
  refine vv_aload_n cx dS_add_5 rfl rfl (pc' := 6) rfl ?_
  refine vv_getR cx (C := RS) (T := TS) (NN := 5) 1 2 _ (by decide) sh_1 rfl rfl (by decide) lyS ww_36 dS_add_6 (pc' := 9) rfl ?_
  refine vv_iload_n cx dS_add_9 rfl rfl (pc' := 10) rfl ?_
  refine vv_iload_n cx dS_add_10 rfl rfl (pc' := 11) rfl ?_
  refine vv_iast cx _ (by decide) sh_8 hv dS_add_11 (pc' := 12) rfl ?_
  refine vv_aload_n cx dS_add_12 rfl rfl (pc' := 13) rfl ?_
  refine vv_getR cx (C := RS) (T := TS) (NN := 5) 1 3 _ (by decide) sh_1 rfl rfl (by decide) lyS ww_37 dS_add_13 (pc' := 16) rfl ?_
  refine vv_iload_n cx dS_add_16 rfl rfl (pc' := 17) rfl ?_
  refine vv_iload_n cx dS_add_17 rfl rfl (pc' := 18) rfl ?_
  refine vv_iast cx _ (by decide) sh_9 hv dS_add_18 (pc' := 19) rfl ?_
  refine vv_aload_n cx dS_add_19 rfl rfl (pc' := 20) rfl ?_
  refine vv_getR cx (C := RS) (T := TS) (NN := 5) 1 4 _ (by decide) sh_1 rfl rfl (by decide) lyS ww_41 dS_add_20 (pc' := 23) rfl ?_
  refine vv_iload_n cx dS_add_23 rfl rfl (pc' := 24) rfl ?_
  refine vv_iconst cx dS_add_24 (v := 0) (by decide) (pc' := 25) rfl ?_
  refine vv_iast cx _ (by decide) sh_10 hv dS_add_25 (pc' := 26) rfl ?_
  refine vv_aload_n cx dS_add_26 rfl rfl (pc' := 27) rfl ?_
  refine vv_iload_n cx dS_add_27 rfl rfl (pc' := 28) rfl ?_
  refine vv_iconst cx dS_add_28 (v := 1) (by decide) (pc' := 29) rfl ?_
  refine vv_iadd cx dS_add_29 (pc' := 30) rfl ?_
  refine vv_putI cx (C := RS) (T := TS) (NN := 5) 1 1 (by decide) sh_1 rfl rfl (by decide) lyS tyS tyS_ok nmS rfl rfl rfl ww_32 dS_add_30 (pc' := 33) rfl ?_
  refine vv_iload_n cx dS_add_33 rfl rfl (pc' := 34) rfl ?_
  refine vv_iret cx hr hlocks dS_add_34 (Nat.le_of_ble_eq_true rfl) (Nat.le_of_ble_eq_true rfl) ?_
  refine ⟨hn, fun k hk => ?_, ⟨?_, ?_, ?_, ?_, ?_⟩, ⟨hW1, hW2, by omega⟩, fun i hi => ?_, fun i hi => ?_, fun i hi h5 => ?_⟩
  · simp at hk
    simp [va_up, hk]
  · simp [va_up, upd, hW]
  · simp [va_up, upd, hn]; exact nI_1 n
  · intro i hi
    by_cases e : i = n
    · subst e; simp [va_up, upd, hcl]
    · simp [va_up, upd, hcl, e, hw i hi]
  · intro i hi
    by_cases e : i = n
    · subst e; simp [va_up, upd, hcl]
    · simp [va_up, upd, hcl, e, hnm i hi]
  · intro i hi
    by_cases e : i = n
    · subst e; simp [va_up, upd, hcl]; rfl
    · simp [va_up, upd, hcl, e, hpr i hi]
  · have := hb i hi
    by_cases e : i = n
    · subst e; simp [va_up]; omega
    · simp [va_up, e]; omega
  · by_cases e : i = n
    · subst e; simp [va_up]; omega
    · simp [va_up, e]; exact hb1 i (by omega)
  · rw [va_up_ne _ _ (by omega)]; exact hb0 i (by omega) h5
set_option maxRecDepth 100000 in
set_option maxHeartbeats 4000000 in
theorem tD_forget (l : Launch) (g : pq_G) (h : pq_H)  : XV l yD_forget wD_forget rD_forget g 0 0 [.ref (g.2.2 2)] h (fun h9 => h9 = va_up h 2 (upd (h 2) 4 0)) (pq_no) := by
  refine XV.of (cc := cD_forget) (maxL := 1) (ret := none) (by decide +kernel) (by simp [Value.category]) (Nat.le_of_ble_eq_true rfl) ?_
  intro p e s m below meth c cx hX hr hlocks hex
  refine vv_aload_n cx dD_forget_0 rfl rfl (pc' := 1) rfl ?_
  refine vv_iconst cx dD_forget_1 (v := 0) (by decide) (pc' := 2) rfl ?_
  refine vv_putI cx (C := RD) (T := TD) (NN := 5) 2 4 (by decide) sh_2 rfl rfl (by decide) lyD tyD tyD_ok nmD rfl rfl rfl ww_65 dD_forget_2 (pc' := 5) rfl ?_
  refine vv_vret cx hr hlocks dD_forget_5 (Nat.le_of_ble_eq_true rfl) (Nat.le_of_ble_eq_true rfl) ?_
  exact rfl
set_option maxRecDepth 100000 in
set_option maxHeartbeats 4000000 in
theorem tD_take (l : Launch) (g : pq_G) (h : pq_H) (x : Int32) : XV l yD_take wD_take rD_take g 0 0 [.ref (g.2.2 2), .int x] h (fun h9 => pq_but [2, 11] h h9 ∧ h9 2 3 = x ∧ h9 2 4 = h 2 4 ∧ ∀ i, i < 5 → h9 11 i = h 12 i) (pq_no) := by
  refine XV.of (cc := cD_take) (maxL := 2) (ret := none) (by decide +kernel) (by simp [Value.category]) (Nat.le_of_ble_eq_true rfl) ?_
  intro p e s m below meth c cx hX hr hlocks hex
  refine vv_aload_n cx dD_take_0 rfl rfl (pc' := 1) rfl ?_
  refine vv_iload_n cx dD_take_1 rfl rfl (pc' := 2) rfl ?_
  refine vv_putI cx (C := RD) (T := TD) (NN := 5) 2 3 (by decide) sh_2 rfl rfl (by decide) lyD tyD tyD_ok nmD rfl rfl rfl ww_64 dD_take_2 (pc' := 5) rfl ?_
  refine vv_aload_n cx dD_take_5 rfl rfl (pc' := 6) rfl ?_
  refine vv_getR cx (C := RD) (T := TD) (NN := 5) 2 2 _ (by decide) sh_2 rfl rfl (by decide) lyD ww_63 dD_take_6 (pc' := 9) rfl ?_
  refine vv_iconst cx dD_take_9 (v := 0) (by decide) (pc' := 10) rfl ?_
  refine vv_aload_n cx dD_take_10 rfl rfl (pc' := 11) rfl ?_
  refine vv_getR cx (C := RD) (T := TD) (NN := 5) 2 1 _ (by decide) sh_2 rfl rfl (by decide) lyD ww_62 dD_take_11 (pc' := 14) rfl ?_
  refine vv_iconst cx dD_take_14 (v := 0) (by decide) (pc' := 15) rfl ?_
  refine vv_iconst cx dD_take_15 (v := 5) (by decide) (pc' := 16) rfl ?_
  refine vv_copy cx _ _ (by decide) (by decide) rfl rfl (by decide) (by decide) (by decide) (by decide) (by decide) ww_190 ww_192 ww_191 ww_14 (Nat.le_of_ble_eq_true rfl) (by decide) rfl dD_take_16 (pc' := 19) rfl ?_
  refine vv_vret cx hr hlocks dD_take_19 (Nat.le_of_ble_eq_true rfl) (Nat.le_of_ble_eq_true rfl) ?_
  refine ⟨fun k hk => ?_, ?_, ?_, fun i hi => ?_⟩
  · simp at hk
    simp [va_up, hk]
  · simp [va_up, upd]
  · simp [va_up, upd]
  · rw [va_up_self, pq_cpy5 hi]
    simp [va_up]

/-! part 07: fillFrom, firstPattern, nextPattern, the other reads of Slabs -/
theorem pq_minI {x y : Nat} (hx : x < 2 ^ 31) (hy : y < 2 ^ 31) : (if nI y < nI x then nI y else nI x) = nI (min x y) := by
  by_cases q : y < x
  · rw [if_pos (nI_lt q hx), Nat.min_eq_right (by omega)]
  · rw [if_neg (nI_nlt (by omega) hy), Nat.min_eq_left (by omega)]
theorem pq_sum_dec {w a : Nat → Nat} {i n : Nat} (h : i < n) : pq_sum (fun j => va_up a i (a i - 1) j * w j) (i + 1) ≤ pq_sum (fun j => a j * w j) n := by
  refine Nat.le_trans (pq_sum_le (fun j hj => Nat.mul_le_mul_right _ ?_)) (pq_sum_mono (show i + 1 ≤ n by omega))
  rcases Nat.lt_or_ge j i with q | q
  · rw [va_up_ne _ _ (by omega)]; exact Nat.le_refl _
  · rw [show j = i by omega, va_up_self]; omega
set_option maxRecDepth 100000 in
set_option maxHeartbeats 4000000 in
theorem tS_fillFrom (l : Launch) (g : pq_G) (h : pq_H) {W n : Nat} {w nm pr : Nat → Nat} (kr kt : Nat) (i0 : Nat) (a th : Nat → Nat) (hkr : (8 ≤ kr ∧ kr < 14) ∨ (16 ≤ kr ∧ kr < 116)) (hkt : (8 ≤ kt ∧ kt < 14) ∨ (16 ≤ kt ∧ kt < 116)) (hr10 : 10 < kr) (hne : kt ≠ kr) (hs : pq_st h W n w nm pr) (ha : pq_row h kr a) (ht : pq_row h kt th) (hi0 : i0 ≤ n) (hsum : pq_sum (fun j => a j * w j) i0 ≤ W) (hth : ∀ i, i < 5 → th i ≤ 6) : XV l yS_fillFrom wS_fillFrom rS_fillFrom g 0 0 [.ref (g.2.2 1), .int (nI i0), .ref (g.2.2 kr), .ref (g.2.2 kt)] h (fun h9 => pq_only kr h h9 ∧ pq_row h9 kr (pq_fill W n w th a i0)) (pq_no) := by
  refine XV.of (cc := cS_fillFrom) (maxL := 8) (ret := none) (by decide +kernel) (by simp [Value.category]) (Nat.le_of_ble_eq_true rfl) ?_
  intro p e s m below meth c cx hX hr hlocks hex
  have hkN : kr < pq_N := by show kr < 125; omega
  have hkM : kt < pq_N := by show kt < 125; omega
  obtain ⟨-, ⟨hW1, hW2, hn5⟩, hb, hw1, -⟩ := id hs
  have loop : ∀ (d i R : Nat) (b : Nat → Nat) (h1 : pq_H) (x y : Int32) (u6 u7 : Option Value), pq_only kr h h1 → pq_row h1 kr b → x = nI R → R ≤ W → y = nI i → i + d = n → pq_fillS w th d b i R = pq_fill W n w th a i0 → VV p l e rS_fillFrom s m [.ref (g.2.2 1), .int (nI i0), .ref (g.2.2 kr), .ref (g.2.2 kt)].toArray below meth c (vx_MQ below (pq_Qv g (fun h9 => pq_only kr h h9 ∧ pq_row h9 kr (pq_fill W n w th a i0)) s.heap.size) (pq_Qx g (pq_no) s.heap.size) [.ref (g.2.2 1), .int (nI i0), .ref (g.2.2 kr), .ref (g.2.2 kt)].toArray s 0 0 (pq_A g s.heap.size)) g 0 0 h1 16 [some (.ref (g.2.2 1)), some (.int (nI i0)), some (.ref (g.2.2 kr)), some (.ref (g.2.2 kt)), some (.int x), some (.int y), u6, u7] [] := by
    intro d
    induction d with
    | zero =>
      intro i R b h1 x y u6 u7 ho hb1 hx hR hy hi hf
      have e1 : i = n := by omega
      subst e1
      have hs1 := hs.only ho hr10
      refine vv_iload cx dS_fillFrom_16 rfl (pc' := 18) rfl ?_
      refine vv_aload_n cx dS_fillFrom_18 rfl rfl (pc' := 19) rfl ?_
      refine vv_getI cx (C := RS) (T := TS) (NN := 5) 1 1 (by decide) sh_1 rfl rfl (by decide) lyS ww_32 dS_fillFrom_19 (pc' := 22) rfl ?_
      refine vv_icmp_ge cx dS_fillFrom_22 (tgt := 81) (by decide) (pc' := 25) rfl (fun c22 => ?_) (fun c22 => ?_)
      · refine vv_vret cx hr hlocks dS_fillFrom_81 (Nat.le_of_ble_eq_true rfl) (Nat.le_of_ble_eq_true rfl) ?_
        exact ⟨ho, hf ▸ hb1⟩
      · exact absurd (Int32.le_refl _) (by rw [hy, hs1.1.2.1] at c22; exact c22)
    | succ d ih =>
      intro i R b h1 x y u6 u7 ho hb1 hx hR hy hi hf
      have hlt : i < n := by omega
      have hs1 := hs.only ho hr10
      have ht1 : pq_row h1 kt th := ht.of (ho kt hne)
      have hv : vp_in y 5 := by rw [hy]; exact vp_in_nI (by omega) (by decide)
      have hcl : y.toNatClampNeg = i := by rw [hy]; exact nI_clamp (by omega)
      have hwi : 0 < w i := hw1 i hlt
      have hw5 : w i ≤ 1000 := (hb i (by omega)).1
      have hti : th i ≤ 6 := hth i (by omega)
      have hdv : R / w i ≤ R := Nat.div_le_self _ _
      have hml := pq_div_le (th i) R (w i)
      have e8 : h1 8 y.toNatClampNeg = nI (w i) := by rw [hcl]; exact hs1.1.2.2.1 i (by omega)
      refine vv_iload cx dS_fillFrom_16 rfl (pc' := 18) rfl ?_
      refine vv_aload_n cx dS_fillFrom_18 rfl rfl (pc' := 19) rfl ?_
      refine vv_getI cx (C := RS) (T := TS) (NN := 5) 1 1 (by decide) sh_1 rfl rfl (by decide) lyS ww_32 dS_fillFrom_19 (pc' := 22) rfl ?_
      refine vv_icmp_ge cx dS_fillFrom_22 (tgt := 81) (by decide) (pc' := 25) rfl (fun c22 => ?_) (fun c22 => ?_)
      · exact absurd (by rw [hy, hs1.1.2.1] at c22; exact c22) (nI_ge hlt (by omega))
      · refine vv_aload_n cx dS_fillFrom_25 rfl rfl (pc' := 26) rfl ?_
        refine vv_getR cx (C := RS) (T := TS) (NN := 5) 1 2 _ (by decide) sh_1 rfl rfl (by decide) lyS ww_36 dS_fillFrom_26 (pc' := 29) rfl ?_
        refine vv_iload cx dS_fillFrom_29 rfl (pc' := 31) rfl ?_
        refine vv_iald cx _ (by decide) sh_8 hv dS_fillFrom_31 (pc' := 32) rfl ?_
        rw [e8]
        refine vv_istore cx dS_fillFrom_32 (Nat.le_of_ble_eq_true rfl) (pc' := 34) rfl ?_
        refine vv_iload cx dS_fillFrom_34 rfl (pc' := 36) rfl ?_
        refine vv_if_gt cx dS_fillFrom_36 (tgt := 43) (by decide) (pc' := 39) rfl (fun c36 => ?_) (fun c36 => ?_)
        · refine vv_iload cx dS_fillFrom_43 rfl (pc' := 45) rfl ?_
          refine vv_iload cx dS_fillFrom_45 rfl (pc' := 47) rfl ?_
          refine vv_idiv cx dS_fillFrom_47 (nI_ne0 hwi (by omega)) (pc' := 48) rfl ?_
          rw [hx, pk_div (by omega) hwi (by omega)]
          refine vv_istore cx dS_fillFrom_48 (Nat.le_of_ble_eq_true rfl) (pc' := 50) rfl ?_
          refine vv_aload_n cx dS_fillFrom_50 rfl rfl (pc' := 51) rfl ?_
          refine vv_iload cx dS_fillFrom_51 rfl (pc' := 53) rfl ?_
          refine vv_aload_n cx dS_fillFrom_53 rfl rfl (pc' := 54) rfl ?_
          refine vv_iload cx dS_fillFrom_54 rfl (pc' := 56) rfl ?_
          refine vv_iald cx _ hkM (sh_five hkt) hv dS_fillFrom_56 (pc' := 57) rfl ?_
          rw [show h1 kt y.toNatClampNeg = nI (th i) by rw [hcl]; exact ht1 i (by omega)]
          refine vv_iload cx dS_fillFrom_57 rfl (pc' := 59) rfl ?_
          refine vv_min cx ww_179 ww_180 ww_13 ww_181 (Nat.le_of_ble_eq_true rfl) (Nat.le_of_ble_eq_true rfl) (Nat.zero_le _) (Nat.zero_le _) rfl dS_fillFrom_59 (pc' := 62) rfl ?_
          have hmin := pq_minI (x := th i) (y := R / w i) (by omega) (by omega)
          refine vv_iast cx _ hkN (sh_five hkr) hv dS_fillFrom_62 (pc' := 63) rfl ?_
          refine vv_iload cx dS_fillFrom_63 rfl (pc' := 65) rfl ?_
          refine vv_aload_n cx dS_fillFrom_65 rfl rfl (pc' := 66) rfl ?_
          refine vv_iload cx dS_fillFrom_66 rfl (pc' := 68) rfl ?_
          refine vv_iald cx _ hkN (sh_five hkr) hv dS_fillFrom_68 (pc' := 69) rfl ?_
          refine vv_iload cx dS_fillFrom_69 rfl (pc' := 71) rfl ?_
          refine vv_imul cx dS_fillFrom_71 (pc' := 72) rfl ?_
          refine vv_isub cx dS_fillFrom_72 (pc' := 73) rfl ?_
          refine vv_istore cx dS_fillFrom_73 (Nat.le_of_ble_eq_true rfl) (pc' := 75) rfl ?_
          refine vv_iinc cx dS_fillFrom_75 rfl rfl (pc' := 78) rfl ?_
          refine vv_goto cx dS_fillFrom_78 (tgt := 16) (by decide) ?_
          exact ih (i + 1) (R - min (th i) (R / w i) * w i) (va_up b i (min (th i) (R / w i))) _ _ _ _ _ (ho.trans pq_only.up) (by rw [hcl]; exact hb1.put hmin) (by rw [va_up_self, hcl, pk_us, hmin, pk_mul, pk_sub hml]) (by omega) (pq_nI1 hy) (by omega) hf
        · exact absurd (nI_lt hwi (by omega)) c36
  refine vv_aload_n cx dS_fillFrom_0 rfl rfl (pc' := 1) rfl ?_
  refine vv_getI cx (C := RS) (T := TS) (NN := 5) 1 0 (by decide) sh_1 rfl rfl (by decide) lyS ww_30 dS_fillFrom_1 (pc' := 4) rfl ?_
  refine vv_aload_n cx dS_fillFrom_4 rfl rfl (pc' := 5) rfl ?_
  refine vv_aload_n cx dS_fillFrom_5 rfl rfl (pc' := 6) rfl ?_
  refine vv_iload_n cx dS_fillFrom_6 rfl rfl (pc' := 7) rfl ?_
  refine cc_Vi cx hX (tS_widthOfFirst l g h kr i0 a w hkN (sh_five hkr) (by omega) (fun i hi => ha i (by omega)) (fun i hi => hs.1.2.2.1 i (by omega))) kS_widthOfFirst ww_175 rfl rfl ⟨Nat.le_of_ble_eq_true rfl, Nat.le_of_ble_eq_true rfl⟩ 1 (by decide) sh_1 rfl rfl rfl rfl (Nat.le_of_ble_eq_true rfl) rfl ⟨Nat.le_of_ble_eq_true rfl, Nat.le_of_ble_eq_true rfl⟩ dS_fillFrom_7 (pc' := 10) rfl (fun _ _ q => q.elim) (fun r7 h7 q7 => ?_)
  obtain ⟨rfl, hq7⟩ := q7
  refine vv_isub cx dS_fillFrom_10 (pc' := 11) rfl ?_
  refine vv_istore cx dS_fillFrom_11 (Nat.le_of_ble_eq_true rfl) (pc' := 13) rfl ?_
  refine vv_iload_n cx dS_fillFrom_13 rfl rfl (pc' := 14) rfl ?_
  refine vv_istore cx dS_fillFrom_14 (Nat.le_of_ble_eq_true rfl) (pc' := 16) rfl ?_
  exact loop (n - i0) i0 (W - pq_sum (fun j => a j * w j) i0) a _ _ _ _ _ pq_only.rfl' ha (by rw [hs.1.1, hq7, pk_sub hsum]) (by omega) rfl (by omega) rfl
set_option maxRecDepth 100000 in
set_option maxHeartbeats 4000000 in
theorem tS_firstPattern (l : Launch) (g : pq_G) (h : pq_H) {W n : Nat} {w nm pr : Nat → Nat} (kr kt : Nat) (a th : Nat → Nat) (hkr : (8 ≤ kr ∧ kr < 14) ∨ (16 ≤ kr ∧ kr < 116)) (hkt : (8 ≤ kt ∧ kt < 14) ∨ (16 ≤ kt ∧ kt < 116)) (hr10 : 10 < kr) (hne : kt ≠ kr) (hs : pq_st h W n w nm pr) (ha : pq_row h kr a) (ht : pq_row h kt th) (hth : ∀ i, i < 5 → th i ≤ 6) : XV l yS_firstPattern wS_firstPattern rS_firstPattern g 0 0 [.ref (g.2.2 1), .ref (g.2.2 kr), .ref (g.2.2 kt)] h (fun h9 => pq_only kr h h9 ∧ pq_row h9 kr (pq_fill W n w th a 0)) (pq_no) := by
  refine XV.of (cc := cS_firstPattern) (maxL := 3) (ret := none) (by decide +kernel) (by simp [Value.category]) (Nat.le_of_ble_eq_true rfl) ?_
  intro p e s m below meth c cx hX hr hlocks hex
  refine vv_aload_n cx dS_firstPattern_0 rfl rfl (pc' := 1) rfl ?_
  refine vv_iconst cx dS_firstPattern_1 (v := 0) (by decide) (pc' := 2) rfl ?_
  refine vv_aload_n cx dS_firstPattern_2 rfl rfl (pc' := 3) rfl ?_
  refine vv_aload_n cx dS_firstPattern_3 rfl rfl (pc' := 4) rfl ?_
  refine cc_Vv cx hX (tS_fillFrom l g h kr kt 0 a th hkr hkt hr10 hne hs ha ht (Nat.zero_le _) (Nat.zero_le _) hth) kS_fillFrom ww_171 rfl rfl ⟨Nat.le_of_ble_eq_true rfl, Nat.le_of_ble_eq_true rfl⟩ 1 (by decide) sh_1 rfl rfl rfl rfl (Nat.le_of_ble_eq_true rfl) rfl ⟨Nat.le_of_ble_eq_true rfl, Nat.le_of_ble_eq_true rfl⟩ dS_firstPattern_4 (pc' := 7) rfl (fun _ _ q => q.elim) (fun h4 q4 => ?_)
  refine vv_vret cx hr hlocks dS_firstPattern_7 (Nat.le_of_ble_eq_true rfl) (Nat.le_of_ble_eq_true rfl) ?_
  exact q4
set_option maxRecDepth 100000 in
set_option maxHeartbeats 4000000 in
theorem tS_nextPattern (l : Launch) (g : pq_G) (h : pq_H) {W n : Nat} {w nm pr : Nat → Nat} (kr kt : Nat) (a th : Nat → Nat) (hg nd : Int32) (z mm : Nat) (hkr : (8 ≤ kr ∧ kr < 14) ∨ (16 ≤ kr ∧ kr < 116)) (hkt : (8 ≤ kt ∧ kt < 14) ∨ (16 ≤ kt ∧ kt < 116)) (hr10 : 10 < kr) (hne : kt ≠ kr) (hs : pq_st h W n w nm pr) (ha : pq_row h kr a) (ht : pq_row h kt th) (hpat : pq_pat W n w th a) (hth : ∀ i, i < 5 → th i ≤ 6) (hnd : ∀ i, i < 5 → (nI i = nd ↔ i = z)) (hmm : mm ≤ n) (htop : (mm = 0 ∧ (if nI n - 1 < hg then nI n - 1 else hg) < 0) ∨ (0 < mm ∧ (if nI n - 1 < hg then nI n - 1 else hg) = nI (mm - 1))) : XI l yS_nextPattern wS_nextPattern rS_nextPattern g 0 0 [.ref (g.2.2 1), .ref (g.2.2 kr), .ref (g.2.2 kt), .int hg, .int nd] h (fun r h9 => (r = 1 ∧ ∃ b, pq_next W n w th a z mm = some b ∧ pq_only kr h h9 ∧ pq_row h9 kr b) ∨ (r = 0 ∧ pq_next W n w th a z mm = none ∧ h9 = h)) (pq_no) := by
  refine XI.of (cc := cS_nextPattern) (maxL := 7) (ret := (some .boolean)) (by decide +kernel) (by simp [Value.category]) (Nat.le_of_ble_eq_true rfl) ?_
  intro p e s m below meth c cx hX hr hlocks hex
  have hkN : kr < pq_N := by show kr < 125; omega
  obtain ⟨-, ⟨hW1, hW2, hn5⟩, hb, hw1, -⟩ := id hs
  have loop : ∀ (i : Nat) (y : Int32) (u6 : Option Value), ((i = 0 ∧ y < 0) ∨ (0 < i ∧ y = nI (i - 1))) → i ≤ mm → pq_next W n w th a z i = pq_next W n w th a z mm → VV p l e rS_nextPattern s m [.ref (g.2.2 1), .ref (g.2.2 kr), .ref (g.2.2 kt), .int hg, .int nd].toArray below meth c (vx_MQ below (pq_Qi g (fun r h9 => (r = 1 ∧ ∃ b, pq_next W n w th a z mm = some b ∧ pq_only kr h h9 ∧ pq_row h9 kr b) ∨ (r = 0 ∧ pq_next W n w th a z mm = none ∧ h9 = h)) s.heap.size) (pq_Qx g (pq_no) s.heap.size) [.ref (g.2.2 1), .ref (g.2.2 kr), .ref (g.2.2 kt), .int hg, .int nd].toArray s 0 0 (pq_A g s.heap.size)) g 0 0 h 12 [some (.ref (g.2.2 1)), some (.ref (g.2.2 kr)), some (.ref (g.2.2 kt)), some (.int hg), some (.int nd), some (.int y), u6] [] := by
    intro i
    induction i with
    | zero =>
      intro y u6 hy hi hf
      have hy0 : y < 0 := by rcases hy with q | q; exact q.2; exact absurd q.1 (by omega)
      refine vv_iload cx dS_nextPattern_12 rfl (pc' := 14) rfl ?_
      refine vv_if_lt cx dS_nextPattern_14 (tgt := 66) (by decide) (pc' := 17) rfl (fun c14 => ?_) (fun c14 => ?_)
      · refine vv_iconst cx dS_nextPattern_66 (v := 0) (by decide) (pc' := 67) rfl ?_
        refine vv_zret cx hr hlocks dS_nextPattern_67 rfl (Nat.le_of_ble_eq_true rfl) (Nat.le_of_ble_eq_true rfl) ?_
        exact Or.inr ⟨rfl, hf.symm, rfl⟩
      · exact absurd hy0 c14
    | succ i ih =>
      intro y u6 hy hi hf
      have hy1 : y = nI i := by rcases hy with q | q; exact absurd q.1 (by omega); exact q.2
      have hv : vp_in y 5 := by rw [hy1]; exact vp_in_nI (by omega) (by decide)
      have hcl : y.toNatClampNeg = i := by rw [hy1]; exact nI_clamp (by omega)
      have ha6 : a i ≤ 6 := Nat.le_trans (hpat.1 i (by omega)) (hth i (by omega))
      have hrow : h kr y.toNatClampNeg = nI (a i) := by rw [hcl]; exact ha i (by omega)
      have hbr : ∀ lf : Nat, lf = (if i = z then 1 else 0) → ∀ (x : Int32), x = nI lf →  VV p l e rS_nextPattern s m [.ref (g.2.2 1), .ref (g.2.2 kr), .ref (g.2.2 kt), .int hg, .int nd].toArray below meth c (vx_MQ below (pq_Qi g (fun r h9 => (r = 1 ∧ ∃ b, pq_next W n w th a z mm = some b ∧ pq_only kr h h9 ∧ pq_row h9 kr b) ∨ (r = 0 ∧ pq_next W n w th a z mm = none ∧ h9 = h)) s.heap.size) (pq_Qx g (pq_no) s.heap.size) [.ref (g.2.2 1), .ref (g.2.2 kr), .ref (g.2.2 kt), .int hg, .int nd].toArray s 0 0 (pq_A g s.heap.size)) g 0 0 h 31 [some (.ref (g.2.2 1)), some (.ref (g.2.2 kr)), some (.ref (g.2.2 kt)), some (.int hg), some (.int nd), some (.int y), some (.int x)] [] := by
        intro lf hlf x hx
        have hlf1 : lf ≤ 1 := by rw [hlf]; split <;> omega
        refine vv_aload_n cx dS_nextPattern_31 rfl rfl (pc' := 32) rfl ?_
        refine vv_iload cx dS_nextPattern_32 rfl (pc' := 34) rfl ?_
        refine vv_iald cx _ hkN (sh_five hkr) hv dS_nextPattern_34 (pc' := 35) rfl ?_
        rw [hrow]
        refine vv_iload cx dS_nextPattern_35 rfl (pc' := 37) rfl ?_
        refine vv_icmp_le cx dS_nextPattern_37 (tgt := 60) (by decide) (pc' := 40) rfl (fun c37 => ?_) (fun c37 => ?_)
        · have hle : a i ≤ lf := by rw [hx] at c37; exact Nat.le_of_not_lt (fun q => nI_ge q (by omega) c37)
          refine vv_iinc cx dS_nextPattern_60 rfl rfl (pc' := 63) rfl ?_
          refine vv_goto cx dS_nextPattern_63 (tgt := 12) (by decide) ?_
          refine ih _ _ ?_ (by omega) (by rw [← hf, pq_next, if_neg (by rw [← hlf]; omega)])
          rcases Nat.eq_zero_or_pos i with q | q
          · exact Or.inl ⟨q, by rw [hy1, q]; decide⟩
          · exact Or.inr ⟨q, by rw [hy1, show i = (i - 1) + 1 by omega]; exact pk_m1 _⟩
        · have hgt : lf < a i := by rw [hx] at c37; exact Nat.lt_of_not_le (fun q => c37 (nI_le q (by omega)))
          have hnx : pq_next W n w th a z mm = some (pq_fill W n w th (va_up a i (a i - 1)) (i + 1)) := by rw [← hf, pq_next, if_pos (hlf ▸ hgt)]
          refine vv_aload_n cx dS_nextPattern_40 rfl rfl (pc' := 41) rfl ?_
          refine vv_iload cx dS_nextPattern_41 rfl (pc' := 43) rfl ?_
          refine vv_dup2 cx dS_nextPattern_43 rfl rfl (pc' := 44) rfl ?_
          refine vv_iald cx _ hkN (sh_five hkr) hv dS_nextPattern_44 (pc' := 45) rfl ?_
          rw [hrow]
          refine vv_iconst cx dS_nextPattern_45 (v := 1) (by decide) (pc' := 46) rfl ?_
          refine vv_isub cx dS_nextPattern_46 (pc' := 47) rfl ?_
          have hdec : nI (a i) - 1 = nI (a i - 1) := by rw [show (1 : Int32) = nI 1 from rfl, pk_sub (by omega)]
          refine vv_iast cx _ hkN (sh_five hkr) hv dS_nextPattern_47 (pc' := 48) rfl ?_
          refine vv_aload_n cx dS_nextPattern_48 rfl rfl (pc' := 49) rfl ?_
          refine vv_iload cx dS_nextPattern_49 rfl (pc' := 51) rfl ?_
          refine vv_iconst cx dS_nextPattern_51 (v := 1) (by decide) (pc' := 52) rfl ?_
          refine vv_iadd cx dS_nextPattern_52 (pc' := 53) rfl ?_
          refine vv_aload_n cx dS_nextPattern_53 rfl rfl (pc' := 54) rfl ?_
          refine vv_aload_n cx dS_nextPattern_54 rfl rfl (pc' := 55) rfl ?_
          rw [hcl, show y + 1 = nI (i + 1) by rw [hy1]; exact nI_1 i]
          refine cc_Vv cx hX (tS_fillFrom l g (va_up h kr (upd (h kr) i (nI (a i) - 1))) kr kt (i + 1) (va_up a i (a i - 1)) th hkr hkt hr10 hne (hs.only pq_only.up hr10) (ha.put hdec) (ht.of (va_up_ne _ _ hne)) (by omega) (Nat.le_trans (pq_sum_dec (by omega)) hpat.2.1) hth) kS_fillFrom ww_171 rfl rfl ⟨Nat.le_of_ble_eq_true rfl, Nat.le_of_ble_eq_true rfl⟩ 1 (by decide) sh_1 rfl rfl rfl rfl (Nat.le_of_ble_eq_true rfl) rfl ⟨Nat.le_of_ble_eq_true rfl, Nat.le_of_ble_eq_true rfl⟩ dS_nextPattern_55 (pc' := 58) rfl (fun _ _ q => q.elim) (fun h55 q55 => ?_)
          refine vv_iconst cx dS_nextPattern_58 (v := 1) (by decide) (pc' := 59) rfl ?_
          refine vv_zret cx hr hlocks dS_nextPattern_59 rfl (Nat.le_of_ble_eq_true rfl) (Nat.le_of_ble_eq_true rfl) ?_
          exact Or.inl ⟨rfl, _, hnx, pq_only.up.trans q55.1, q55.2⟩
      refine vv_iload cx dS_nextPattern_12 rfl (pc' := 14) rfl ?_
      refine vv_if_lt cx dS_nextPattern_14 (tgt := 66) (by decide) (pc' := 17) rfl (fun c14 => ?_) (fun c14 => ?_)
      · exact absurd c14 (by rw [hy1]; exact nI_pos (by omega))
      · refine vv_iload cx dS_nextPattern_17 rfl (pc' := 19) rfl ?_
        refine vv_iload cx dS_nextPattern_19 rfl (pc' := 21) rfl ?_
        refine vv_icmp_ne cx dS_nextPattern_21 (tgt := 28) (by decide) (pc' := 24) rfl (fun c21 => ?_) (fun c21 => ?_)
        · refine vv_iconst cx dS_nextPattern_28 (v := 0) (by decide) (pc' := 29) rfl ?_
          refine vv_istore cx dS_nextPattern_29 (Nat.le_of_ble_eq_true rfl) (pc' := 31) rfl ?_
          first | exact hbr 1 (by rw [if_pos ((hnd i (by omega)).mp (by rw [← hy1]; exact c21))]) _ rfl | exact hbr 0 (by rw [if_neg (fun q => c21 (by rw [hy1]; exact (hnd i (by omega)).mpr q))]) _ rfl
        · refine vv_iconst cx dS_nextPattern_24 (v := 1) (by decide) (pc' := 25) rfl ?_
          refine vv_goto cx dS_nextPattern_25 (tgt := 29) (by decide) ?_
          refine vv_istore cx dS_nextPattern_29 (Nat.le_of_ble_eq_true rfl) (pc' := 31) rfl ?_
          first | exact hbr 1 (by rw [if_pos ((hnd i (by omega)).mp (by rw [← hy1]; exact c21))]) _ rfl | exact hbr 0 (by rw [if_neg (fun q => c21 (by rw [hy1]; exact (hnd i (by omega)).mpr q))]) _ rfl
  refine vv_iload_n cx dS_nextPattern_0 rfl rfl (pc' := 1) rfl ?_
  refine vv_aload_n cx dS_nextPattern_1 rfl rfl (pc' := 2) rfl ?_
  refine vv_getI cx (C := RS) (T := TS) (NN := 5) 1 1 (by decide) sh_1 rfl rfl (by decide) lyS ww_32 dS_nextPattern_2 (pc' := 5) rfl ?_
  refine vv_iconst cx dS_nextPattern_5 (v := 1) (by decide) (pc' := 6) rfl ?_
  refine vv_isub cx dS_nextPattern_6 (pc' := 7) rfl ?_
  refine vv_min cx ww_179 ww_180 ww_13 ww_181 (Nat.le_of_ble_eq_true rfl) (Nat.le_of_ble_eq_true rfl) (Nat.zero_le _) (Nat.zero_le _) rfl dS_nextPattern_7 (pc' := 10) rfl ?_
  rw [hs.1.2.1]
  refine vv_istore cx dS_nextPattern_10 (Nat.le_of_ble_eq_true rfl) (pc' := 12) rfl ?_
  exact loop mm _ _ htop (Nat.le_refl _) rfl

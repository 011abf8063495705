/-! part 18: the reference's column -/
theorem pq_next_none {W n : Nat} {w th a : Nat → Nat} {z : Nat} : ∀ {m : Nat}, (∀ j, j < m → a j = 0) → pq_next W n w th a z m = none
  | 0, _ => rfl
  | m + 1, h => by
    rw [pq_next, if_neg (by rw [h m (by omega)]; omega)]
    exact pq_next_none (fun j hj => h j (by omega))
theorem pq_next_at {W n : Nat} {w th a : Nat → Nat} {z k : Nat} (hk : 0 < a k) (hz : k ≠ z) : ∀ {m : Nat}, k < m → (∀ j, k < j → j < m → a j = 0) → pq_next W n w th a z m = some (pq_fill W n w th (va_up a k (a k - 1)) (k + 1))
  | 0, h, _ => absurd h (by omega)
  | m + 1, h, h2 => by
    rcases Nat.lt_or_ge k m with q | q
    · rw [pq_next, if_neg (by rw [h2 m q (by omega)]; omega)]
      exact pq_next_at hk hz q (fun j a1 a2 => h2 j a1 (by omega))
    · have e : k = m := by omega
      subst e
      rw [pq_next, if_neg hz, if_pos hk]
theorem pq_fillS_eq {w th : Nat → Nat} : ∀ (s : Nat) (a a' : Nat → Nat) (i R : Nat), (∀ x, (x < i ∨ i + s ≤ x) → a x = a' x) → pq_fillS w th s a i R = pq_fillS w th s a' i R
  | 0, a, a', i, R, h => funext fun x => h x (by omega)
  | s + 1, a, a', i, R, h => by
    show pq_fillS w th s _ _ _ = pq_fillS w th s _ _ _
    refine pq_fillS_eq s _ _ _ _ (fun x hx => ?_)
    by_cases e : x = i
    · subst e; rw [va_up_self, va_up_self]
    · rw [va_up_ne _ _ e, va_up_ne _ _ e]; exact h x (by omega)
theorem pq_next_skip {W m : Nat} {w th c : Nat → Nat} {z d : Nat} : ∀ {k : Nat}, k ≤ m → pq_next W (m + 1) w th (va_up c m d) z k = pq_next W (m + 1) w th c z k
  | 0, _ => rfl
  | k + 1, h => by
    have e1 : va_up c m d k = c k := va_up_ne _ _ (by omega)
    rw [pq_next, pq_next, e1, pq_next_skip (by omega)]
    have e2 : pq_fill W (m + 1) w th (va_up (va_up c m d) k (c k - 1)) (k + 1) = pq_fill W (m + 1) w th (va_up c k (c k - 1)) (k + 1) := by
      unfold pq_fill
      have e3 : pq_sum (fun j => va_up (va_up c m d) k (c k - 1) j * w j) (k + 1) = pq_sum (fun j => va_up c k (c k - 1) j * w j) (k + 1) := pq_sum_congr (fun j hj => by
        show va_up (va_up c m d) k (c k - 1) j * w j = va_up c k (c k - 1) j * w j
        by_cases e : j = k
        · subst e; rw [va_up_self, va_up_self]
        · rw [va_up_ne _ _ e, va_up_ne _ _ e, va_up_ne _ _ (by omega)])
      rw [e3]
      refine pq_fillS_eq _ _ _ _ _ (fun x hx => ?_)
      by_cases e : x = k
      · subst e; rw [va_up_self, va_up_self]
      · rw [va_up_ne _ _ e, va_up_ne _ _ e, va_up_ne _ _ (by omega)]
    rw [e2]
def pq_mu (a : Nat → Nat) : Nat := a 0 * 2401 + a 1 * 343 + a 2 * 49 + a 3 * 7 + a 4
theorem pq_next_mu {W n : Nat} {w th a b : Nat → Nat} {z : Nat} (hb : ∀ i, i < 5 → b i ≤ 6) : ∀ {m : Nat}, m ≤ 5 → pq_next W n w th a z m = some b → pq_mu b < pq_mu a
  | 0, _, h => by cases h
  | m + 1, hm, h => by
    by_cases hlt : (if m = z then 1 else 0) < a m
    · rw [pq_next, if_pos hlt] at h
      have h0 : 0 < a m := by omega
      have e : ∀ j, j ≤ m → b j = va_up a m (a m - 1) j := fun j hj => by
        rw [← Option.some.inj h, pq_fill, pq_fillS_out _ _ _ _ _ (by omega)]
      have e1 : b m = a m - 1 := by rw [e m (Nat.le_refl _), va_up_self]
      have e2 : ∀ j, j < m → b j = a j := fun j hj => by rw [e j (by omega), va_up_ne _ _ (by omega)]
      have b0 := hb 0 (by omega)
      have b1 := hb 1 (by omega)
      have b2 := hb 2 (by omega)
      have b3 := hb 3 (by omega)
      have b4 := hb 4 (by omega)
      unfold pq_mu
      have hm5 : m = 0 ∨ m = 1 ∨ m = 2 ∨ m = 3 ∨ m = 4 := by omega
      rcases hm5 with rfl | rfl | rfl | rfl | rfl
      · omega
      · have := e2 0 (by omega); omega
      · have := e2 0 (by omega); have := e2 1 (by omega); omega
      · have := e2 0 (by omega); have := e2 1 (by omega); have := e2 2 (by omega); omega
      · have := e2 0 (by omega); have := e2 1 (by omega); have := e2 2 (by omega); have := e2 3 (by omega); omega
    · rw [pq_next, if_neg hlt] at h
      exact pq_next_mu hb (by omega) h
theorem pq_mu_bd {a : Nat → Nat} (h : ∀ i, i < 5 → a i ≤ 6) : pq_mu a ≤ 16806 := by
  have b0 := h 0 (by omega)
  have b1 := h 1 (by omega)
  have b2 := h 2 (by omega)
  have b3 := h 3 (by omega)
  have b4 := h 4 (by omega)
  unfold pq_mu
  omega
theorem pq_pat6 {W n : Nat} {w th a : Nat → Nat} (h : pq_pat W n w th a) (ht : ∀ i, i < 5 → th i ≤ 6) : ∀ i, i < 5 → a i ≤ 6 := fun i hi => by
  rcases Nat.lt_or_ge i n with q | q
  · exact Nat.le_trans (h.1 i q) (ht i hi)
  · rw [h.2.2 i q hi]; omega
theorem pq_pat_red {W n : Nat} {w th c : Nat → Nat} {m d : Nat} (h : pq_pat W n w th c) (hd : d ≤ c m) : pq_pat W n w th (va_up c m d) := by
  have hle : ∀ j, va_up c m d j ≤ c j := fun j => by
    by_cases e : j = m
    · subst e; rw [va_up_self]; exact hd
    · rw [va_up_ne _ _ e]; exact Nat.le_refl _
  refine ⟨fun i hi => Nat.le_trans (hle i) (h.1 i hi), Nat.le_trans (pq_sum_le (fun j _ => Nat.mul_le_mul_right _ (hle j))) h.2.1, fun i h1 h2 => ?_⟩
  have := hle i
  have := h.2.2 i h1 h2
  omega
theorem pq_price_red {n m d : Nat} {pr c : Nat → Nat} (hd : d ≤ c m) : pq_price n pr (va_up c m d) ≤ pq_price n pr c := pq_sum_le (fun j _ => Nat.mul_le_mul_right _ (by
  by_cases e : j = m
  · subst e; rw [va_up_self]; exact hd
  · rw [va_up_ne _ _ e]; exact Nat.le_refl _))
theorem va_up_id {c : Nat → Nat} {m : Nat} : va_up c m (c m) = c := funext fun j => by
  by_cases e : j = m
  · subst e; rw [va_up_self]
  · rw [va_up_ne _ _ e]
set_option maxRecDepth 100000 in
set_option maxHeartbeats 4000000 in
theorem tM_goesDown (l : Launch) (g : pq_G) (h : pq_H) {W n : Nat} {w nm pr : Nat → Nat} (A : Nat) (a th : Nat → Nat) (hs : pq_mo h W n w nm pr) (hA : A + 5 ≤ 160) (ha : pq_sub h 121 A a) (ht : pq_sub h 120 A th) (hpat : pq_pat W n w th a) (hth : ∀ i, i < 5 → th i ≤ 6) : XI l yM_goesDown wM_goesDown rM_goesDown g 0 0 [.ref (g.2.2 116), .int (nI A)] h (fun r h9 => (r = 1 ∧ ∃ b, pq_next W n w th a 5 n = some b ∧ pq_at 121 A h h9 ∧ pq_sub h9 121 A b) ∨ (r = 0 ∧ pq_next W n w th a 5 n = none ∧ h9 = h)) (pq_no) := by
  refine XI.of (cc := cM_goesDown) (maxL := 3) (ret := (some .boolean)) (by decide +kernel) (by simp [Value.category]) (Nat.le_of_ble_eq_true rfl) ?_
  intro p e s m below meth c cx hX hr hlocks hex
  obtain ⟨-, ⟨hW1, hW2, hn5⟩, hb, hw1, -⟩ := id hs
  have ha6 := pq_pat6 hpat hth
  have loop : ∀ (i : Nat) (y : Int32), ((i = 0 ∧ y < 0) ∨ (0 < i ∧ y = nI (i - 1))) → i ≤ 5 → (∀ j, i ≤ j → j < 5 → a j = 0) → VV p l e rM_goesDown s m [.ref (g.2.2 116), .int (nI A)].toArray below meth c (vx_MQ below (pq_Qi g (fun r h9 => (r = 1 ∧ ∃ b, pq_next W n w th a 5 n = some b ∧ pq_at 121 A h h9 ∧ pq_sub h9 121 A b) ∨ (r = 0 ∧ pq_next W n w th a 5 n = none ∧ h9 = h)) s.heap.size) (pq_Qx g (pq_no) s.heap.size) [.ref (g.2.2 116), .int (nI A)].toArray s 0 0 (pq_A g s.heap.size)) g 0 0 h 2 [some (.ref (g.2.2 116)), some (.int (nI A)), some (.int y)] [] := by
    intro i
    induction i with
    | zero =>
      intro y hy hi hz
      have hy0 : y < 0 := by rcases hy with q | q; exact q.2; exact absurd q.1 (by omega)
      refine vv_iload_n cx dM_goesDown_2 rfl rfl (pc' := 3) rfl ?_
      refine vv_if_lt cx dM_goesDown_3 (tgt := 23) (by decide) (pc' := 6) rfl (fun c3 => ?_) (fun c3 => ?_)
      · refine vv_iload_n cx dM_goesDown_23 rfl rfl (pc' := 24) rfl ?_
        refine vv_if_ge cx dM_goesDown_24 (tgt := 29) (by decide) (pc' := 27) rfl (fun c24 => ?_) (fun c24 => ?_)
        · exact absurd hy0 (Int32.not_lt.mpr c24)
        · refine vv_iconst cx dM_goesDown_27 (v := 0) (by decide) (pc' := 28) rfl ?_
          refine vv_zret cx hr hlocks dM_goesDown_28 rfl (Nat.le_of_ble_eq_true rfl) (Nat.le_of_ble_eq_true rfl) ?_
          exact Or.inr ⟨rfl, pq_next_none (fun j hj => hz j (Nat.zero_le _) (by omega)), rfl⟩
      · exact absurd hy0 c3
    | succ i ih =>
      intro y hy hi hz
      have hy1 : y = nI i := by rcases hy with q | q; exact absurd q.1 (by omega); exact q.2
      subst hy1
      have hrow : h 121 (A + i) = nI (a i) := ha i (by omega)
      have hai := ha6 i (by omega)
      refine vv_iload_n cx dM_goesDown_2 rfl rfl (pc' := 3) rfl ?_
      refine vv_if_lt cx dM_goesDown_3 (tgt := 23) (by decide) (pc' := 6) rfl (fun c3 => ?_) (fun c3 => ?_)
      · exact absurd c3 (nI_pos (by omega))
      · refine vv_aload_n cx dM_goesDown_6 rfl rfl (pc' := 7) rfl ?_
        refine vv_getR cx (C := RM) (T := TM) (NN := 15) 116 7 _ (by decide) sh_116 rfl rfl (by decide) lyM ww_561 dM_goesDown_7 (pc' := 10) rfl ?_
        refine vv_iload_n cx dM_goesDown_10 rfl rfl (pc' := 11) rfl ?_
        refine vv_iload_n cx dM_goesDown_11 rfl rfl (pc' := 12) rfl ?_
        refine vv_iadd cx dM_goesDown_12 (pc' := 13) rfl ?_
        rw [nI_add]
        refine vv_iald cx _ (by decide) sh_121 (vp_in_nI (by omega) (by decide)) dM_goesDown_13 (pc' := 14) rfl ?_
        rw [nI_clamp (n := A + i) (by omega), hrow]
        refine vv_if_ne cx dM_goesDown_14 (tgt := 23) (by decide) (pc' := 17) rfl (fun c14 => ?_) (fun c14 => ?_)
        · have hpos : 0 < a i := Nat.pos_of_ne_zero (fun q => c14 (by rw [q]; rfl))
          have hin : i < n := Nat.lt_of_not_le (fun q => by have := hpat.2.2 i q (by omega); omega)
          have hnx : pq_next W n w th a 5 n = some (pq_fill W n w th (va_up a i (a i - 1)) (i + 1)) := pq_next_at hpos (by omega) hin (fun j h1 h2 => hz j h1 (by omega))
          refine vv_iload_n cx dM_goesDown_23 rfl rfl (pc' := 24) rfl ?_
          refine vv_if_ge cx dM_goesDown_24 (tgt := 29) (by decide) (pc' := 27) rfl (fun c24 => ?_) (fun c24 => ?_)
          · refine vv_aload_n cx dM_goesDown_29 rfl rfl (pc' := 30) rfl ?_
            refine vv_getR cx (C := RM) (T := TM) (NN := 15) 116 7 _ (by decide) sh_116 rfl rfl (by decide) lyM ww_561 dM_goesDown_30 (pc' := 33) rfl ?_
            refine vv_iload_n cx dM_goesDown_33 rfl rfl (pc' := 34) rfl ?_
            refine vv_iload_n cx dM_goesDown_34 rfl rfl (pc' := 35) rfl ?_
            refine vv_iadd cx dM_goesDown_35 (pc' := 36) rfl ?_
            rw [nI_add]
            refine vv_dup2 cx dM_goesDown_36 rfl rfl (pc' := 37) rfl ?_
            refine vv_iald cx _ (by decide) sh_121 (vp_in_nI (by omega) (by decide)) dM_goesDown_37 (pc' := 38) rfl ?_
            rw [nI_clamp (n := A + i) (by omega), hrow]
            refine vv_iconst cx dM_goesDown_38 (v := 1) (by decide) (pc' := 39) rfl ?_
            refine vv_isub cx dM_goesDown_39 (pc' := 40) rfl ?_
            rw [show nI (a i) - 1 = nI (a i - 1) from pk_sub (b := 1) (by omega)]
            refine vv_iast cx _ (by decide) sh_121 (vp_in_nI (by omega) (by decide)) dM_goesDown_40 (pc' := 41) rfl ?_
            rw [nI_clamp (n := A + i) (by omega)]
            refine vv_aload_n cx dM_goesDown_41 rfl rfl (pc' := 42) rfl ?_
            refine vv_iload_n cx dM_goesDown_42 rfl rfl (pc' := 43) rfl ?_
            refine vv_iload_n cx dM_goesDown_43 rfl rfl (pc' := 44) rfl ?_
            refine vv_iconst cx dM_goesDown_44 (v := 1) (by decide) (pc' := 45) rfl ?_
            refine vv_iadd cx dM_goesDown_45 (pc' := 46) rfl ?_
            rw [nI_1]
            refine cc_Vv cx hX (tM_fill l g _ A (i + 1) (va_up a i (a i - 1)) th (hs.only pq_only.up (by decide)) hA (by omega) (ha.put rfl) (ht.of (fun j _ => by rw [va_up_ne _ _ (by decide)])) (by rw [Nat.min_eq_left (by omega)]; exact Nat.le_trans (pq_sum_dec hin) hpat.2.1) hth) kM_fill ww_643 rfl rfl ⟨Nat.le_of_ble_eq_true rfl, Nat.le_of_ble_eq_true rfl⟩ 116 (by decide) sh_116 rfl rfl rfl rfl (Nat.le_of_ble_eq_true rfl) rfl ⟨Nat.le_of_ble_eq_true rfl, Nat.le_of_ble_eq_true rfl⟩ dM_goesDown_46 (pc' := 49) rfl (fun _ _ q => q.elim) (fun h46 q46 => ?_)
            refine vv_iconst cx dM_goesDown_49 (v := 1) (by decide) (pc' := 50) rfl ?_
            refine vv_zret cx hr hlocks dM_goesDown_50 rfl (Nat.le_of_ble_eq_true rfl) (Nat.le_of_ble_eq_true rfl) ?_
            obtain ⟨f1, b, f2, f3⟩ := q46
            refine Or.inl ⟨rfl, _, hnx, (pq_at.up (by omega)).trans f1, fun j hj => ?_⟩
            rw [f2 j hj, f3 j hj]
            by_cases q : j < n
            · rw [if_pos q]
            · rw [if_neg q, if_neg (by omega), pq_fill, pq_fillS_out _ _ _ _ _ (by omega), va_up_ne _ _ (by omega), hpat.2.2 j (by omega) hj]
          · exact absurd (nI_pos' (by omega)) c24
        · refine vv_iinc cx dM_goesDown_17 rfl rfl (pc' := 20) rfl ?_
          refine vv_goto cx dM_goesDown_20 (tgt := 2) (by decide) ?_
          refine ih _ ?_ (by omega) (fun j h1 h2 => ?_)
          · rcases Nat.eq_zero_or_pos i with q | q
            · exact Or.inl ⟨q, by rw [q]; decide⟩
            · exact Or.inr ⟨q, by rw [show i = (i - 1) + 1 by omega]; exact pk_m1 _⟩
          · by_cases e9 : j = i
            · subst e9; exact Decidable.byContradiction (fun q => nI_ne0 (Nat.pos_of_ne_zero q) (by omega) c14)
            · exact hz j (by omega) h2
  refine vv_iconst cx dM_goesDown_0 (v := 4) (by decide) (pc' := 1) rfl ?_
  refine vv_istore_n cx dM_goesDown_1 rfl (Nat.le_of_ble_eq_true rfl) (pc' := 2) rfl ?_
  exact loop 5 _ (Or.inr ⟨by decide, rfl⟩) (by omega) (fun j h1 h2 => absurd h1 (by omega))
set_option maxRecDepth 100000 in
set_option maxHeartbeats 4000000 in
theorem tM_sumAt (l : Launch) (g : pq_G) (h : pq_H) {W n : Nat} {w nm pr : Nat → Nat} (A : Nat) (a : Nat → Nat) (hs : pq_mo h W n w nm pr) (hA : A + 5 ≤ 160) (ha : pq_sub h 121 A a) : XI l yM_sumAt wM_sumAt rM_sumAt g 0 0 [.ref (g.2.2 116), .int (nI A)] h (fun r h9 => h9 = h ∧ r = nI (pq_price n pr a)) (pq_no) := by
  refine XI.of (cc := cM_sumAt) (maxL := 4) (ret := (some .int)) (by decide +kernel) (by simp [Value.category]) (Nat.le_of_ble_eq_true rfl) ?_
  intro p e s m below meth c cx hX hr hlocks hex
  have hn5 := hs.2.1.2.2
  have hn := hs.1.2.1
  have loop : ∀ (d i : Nat), i + d = n → VV p l e rM_sumAt s m [.ref (g.2.2 116), .int (nI A)].toArray below meth c (vx_MQ below (pq_Qi g (fun r h9 => h9 = h ∧ r = nI (pq_price n pr a)) s.heap.size) (pq_Qx g (pq_no) s.heap.size) [.ref (g.2.2 116), .int (nI A)].toArray s 0 0 (pq_A g s.heap.size)) g 0 0 h 4 [some (.ref (g.2.2 116)), some (.int (nI A)), some (.int (nI (pq_sum (fun i => a i * pr i) i))), some (.int (nI i))] [] := by
    intro d
    induction d with
    | zero =>
      intro i hi
      have e1 : i = n := by omega
      subst e1
      refine vv_iload_n cx dM_sumAt_4 rfl rfl (pc' := 5) rfl ?_
      refine vv_aload_n cx dM_sumAt_5 rfl rfl (pc' := 6) rfl ?_
      refine vv_getI cx (C := RM) (T := TM) (NN := 15) 116 2 (by decide) sh_116 rfl rfl (by decide) lyM ww_556 dM_sumAt_6 (pc' := 9) rfl ?_
      refine vv_icmp_ge cx dM_sumAt_9 (tgt := 36) (by decide) (pc' := 12) rfl (fun c9 => ?_) (fun c9 => ?_)
      · refine vv_iload_n cx dM_sumAt_36 rfl rfl (pc' := 37) rfl ?_
        refine vv_iret cx hr hlocks dM_sumAt_37 (Nat.le_of_ble_eq_true rfl) (Nat.le_of_ble_eq_true rfl) ?_
        exact ⟨rfl, rfl⟩
      · exact absurd (Int32.le_refl _) (by rw [hn] at c9; exact c9)
    | succ d ih =>
      intro i hi
      have hlt : i < n := by omega
      refine vv_iload_n cx dM_sumAt_4 rfl rfl (pc' := 5) rfl ?_
      refine vv_aload_n cx dM_sumAt_5 rfl rfl (pc' := 6) rfl ?_
      refine vv_getI cx (C := RM) (T := TM) (NN := 15) 116 2 (by decide) sh_116 rfl rfl (by decide) lyM ww_556 dM_sumAt_6 (pc' := 9) rfl ?_
      refine vv_icmp_ge cx dM_sumAt_9 (tgt := 36) (by decide) (pc' := 12) rfl (fun c9 => ?_) (fun c9 => ?_)
      · exact absurd (by rw [hn] at c9; exact c9) (nI_ge hlt (by omega))
      · refine vv_iload_n cx dM_sumAt_12 rfl rfl (pc' := 13) rfl ?_
        refine vv_aload_n cx dM_sumAt_13 rfl rfl (pc' := 14) rfl ?_
        refine vv_getR cx (C := RM) (T := TM) (NN := 15) 116 7 _ (by decide) sh_116 rfl rfl (by decide) lyM ww_561 dM_sumAt_14 (pc' := 17) rfl ?_
        refine vv_iload_n cx dM_sumAt_17 rfl rfl (pc' := 18) rfl ?_
        refine vv_iload_n cx dM_sumAt_18 rfl rfl (pc' := 19) rfl ?_
        refine vv_iadd cx dM_sumAt_19 (pc' := 20) rfl ?_
        rw [nI_add]
        refine vv_iald cx _ (by decide) sh_121 (vp_in_nI (by omega) (by decide)) dM_sumAt_20 (pc' := 21) rfl ?_
        refine vv_aload_n cx dM_sumAt_21 rfl rfl (pc' := 22) rfl ?_
        refine vv_getR cx (C := RM) (T := TM) (NN := 15) 116 5 _ (by decide) sh_116 rfl rfl (by decide) lyM ww_559 dM_sumAt_22 (pc' := 25) rfl ?_
        refine vv_iload_n cx dM_sumAt_25 rfl rfl (pc' := 26) rfl ?_
        refine vv_iald cx _ (by decide) sh_119 (vp_in_nI (by omega) (by decide)) dM_sumAt_26 (pc' := 27) rfl ?_
        rw [nI_clamp (n := A + i) (by omega), nI_clamp (n := i) (by omega), ha i (by omega), hs.1.2.2.2.2 i (by omega)]
        refine vv_imul cx dM_sumAt_27 (pc' := 28) rfl ?_
        rw [pk_mul]
        refine vv_iadd cx dM_sumAt_28 (pc' := 29) rfl ?_
        rw [nI_add, show pq_sum (fun i => a i * pr i) i + a i * pr i = pq_sum (fun i => a i * pr i) (i + 1) from rfl]
        refine vv_istore_n cx dM_sumAt_29 rfl (Nat.le_of_ble_eq_true rfl) (pc' := 30) rfl ?_
        refine vv_iinc cx dM_sumAt_30 rfl pq_n1 (pc' := 33) rfl ?_
        refine vv_goto cx dM_sumAt_33 (tgt := 4) (by decide) ?_
        exact ih (i + 1) (by omega)
  refine vv_iconst cx dM_sumAt_0 (v := 0) (by decide) (pc' := 1) rfl ?_
  refine vv_istore_n cx dM_sumAt_1 rfl (Nat.le_of_ble_eq_true rfl) (pc' := 2) rfl ?_
  refine vv_iconst cx dM_sumAt_2 (v := 0) (by decide) (pc' := 3) rfl ?_
  refine vv_istore_n cx dM_sumAt_3 rfl (Nat.le_of_ble_eq_true rfl) (pc' := 4) rfl ?_
  exact loop n 0 (by omega)

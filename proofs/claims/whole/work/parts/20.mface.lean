/-! part 20: the reference's face, first half -/
def pq_th (t : Int32) (h : pq_H) : pq_H := va_up h 116 (upd (h 116) 0 t)
theorem pq_th_th {s t : Int32} {h : pq_H} : pq_th t (pq_th s h) = pq_th t h := by
  unfold pq_th
  rw [bx_uu, va_up_self]
  congr 1
  funext j
  by_cases e : j = 0
  · subst e; rw [pk_us, pk_us]
  · rw [pk_un e, pk_un e, pk_un e]
theorem pq_th_ne {t : Int32} {h : pq_H} {k : Nat} (hk : k ≠ 116) : pq_th t h k = h k := va_up_ne _ _ hk
theorem pq_th_0 {t : Int32} {h : pq_H} : pq_th t h 116 0 = t := by unfold pq_th; rw [va_up_self, pk_us]
theorem pq_th_j {t : Int32} {h : pq_H} {j : Nat} (hj : j ≠ 0) : pq_th t h 116 j = h 116 j := by unfold pq_th; rw [va_up_self, pk_un hj]
theorem pq_mo.th {h : pq_H} {W n : Nat} {w nm pr : Nat → Nat} {t : Int32} (hs : pq_mo h W n w nm pr) : pq_mo (pq_th t h) W n w nm pr := hs.of (pq_th_j (by decide)) (pq_th_j (by decide)) (pq_th_ne (by decide)) (pq_th_ne (by decide)) (pq_th_ne (by decide))
theorem pq_thr1 {a : Int32} (h : ¬ a = 0) (b c d : Int32) : pq_thr a b c d = 1 := if_neg h
theorem pq_thr2 {b : Int32} (h : ¬ b = 0) (c d : Int32) : pq_thr 0 b c d = 2 := (if_pos rfl).trans (if_neg h)
theorem pq_thr3 {c : Int32} (h : ¬ c = 0) (d : Int32) : pq_thr 0 0 c d = 3 := (if_pos rfl).trans ((if_pos rfl).trans (if_neg h))
theorem pq_thr4 {d : Int32} (h : ¬ d = 0) : pq_thr 0 0 0 d = 4 := (if_pos rfl).trans ((if_pos rfl).trans ((if_pos rfl).trans (if_neg h)))
theorem pq_thr0 : pq_thr 0 0 0 0 = 0 := rfl
theorem pq_thr_all {a b c d : Int32} (h : pq_thr a b c d = 0) : a = 0 ∧ b = 0 ∧ c = 0 ∧ d = 0 := by
  by_cases h1 : a = 0
  · subst h1
    by_cases h2 : b = 0
    · subst h2
      by_cases h3 : c = 0
      · subst h3
        by_cases h4 : d = 0
        · exact ⟨rfl, rfl, rfl, h4⟩
        · rw [pq_thr4 h4] at h; exact absurd h (by decide)
      · rw [pq_thr3 h3] at h; exact absurd h (by decide)
    · rw [pq_thr2 h2] at h; exact absurd h (by decide)
  · rw [pq_thr1 h1] at h; exact absurd h (by decide)
theorem pq_fl.nt {r : Int32} {P : Prop} (h : pq_fl r (¬ P)) (c : r = 0) : P := Classical.byContradiction (fun q => h.f c q)
set_option maxRecDepth 100000 in
set_option maxHeartbeats 4000000 in
theorem tM_sheet (l : Launch) (g : pq_G) (h : pq_H) (x : Int32) : XV l yM_sheet wM_sheet rM_sheet g 0 0 [.ref (g.2.2 116), .int x] h (fun h9 => (¬ (1 ≤ x ∧ x ≤ 1000) ∧ h9 = pq_th 1 h) ∨ ((1 ≤ x ∧ x ≤ 1000) ∧ pq_only 116 h h9 ∧ h9 116 0 = 0 ∧ h9 116 1 = x ∧ h9 116 10 = 0 ∧ h9 116 8 = -1 ∧ ∀ j, j ≠ 0 → j ≠ 1 → j ≠ 10 → j ≠ 8 → h9 116 j = h 116 j)) (pq_no) := by
  refine XV.of (cc := cM_sheet) (maxL := 2) (ret := none) (by decide +kernel) (by simp [Value.category]) (Nat.le_of_ble_eq_true rfl) ?_
  intro p e s m below meth c cx hX hr hlocks hex
  have ph : ∀ a : Int32, pq_fl a (¬ (1 ≤ x ∧ x ≤ 1000)) →  VV p l e rM_sheet s m [.ref (g.2.2 116), .int x].toArray below meth c (vx_MQ below (pq_Qv g (fun h9 => (¬ (1 ≤ x ∧ x ≤ 1000) ∧ h9 = pq_th 1 h) ∨ ((1 ≤ x ∧ x ≤ 1000) ∧ pq_only 116 h h9 ∧ h9 116 0 = 0 ∧ h9 116 1 = x ∧ h9 116 10 = 0 ∧ h9 116 8 = -1 ∧ ∀ j, j ≠ 0 → j ≠ 1 → j ≠ 10 → j ≠ 8 → h9 116 j = h 116 j)) s.heap.size) (pq_Qx g (pq_no) s.heap.size) [.ref (g.2.2 116), .int x].toArray s 0 0 (pq_A g s.heap.size)) g 0 0 h 17 [some (.ref (g.2.2 116)), some (.int x)] [.int a, .ref (g.2.2 116)] := by
    intro a ha
    refine vv_iconst cx dM_sheet_17 (v := 0) (by decide) (pc' := 18) rfl ?_
    refine vv_iconst cx dM_sheet_18 (v := 0) (by decide) (pc' := 19) rfl ?_
    refine vv_iconst cx dM_sheet_19 (v := 0) (by decide) (pc' := 20) rfl ?_
    refine cc_Vi cx hX (tM_throwing l g h a 0 0 0) kM_throwing ww_611 rfl rfl ⟨Nat.le_of_ble_eq_true rfl, Nat.le_of_ble_eq_true rfl⟩ 116 (by decide) sh_116 rfl rfl rfl rfl (Nat.le_of_ble_eq_true rfl) rfl ⟨Nat.le_of_ble_eq_true rfl, Nat.le_of_ble_eq_true rfl⟩ dM_sheet_20 (pc' := 23) rfl (fun _ _ q => q.elim) (fun r20 h20 q20 => ?_)
    obtain ⟨rfl, q20⟩ := q20
    refine vv_if_eq cx dM_sheet_23 (tgt := 27) (by decide) (pc' := 26) rfl (fun c23 => ?_) (fun c23 => ?_)
    · have hz : a = 0 := (pq_thr_all (q20.nt c23)).1
      subst hz
      refine vv_aload_n cx dM_sheet_27 rfl rfl (pc' := 28) rfl ?_
      refine vv_iload_n cx dM_sheet_28 rfl rfl (pc' := 29) rfl ?_
      refine vv_putI cx (C := RM) (T := TM) (NN := 15) 116 1 (by decide) sh_116 rfl rfl (by decide) lyM tyM tyM_ok nmM rfl rfl rfl ww_555 dM_sheet_29 (pc' := 32) rfl ?_
      refine vv_aload_n cx dM_sheet_32 rfl rfl (pc' := 33) rfl ?_
      refine cc_Vv cx hX (tM_forget l g _) kM_forget ww_615 rfl rfl ⟨Nat.le_of_ble_eq_true rfl, Nat.le_of_ble_eq_true rfl⟩ 116 (by decide) sh_116 rfl rfl rfl rfl (Nat.le_of_ble_eq_true rfl) rfl ⟨Nat.le_of_ble_eq_true rfl, Nat.le_of_ble_eq_true rfl⟩ dM_sheet_33 (pc' := 36) rfl (fun _ _ q => q.elim) (fun h33 q33 => ?_)
      refine vv_vret cx hr hlocks dM_sheet_36 (Nat.le_of_ble_eq_true rfl) (Nat.le_of_ble_eq_true rfl) ?_
      obtain ⟨f1, f2, f3, f4⟩ := q33
      refine Or.inr ⟨ha.nt rfl, (pq_only.up.trans pq_only.up).trans f1, ?_, ?_, f2, f3, fun j j0 j1 j10 j8 => ?_⟩
      · rw [f4 0 (by decide) (by decide), va_up_self, pk_un (by decide), va_up_self, pk_us]; rfl
      · rw [f4 1 (by decide) (by decide), va_up_self, pk_us]
      · rw [f4 j j10 j8, va_up_self, pk_un j1, va_up_self, pk_un j0]
    · refine vv_vret cx hr hlocks dM_sheet_26 (Nat.le_of_ble_eq_true rfl) (Nat.le_of_ble_eq_true rfl) ?_
      have hz : ¬ a = 0 := fun q => absurd (q20.t c23) (by rw [q]; decide)
      rw [pq_thr1 hz]
      exact Or.inl ⟨ha.t hz, rfl⟩
  refine vv_aload_n cx dM_sheet_0 rfl rfl (pc' := 1) rfl ?_
  refine vv_iload_n cx dM_sheet_1 rfl rfl (pc' := 2) rfl ?_
  refine vv_iconst cx dM_sheet_2 (v := 1) (by decide) (pc' := 3) rfl ?_
  refine vv_sipush cx dM_sheet_3 (v := 1000) (by decide) (pc' := 6) rfl ?_
  refine cc_Si cx hX (tM_in l g h x 1 1000) kM_in ww_608 rfl rfl ⟨Nat.le_of_ble_eq_true rfl, Nat.le_of_ble_eq_true rfl⟩ rfl rfl (Nat.le_of_ble_eq_true rfl) rfl ⟨Nat.le_of_ble_eq_true rfl, Nat.le_of_ble_eq_true rfl⟩ dM_sheet_6 (pc' := 9) rfl (fun _ _ q => q.elim) (fun r6 h6 q6 => ?_)
  obtain ⟨rfl, q6⟩ := q6
  refine vv_if_ne cx dM_sheet_9 (tgt := 16) (by decide) (pc' := 12) rfl (fun c9 => ?_) (fun c9 => ?_)
  · refine vv_iconst cx dM_sheet_16 (v := 0) (by decide) (pc' := 17) rfl ?_
    first | exact ph 1 (Or.inl ⟨rfl, q6.f c9⟩) | exact ph 0 (Or.inr ⟨rfl, fun z => z (q6.t c9)⟩)
  · refine vv_iconst cx dM_sheet_12 (v := 1) (by decide) (pc' := 13) rfl ?_
    refine vv_goto cx dM_sheet_13 (tgt := 17) (by decide) ?_
    first | exact ph 1 (Or.inl ⟨rfl, q6.f c9⟩) | exact ph 0 (Or.inr ⟨rfl, fun z => z (q6.t c9)⟩)
set_option maxRecDepth 100000 in
set_option maxHeartbeats 4000000 in
theorem tM_order (l : Launch) (g : pq_G) (h : pq_H) {W n : Nat} {w nm pr : Nat → Nat} (x y : Int32) (hs : pq_mo h W n w nm pr) : XI l yM_order wM_order rM_order g 0 0 [.ref (g.2.2 116), .int x, .int y] h (fun r h9 => (n = 5 ∧ h9 = pq_th 1 h) ∨ (n < 5 ∧ ¬ (1 ≤ x ∧ x ≤ 1000 ∧ 0 ≤ y ∧ y ≤ 6) ∧ h9 = pq_th 2 h) ∨ (n < 5 ∧ ∃ x9 y9, x = nI x9 ∧ y = nI y9 ∧ (1 ≤ x9 ∧ x9 ≤ 1000) ∧ y9 ≤ 6 ∧ r = nI n ∧ pq_but [116, 117, 118, 119] h h9 ∧ pq_mo h9 W (n + 1) (va_up w n x9) (va_up nm n y9) (va_up pr n 0) ∧ h9 116 0 = 0 ∧ h9 116 10 = 0 ∧ h9 116 8 = -1 ∧ ∀ j, j ≠ 0 → j ≠ 2 → j ≠ 10 → j ≠ 8 → h9 116 j = h 116 j)) (pq_no) := by
  refine XI.of (cc := cM_order) (maxL := 3) (ret := (some .int)) (by decide +kernel) (by simp [Value.category]) (Nat.le_of_ble_eq_true rfl) ?_
  intro p e s m below meth c cx hX hr hlocks hex
  have hn5 := hs.2.1.2.2
  have hn := hs.1.2.1
  have ph2 : ∀ a b : Int32, pq_fl a (n = 5) → pq_fl b (¬ (1 ≤ x ∧ x ≤ 1000 ∧ 0 ≤ y ∧ y ≤ 6)) →  VV p l e rM_order s m [.ref (g.2.2 116), .int x, .int y].toArray below meth c (vx_MQ below (pq_Qi g (fun r h9 => (n = 5 ∧ h9 = pq_th 1 h) ∨ (n < 5 ∧ ¬ (1 ≤ x ∧ x ≤ 1000 ∧ 0 ≤ y ∧ y ≤ 6) ∧ h9 = pq_th 2 h) ∨ (n < 5 ∧ ∃ x9 y9, x = nI x9 ∧ y = nI y9 ∧ (1 ≤ x9 ∧ x9 ≤ 1000) ∧ y9 ≤ 6 ∧ r = nI n ∧ pq_but [116, 117, 118, 119] h h9 ∧ pq_mo h9 W (n + 1) (va_up w n x9) (va_up nm n y9) (va_up pr n 0) ∧ h9 116 0 = 0 ∧ h9 116 10 = 0 ∧ h9 116 8 = -1 ∧ ∀ j, j ≠ 0 → j ≠ 2 → j ≠ 10 → j ≠ 8 → h9 116 j = h 116 j)) s.heap.size) (pq_Qx g (pq_no) s.heap.size) [.ref (g.2.2 116), .int x, .int y].toArray s 0 0 (pq_A g s.heap.size)) g 0 0 h 40 [some (.ref (g.2.2 116)), some (.int x), some (.int y)] [.int b, .int a, .ref (g.2.2 116)] := by
    intro a b ha hb
    refine vv_iconst cx dM_order_40 (v := 0) (by decide) (pc' := 41) rfl ?_
    refine vv_iconst cx dM_order_41 (v := 0) (by decide) (pc' := 42) rfl ?_
    refine cc_Vi cx hX (tM_throwing l g h a b 0 0) kM_throwing ww_611 rfl rfl ⟨Nat.le_of_ble_eq_true rfl, Nat.le_of_ble_eq_true rfl⟩ 116 (by decide) sh_116 rfl rfl rfl rfl (Nat.le_of_ble_eq_true rfl) rfl ⟨Nat.le_of_ble_eq_true rfl, Nat.le_of_ble_eq_true rfl⟩ dM_order_42 (pc' := 45) rfl (fun _ _ q => q.elim) (fun r42 h42 q42 => ?_)
    obtain ⟨rfl, q42⟩ := q42
    refine vv_if_eq cx dM_order_45 (tgt := 50) (by decide) (pc' := 48) rfl (fun c45 => ?_) (fun c45 => ?_)
    · obtain ⟨hz1, hz2, -⟩ := pq_thr_all (q42.nt c45)
      subst hz1 hz2
      have hlt : n < 5 := by have := ha.f rfl; omega
      obtain ⟨r1, r2, r3, r4⟩ := hb.nt rfl
      obtain ⟨x9, hx9, rfl⟩ := pq_rng (n := 1000) (M := 1000) rfl (Int32.le_trans (by decide) r1) r2
      obtain ⟨y9, hy9, rfl⟩ := pq_rng (n := 6) (M := 6) rfl r3 r4
      have hx1 : 1 ≤ x9 := Nat.le_of_not_lt (fun q => absurd r1 (Int32.not_le.mpr (nI_lt (b := 1) q (by decide))))
      rw [pq_thr0, show va_up h 116 (upd (h 116) 0 0) = pq_th 0 h from rfl]
      have e2 : pq_th 0 h 116 2 = nI n := (pq_th_j (by decide)).trans hn
      refine vv_aload_n cx dM_order_50 rfl rfl (pc' := 51) rfl ?_
      refine vv_getR cx (C := RM) (T := TM) (NN := 15) 116 3 _ (by decide) sh_116 rfl rfl (by decide) lyM ww_557 dM_order_51 (pc' := 54) rfl ?_
      refine vv_aload_n cx dM_order_54 rfl rfl (pc' := 55) rfl ?_
      refine vv_getI cx (C := RM) (T := TM) (NN := 15) 116 2 (by decide) sh_116 rfl rfl (by decide) lyM ww_556 dM_order_55 (pc' := 58) rfl ?_
      refine vv_iload_n cx dM_order_58 rfl rfl (pc' := 59) rfl ?_
      rw [e2]
      refine vv_iast cx _ (by decide) sh_117 (vp_in_nI (by omega) (by decide)) dM_order_59 (pc' := 60) rfl ?_
      rw [nI_clamp (n := n) (by omega)]
      refine vv_aload_n cx dM_order_60 rfl rfl (pc' := 61) rfl ?_
      refine vv_getR cx (C := RM) (T := TM) (NN := 15) 116 4 _ (by decide) sh_116 rfl rfl (by decide) lyM ww_558 dM_order_61 (pc' := 64) rfl ?_
      refine vv_aload_n cx dM_order_64 rfl rfl (pc' := 65) rfl ?_
      refine vv_getI cx (C := RM) (T := TM) (NN := 15) 116 2 (by decide) sh_116 rfl rfl (by decide) lyM ww_556 dM_order_65 (pc' := 68) rfl ?_
      refine vv_iload_n cx dM_order_68 rfl rfl (pc' := 69) rfl ?_
      rw [va_up_ne (pq_th 0 h) _ (show 116 ≠ 117 by decide), e2]
      refine vv_iast cx _ (by decide) sh_118 (vp_in_nI (by omega) (by decide)) dM_order_69 (pc' := 70) rfl ?_
      rw [nI_clamp (n := n) (by omega)]
      refine vv_aload_n cx dM_order_70 rfl rfl (pc' := 71) rfl ?_
      refine vv_getR cx (C := RM) (T := TM) (NN := 15) 116 5 _ (by decide) sh_116 rfl rfl (by decide) lyM ww_559 dM_order_71 (pc' := 74) rfl ?_
      refine vv_aload_n cx dM_order_74 rfl rfl (pc' := 75) rfl ?_
      refine vv_getI cx (C := RM) (T := TM) (NN := 15) 116 2 (by decide) sh_116 rfl rfl (by decide) lyM ww_556 dM_order_75 (pc' := 78) rfl ?_
      refine vv_iconst cx dM_order_78 (v := 0) (by decide) (pc' := 79) rfl ?_
      rw [va_up_ne _ _ (show 116 ≠ 118 by decide), va_up_ne (pq_th 0 h) _ (show 116 ≠ 117 by decide), e2]
      refine vv_iast cx _ (by decide) sh_119 (vp_in_nI (by omega) (by decide)) dM_order_79 (pc' := 80) rfl ?_
      rw [nI_clamp (n := n) (by omega)]
      generalize hg9 : va_up (va_up (va_up (pq_th 0 h) 117 (upd (pq_th 0 h 117) n (nI x9))) 118 _) 119 _ = h3
      have g116 : h3 116 = pq_th 0 h 116 := by rw [← hg9, va_up_ne _ _ (by decide), va_up_ne _ _ (by decide), va_up_ne _ _ (by decide)]
      have g117 : h3 117 = upd (h 117) n (nI x9) := by rw [← hg9, va_up_ne _ _ (by decide), va_up_ne _ _ (by decide), va_up_self, pq_th_ne (by decide)]
      have g118 : h3 118 = upd (h 118) n (nI y9) := by rw [← hg9, va_up_ne _ _ (by decide), va_up_self, va_up_ne _ _ (by decide), pq_th_ne (by decide)]
      have g119 : h3 119 = upd (h 119) n 0 := by rw [← hg9, va_up_self, va_up_ne _ _ (by decide), va_up_ne _ _ (by decide), pq_th_ne (by decide)]
      have gbut : pq_but [116, 117, 118, 119] h h3 := fun k hk => by simp at hk; rw [← hg9, va_up_ne _ _ hk.2.2.2, va_up_ne _ _ hk.2.2.1, va_up_ne _ _ hk.2.1, pq_th_ne hk.1]
      refine vv_aload_n cx dM_order_80 rfl rfl (pc' := 81) rfl ?_
      refine vv_dup cx dM_order_81 rfl (pc' := 82) rfl ?_
      refine vv_getI cx (C := RM) (T := TM) (NN := 15) 116 2 (by decide) sh_116 rfl rfl (by decide) lyM ww_556 dM_order_82 (pc' := 85) rfl ?_
      refine vv_iconst cx dM_order_85 (v := 1) (by decide) (pc' := 86) rfl ?_
      rw [g116, e2]
      refine vv_iadd cx dM_order_86 (pc' := 87) rfl ?_
      rw [nI_1]
      refine vv_putI cx (C := RM) (T := TM) (NN := 15) 116 2 (by decide) sh_116 rfl rfl (by decide) lyM tyM tyM_ok nmM rfl rfl rfl ww_556 dM_order_87 (pc' := 90) rfl ?_
      refine vv_aload_n cx dM_order_90 rfl rfl (pc' := 91) rfl ?_
      refine cc_Vv cx hX (tM_forget l g _) kM_forget ww_615 rfl rfl ⟨Nat.le_of_ble_eq_true rfl, Nat.le_of_ble_eq_true rfl⟩ 116 (by decide) sh_116 rfl rfl rfl rfl (Nat.le_of_ble_eq_true rfl) rfl ⟨Nat.le_of_ble_eq_true rfl, Nat.le_of_ble_eq_true rfl⟩ dM_order_91 (pc' := 94) rfl (fun _ _ q => q.elim) (fun h91 q91 => ?_)
      obtain ⟨f1, f2, f3, f4⟩ := q91
      have e9 : h91 116 2 = nI (n + 1) := by rw [f4 2 (by decide) (by decide), va_up_self, pk_us]
      refine vv_aload_n cx dM_order_94 rfl rfl (pc' := 95) rfl ?_
      refine vv_getI cx (C := RM) (T := TM) (NN := 15) 116 2 (by decide) sh_116 rfl rfl (by decide) lyM ww_556 dM_order_95 (pc' := 98) rfl ?_
      rw [e9]
      refine vv_iconst cx dM_order_98 (v := 1) (by decide) (pc' := 99) rfl ?_
      refine vv_isub cx dM_order_99 (pc' := 100) rfl ?_
      rw [nI_pred n]
      refine vv_iret cx hr hlocks dM_order_100 (Nat.le_of_ble_eq_true rfl) (Nat.le_of_ble_eq_true rfl) ?_
      refine Or.inr (Or.inr ⟨hlt, x9, y9, rfl, rfl, ⟨hx1, hx9⟩, hy9, rfl, (gbut.trans (pq_but.up (by decide))).trans (f1.but (by decide)), ⟨⟨?_, e9, ?_, ?_, ?_⟩, ⟨hs.2.1.1, hs.2.1.2.1, by omega⟩, fun i hi => ?_, fun i hi => ?_, fun i hi h5 => ?_⟩, ?_, f2, f3, fun j j0 j2 j10 j8 => ?_⟩)
      · rw [f4 1 (by decide) (by decide), va_up_self, pk_un (by decide), g116, pq_th_j (by decide)]; exact hs.1.1
      · intro i hi
        rw [f1 117 (by decide), va_up_ne _ _ (by decide), g117]
        by_cases e : i = n
        · subst e; rw [pk_us, va_up_self]
        · rw [pk_un e, va_up_ne _ _ e]; exact hs.1.2.2.1 i hi
      · intro i hi
        rw [f1 118 (by decide), va_up_ne _ _ (by decide), g118]
        by_cases e : i = n
        · subst e; rw [pk_us, va_up_self]
        · rw [pk_un e, va_up_ne _ _ e]; exact hs.1.2.2.2.1 i hi
      · intro i hi
        rw [f1 119 (by decide), va_up_ne _ _ (by decide), g119]
        by_cases e : i = n
        · subst e; rw [pk_us, va_up_self]; rfl
        · rw [pk_un e, va_up_ne _ _ e]; exact hs.1.2.2.2.2 i hi
      · have := hs.2.2.1 i hi
        by_cases e : i = n
        · subst e; rw [va_up_self, va_up_self, va_up_self]; omega
        · rw [va_up_ne _ _ e, va_up_ne _ _ e, va_up_ne _ _ e]; omega
      · by_cases e : i = n
        · subst e; rw [va_up_self]; omega
        · rw [va_up_ne _ _ e]; exact hs.2.2.2.1 i (by omega)
      · rw [va_up_ne _ _ (by omega)]; exact hs.2.2.2.2 i (by omega) h5
      · rw [f4 0 (by decide) (by decide), va_up_self, pk_un (by decide), g116, pq_th_0]
      · rw [f4 j j10 j8, va_up_self, pk_un j2, g116, pq_th_j j0]
    · refine vv_iconst cx dM_order_48 (v := 0) (by decide) (pc' := 49) rfl ?_
      refine vv_iret cx hr hlocks dM_order_49 (Nat.le_of_ble_eq_true rfl) (Nat.le_of_ble_eq_true rfl) ?_
      by_cases hz : a = 0
      · subst hz
        have hbz : ¬ b = 0 := fun q => absurd (q42.t c45) (by rw [q]; decide)
        rw [pq_thr2 hbz]
        exact Or.inr (Or.inl ⟨by have := ha.f rfl; omega, hb.t hbz, rfl⟩)
      · rw [pq_thr1 hz]
        exact Or.inl ⟨ha.t hz, rfl⟩
  have ph1 : ∀ a : Int32, pq_fl a (n = 5) →  VV p l e rM_order s m [.ref (g.2.2 116), .int x, .int y].toArray below meth c (vx_MQ below (pq_Qi g (fun r h9 => (n = 5 ∧ h9 = pq_th 1 h) ∨ (n < 5 ∧ ¬ (1 ≤ x ∧ x ≤ 1000 ∧ 0 ≤ y ∧ y ≤ 6) ∧ h9 = pq_th 2 h) ∨ (n < 5 ∧ ∃ x9 y9, x = nI x9 ∧ y = nI y9 ∧ (1 ≤ x9 ∧ x9 ≤ 1000) ∧ y9 ≤ 6 ∧ r = nI n ∧ pq_but [116, 117, 118, 119] h h9 ∧ pq_mo h9 W (n + 1) (va_up w n x9) (va_up nm n y9) (va_up pr n 0) ∧ h9 116 0 = 0 ∧ h9 116 10 = 0 ∧ h9 116 8 = -1 ∧ ∀ j, j ≠ 0 → j ≠ 2 → j ≠ 10 → j ≠ 8 → h9 116 j = h 116 j)) s.heap.size) (pq_Qx g (pq_no) s.heap.size) [.ref (g.2.2 116), .int x, .int y].toArray s 0 0 (pq_A g s.heap.size)) g 0 0 h 14 [some (.ref (g.2.2 116)), some (.int x), some (.int y)] [.int a, .ref (g.2.2 116)] := by
    intro a ha
    refine vv_iload_n cx dM_order_14 rfl rfl (pc' := 15) rfl ?_
    refine vv_iconst cx dM_order_15 (v := 1) (by decide) (pc' := 16) rfl ?_
    refine vv_sipush cx dM_order_16 (v := 1000) (by decide) (pc' := 19) rfl ?_
    refine cc_Si cx hX (tM_in l g h x 1 1000) kM_in ww_608 rfl rfl ⟨Nat.le_of_ble_eq_true rfl, Nat.le_of_ble_eq_true rfl⟩ rfl rfl (Nat.le_of_ble_eq_true rfl) rfl ⟨Nat.le_of_ble_eq_true rfl, Nat.le_of_ble_eq_true rfl⟩ dM_order_19 (pc' := 22) rfl (fun _ _ q => q.elim) (fun r19 h19 q19 => ?_)
    obtain ⟨rfl, q19⟩ := q19
    refine vv_if_eq cx dM_order_22 (tgt := 35) (by decide) (pc' := 25) rfl (fun c22 => ?_) (fun c22 => ?_)
    · refine vv_iconst cx dM_order_35 (v := 1) (by decide) (pc' := 36) rfl ?_
      refine vv_goto cx dM_order_36 (tgt := 40) (by decide) ?_
      first | exact ph2 a 1 ha (Or.inl ⟨rfl, fun z => q19.f c22 ⟨z.1, z.2.1⟩⟩) | exact ph2 a 0 ha (Or.inr ⟨rfl, fun z => z ⟨(q19.t c22).1, (q19.t c22).2, q29.t c32⟩⟩) | exact ph2 a 1 ha (Or.inl ⟨rfl, fun z => q29.f c32 z.2.2⟩)
    · refine vv_iload_n cx dM_order_25 rfl rfl (pc' := 26) rfl ?_
      refine vv_iconst cx dM_order_26 (v := 0) (by decide) (pc' := 27) rfl ?_
      refine vv_bipush cx dM_order_27 (v := 6) (by decide) (pc' := 29) rfl ?_
      refine cc_Si cx hX (tM_in l g _ y 0 6) kM_in ww_608 rfl rfl ⟨Nat.le_of_ble_eq_true rfl, Nat.le_of_ble_eq_true rfl⟩ rfl rfl (Nat.le_of_ble_eq_true rfl) rfl ⟨Nat.le_of_ble_eq_true rfl, Nat.le_of_ble_eq_true rfl⟩ dM_order_29 (pc' := 32) rfl (fun _ _ q => q.elim) (fun r29 h29 q29 => ?_)
      obtain ⟨rfl, q29⟩ := q29
      refine vv_if_ne cx dM_order_32 (tgt := 39) (by decide) (pc' := 35) rfl (fun c32 => ?_) (fun c32 => ?_)
      · refine vv_iconst cx dM_order_39 (v := 0) (by decide) (pc' := 40) rfl ?_
        first | exact ph2 a 1 ha (Or.inl ⟨rfl, fun z => q19.f c22 ⟨z.1, z.2.1⟩⟩) | exact ph2 a 0 ha (Or.inr ⟨rfl, fun z => z ⟨(q19.t c22).1, (q19.t c22).2, q29.t c32⟩⟩) | exact ph2 a 1 ha (Or.inl ⟨rfl, fun z => q29.f c32 z.2.2⟩)
      · refine vv_iconst cx dM_order_35 (v := 1) (by decide) (pc' := 36) rfl ?_
        refine vv_goto cx dM_order_36 (tgt := 40) (by decide) ?_
        first | exact ph2 a 1 ha (Or.inl ⟨rfl, fun z => q19.f c22 ⟨z.1, z.2.1⟩⟩) | exact ph2 a 0 ha (Or.inr ⟨rfl, fun z => z ⟨(q19.t c22).1, (q19.t c22).2, q29.t c32⟩⟩) | exact ph2 a 1 ha (Or.inl ⟨rfl, fun z => q29.f c32 z.2.2⟩)
  refine vv_aload_n cx dM_order_0 rfl rfl (pc' := 1) rfl ?_
  refine vv_aload_n cx dM_order_1 rfl rfl (pc' := 2) rfl ?_
  refine vv_getI cx (C := RM) (T := TM) (NN := 15) 116 2 (by decide) sh_116 rfl rfl (by decide) lyM ww_556 dM_order_2 (pc' := 5) rfl ?_
  refine vv_iconst cx dM_order_5 (v := 5) (by decide) (pc' := 6) rfl ?_
  rw [hn]
  refine vv_icmp_ne cx dM_order_6 (tgt := 13) (by decide) (pc' := 9) rfl (fun c6 => ?_) (fun c6 => ?_)
  · refine vv_iconst cx dM_order_13 (v := 0) (by decide) (pc' := 14) rfl ?_
    first | exact ph1 1 (Or.inl ⟨rfl, (nI_eq (a := n) (b := 5) (by omega) (by decide)).mp c6⟩) | exact ph1 0 (Or.inr ⟨rfl, fun q => c6 (by rw [q]; rfl)⟩)
  · refine vv_iconst cx dM_order_9 (v := 1) (by decide) (pc' := 10) rfl ?_
    refine vv_goto cx dM_order_10 (tgt := 14) (by decide) ?_
    first | exact ph1 1 (Or.inl ⟨rfl, (nI_eq (a := n) (b := 5) (by omega) (by decide)).mp c6⟩) | exact ph1 0 (Or.inr ⟨rfl, fun q => c6 (by rw [q]; rfl)⟩)
set_option maxRecDepth 100000 in
set_option maxHeartbeats 4000000 in
theorem tM_pieces (l : Launch) (g : pq_G) (h : pq_H) {W n : Nat} {w nm pr : Nat → Nat} (x y : Int32) (hs : pq_mo h W n w nm pr) : XV l yM_pieces wM_pieces rM_pieces g 0 0 [.ref (g.2.2 116), .int x, .int y] h (fun h9 => (¬ (0 ≤ x ∧ x < nI n) ∧ h9 = pq_th 1 h) ∨ ((0 ≤ x ∧ x < nI n) ∧ ¬ (0 ≤ y ∧ y ≤ 6) ∧ h9 = pq_th 2 h) ∨ ((0 ≤ x ∧ x < nI n) ∧ (0 ≤ y ∧ y ≤ 6) ∧ ∃ i y9, x = nI i ∧ i < n ∧ y = nI y9 ∧ y9 ≤ 6 ∧ pq_but [116, 118] h h9 ∧ h9 118 = upd (h 118) i (nI y9) ∧ h9 116 0 = 0 ∧ h9 116 10 = 0 ∧ h9 116 8 = -1 ∧ ∀ j, j ≠ 0 → j ≠ 10 → j ≠ 8 → h9 116 j = h 116 j)) (pq_no) := by
  refine XV.of (cc := cM_pieces) (maxL := 3) (ret := none) (by decide +kernel) (by simp [Value.category]) (Nat.le_of_ble_eq_true rfl) ?_
  intro p e s m below meth c cx hX hr hlocks hex
  have hn5 := hs.2.1.2.2
  have ph2 : ∀ a b : Int32, pq_fl a (¬ (0 ≤ x ∧ x < nI n)) → pq_fl b (¬ (0 ≤ y ∧ y ≤ 6)) →  VV p l e rM_pieces s m [.ref (g.2.2 116), .int x, .int y].toArray below meth c (vx_MQ below (pq_Qv g (fun h9 => (¬ (0 ≤ x ∧ x < nI n) ∧ h9 = pq_th 1 h) ∨ ((0 ≤ x ∧ x < nI n) ∧ ¬ (0 ≤ y ∧ y ≤ 6) ∧ h9 = pq_th 2 h) ∨ ((0 ≤ x ∧ x < nI n) ∧ (0 ≤ y ∧ y ≤ 6) ∧ ∃ i y9, x = nI i ∧ i < n ∧ y = nI y9 ∧ y9 ≤ 6 ∧ pq_but [116, 118] h h9 ∧ h9 118 = upd (h 118) i (nI y9) ∧ h9 116 0 = 0 ∧ h9 116 10 = 0 ∧ h9 116 8 = -1 ∧ ∀ j, j ≠ 0 → j ≠ 10 → j ≠ 8 → h9 116 j = h 116 j)) s.heap.size) (pq_Qx g (pq_no) s.heap.size) [.ref (g.2.2 116), .int x, .int y].toArray s 0 0 (pq_A g s.heap.size)) g 0 0 h 29 [some (.ref (g.2.2 116)), some (.int x), some (.int y)] [.int b, .int a, .ref (g.2.2 116)] := by
    intro a b ha hb
    refine vv_iconst cx dM_pieces_29 (v := 0) (by decide) (pc' := 30) rfl ?_
    refine vv_iconst cx dM_pieces_30 (v := 0) (by decide) (pc' := 31) rfl ?_
    refine cc_Vi cx hX (tM_throwing l g h a b 0 0) kM_throwing ww_611 rfl rfl ⟨Nat.le_of_ble_eq_true rfl, Nat.le_of_ble_eq_true rfl⟩ 116 (by decide) sh_116 rfl rfl rfl rfl (Nat.le_of_ble_eq_true rfl) rfl ⟨Nat.le_of_ble_eq_true rfl, Nat.le_of_ble_eq_true rfl⟩ dM_pieces_31 (pc' := 34) rfl (fun _ _ q => q.elim) (fun r31 h31 q31 => ?_)
    obtain ⟨rfl, q9⟩ := q31
    refine vv_if_eq cx dM_pieces_34 (tgt := 38) (by decide) (pc' := 37) rfl (fun c34 => ?_) (fun c34 => ?_)
    · obtain ⟨hz1, hz2, -⟩ := pq_thr_all (q9.nt c34)
      subst hz1 hz2
      have hix := ha.nt rfl
      have hiy := hb.nt rfl
      obtain ⟨i, hi, hxi⟩ := pq_idx hix.1 hix.2 (by omega)
      obtain ⟨y9, hy9, hyi⟩ := pq_rng (n := 6) (M := 6) rfl hiy.1 hiy.2
      rw [pq_thr0, show va_up h 116 (upd (h 116) 0 0) = pq_th 0 h from rfl]
      refine vv_aload_n cx dM_pieces_38 rfl rfl (pc' := 39) rfl ?_
      refine vv_getR cx (C := RM) (T := TM) (NN := 15) 116 4 _ (by decide) sh_116 rfl rfl (by decide) lyM ww_558 dM_pieces_39 (pc' := 42) rfl ?_
      refine vv_iload_n cx dM_pieces_42 rfl rfl (pc' := 43) rfl ?_
      refine vv_iload_n cx dM_pieces_43 rfl rfl (pc' := 44) rfl ?_
      refine vv_iast cx _ (by decide) sh_118 (pq_in5 hxi (by omega)) dM_pieces_44 (pc' := 45) rfl ?_
      rw [pq_clN hxi (by omega)]
      refine vv_aload_n cx dM_pieces_45 rfl rfl (pc' := 46) rfl ?_
      refine cc_Vv cx hX (tM_forget l g _) kM_forget ww_615 rfl rfl ⟨Nat.le_of_ble_eq_true rfl, Nat.le_of_ble_eq_true rfl⟩ 116 (by decide) sh_116 rfl rfl rfl rfl (Nat.le_of_ble_eq_true rfl) rfl ⟨Nat.le_of_ble_eq_true rfl, Nat.le_of_ble_eq_true rfl⟩ dM_pieces_46 (pc' := 49) rfl (fun _ _ q => q.elim) (fun h9 q8 => ?_)
      refine vv_vret cx hr hlocks dM_pieces_49 (Nat.le_of_ble_eq_true rfl) (Nat.le_of_ble_eq_true rfl) ?_
      obtain ⟨f1, f2, f3, f4⟩ := q8
      refine Or.inr (Or.inr ⟨hix, hiy, i, y9, hxi, hi, hyi, hy9, fun k hk => ?_, ?_, ?_, f2, f3, fun j j0 j10 j8 => ?_⟩)
      · simp at hk
        rw [f1 k hk.1, va_up_ne _ _ hk.2, pq_th_ne hk.1]
      · rw [f1 118 (by decide), va_up_self, pq_th_ne (by decide), hyi]
      · rw [f4 0 (by decide) (by decide), va_up_ne _ _ (by decide), pq_th_0]
      · rw [f4 j j10 j8, va_up_ne _ _ (by decide), pq_th_j j0]
    · refine vv_vret cx hr hlocks dM_pieces_37 (Nat.le_of_ble_eq_true rfl) (Nat.le_of_ble_eq_true rfl) ?_
      by_cases hz : a = 0
      · subst hz
        have hbz : ¬ b = 0 := fun q => absurd (q9.t c34) (by rw [q]; decide)
        rw [pq_thr2 hbz]
        exact Or.inr (Or.inl ⟨ha.nt rfl, hb.t hbz, rfl⟩)
      · rw [pq_thr1 hz]
        exact Or.inl ⟨ha.t hz, rfl⟩
  have ph1 : ∀ a : Int32, pq_fl a (¬ (0 ≤ x ∧ x < nI n)) →  VV p l e rM_pieces s m [.ref (g.2.2 116), .int x, .int y].toArray below meth c (vx_MQ below (pq_Qv g (fun h9 => (¬ (0 ≤ x ∧ x < nI n) ∧ h9 = pq_th 1 h) ∨ ((0 ≤ x ∧ x < nI n) ∧ ¬ (0 ≤ y ∧ y ≤ 6) ∧ h9 = pq_th 2 h) ∨ ((0 ≤ x ∧ x < nI n) ∧ (0 ≤ y ∧ y ≤ 6) ∧ ∃ i y9, x = nI i ∧ i < n ∧ y = nI y9 ∧ y9 ≤ 6 ∧ pq_but [116, 118] h h9 ∧ h9 118 = upd (h 118) i (nI y9) ∧ h9 116 0 = 0 ∧ h9 116 10 = 0 ∧ h9 116 8 = -1 ∧ ∀ j, j ≠ 0 → j ≠ 10 → j ≠ 8 → h9 116 j = h 116 j)) s.heap.size) (pq_Qx g (pq_no) s.heap.size) [.ref (g.2.2 116), .int x, .int y].toArray s 0 0 (pq_A g s.heap.size)) g 0 0 h 14 [some (.ref (g.2.2 116)), some (.int x), some (.int y)] [.int a, .ref (g.2.2 116)] := by
    intro a ha
    refine vv_iload_n cx dM_pieces_14 rfl rfl (pc' := 15) rfl ?_
    refine vv_iconst cx dM_pieces_15 (v := 0) (by decide) (pc' := 16) rfl ?_
    refine vv_bipush cx dM_pieces_16 (v := 6) (by decide) (pc' := 18) rfl ?_
    refine cc_Si cx hX (tM_in l g h y 0 6) kM_in ww_608 rfl rfl ⟨Nat.le_of_ble_eq_true rfl, Nat.le_of_ble_eq_true rfl⟩ rfl rfl (Nat.le_of_ble_eq_true rfl) rfl ⟨Nat.le_of_ble_eq_true rfl, Nat.le_of_ble_eq_true rfl⟩ dM_pieces_18 (pc' := 21) rfl (fun _ _ q => q.elim) (fun r18 h18 q18 => ?_)
    obtain ⟨rfl, q9⟩ := q18
    refine vv_if_ne cx dM_pieces_21 (tgt := 28) (by decide) (pc' := 24) rfl (fun c21 => ?_) (fun c21 => ?_)
    · refine vv_iconst cx dM_pieces_28 (v := 0) (by decide) (pc' := 29) rfl ?_
      first | exact ph2 a 1 ha (Or.inl ⟨rfl, q9.f c21⟩) | exact ph2 a 0 ha (Or.inr ⟨rfl, fun z => z (q9.t c21)⟩)
    · refine vv_iconst cx dM_pieces_24 (v := 1) (by decide) (pc' := 25) rfl ?_
      refine vv_goto cx dM_pieces_25 (tgt := 29) (by decide) ?_
      first | exact ph2 a 1 ha (Or.inl ⟨rfl, q9.f c21⟩) | exact ph2 a 0 ha (Or.inr ⟨rfl, fun z => z (q9.t c21)⟩)
  refine vv_aload_n cx dM_pieces_0 rfl rfl (pc' := 1) rfl ?_
  refine vv_aload_n cx dM_pieces_1 rfl rfl (pc' := 2) rfl ?_
  refine vv_iload_n cx dM_pieces_2 rfl rfl (pc' := 3) rfl ?_
  refine cc_Vi cx hX (tM_isOrder l g h x hs) kM_isOrder ww_627 rfl rfl ⟨Nat.le_of_ble_eq_true rfl, Nat.le_of_ble_eq_true rfl⟩ 116 (by decide) sh_116 rfl rfl rfl rfl (Nat.le_of_ble_eq_true rfl) rfl ⟨Nat.le_of_ble_eq_true rfl, Nat.le_of_ble_eq_true rfl⟩ dM_pieces_3 (pc' := 6) rfl (fun _ _ q => q.elim) (fun r3 h3 q3 => ?_)
  obtain ⟨rfl, q3⟩ := q3
  refine vv_if_ne cx dM_pieces_6 (tgt := 13) (by decide) (pc' := 9) rfl (fun c6 => ?_) (fun c6 => ?_)
  · refine vv_iconst cx dM_pieces_13 (v := 0) (by decide) (pc' := 14) rfl ?_
    first | exact ph1 1 (Or.inl ⟨rfl, q3.f c6⟩) | exact ph1 0 (Or.inr ⟨rfl, fun z => z (q3.t c6)⟩)
  · refine vv_iconst cx dM_pieces_9 (v := 1) (by decide) (pc' := 10) rfl ?_
    refine vv_goto cx dM_pieces_10 (tgt := 14) (by decide) ?_
    first | exact ph1 1 (Or.inl ⟨rfl, q3.f c6⟩) | exact ph1 0 (Or.inr ⟨rfl, fun z => z (q3.t c6)⟩)
set_option maxRecDepth 100000 in
set_option maxHeartbeats 4000000 in
theorem tM_price (l : Launch) (g : pq_G) (h : pq_H) {W n : Nat} {w nm pr : Nat → Nat} (x y : Int32) (hs : pq_mo h W n w nm pr) : XV l yM_price wM_price rM_price g 0 0 [.ref (g.2.2 116), .int x, .int y] h (fun h9 => (¬ (0 ≤ x ∧ x < nI n) ∧ h9 = pq_th 1 h) ∨ ((0 ≤ x ∧ x < nI n) ∧ ¬ (0 ≤ y ∧ y ≤ 1000) ∧ h9 = pq_th 2 h) ∨ ((0 ≤ x ∧ x < nI n) ∧ (0 ≤ y ∧ y ≤ 1000) ∧ ∃ i y9, x = nI i ∧ i < n ∧ y = nI y9 ∧ y9 ≤ 1000 ∧ pq_but [116, 119] h h9 ∧ h9 119 = upd (h 119) i (nI y9) ∧ h9 116 0 = 0 ∧ ∀ j, j ≠ 0 → h9 116 j = h 116 j)) (pq_no) := by
  refine XV.of (cc := cM_price) (maxL := 3) (ret := none) (by decide +kernel) (by simp [Value.category]) (Nat.le_of_ble_eq_true rfl) ?_
  intro p e s m below meth c cx hX hr hlocks hex
  have hn5 := hs.2.1.2.2
  have ph2 : ∀ a b : Int32, pq_fl a (¬ (0 ≤ x ∧ x < nI n)) → pq_fl b (¬ (0 ≤ y ∧ y ≤ 1000)) →  VV p l e rM_price s m [.ref (g.2.2 116), .int x, .int y].toArray below meth c (vx_MQ below (pq_Qv g (fun h9 => (¬ (0 ≤ x ∧ x < nI n) ∧ h9 = pq_th 1 h) ∨ ((0 ≤ x ∧ x < nI n) ∧ ¬ (0 ≤ y ∧ y ≤ 1000) ∧ h9 = pq_th 2 h) ∨ ((0 ≤ x ∧ x < nI n) ∧ (0 ≤ y ∧ y ≤ 1000) ∧ ∃ i y9, x = nI i ∧ i < n ∧ y = nI y9 ∧ y9 ≤ 1000 ∧ pq_but [116, 119] h h9 ∧ h9 119 = upd (h 119) i (nI y9) ∧ h9 116 0 = 0 ∧ ∀ j, j ≠ 0 → h9 116 j = h 116 j)) s.heap.size) (pq_Qx g (pq_no) s.heap.size) [.ref (g.2.2 116), .int x, .int y].toArray s 0 0 (pq_A g s.heap.size)) g 0 0 h 30 [some (.ref (g.2.2 116)), some (.int x), some (.int y)] [.int b, .int a, .ref (g.2.2 116)] := by
    intro a b ha hb
    refine vv_iconst cx dM_price_30 (v := 0) (by decide) (pc' := 31) rfl ?_
    refine vv_iconst cx dM_price_31 (v := 0) (by decide) (pc' := 32) rfl ?_
    refine cc_Vi cx hX (tM_throwing l g h a b 0 0) kM_throwing ww_611 rfl rfl ⟨Nat.le_of_ble_eq_true rfl, Nat.le_of_ble_eq_true rfl⟩ 116 (by decide) sh_116 rfl rfl rfl rfl (Nat.le_of_ble_eq_true rfl) rfl ⟨Nat.le_of_ble_eq_true rfl, Nat.le_of_ble_eq_true rfl⟩ dM_price_32 (pc' := 35) rfl (fun _ _ q => q.elim) (fun r32 h32 q32 => ?_)
    obtain ⟨rfl, q9⟩ := q32
    refine vv_if_eq cx dM_price_35 (tgt := 39) (by decide) (pc' := 38) rfl (fun c35 => ?_) (fun c35 => ?_)
    · obtain ⟨hz1, hz2, -⟩ := pq_thr_all (q9.nt c35)
      subst hz1 hz2
      have hix := ha.nt rfl
      have hiy := hb.nt rfl
      obtain ⟨i, hi, hxi⟩ := pq_idx hix.1 hix.2 (by omega)
      obtain ⟨y9, hy9, hyi⟩ := pq_rng (n := 1000) (M := 1000) rfl hiy.1 hiy.2
      rw [pq_thr0, show va_up h 116 (upd (h 116) 0 0) = pq_th 0 h from rfl]
      refine vv_aload_n cx dM_price_39 rfl rfl (pc' := 40) rfl ?_
      refine vv_getR cx (C := RM) (T := TM) (NN := 15) 116 5 _ (by decide) sh_116 rfl rfl (by decide) lyM ww_559 dM_price_40 (pc' := 43) rfl ?_
      refine vv_iload_n cx dM_price_43 rfl rfl (pc' := 44) rfl ?_
      refine vv_iload_n cx dM_price_44 rfl rfl (pc' := 45) rfl ?_
      refine vv_iast cx _ (by decide) sh_119 (pq_in5 hxi (by omega)) dM_price_45 (pc' := 46) rfl ?_
      rw [pq_clN hxi (by omega)]
      refine vv_vret cx hr hlocks dM_price_46 (Nat.le_of_ble_eq_true rfl) (Nat.le_of_ble_eq_true rfl) ?_
      refine Or.inr (Or.inr ⟨hix, hiy, i, y9, hxi, hi, hyi, hy9, fun k hk => ?_, ?_, ?_, fun j j0 => ?_⟩)
      · simp at hk
        rw [va_up_ne _ _ hk.2, pq_th_ne hk.1]
      · rw [va_up_self, pq_th_ne (by decide), hyi]
      · rw [va_up_ne _ _ (by decide), pq_th_0]
      · rw [va_up_ne _ _ (by decide), pq_th_j j0]
    · refine vv_vret cx hr hlocks dM_price_38 (Nat.le_of_ble_eq_true rfl) (Nat.le_of_ble_eq_true rfl) ?_
      by_cases hz : a = 0
      · subst hz
        have hbz : ¬ b = 0 := fun q => absurd (q9.t c35) (by rw [q]; decide)
        rw [pq_thr2 hbz]
        exact Or.inr (Or.inl ⟨ha.nt rfl, hb.t hbz, rfl⟩)
      · rw [pq_thr1 hz]
        exact Or.inl ⟨ha.t hz, rfl⟩
  have ph1 : ∀ a : Int32, pq_fl a (¬ (0 ≤ x ∧ x < nI n)) →  VV p l e rM_price s m [.ref (g.2.2 116), .int x, .int y].toArray below meth c (vx_MQ below (pq_Qv g (fun h9 => (¬ (0 ≤ x ∧ x < nI n) ∧ h9 = pq_th 1 h) ∨ ((0 ≤ x ∧ x < nI n) ∧ ¬ (0 ≤ y ∧ y ≤ 1000) ∧ h9 = pq_th 2 h) ∨ ((0 ≤ x ∧ x < nI n) ∧ (0 ≤ y ∧ y ≤ 1000) ∧ ∃ i y9, x = nI i ∧ i < n ∧ y = nI y9 ∧ y9 ≤ 1000 ∧ pq_but [116, 119] h h9 ∧ h9 119 = upd (h 119) i (nI y9) ∧ h9 116 0 = 0 ∧ ∀ j, j ≠ 0 → h9 116 j = h 116 j)) s.heap.size) (pq_Qx g (pq_no) s.heap.size) [.ref (g.2.2 116), .int x, .int y].toArray s 0 0 (pq_A g s.heap.size)) g 0 0 h 14 [some (.ref (g.2.2 116)), some (.int x), some (.int y)] [.int a, .ref (g.2.2 116)] := by
    intro a ha
    refine vv_iload_n cx dM_price_14 rfl rfl (pc' := 15) rfl ?_
    refine vv_iconst cx dM_price_15 (v := 0) (by decide) (pc' := 16) rfl ?_
    refine vv_sipush cx dM_price_16 (v := 1000) (by decide) (pc' := 19) rfl ?_
    refine cc_Si cx hX (tM_in l g h y 0 1000) kM_in ww_608 rfl rfl ⟨Nat.le_of_ble_eq_true rfl, Nat.le_of_ble_eq_true rfl⟩ rfl rfl (Nat.le_of_ble_eq_true rfl) rfl ⟨Nat.le_of_ble_eq_true rfl, Nat.le_of_ble_eq_true rfl⟩ dM_price_19 (pc' := 22) rfl (fun _ _ q => q.elim) (fun r19 h19 q19 => ?_)
    obtain ⟨rfl, q9⟩ := q19
    refine vv_if_ne cx dM_price_22 (tgt := 29) (by decide) (pc' := 25) rfl (fun c22 => ?_) (fun c22 => ?_)
    · refine vv_iconst cx dM_price_29 (v := 0) (by decide) (pc' := 30) rfl ?_
      first | exact ph2 a 1 ha (Or.inl ⟨rfl, q9.f c22⟩) | exact ph2 a 0 ha (Or.inr ⟨rfl, fun z => z (q9.t c22)⟩)
    · refine vv_iconst cx dM_price_25 (v := 1) (by decide) (pc' := 26) rfl ?_
      refine vv_goto cx dM_price_26 (tgt := 30) (by decide) ?_
      first | exact ph2 a 1 ha (Or.inl ⟨rfl, q9.f c22⟩) | exact ph2 a 0 ha (Or.inr ⟨rfl, fun z => z (q9.t c22)⟩)
  refine vv_aload_n cx dM_price_0 rfl rfl (pc' := 1) rfl ?_
  refine vv_aload_n cx dM_price_1 rfl rfl (pc' := 2) rfl ?_
  refine vv_iload_n cx dM_price_2 rfl rfl (pc' := 3) rfl ?_
  refine cc_Vi cx hX (tM_isOrder l g h x hs) kM_isOrder ww_627 rfl rfl ⟨Nat.le_of_ble_eq_true rfl, Nat.le_of_ble_eq_true rfl⟩ 116 (by decide) sh_116 rfl rfl rfl rfl (Nat.le_of_ble_eq_true rfl) rfl ⟨Nat.le_of_ble_eq_true rfl, Nat.le_of_ble_eq_true rfl⟩ dM_price_3 (pc' := 6) rfl (fun _ _ q => q.elim) (fun r3 h3 q3 => ?_)
  obtain ⟨rfl, q3⟩ := q3
  refine vv_if_ne cx dM_price_6 (tgt := 13) (by decide) (pc' := 9) rfl (fun c6 => ?_) (fun c6 => ?_)
  · refine vv_iconst cx dM_price_13 (v := 0) (by decide) (pc' := 14) rfl ?_
    first | exact ph1 1 (Or.inl ⟨rfl, q3.f c6⟩) | exact ph1 0 (Or.inr ⟨rfl, fun z => z (q3.t c6)⟩)
  · refine vv_iconst cx dM_price_9 (v := 1) (by decide) (pc' := 10) rfl ?_
    refine vv_goto cx dM_price_10 (tgt := 14) (by decide) ?_
    first | exact ph1 1 (Or.inl ⟨rfl, q3.f c6⟩) | exact ph1 0 (Or.inr ⟨rfl, fun z => z (q3.t c6)⟩)

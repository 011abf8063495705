/-! part 15: the face's methods, first half -/
theorem pq_idx {x : Int32} {n : Nat} (h0 : 0 ≤ x) (h1 : x < nI n) (hn : n < 2 ^ 31) : ∃ i, i < n ∧ x = nI i := by
  rcases pk_ix x hn with q | q | q
  · exact absurd h0 (Int32.not_le.mpr q)
  · exact absurd h1 (Int32.not_lt.mpr q)
  · exact q
theorem pq_rng {x M : Int32} {n : Nat} (hM : M.toInt = n) (h0 : 0 ≤ x) (h1 : x ≤ M) : ∃ j, j ≤ n ∧ x = nI j := nI_of2 hM (Int32.not_lt.mpr h0) h1
theorem pq_col_bd {W n : Nat} {w nm pr : Nat → Nat} (hn : n ≤ 5) (hb : ∀ i, i < 5 → nm i ≤ 6 ∧ pr i ≤ 1000) : (pq_col W n w nm pr).1 ≤ 30000 := by
  have key : ∀ (f : Nat) (cur : Option (Nat → Nat)) (s : Nat) (p : Nat → Nat), s ≤ 30000 → (∀ b, cur = some b → pq_pat W n w nm b) → (pq_colL W n w nm pr f cur s p).1 ≤ 30000 := by
    intro f
    induction f with
    | zero => intro cur s p hs _; exact hs
    | succ f ih =>
      intro cur s p hs hc
      cases cur with
      | none => exact hs
      | some b =>
        have hp := hc b rfl
        have hx := fun b2 (q : pq_next W n w nm b 5 (n - 1) = some b2) => pq_next_pat hp (by omega) q
        show (if s < pq_price n pr b then pq_colL W n w nm pr f _ (pq_price n pr b) b else pq_colL W n w nm pr f _ s p).1 ≤ 30000
        split
        · exact ih _ _ _ (pq_price_bd hn hp hb) hx
        · exact ih _ _ _ hs hx
  exact key _ _ _ _ (pq_price_bd hn pq_first_pat hb) (fun b q => pq_next_pat pq_first_pat (by omega) q)
set_option maxRecDepth 100000 in
set_option maxHeartbeats 4000000 in
theorem tP_sheet (l : Launch) (hl : l.stackTraces = false) (g : pq_G) (h : pq_H) (x : Int32) : XV l yP_sheet wP_sheet rP_sheet g 1 6 [.ref (g.2.2 0), .int x] h (fun h9 => (1 ≤ x ∧ x ≤ 1000) ∧ pq_but [1, 2, 3] h h9 ∧ h9 1 = upd (h 1) 0 x ∧ h9 2 4 = 0 ∧ (∀ j, j ≠ 4 → h9 2 j = h 2 j) ∧ h9 3 5 = -1 ∧ h9 3 6 = 0) (fun E h9 => E = xIAE ∧ h9 = h ∧ ¬ (1 ≤ x ∧ x ≤ 1000)) := by
  refine XV.of (cc := cP_sheet) (maxL := 2) (ret := none) (by decide +kernel) (by simp [Value.category]) (Nat.le_of_ble_eq_true rfl) ?_
  intro p e s m below meth c cx hX hr hlocks hex
  refine vv_iload_n cx dP_sheet_0 rfl rfl (pc' := 1) rfl ?_
  refine vv_iconst cx dP_sheet_1 (v := 1) (by decide) (pc' := 2) rfl ?_
  refine vv_icmp_lt cx dP_sheet_2 (tgt := 12) (by decide) (pc' := 5) rfl (fun c2 => ?_) (fun c2 => ?_)
  · refine vv_throw cx hX hl hex hlocks (cls := "java/lang/IllegalArgumentException") (text := "no such width of sheets") (names := ["java/lang/RuntimeException", "java/lang/Exception"]) (by decide +kernel) (by decide +kernel) ww_221 ww_10 thIAE_at thIAE_good (by decide +kernel) dP_sheet_12 dP_sheet_15 dP_sheet_16 dP_sheet_18 dP_sheet_21 rfl (Nat.le_of_ble_eq_true rfl) (Nat.le_of_ble_eq_true rfl) (Nat.le_of_ble_eq_true rfl) (Nat.le_of_ble_eq_true rfl) (Nat.le_of_ble_eq_true rfl) (Nat.le_of_ble_eq_true rfl) ?_
    first | exact ⟨rfl, rfl, fun q => absurd q.1 (Int32.not_le.mpr c2)⟩ | exact ⟨rfl, rfl, fun q => absurd q.2 c9⟩
  · refine vv_iload_n cx dP_sheet_5 rfl rfl (pc' := 6) rfl ?_
    refine vv_sipush cx dP_sheet_6 (v := 1000) (by decide) (pc' := 9) rfl ?_
    refine vv_icmp_le cx dP_sheet_9 (tgt := 22) (by decide) (pc' := 12) rfl (fun c9 => ?_) (fun c9 => ?_)
    · refine vv_aload_n cx dP_sheet_22 rfl rfl (pc' := 23) rfl ?_
      refine vv_getR cx (C := RP) (T := TP) (NN := 4) 0 0 _ (by decide) sh_0 rfl rfl (by decide) lyP ww_142 dP_sheet_23 (pc' := 26) rfl ?_
      refine vv_iload_n cx dP_sheet_26 rfl rfl (pc' := 27) rfl ?_
      refine vv_putI cx (C := RS) (T := TS) (NN := 5) 1 0 (by decide) sh_1 rfl rfl (by decide) lyS tyS tyS_ok nmS rfl rfl rfl ww_31 dP_sheet_27 (pc' := 30) rfl ?_
      refine vv_aload_n cx dP_sheet_30 rfl rfl (pc' := 31) rfl ?_
      refine cc_Vv cx hX (tP_forgetAnswers l g _) kP_forgetAnswers ww_290 rfl rfl ⟨Nat.le_of_ble_eq_true rfl, Nat.le_of_ble_eq_true rfl⟩ 0 (by decide) sh_0 rfl rfl rfl rfl (Nat.le_of_ble_eq_true rfl) rfl ⟨Nat.le_of_ble_eq_true rfl, Nat.le_of_ble_eq_true rfl⟩ dP_sheet_31 (pc' := 34) rfl (fun _ _ q => q.elim) (fun h31 q31 => ?_)
      refine vv_vret cx hr hlocks dP_sheet_34 (Nat.le_of_ble_eq_true rfl) (Nat.le_of_ble_eq_true rfl) ?_
      obtain ⟨f1, f2, f3, f4, f5⟩ := q31
      refine ⟨⟨Int32.not_lt.mp c2, c9⟩, (pq_but.up (by decide)).trans (f1.mono (by decide)), ?_, f2, fun j hj => ?_, f4, f5⟩
      · rw [f1 1 (by decide), va_up_self]
      · rw [f3 j hj, va_up_ne _ _ (by decide)]
    · refine vv_throw cx hX hl hex hlocks (cls := "java/lang/IllegalArgumentException") (text := "no such width of sheets") (names := ["java/lang/RuntimeException", "java/lang/Exception"]) (by decide +kernel) (by decide +kernel) ww_221 ww_10 thIAE_at thIAE_good (by decide +kernel) dP_sheet_12 dP_sheet_15 dP_sheet_16 dP_sheet_18 dP_sheet_21 rfl (Nat.le_of_ble_eq_true rfl) (Nat.le_of_ble_eq_true rfl) (Nat.le_of_ble_eq_true rfl) (Nat.le_of_ble_eq_true rfl) (Nat.le_of_ble_eq_true rfl) (Nat.le_of_ble_eq_true rfl) ?_
      first | exact ⟨rfl, rfl, fun q => absurd q.1 (Int32.not_le.mpr c2)⟩ | exact ⟨rfl, rfl, fun q => absurd q.2 c9⟩
set_option maxRecDepth 100000 in
set_option maxHeartbeats 4000000 in
theorem tP_order (l : Launch) (hl : l.stackTraces = false) (g : pq_G) (h : pq_H) {W n : Nat} {w nm pr : Nat → Nat} (x y : Int32) (hs : pq_st h W n w nm pr) : XI l yP_order wP_order rP_order g 1 6 [.ref (g.2.2 0), .int x, .int y] h (fun r h9 => ∃ x9 y9, x = nI x9 ∧ y = nI y9 ∧ n < 5 ∧ (1 ≤ x9 ∧ x9 ≤ 1000) ∧ y9 ≤ 6 ∧ r = nI n ∧ pq_but [1, 2, 3, 8, 9, 10] h h9 ∧ pq_st h9 W (n + 1) (va_up w n x9) (va_up nm n y9) (va_up pr n 0) ∧ h9 2 4 = 0 ∧ (∀ j, j ≠ 4 → h9 2 j = h 2 j) ∧ h9 3 5 = -1 ∧ h9 3 6 = 0) (fun E h9 => h9 = h ∧ ((E = xISE ∧ n = 5) ∨ (E = xIAE ∧ n < 5 ∧ ¬ (1 ≤ x ∧ x ≤ 1000 ∧ 0 ≤ y ∧ y ≤ 6)))) := by
  refine XI.of (cc := cP_order) (maxL := 4) (ret := (some .int)) (by decide +kernel) (by simp [Value.category]) (Nat.le_of_ble_eq_true rfl) ?_
  intro p e s m below meth c cx hX hr hlocks hex
  have hn5 := hs.2.1.2.2
  refine vv_aload_n cx dP_order_0 rfl rfl (pc' := 1) rfl ?_
  refine vv_getR cx (C := RP) (T := TP) (NN := 4) 0 0 _ (by decide) sh_0 rfl rfl (by decide) lyP ww_142 dP_order_1 (pc' := 4) rfl ?_
  refine vv_getI cx (C := RS) (T := TS) (NN := 5) 1 1 (by decide) sh_1 rfl rfl (by decide) lyS ww_33 dP_order_4 (pc' := 7) rfl ?_
  refine vv_iconst cx dP_order_7 (v := 5) (by decide) (pc' := 8) rfl ?_
  rw [hs.1.2.1]
  refine vv_icmp_lt cx dP_order_8 (tgt := 21) (by decide) (pc' := 11) rfl (fun c8 => ?_) (fun c8 => ?_)
  · have hlt : n < 5 := Nat.lt_of_not_le (fun q => nI_nlt (a := n) (b := 5) q (by omega) c8)
    refine vv_iload_n cx dP_order_21 rfl rfl (pc' := 22) rfl ?_
    refine vv_iconst cx dP_order_22 (v := 1) (by decide) (pc' := 23) rfl ?_
    refine vv_icmp_lt cx dP_order_23 (tgt := 33) (by decide) (pc' := 26) rfl (fun c23 => ?_) (fun c23 => ?_)
    · refine vv_throw cx hX hl hex hlocks (cls := "java/lang/IllegalArgumentException") (text := "no such width of pieces") (names := ["java/lang/RuntimeException", "java/lang/Exception"]) (by decide +kernel) (by decide +kernel) ww_221 ww_10 thIAE_at thIAE_good (by decide +kernel) dP_order_33 dP_order_36 dP_order_37 dP_order_39 dP_order_42 rfl (Nat.le_of_ble_eq_true rfl) (Nat.le_of_ble_eq_true rfl) (Nat.le_of_ble_eq_true rfl) (Nat.le_of_ble_eq_true rfl) (Nat.le_of_ble_eq_true rfl) (Nat.le_of_ble_eq_true rfl) ?_
      first | exact ⟨rfl, Or.inr ⟨rfl, hlt, fun q => absurd q.1 (Int32.not_le.mpr c23)⟩⟩ | exact ⟨rfl, Or.inr ⟨rfl, hlt, fun q => absurd q.2.1 c30⟩⟩
    · refine vv_iload_n cx dP_order_26 rfl rfl (pc' := 27) rfl ?_
      refine vv_sipush cx dP_order_27 (v := 1000) (by decide) (pc' := 30) rfl ?_
      refine vv_icmp_le cx dP_order_30 (tgt := 43) (by decide) (pc' := 33) rfl (fun c30 => ?_) (fun c30 => ?_)
      · refine vv_iload_n cx dP_order_43 rfl rfl (pc' := 44) rfl ?_
        refine vv_if_lt cx dP_order_44 (tgt := 53) (by decide) (pc' := 47) rfl (fun c44 => ?_) (fun c44 => ?_)
        · refine vv_throw cx hX hl hex hlocks (cls := "java/lang/IllegalArgumentException") (text := "no such number of pieces") (names := ["java/lang/RuntimeException", "java/lang/Exception"]) (by decide +kernel) (by decide +kernel) ww_221 ww_10 thIAE_at thIAE_good (by decide +kernel) dP_order_53 dP_order_56 dP_order_57 dP_order_59 dP_order_62 rfl (Nat.le_of_ble_eq_true rfl) (Nat.le_of_ble_eq_true rfl) (Nat.le_of_ble_eq_true rfl) (Nat.le_of_ble_eq_true rfl) (Nat.le_of_ble_eq_true rfl) (Nat.le_of_ble_eq_true rfl) ?_
          first | exact ⟨rfl, Or.inr ⟨rfl, hlt, fun q => absurd q.2.2.1 (Int32.not_le.mpr c44)⟩⟩ | exact ⟨rfl, Or.inr ⟨rfl, hlt, fun q => absurd q.2.2.2 c50⟩⟩
        · refine vv_iload_n cx dP_order_47 rfl rfl (pc' := 48) rfl ?_
          refine vv_bipush cx dP_order_48 (v := 6) (by decide) (pc' := 50) rfl ?_
          refine vv_icmp_le cx dP_order_50 (tgt := 63) (by decide) (pc' := 53) rfl (fun c50 => ?_) (fun c50 => ?_)
          · obtain ⟨x9, hx9, rfl⟩ := pq_rng (n := 1000) (M := 1000) rfl (Int32.le_trans (by decide) (Int32.not_lt.mp c23)) c30
            obtain ⟨y9, hy9, rfl⟩ := pq_rng (n := 6) (M := 6) rfl (Int32.not_lt.mp c44) c50
            have hx1 : 1 ≤ x9 := Nat.le_of_not_lt (fun q => c23 (nI_lt (b := 1) q (by decide)))
            refine vv_aload_n cx dP_order_63 rfl rfl (pc' := 64) rfl ?_
            refine vv_getR cx (C := RP) (T := TP) (NN := 4) 0 0 _ (by decide) sh_0 rfl rfl (by decide) lyP ww_142 dP_order_64 (pc' := 67) rfl ?_
            refine vv_iload_n cx dP_order_67 rfl rfl (pc' := 68) rfl ?_
            refine vv_iload_n cx dP_order_68 rfl rfl (pc' := 69) rfl ?_
            refine cc_Vi cx hX (tS_add l g h x9 y9 hs hlt ⟨hx1, hx9⟩ hy9) kS_add ww_328 rfl rfl ⟨Nat.le_of_ble_eq_true rfl, Nat.le_of_ble_eq_true rfl⟩ 1 (by decide) sh_1 rfl rfl rfl rfl (Nat.le_of_ble_eq_true rfl) rfl ⟨Nat.le_of_ble_eq_true rfl, Nat.le_of_ble_eq_true rfl⟩ dP_order_69 (pc' := 72) rfl (fun _ _ q => q.elim) (fun r69 h69 q69 => ?_)
            obtain ⟨rfl, g1, g2⟩ := q69
            refine vv_istore_n cx dP_order_72 rfl (Nat.le_of_ble_eq_true rfl) (pc' := 73) rfl ?_
            refine vv_aload_n cx dP_order_73 rfl rfl (pc' := 74) rfl ?_
            refine cc_Vv cx hX (tP_forgetAnswers l g _) kP_forgetAnswers ww_290 rfl rfl ⟨Nat.le_of_ble_eq_true rfl, Nat.le_of_ble_eq_true rfl⟩ 0 (by decide) sh_0 rfl rfl rfl rfl (Nat.le_of_ble_eq_true rfl) rfl ⟨Nat.le_of_ble_eq_true rfl, Nat.le_of_ble_eq_true rfl⟩ dP_order_74 (pc' := 77) rfl (fun _ _ q => q.elim) (fun h74 q74 => ?_)
            refine vv_iload_n cx dP_order_77 rfl rfl (pc' := 78) rfl ?_
            refine vv_iret cx hr hlocks dP_order_78 (Nat.le_of_ble_eq_true rfl) (Nat.le_of_ble_eq_true rfl) ?_
            obtain ⟨f1, f2, f3, f4, f5⟩ := q74
            refine ⟨x9, y9, rfl, rfl, hlt, ⟨hx1, hx9⟩, hy9, rfl, (g1.mono (by decide)).trans (f1.mono (by decide)), g2.but f1 (by decide), f2, fun j hj => ?_, f4, f5⟩
            rw [f3 j hj, g1 2 (by decide)]
          · refine vv_throw cx hX hl hex hlocks (cls := "java/lang/IllegalArgumentException") (text := "no such number of pieces") (names := ["java/lang/RuntimeException", "java/lang/Exception"]) (by decide +kernel) (by decide +kernel) ww_221 ww_10 thIAE_at thIAE_good (by decide +kernel) dP_order_53 dP_order_56 dP_order_57 dP_order_59 dP_order_62 rfl (Nat.le_of_ble_eq_true rfl) (Nat.le_of_ble_eq_true rfl) (Nat.le_of_ble_eq_true rfl) (Nat.le_of_ble_eq_true rfl) (Nat.le_of_ble_eq_true rfl) (Nat.le_of_ble_eq_true rfl) ?_
            first | exact ⟨rfl, Or.inr ⟨rfl, hlt, fun q => absurd q.2.2.1 (Int32.not_le.mpr c44)⟩⟩ | exact ⟨rfl, Or.inr ⟨rfl, hlt, fun q => absurd q.2.2.2 c50⟩⟩
      · refine vv_throw cx hX hl hex hlocks (cls := "java/lang/IllegalArgumentException") (text := "no such width of pieces") (names := ["java/lang/RuntimeException", "java/lang/Exception"]) (by decide +kernel) (by decide +kernel) ww_221 ww_10 thIAE_at thIAE_good (by decide +kernel) dP_order_33 dP_order_36 dP_order_37 dP_order_39 dP_order_42 rfl (Nat.le_of_ble_eq_true rfl) (Nat.le_of_ble_eq_true rfl) (Nat.le_of_ble_eq_true rfl) (Nat.le_of_ble_eq_true rfl) (Nat.le_of_ble_eq_true rfl) (Nat.le_of_ble_eq_true rfl) ?_
        first | exact ⟨rfl, Or.inr ⟨rfl, hlt, fun q => absurd q.1 (Int32.not_le.mpr c23)⟩⟩ | exact ⟨rfl, Or.inr ⟨rfl, hlt, fun q => absurd q.2.1 c30⟩⟩
  · refine vv_throw cx hX hl hex hlocks (cls := "java/lang/IllegalStateException") (text := "there are five orders") (names := ["java/lang/RuntimeException", "java/lang/Exception"]) (by decide +kernel) (by decide +kernel) ww_310 ww_11 thISE_at thISE_good (by decide +kernel) dP_order_11 dP_order_14 dP_order_15 dP_order_17 dP_order_20 rfl (Nat.le_of_ble_eq_true rfl) (Nat.le_of_ble_eq_true rfl) (Nat.le_of_ble_eq_true rfl) (Nat.le_of_ble_eq_true rfl) (Nat.le_of_ble_eq_true rfl) (Nat.le_of_ble_eq_true rfl) ?_
    exact ⟨rfl, Or.inl ⟨rfl, by have := Nat.le_of_not_lt (fun q => c8 (nI_lt (b := 5) q (by decide))); omega⟩⟩
set_option maxRecDepth 100000 in
set_option maxHeartbeats 4000000 in
theorem tP_pieces (l : Launch) (hl : l.stackTraces = false) (g : pq_G) (h : pq_H) {W n : Nat} {w nm pr : Nat → Nat} (x y : Int32) (hs : pq_st h W n w nm pr) : XV l yP_pieces wP_pieces rP_pieces g 1 6 [.ref (g.2.2 0), .int x, .int y] h (fun h9 => ∃ i y9, x = nI i ∧ i < n ∧ y = nI y9 ∧ y9 ≤ 6 ∧ pq_but [2, 3, 9] h h9 ∧ h9 9 = upd (h 9) i (nI y9) ∧ h9 2 4 = 0 ∧ (∀ j, j ≠ 4 → h9 2 j = h 2 j) ∧ h9 3 5 = -1 ∧ h9 3 6 = 0) (fun E h9 => h9 = h ∧ ((E = xIOE ∧ ¬ (0 ≤ x ∧ x < nI n)) ∨ (E = xIAE ∧ (0 ≤ x ∧ x < nI n) ∧ ¬ (0 ≤ y ∧ y ≤ 6)))) := by
  refine XV.of (cc := cP_pieces) (maxL := 3) (ret := none) (by decide +kernel) (by simp [Value.category]) (Nat.le_of_ble_eq_true rfl) ?_
  intro p e s m below meth c cx hX hr hlocks hex
  have hn5 := hs.2.1.2.2
  have hn := hs.1.2.1
  refine vv_aload_n cx dP_pieces_0 rfl rfl (pc' := 1) rfl ?_
  refine vv_getR cx (C := RP) (T := TP) (NN := 4) 0 0 _ (by decide) sh_0 rfl rfl (by decide) lyP ww_142 dP_pieces_1 (pc' := 4) rfl ?_
  refine vv_iload_n cx dP_pieces_4 rfl rfl (pc' := 5) rfl ?_
  refine cc_Vi cx hX (tS_has l g h x) kS_has ww_340 rfl rfl ⟨Nat.le_of_ble_eq_true rfl, Nat.le_of_ble_eq_true rfl⟩ 1 (by decide) sh_1 rfl rfl rfl rfl (Nat.le_of_ble_eq_true rfl) rfl ⟨Nat.le_of_ble_eq_true rfl, Nat.le_of_ble_eq_true rfl⟩ dP_pieces_5 (pc' := 8) rfl (fun _ _ q => q.elim) (fun r5 h5 q5 => ?_)
  obtain ⟨rfl, q5⟩ := q5
  rw [hn] at q5
  refine vv_if_ne cx dP_pieces_8 (tgt := 21) (by decide) (pc' := 11) rfl (fun c8 => ?_) (fun c8 => ?_)
  · have hix : 0 ≤ x ∧ x < nI n := by rcases q5 with q | q; exact q.2; exact absurd q.1 c8
    obtain ⟨i, hi, hxi⟩ := pq_idx hix.1 hix.2 (by omega)
    refine vv_iload_n cx dP_pieces_21 rfl rfl (pc' := 22) rfl ?_
    refine vv_if_lt cx dP_pieces_22 (tgt := 31) (by decide) (pc' := 25) rfl (fun c22 => ?_) (fun c22 => ?_)
    · refine vv_throw cx hX hl hex hlocks (cls := "java/lang/IllegalArgumentException") (text := "no such number of pieces") (names := ["java/lang/RuntimeException", "java/lang/Exception"]) (by decide +kernel) (by decide +kernel) ww_221 ww_10 thIAE_at thIAE_good (by decide +kernel) dP_pieces_31 dP_pieces_34 dP_pieces_35 dP_pieces_37 dP_pieces_40 rfl (Nat.le_of_ble_eq_true rfl) (Nat.le_of_ble_eq_true rfl) (Nat.le_of_ble_eq_true rfl) (Nat.le_of_ble_eq_true rfl) (Nat.le_of_ble_eq_true rfl) (Nat.le_of_ble_eq_true rfl) ?_
      first | exact ⟨rfl, Or.inr ⟨rfl, hix, fun q => absurd q.1 (Int32.not_le.mpr c22)⟩⟩ | exact ⟨rfl, Or.inr ⟨rfl, hix, fun q => absurd q.2 c28⟩⟩
    · refine vv_iload_n cx dP_pieces_25 rfl rfl (pc' := 26) rfl ?_
      refine vv_bipush cx dP_pieces_26 (v := 6) (by decide) (pc' := 28) rfl ?_
      refine vv_icmp_le cx dP_pieces_28 (tgt := 41) (by decide) (pc' := 31) rfl (fun c28 => ?_) (fun c28 => ?_)
      · obtain ⟨y9, hy9, rfl⟩ := pq_rng (n := 6) (M := 6) rfl (Int32.not_lt.mp c22) c28
        refine vv_aload_n cx dP_pieces_41 rfl rfl (pc' := 42) rfl ?_
        refine vv_getR cx (C := RP) (T := TP) (NN := 4) 0 0 _ (by decide) sh_0 rfl rfl (by decide) lyP ww_142 dP_pieces_42 (pc' := 45) rfl ?_
        refine vv_getR cx (C := RS) (T := TS) (NN := 5) 1 3 _ (by decide) sh_1 rfl rfl (by decide) lyS ww_39 dP_pieces_45 (pc' := 48) rfl ?_
        refine vv_iload_n cx dP_pieces_48 rfl rfl (pc' := 49) rfl ?_
        refine vv_iload_n cx dP_pieces_49 rfl rfl (pc' := 50) rfl ?_
        refine vv_iast cx _ (by decide) sh_9 (pq_in5 hxi (by omega)) dP_pieces_50 (pc' := 51) rfl ?_
        refine vv_aload_n cx dP_pieces_51 rfl rfl (pc' := 52) rfl ?_
        refine cc_Vv cx hX (tP_forgetAnswers l g _) kP_forgetAnswers ww_290 rfl rfl ⟨Nat.le_of_ble_eq_true rfl, Nat.le_of_ble_eq_true rfl⟩ 0 (by decide) sh_0 rfl rfl rfl rfl (Nat.le_of_ble_eq_true rfl) rfl ⟨Nat.le_of_ble_eq_true rfl, Nat.le_of_ble_eq_true rfl⟩ dP_pieces_52 (pc' := 55) rfl (fun _ _ q => q.elim) (fun h52 q52 => ?_)
        refine vv_vret cx hr hlocks dP_pieces_55 (Nat.le_of_ble_eq_true rfl) (Nat.le_of_ble_eq_true rfl) ?_
        obtain ⟨f1, f2, f3, f4, f5⟩ := q52
        refine ⟨i, y9, hxi, hi, rfl, hy9, (pq_but.up (by decide)).trans (f1.mono (by decide)), ?_, f2, fun j hj => ?_, f4, f5⟩
        · rw [f1 9 (by decide), va_up_self, pq_clN hxi (by omega)]
        · rw [f3 j hj, va_up_ne _ _ (by decide)]
      · refine vv_throw cx hX hl hex hlocks (cls := "java/lang/IllegalArgumentException") (text := "no such number of pieces") (names := ["java/lang/RuntimeException", "java/lang/Exception"]) (by decide +kernel) (by decide +kernel) ww_221 ww_10 thIAE_at thIAE_good (by decide +kernel) dP_pieces_31 dP_pieces_34 dP_pieces_35 dP_pieces_37 dP_pieces_40 rfl (Nat.le_of_ble_eq_true rfl) (Nat.le_of_ble_eq_true rfl) (Nat.le_of_ble_eq_true rfl) (Nat.le_of_ble_eq_true rfl) (Nat.le_of_ble_eq_true rfl) (Nat.le_of_ble_eq_true rfl) ?_
        first | exact ⟨rfl, Or.inr ⟨rfl, hix, fun q => absurd q.1 (Int32.not_le.mpr c22)⟩⟩ | exact ⟨rfl, Or.inr ⟨rfl, hix, fun q => absurd q.2 c28⟩⟩
  · refine vv_throw cx hX hl hex hlocks (cls := "java/lang/IndexOutOfBoundsException") (text := "no such order") (names := ["java/lang/RuntimeException", "java/lang/Exception"]) (by decide +kernel) (by decide +kernel) ww_344 ww_12 thIOE_at thIOE_good (by decide +kernel) dP_pieces_11 dP_pieces_14 dP_pieces_15 dP_pieces_17 dP_pieces_20 rfl (Nat.le_of_ble_eq_true rfl) (Nat.le_of_ble_eq_true rfl) (Nat.le_of_ble_eq_true rfl) (Nat.le_of_ble_eq_true rfl) (Nat.le_of_ble_eq_true rfl) (Nat.le_of_ble_eq_true rfl) ?_
    rcases q5 with q | q
    · exact absurd c8 (by rw [q.1]; decide)
    · exact ⟨rfl, Or.inl ⟨rfl, q.2⟩⟩
set_option maxRecDepth 100000 in
set_option maxHeartbeats 4000000 in
theorem tP_price (l : Launch) (hl : l.stackTraces = false) (g : pq_G) (h : pq_H) {W n : Nat} {w nm pr : Nat → Nat} (x y : Int32) (hs : pq_st h W n w nm pr) : XV l yP_price wP_price rP_price g 1 6 [.ref (g.2.2 0), .int x, .int y] h (fun h9 => ∃ i y9, x = nI i ∧ i < n ∧ y = nI y9 ∧ y9 ≤ 1000 ∧ pq_but [2, 10] h h9 ∧ h9 10 = upd (h 10) i (nI y9) ∧ h9 2 4 = 0 ∧ ∀ j, j ≠ 4 → h9 2 j = h 2 j) (fun E h9 => h9 = h ∧ ((E = xIOE ∧ ¬ (0 ≤ x ∧ x < nI n)) ∨ (E = xIAE ∧ (0 ≤ x ∧ x < nI n) ∧ ¬ (0 ≤ y ∧ y ≤ 1000)))) := by
  refine XV.of (cc := cP_price) (maxL := 3) (ret := none) (by decide +kernel) (by simp [Value.category]) (Nat.le_of_ble_eq_true rfl) ?_
  intro p e s m below meth c cx hX hr hlocks hex
  have hn5 := hs.2.1.2.2
  have hn := hs.1.2.1
  refine vv_aload_n cx dP_price_0 rfl rfl (pc' := 1) rfl ?_
  refine vv_getR cx (C := RP) (T := TP) (NN := 4) 0 0 _ (by decide) sh_0 rfl rfl (by decide) lyP ww_142 dP_price_1 (pc' := 4) rfl ?_
  refine vv_iload_n cx dP_price_4 rfl rfl (pc' := 5) rfl ?_
  refine cc_Vi cx hX (tS_has l g h x) kS_has ww_340 rfl rfl ⟨Nat.le_of_ble_eq_true rfl, Nat.le_of_ble_eq_true rfl⟩ 1 (by decide) sh_1 rfl rfl rfl rfl (Nat.le_of_ble_eq_true rfl) rfl ⟨Nat.le_of_ble_eq_true rfl, Nat.le_of_ble_eq_true rfl⟩ dP_price_5 (pc' := 8) rfl (fun _ _ q => q.elim) (fun r5 h5 q5 => ?_)
  obtain ⟨rfl, q5⟩ := q5
  rw [hn] at q5
  refine vv_if_ne cx dP_price_8 (tgt := 21) (by decide) (pc' := 11) rfl (fun c8 => ?_) (fun c8 => ?_)
  · have hix : 0 ≤ x ∧ x < nI n := by rcases q5 with q | q; exact q.2; exact absurd q.1 c8
    obtain ⟨i, hi, hxi⟩ := pq_idx hix.1 hix.2 (by omega)
    refine vv_iload_n cx dP_price_21 rfl rfl (pc' := 22) rfl ?_
    refine vv_if_lt cx dP_price_22 (tgt := 32) (by decide) (pc' := 25) rfl (fun c22 => ?_) (fun c22 => ?_)
    · refine vv_throw cx hX hl hex hlocks (cls := "java/lang/IllegalArgumentException") (text := "no such price") (names := ["java/lang/RuntimeException", "java/lang/Exception"]) (by decide +kernel) (by decide +kernel) ww_221 ww_10 thIAE_at thIAE_good (by decide +kernel) dP_price_32 dP_price_35 dP_price_36 dP_price_38 dP_price_41 rfl (Nat.le_of_ble_eq_true rfl) (Nat.le_of_ble_eq_true rfl) (Nat.le_of_ble_eq_true rfl) (Nat.le_of_ble_eq_true rfl) (Nat.le_of_ble_eq_true rfl) (Nat.le_of_ble_eq_true rfl) ?_
      first | exact ⟨rfl, Or.inr ⟨rfl, hix, fun q => absurd q.1 (Int32.not_le.mpr c22)⟩⟩ | exact ⟨rfl, Or.inr ⟨rfl, hix, fun q => absurd q.2 c29⟩⟩
    · refine vv_iload_n cx dP_price_25 rfl rfl (pc' := 26) rfl ?_
      refine vv_sipush cx dP_price_26 (v := 1000) (by decide) (pc' := 29) rfl ?_
      refine vv_icmp_le cx dP_price_29 (tgt := 42) (by decide) (pc' := 32) rfl (fun c29 => ?_) (fun c29 => ?_)
      · obtain ⟨y9, hy9, rfl⟩ := pq_rng (n := 1000) (M := 1000) rfl (Int32.not_lt.mp c22) c29
        refine vv_aload_n cx dP_price_42 rfl rfl (pc' := 43) rfl ?_
        refine vv_getR cx (C := RP) (T := TP) (NN := 4) 0 0 _ (by decide) sh_0 rfl rfl (by decide) lyP ww_142 dP_price_43 (pc' := 46) rfl ?_
        refine vv_getR cx (C := RS) (T := TS) (NN := 5) 1 4 _ (by decide) sh_1 rfl rfl (by decide) lyS ww_42 dP_price_46 (pc' := 49) rfl ?_
        refine vv_iload_n cx dP_price_49 rfl rfl (pc' := 50) rfl ?_
        refine vv_iload_n cx dP_price_50 rfl rfl (pc' := 51) rfl ?_
        refine vv_iast cx _ (by decide) sh_10 (pq_in5 hxi (by omega)) dP_price_51 (pc' := 52) rfl ?_
        refine vv_aload_n cx dP_price_52 rfl rfl (pc' := 53) rfl ?_
        refine vv_getR cx (C := RP) (T := TP) (NN := 4) 0 1 _ (by decide) sh_0 rfl rfl (by decide) lyP ww_143 dP_price_53 (pc' := 56) rfl ?_
        refine cc_Vv cx hX (tD_forget l g _) kD_forget ww_294 rfl rfl ⟨Nat.le_of_ble_eq_true rfl, Nat.le_of_ble_eq_true rfl⟩ 2 (by decide) sh_2 rfl rfl rfl rfl (Nat.le_of_ble_eq_true rfl) rfl ⟨Nat.le_of_ble_eq_true rfl, Nat.le_of_ble_eq_true rfl⟩ dP_price_56 (pc' := 59) rfl (fun _ _ q => q.elim) (fun h56 q56 => ?_)
        subst q56
        refine vv_vret cx hr hlocks dP_price_59 (Nat.le_of_ble_eq_true rfl) (Nat.le_of_ble_eq_true rfl) ?_
        refine ⟨i, y9, hxi, hi, rfl, hy9, (pq_but.up (by decide)).trans (pq_but.up (by decide)), ?_, ?_, fun j hj => ?_⟩
        · rw [va_up_ne _ _ (by decide), va_up_self, pq_clN hxi (by omega)]
        · rw [va_up_self, pk_us]
        · rw [va_up_self, pk_un hj, va_up_ne _ _ (by decide)]
      · refine vv_throw cx hX hl hex hlocks (cls := "java/lang/IllegalArgumentException") (text := "no such price") (names := ["java/lang/RuntimeException", "java/lang/Exception"]) (by decide +kernel) (by decide +kernel) ww_221 ww_10 thIAE_at thIAE_good (by decide +kernel) dP_price_32 dP_price_35 dP_price_36 dP_price_38 dP_price_41 rfl (Nat.le_of_ble_eq_true rfl) (Nat.le_of_ble_eq_true rfl) (Nat.le_of_ble_eq_true rfl) (Nat.le_of_ble_eq_true rfl) (Nat.le_of_ble_eq_true rfl) (Nat.le_of_ble_eq_true rfl) ?_
        first | exact ⟨rfl, Or.inr ⟨rfl, hix, fun q => absurd q.1 (Int32.not_le.mpr c22)⟩⟩ | exact ⟨rfl, Or.inr ⟨rfl, hix, fun q => absurd q.2 c29⟩⟩
  · refine vv_throw cx hX hl hex hlocks (cls := "java/lang/IndexOutOfBoundsException") (text := "no such order") (names := ["java/lang/RuntimeException", "java/lang/Exception"]) (by decide +kernel) (by decide +kernel) ww_344 ww_12 thIOE_at thIOE_good (by decide +kernel) dP_price_11 dP_price_14 dP_price_15 dP_price_17 dP_price_20 rfl (Nat.le_of_ble_eq_true rfl) (Nat.le_of_ble_eq_true rfl) (Nat.le_of_ble_eq_true rfl) (Nat.le_of_ble_eq_true rfl) (Nat.le_of_ble_eq_true rfl) (Nat.le_of_ble_eq_true rfl) ?_
    rcases q5 with q | q
    · exact absurd c8 (by rw [q.1]; decide)
    · exact ⟨rfl, Or.inl ⟨rfl, q.2⟩⟩
set_option maxRecDepth 100000 in
set_option maxHeartbeats 4000000 in
theorem tP_column (l : Launch) (g : pq_G) (h : pq_H) {W n : Nat} {w nm pr : Nat → Nat} (hs : pq_st h W n w nm pr) (hd : pq_dn h W n w nm pr) : XI l yP_column wP_column rP_column g 0 0 [.ref (g.2.2 0)] h (fun r h9 => r = nI (pq_col W n w nm pr).1 ∧ pq_but [2, 11, 12] h h9 ∧ pq_z h9 12 n ∧ pq_dk h9 W n w nm pr) (pq_no) := by
  refine XI.of (cc := cP_column) (maxL := 1) (ret := (some .int)) (by decide +kernel) (by simp [Value.category]) (Nat.le_of_ble_eq_true rfl) ?_
  intro p e s m below meth c cx hX hr hlocks hex
  refine vv_aload_n cx dP_column_0 rfl rfl (pc' := 1) rfl ?_
  refine vv_getR cx (C := RP) (T := TP) (NN := 4) 0 1 _ (by decide) sh_0 rfl rfl (by decide) lyP ww_143 dP_column_1 (pc' := 4) rfl ?_
  refine cc_Vi cx hX (tD_priceSum l g h hs hd) kD_priceSum ww_159 rfl rfl ⟨Nat.le_of_ble_eq_true rfl, Nat.le_of_ble_eq_true rfl⟩ 2 (by decide) sh_2 rfl rfl rfl rfl (Nat.le_of_ble_eq_true rfl) rfl ⟨Nat.le_of_ble_eq_true rfl, Nat.le_of_ble_eq_true rfl⟩ dP_column_4 (pc' := 7) rfl (fun _ _ q => q.elim) (fun r4 h4 q4 => ?_)
  refine vv_iret cx hr hlocks dP_column_7 (Nat.le_of_ble_eq_true rfl) (Nat.le_of_ble_eq_true rfl) ?_
  exact q4
set_option maxRecDepth 100000 in
set_option maxHeartbeats 4000000 in
theorem tP_columnOf (l : Launch) (hl : l.stackTraces = false) (g : pq_G) (h : pq_H) {W n : Nat} {w nm pr : Nat → Nat} (x : Int32) (hs : pq_st h W n w nm pr) (hd : pq_dn h W n w nm pr) : XI l yP_columnOf wP_columnOf rP_columnOf g 1 6 [.ref (g.2.2 0), .int x] h (fun r h9 => ∃ i, x = nI i ∧ i < n ∧ r = nI ((pq_col W n w nm pr).2 i) ∧ pq_but [2, 11, 12] h h9 ∧ pq_z h9 12 n ∧ pq_dk h9 W n w nm pr) (fun E h9 => E = xIOE ∧ h9 = h ∧ ¬ (0 ≤ x ∧ x < nI n)) := by
  refine XI.of (cc := cP_columnOf) (maxL := 2) (ret := (some .int)) (by decide +kernel) (by simp [Value.category]) (Nat.le_of_ble_eq_true rfl) ?_
  intro p e s m below meth c cx hX hr hlocks hex
  have hn5 := hs.2.1.2.2
  have hn := hs.1.2.1
  refine vv_aload_n cx dP_columnOf_0 rfl rfl (pc' := 1) rfl ?_
  refine vv_getR cx (C := RP) (T := TP) (NN := 4) 0 0 _ (by decide) sh_0 rfl rfl (by decide) lyP ww_142 dP_columnOf_1 (pc' := 4) rfl ?_
  refine vv_iload_n cx dP_columnOf_4 rfl rfl (pc' := 5) rfl ?_
  refine cc_Vi cx hX (tS_has l g h x) kS_has ww_340 rfl rfl ⟨Nat.le_of_ble_eq_true rfl, Nat.le_of_ble_eq_true rfl⟩ 1 (by decide) sh_1 rfl rfl rfl rfl (Nat.le_of_ble_eq_true rfl) rfl ⟨Nat.le_of_ble_eq_true rfl, Nat.le_of_ble_eq_true rfl⟩ dP_columnOf_5 (pc' := 8) rfl (fun _ _ q => q.elim) (fun r5 h5 q5 => ?_)
  obtain ⟨rfl, q5⟩ := q5
  rw [hn] at q5
  refine vv_if_ne cx dP_columnOf_8 (tgt := 21) (by decide) (pc' := 11) rfl (fun c8 => ?_) (fun c8 => ?_)
  · have hix : 0 ≤ x ∧ x < nI n := by rcases q5 with q | q; exact q.2; exact absurd q.1 c8
    obtain ⟨i, hi, rfl⟩ := pq_idx hix.1 hix.2 (by omega)
    refine vv_aload_n cx dP_columnOf_21 rfl rfl (pc' := 22) rfl ?_
    refine vv_getR cx (C := RP) (T := TP) (NN := 4) 0 1 _ (by decide) sh_0 rfl rfl (by decide) lyP ww_143 dP_columnOf_22 (pc' := 25) rfl ?_
    refine vv_iload_n cx dP_columnOf_25 rfl rfl (pc' := 26) rfl ?_
    refine cc_Vi cx hX (tD_piecesOf l g h5 i hs hd (by omega)) kD_piecesOf ww_375 rfl rfl ⟨Nat.le_of_ble_eq_true rfl, Nat.le_of_ble_eq_true rfl⟩ 2 (by decide) sh_2 rfl rfl rfl rfl (Nat.le_of_ble_eq_true rfl) rfl ⟨Nat.le_of_ble_eq_true rfl, Nat.le_of_ble_eq_true rfl⟩ dP_columnOf_26 (pc' := 29) rfl (fun _ _ q => q.elim) (fun r26 h26 q26 => ?_)
    refine vv_iret cx hr hlocks dP_columnOf_29 (Nat.le_of_ble_eq_true rfl) (Nat.le_of_ble_eq_true rfl) ?_
    exact ⟨i, rfl, hi, q26⟩
  · refine vv_throw cx hX hl hex hlocks (cls := "java/lang/IndexOutOfBoundsException") (text := "no such order") (names := ["java/lang/RuntimeException", "java/lang/Exception"]) (by decide +kernel) (by decide +kernel) ww_344 ww_12 thIOE_at thIOE_good (by decide +kernel) dP_columnOf_11 dP_columnOf_14 dP_columnOf_15 dP_columnOf_17 dP_columnOf_20 rfl (Nat.le_of_ble_eq_true rfl) (Nat.le_of_ble_eq_true rfl) (Nat.le_of_ble_eq_true rfl) (Nat.le_of_ble_eq_true rfl) (Nat.le_of_ble_eq_true rfl) (Nat.le_of_ble_eq_true rfl) ?_
    rcases q5 with q | q
    · exact absurd c8 (by rw [q.1]; decide)
    · exact ⟨rfl, rfl, q.2⟩
set_option maxRecDepth 100000 in
set_option maxHeartbeats 4000000 in
theorem tP_boundByPrices (l : Launch) (g : pq_G) (h : pq_H) {W n : Nat} {w nm pr : Nat → Nat} (hs : pq_st h W n w nm pr) (hd : pq_dn h W n w nm pr) : XI l yP_boundByPrices wP_boundByPrices rP_boundByPrices g 0 0 [.ref (g.2.2 0)] h (fun r h9 => r = nI (pq_up (pq_price n pr nm) (pq_col W n w nm pr).1) ∧ pq_but [2, 11, 12] h h9 ∧ pq_z h9 12 n ∧ pq_dk h9 W n w nm pr) (pq_no) := by
  refine XI.of (cc := cP_boundByPrices) (maxL := 1) (ret := (some .int)) (by decide +kernel) (by simp [Value.category]) (Nat.le_of_ble_eq_true rfl) ?_
  intro p e s m below meth c cx hX hr hlocks hex
  have hn5 := hs.2.1.2.2
  have hbb : ∀ i, i < 5 → nm i ≤ 6 ∧ pr i ≤ 1000 := fun i hi => (hs.2.2.1 i hi).2
  have hcb := pq_col_bd (W := W) (w := w) hn5 hbb
  have hpb : pq_sum (fun i => nm i * pr i) n ≤ 30000 := Nat.le_trans (pq_sum_bd (B := 6000) (fun i hi => Nat.le_trans (Nat.mul_le_mul (hbb i (by omega)).1 (hbb i (by omega)).2) (by decide))) (by omega)
  refine vv_aload_n cx dP_boundByPrices_0 rfl rfl (pc' := 1) rfl ?_
  refine vv_getR cx (C := RP) (T := TP) (NN := 4) 0 0 _ (by decide) sh_0 rfl rfl (by decide) lyP ww_142 dP_boundByPrices_1 (pc' := 4) rfl ?_
  refine cc_Vi cx hX (tS_priceOfAll l g h hs) kS_priceOfAll ww_205 rfl rfl ⟨Nat.le_of_ble_eq_true rfl, Nat.le_of_ble_eq_true rfl⟩ 1 (by decide) sh_1 rfl rfl rfl rfl (Nat.le_of_ble_eq_true rfl) rfl ⟨Nat.le_of_ble_eq_true rfl, Nat.le_of_ble_eq_true rfl⟩ dP_boundByPrices_4 (pc' := 7) rfl (fun _ _ q => q.elim) (fun r4 h4 q4 => ?_)
  obtain ⟨rfl, rfl⟩ := q4
  refine vv_aload_n cx dP_boundByPrices_7 rfl rfl (pc' := 8) rfl ?_
  refine vv_getR cx (C := RP) (T := TP) (NN := 4) 0 1 _ (by decide) sh_0 rfl rfl (by decide) lyP ww_143 dP_boundByPrices_8 (pc' := 11) rfl ?_
  refine cc_Vi cx hX (tD_priceSum l g _ hs hd) kD_priceSum ww_159 rfl rfl ⟨Nat.le_of_ble_eq_true rfl, Nat.le_of_ble_eq_true rfl⟩ 2 (by decide) sh_2 rfl rfl rfl rfl (Nat.le_of_ble_eq_true rfl) rfl ⟨Nat.le_of_ble_eq_true rfl, Nat.le_of_ble_eq_true rfl⟩ dP_boundByPrices_11 (pc' := 14) rfl (fun _ _ q => q.elim) (fun r11 h11 q11 => ?_)
  obtain ⟨rfl, q11⟩ := q11
  refine cc_Si cx hX (tP_roundedUp l g _ _ _ (by omega) (by omega)) kP_roundedUp ww_210 rfl rfl ⟨Nat.le_of_ble_eq_true rfl, Nat.le_of_ble_eq_true rfl⟩ rfl rfl (Nat.le_of_ble_eq_true rfl) rfl ⟨Nat.le_of_ble_eq_true rfl, Nat.le_of_ble_eq_true rfl⟩ dP_boundByPrices_14 (pc' := 17) rfl (fun _ _ q => q.elim) (fun r14 h14 q14 => ?_)
  obtain ⟨rfl, rfl⟩ := q14
  refine vv_iret cx hr hlocks dP_boundByPrices_17 (Nat.le_of_ble_eq_true rfl) (Nat.le_of_ble_eq_true rfl) ?_
  exact ⟨rfl, q11⟩
set_option maxRecDepth 100000 in
set_option maxHeartbeats 4000000 in
theorem tP_bound (l : Launch) (g : pq_G) (h : pq_H) {W n : Nat} {w nm pr : Nat → Nat} (hs : pq_st h W n w nm pr) (hd : pq_dn h W n w nm pr) : XI l yP_bound wP_bound rP_bound g 0 0 [.ref (g.2.2 0)] h (fun r h9 => r = nI (pq_up (pq_price n pr nm) (pq_col W n w nm pr).1) ∧ pq_but [2, 11, 12] h h9 ∧ pq_z h9 12 n ∧ pq_dk h9 W n w nm pr) (pq_no) := by
  refine XI.of (cc := cP_bound) (maxL := 1) (ret := (some .int)) (by decide +kernel) (by simp [Value.category]) (Nat.le_of_ble_eq_true rfl) ?_
  intro p e s m below meth c cx hX hr hlocks hex
  refine vv_aload_n cx dP_bound_0 rfl rfl (pc' := 1) rfl ?_
  refine cc_Vi cx hX (tP_boundByPrices l g h hs hd) kP_boundByPrices ww_201 rfl rfl ⟨Nat.le_of_ble_eq_true rfl, Nat.le_of_ble_eq_true rfl⟩ 0 (by decide) sh_0 rfl rfl rfl rfl (Nat.le_of_ble_eq_true rfl) rfl ⟨Nat.le_of_ble_eq_true rfl, Nat.le_of_ble_eq_true rfl⟩ dP_bound_1 (pc' := 4) rfl (fun _ _ q => q.elim) (fun r1 h1 q1 => ?_)
  refine vv_iret cx hr hlocks dP_bound_4 (Nat.le_of_ble_eq_true rfl) (Nat.le_of_ble_eq_true rfl) ?_
  exact q1

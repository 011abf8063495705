/-! part 19: the reference's findColumn, column, columnOf, bound -/
theorem pq_anyN (x : Int32) : ∃ k : Nat, x = nI k := ⟨x.toBitVec.toNat, by
  apply Int32.toBitVec_inj.mp
  show x.toBitVec = BitVec.ofNat 32 x.toBitVec.toNat
  rw [BitVec.ofNat_toNat, BitVec.setWidth_eq]⟩
theorem pq_anyR (f : Nat → Int32) : ∃ a : Nat → Nat, ∀ i, f i = nI (a i) := ⟨fun i => (pq_anyN (f i)).choose, fun i => (pq_anyN (f i)).choose_spec⟩
def pq_fc (h h' : pq_H) : Prop := (∀ k, k ≠ 120 → k ≠ 121 → h' k = h k) ∧ ∀ p, p < 150 → h' 120 p = h 120 p ∧ h' 121 p = h 121 p
theorem pq_fc.rfl' {h : pq_H} : pq_fc h h := ⟨fun _ _ _ => rfl, fun _ _ => ⟨rfl, rfl⟩⟩
theorem pq_fc.trans {h h' h2 : pq_H} (a : pq_fc h h') (b : pq_fc h' h2) : pq_fc h h2 := ⟨fun k q1 q2 => (b.1 k q1 q2).trans (a.1 k q1 q2), fun p hp => ⟨(b.2 p hp).1.trans (a.2 p hp).1, (b.2 p hp).2.trans (a.2 p hp).2⟩⟩
theorem pq_at.fc {A : Nat} {h h' : pq_H} (a : pq_at 121 A h h') (hA : 150 ≤ A) : pq_fc h h' := ⟨fun k _ q2 => a.1 k q2, fun p hp => ⟨by rw [a.1 120 (by decide)], a.2 p (by omega)⟩⟩
theorem pq_mo.fc {h h' : pq_H} {W n : Nat} {w nm pr : Nat → Nat} (hs : pq_mo h W n w nm pr) (hf : pq_fc h h') : pq_mo h' W n w nm pr := hs.of (by rw [hf.1 116 (by decide) (by decide)]) (by rw [hf.1 116 (by decide) (by decide)]) (hf.1 117 (by decide) (by decide)) (hf.1 118 (by decide) (by decide)) (hf.1 119 (by decide) (by decide))
theorem pq_fillS_in {w th : Nat → Nat} : ∀ (s : Nat) (a a' : Nat → Nat) (i R j : Nat), i ≤ j → j < i + s → pq_fillS w th s a i R j = pq_fillS w th s a' i R j
  | 0, a, a', i, R, j, h1, h2 => absurd h2 (by omega)
  | s + 1, a, a', i, R, j, h1, h2 => by
    show pq_fillS w th s _ _ _ j = pq_fillS w th s _ _ _ j
    rcases Nat.lt_or_ge i j with q | q
    · exact pq_fillS_in s _ _ _ _ j q (by omega)
    · rw [show j = i by omega, pq_fillS_out _ _ _ _ _ (by omega), pq_fillS_out _ _ _ _ _ (by omega), va_up_self, va_up_self]
theorem pq_first_of {W n : Nat} {w nm a0 b : Nat → Nat} (f3 : ∀ i, i < 5 → b i = if i < n then pq_fill W n w nm a0 0 i else if i < 0 then a0 i else 0) : ∀ i, i < 5 → b i = pq_first W n w nm i := fun i hi => by
  rw [f3 i hi]
  by_cases q : i < n
  · rw [if_pos q]; exact pq_fillS_in _ _ _ _ _ _ (Nat.zero_le _) (by omega)
  · rw [if_neg q, if_neg (by omega), pq_first_pat.2.2 i (by omega) hi]
theorem pq_colL_end {W n : Nat} {w nm pr : Nat → Nat} {f s : Nat} {p : Nat → Nat} : pq_colL W n w nm pr f none s p = (s, p) := by cases f <;> rfl
set_option maxRecDepth 100000 in
set_option maxHeartbeats 4000000 in
theorem tM_findColumn (l : Launch) (g : pq_G) (h : pq_H) {W n : Nat} {w nm pr : Nat → Nat} (hs : pq_mo h W n w nm pr) : XI l yM_findColumn wM_findColumn rM_findColumn g 0 0 [.ref (g.2.2 116)] h (fun r h9 => r = nI (pq_col W n w nm pr).1 ∧ pq_sub h9 121 155 (pq_col W n w nm pr).2 ∧ pq_fc h h9) (pq_no) := by
  refine XI.of (cc := cM_findColumn) (maxL := 5) (ret := (some .int)) (by decide +kernel) (by simp [Value.category]) (Nat.le_of_ble_eq_true rfl) ?_
  intro p e s m below meth c cx hX hr hlocks hex
  obtain ⟨-, ⟨hW1, hW2, hn5⟩, hb, hw1, hnm0⟩ := id hs
  have hnm6 : ∀ i, i < 5 → nm i ≤ 6 := fun i hi => (hb i hi).2.1
  have hbb : ∀ i, i < 5 → nm i ≤ 6 ∧ pr i ≤ 1000 := fun i hi => (hb i hi).2
  have main : ∀ (N : Nat) (h1 : pq_H) (x y : Int32) (u4 : Option Value) (a : Nat → Nat), pq_fc h h1 → pq_sub h1 120 150 nm → ((y = 0 ∧ x = nI (pq_col W n w nm pr).1 ∧ pq_sub h1 121 155 (pq_col W n w nm pr).2) ∨ (y = 1 ∧ pq_mu a < N ∧ pq_sub h1 121 150 a ∧ pq_pat W n w nm a ∧ ((x = -1 ∧ a = pq_first W n w nm) ∨ (∃ s9 p9 f, x = nI s9 ∧ s9 ≤ 30000 ∧ pq_sub h1 121 155 p9 ∧ pq_mu a ≤ f ∧ pq_colL W n w nm pr (f + 1) (some a) s9 p9 = pq_col W n w nm pr) ∨ ∃ s9 p9 f c9 d, x = nI s9 ∧ s9 ≤ 30000 ∧ pq_sub h1 121 155 p9 ∧ a = va_up c9 (n - 1) d ∧ d ≤ c9 (n - 1) ∧ pq_pat W n w nm c9 ∧ pq_price n pr c9 ≤ s9 ∧ pq_mu c9 ≤ f ∧ pq_colL W n w nm pr f (pq_next W n w nm c9 5 (n - 1)) s9 p9 = pq_col W n w nm pr))) → VV p l e rM_findColumn s m [.ref (g.2.2 116)].toArray below meth c (vx_MQ below (pq_Qi g (fun r h9 => r = nI (pq_col W n w nm pr).1 ∧ pq_sub h9 121 155 (pq_col W n w nm pr).2 ∧ pq_fc h h9) s.heap.size) (pq_Qx g (pq_no) s.heap.size) [.ref (g.2.2 116)].toArray s 0 0 (pq_A g s.heap.size)) g 0 0 h1 53 [some (.ref (g.2.2 116)), some (.int (nI 150)), some (.int x), some (.int y), u4] [] := by
    intro N
    induction N with
    | zero =>
      intro h1 x y u4 a hfc hlf hm
      rcases hm with ⟨rfl, rfl, hp⟩ | ⟨-, q, -⟩
      · refine vv_iload_n cx dM_findColumn_53 rfl rfl (pc' := 54) rfl ?_
        refine vv_if_eq cx dM_findColumn_54 (tgt := 116) (by decide) (pc' := 57) rfl (fun c54 => ?_) (fun c54 => ?_)
        · refine vv_iload_n cx dM_findColumn_116 rfl rfl (pc' := 117) rfl ?_
          refine vv_iret cx hr hlocks dM_findColumn_117 (Nat.le_of_ble_eq_true rfl) (Nat.le_of_ble_eq_true rfl) ?_
          exact ⟨rfl, hp, hfc⟩
        · exact absurd rfl c54
      · exact absurd q (by omega)
    | succ N ih =>
      intro h1 x y u4 a hfc hlf hm
      rcases hm with ⟨rfl, rfl, hp⟩ | ⟨rfl, hmu, hrow, hpat, hk⟩
      · refine vv_iload_n cx dM_findColumn_53 rfl rfl (pc' := 54) rfl ?_
        refine vv_if_eq cx dM_findColumn_54 (tgt := 116) (by decide) (pc' := 57) rfl (fun c54 => ?_) (fun c54 => ?_)
        · refine vv_iload_n cx dM_findColumn_116 rfl rfl (pc' := 117) rfl ?_
          refine vv_iret cx hr hlocks dM_findColumn_117 (Nat.le_of_ble_eq_true rfl) (Nat.le_of_ble_eq_true rfl) ?_
          exact ⟨rfl, hp, hfc⟩
        · exact absurd rfl c54
      · have hpb := pq_price_bd hn5 hpat hbb
        have hs1 := hs.fc hfc
        have hj : ∀ (h2 : pq_H) (u5 : Option Value) (s9 f d : Nat) (p9 c9 : Nat → Nat), pq_fc h h2 → pq_sub h2 120 150 nm → pq_sub h2 121 150 a → s9 ≤ 30000 → pq_sub h2 121 155 p9 → a = va_up c9 (n - 1) d → d ≤ c9 (n - 1) → pq_pat W n w nm c9 → pq_price n pr c9 ≤ s9 → pq_mu c9 ≤ f → pq_colL W n w nm pr f (pq_next W n w nm c9 5 (n - 1)) s9 p9 = pq_col W n w nm pr →  VV p l e rM_findColumn s m [.ref (g.2.2 116)].toArray below meth c (vx_MQ below (pq_Qi g (fun r h9 => r = nI (pq_col W n w nm pr).1 ∧ pq_sub h9 121 155 (pq_col W n w nm pr).2 ∧ pq_fc h h9) s.heap.size) (pq_Qx g (pq_no) s.heap.size) [.ref (g.2.2 116)].toArray s 0 0 (pq_A g s.heap.size)) g 0 0 h2 107 [some (.ref (g.2.2 116)), some (.int (nI 150)), some (.int (nI s9)), some (.int 1), u5] [] := by
          intro h2 u5 s9 f d p9 c9 k1 k2 k3 k4 k5 k6 k7 k8 k9 k10 k11
          have hs2 := hs.fc k1
          refine vv_aload_n cx dM_findColumn_107 rfl rfl (pc' := 108) rfl ?_
          refine vv_iload_n cx dM_findColumn_108 rfl rfl (pc' := 109) rfl ?_
          refine cc_Vi cx hX (tM_goesDown l g h2 150 a nm hs2 (by decide) k3 k2 hpat hnm6) kM_goesDown ww_655 rfl rfl ⟨Nat.le_of_ble_eq_true rfl, Nat.le_of_ble_eq_true rfl⟩ 116 (by decide) sh_116 rfl rfl rfl rfl (Nat.le_of_ble_eq_true rfl) rfl ⟨Nat.le_of_ble_eq_true rfl, Nat.le_of_ble_eq_true rfl⟩ dM_findColumn_109 (pc' := 112) rfl (fun _ _ q => q.elim) (fun r109 h109 q109 => ?_)
          refine vv_istore_n cx dM_findColumn_112 rfl (Nat.le_of_ble_eq_true rfl) (pc' := 113) rfl ?_
          refine vv_goto cx dM_findColumn_113 (tgt := 53) (by decide) ?_
          rcases q109 with ⟨rfl, b, hnx, ho, hrow2⟩ | ⟨rfl, hnx, rfl⟩
          · have hpb2 := pq_next_pat hpat (Nat.le_refl _) hnx
            have hmub := pq_next_mu (pq_pat6 hpb2 hnm6) hn5 hnx
            have k5b : pq_sub h109 121 155 p9 := k5.of (fun i hi => ho.2 _ (by omega))
            refine ih h109 _ _ _ b (k1.trans (ho.fc (by decide))) (k2.of (fun i hi => by rw [ho.1 120 (by decide)])) (Or.inr ⟨rfl, by omega, hrow2, hpb2, Or.inr ?_⟩)
            obtain ⟨mm, hmm⟩ : ∃ mm, n = mm + 1 := ⟨n - 1, by
              rcases Nat.eq_zero_or_pos n with q | q
              · rw [q] at hnx; exact nomatch hnx
              · omega⟩
            have e1 : n - 1 = mm := by omega
            rw [e1] at k6 k7 k11
            by_cases hd : 0 < d
            · have e2 : pq_next W n w nm a 5 n = some (va_up c9 mm (d - 1)) := by
                rw [k6, pq_next_at (k := mm) (by rw [va_up_self]; exact hd) (by omega) (by omega) (fun j q1 q2 => absurd q1 (by omega)), va_up_self, bx_uu, pq_fill, show n - (mm + 1) = 0 by omega]
                rfl
              rw [e2] at hnx
              refine Or.inr ⟨s9, p9, f, c9, d - 1, rfl, k4, k5b, ?_, by rw [e1]; omega, k8, k9, k10, by rw [e1]; exact k11⟩
              rw [e1]; exact (Option.some.inj hnx).symm
            · have e2 : pq_next W n w nm a 5 n = pq_next W n w nm c9 5 mm := by
                rw [k6, show d = 0 by omega]
                subst hmm
                rw [pq_next, va_up_self, if_neg (by omega), pq_next_skip (Nat.le_refl _)]
              rw [e2] at hnx
              have hmu2 := pq_next_mu (pq_pat6 hpb2 hnm6) (show mm ≤ 5 by omega) hnx
              rw [hnx] at k11
              obtain ⟨f9, rfl⟩ : ∃ f9, f = f9 + 1 := ⟨f - 1, by omega⟩
              exact Or.inl ⟨s9, p9, f9, rfl, k4, k5b, by omega, k11⟩
          · refine ih h109 _ _ _ a k1 k2 (Or.inl ⟨rfl, ?_⟩)
            have e3 : pq_next W n w nm c9 5 (n - 1) = none := by
              rcases Nat.eq_zero_or_pos n with q | q
              · rw [q]; rfl
              · obtain ⟨mm, rfl⟩ : ∃ mm, n = mm + 1 := ⟨n - 1, by omega⟩
                rw [k6] at hnx
                by_cases hd : 0 < d
                · rw [pq_next_at (k := mm) (by rw [show mm + 1 - 1 = mm from rfl, va_up_self]; exact hd) (by omega) (by omega) (fun j q1 q2 => absurd q1 (by omega))] at hnx
                  exact nomatch hnx
                · rw [show mm + 1 - 1 = mm from rfl, show d = 0 by omega, pq_next, va_up_self, if_neg (by omega), pq_next_skip (Nat.le_refl _)] at hnx
                  exact hnx
            rw [e3, pq_colL_end] at k11
            rw [← k11]
            exact ⟨rfl, k5⟩
        have hcp : ∀ (f : Nat), pq_mu a ≤ f → pq_colL W n w nm pr f (pq_next W n w nm a 5 (n - 1)) (pq_price n pr a) a = pq_col W n w nm pr → ∀ (d i : Nat) (h2 : pq_H), i + d = 5 → pq_at 121 155 h1 h2 → (∀ j, j < i → h2 121 (155 + j) = nI (a j)) →  VV p l e rM_findColumn s m [.ref (g.2.2 116)].toArray below meth c (vx_MQ below (pq_Qi g (fun r h9 => r = nI (pq_col W n w nm pr).1 ∧ pq_sub h9 121 155 (pq_col W n w nm pr).2 ∧ pq_fc h h9) s.heap.size) (pq_Qx g (pq_no) s.heap.size) [.ref (g.2.2 116)].toArray s 0 0 (pq_A g s.heap.size)) g 0 0 h2 75 [some (.ref (g.2.2 116)), some (.int (nI 150)), some (.int (nI (pq_price n pr a))), some (.int 1), some (.int (nI i))] [] := by
          intro f hf1 hf2 d
          induction d with
          | zero =>
            intro i h2 hi hat hj5
            have e1 : i = 5 := by omega
            subst e1
            refine vv_iload cx dM_findColumn_75 rfl (pc' := 77) rfl ?_
            refine vv_iconst cx dM_findColumn_77 (v := 5) (by decide) (pc' := 78) rfl ?_
            refine vv_icmp_ge cx dM_findColumn_78 (tgt := 107) (by decide) (pc' := 81) rfl (fun c78 => ?_) (fun c78 => ?_)
            · exact hj h2 _ (pq_price n pr a) f (a (n - 1)) a a (hfc.trans (hat.fc (by decide))) (hlf.of (fun i _ => by rw [hat.1 120 (by decide)])) (hrow.of (fun i hi => hat.2 _ (by omega))) hpb (fun i hi => hj5 i hi) va_up_id.symm (Nat.le_refl _) hpat (Nat.le_refl _) hf1 hf2
            · exact absurd (Int32.le_refl _) c78
          | succ d ih2 =>
            intro i h2 hi hat hj5
            refine vv_iload cx dM_findColumn_75 rfl (pc' := 77) rfl ?_
            refine vv_iconst cx dM_findColumn_77 (v := 5) (by decide) (pc' := 78) rfl ?_
            refine vv_icmp_ge cx dM_findColumn_78 (tgt := 107) (by decide) (pc' := 81) rfl (fun c78 => ?_) (fun c78 => ?_)
            · exact absurd c78 (nI_ge (b := 5) (by omega) (by decide))
            · refine vv_aload_n cx dM_findColumn_81 rfl rfl (pc' := 82) rfl ?_
              refine vv_getR cx (C := RM) (T := TM) (NN := 15) 116 7 _ (by decide) sh_116 rfl rfl (by decide) lyM ww_561 dM_findColumn_82 (pc' := 85) rfl ?_
              refine vv_sipush cx dM_findColumn_85 (v := 155) (by decide) (pc' := 88) rfl ?_
              refine vv_iload cx dM_findColumn_88 rfl (pc' := 90) rfl ?_
              refine vv_iadd cx dM_findColumn_90 (pc' := 91) rfl ?_
              rw [show (155 : Int32) + nI i = nI (155 + i) from nI_add 155 i]
              refine vv_aload_n cx dM_findColumn_91 rfl rfl (pc' := 92) rfl ?_
              refine vv_getR cx (C := RM) (T := TM) (NN := 15) 116 7 _ (by decide) sh_116 rfl rfl (by decide) lyM ww_561 dM_findColumn_92 (pc' := 95) rfl ?_
              refine vv_iload_n cx dM_findColumn_95 rfl rfl (pc' := 96) rfl ?_
              refine vv_iload cx dM_findColumn_96 rfl (pc' := 98) rfl ?_
              refine vv_iadd cx dM_findColumn_98 (pc' := 99) rfl ?_
              rw [nI_add]
              refine vv_iald cx _ (by decide) sh_121 (vp_in_nI (by omega) (by decide)) dM_findColumn_99 (pc' := 100) rfl ?_
              rw [nI_clamp (n := 150 + i) (by omega)]
              refine vv_iast cx _ (by decide) sh_121 (vp_in_nI (by omega) (by decide)) dM_findColumn_100 (pc' := 101) rfl ?_
              rw [nI_clamp (n := 155 + i) (by omega)]
              refine vv_iinc cx dM_findColumn_101 rfl pq_n1 (pc' := 104) rfl ?_
              refine vv_goto cx dM_findColumn_104 (tgt := 75) (by decide) ?_
              refine ih2 (i + 1) _ (by omega) (hat.trans (pq_at.up (i := i) (by omega))) (fun j hj6 => ?_)
              by_cases e9 : j = i
              · subst e9; rw [va_up_self, pk_us, hat.2 (150 + j) (by omega)]; exact hrow j (by omega)
              · rw [va_up_self, pk_un (by omega)]; exact hj5 j (by omega)
        rcases hk with ⟨rfl, ha1⟩ | ⟨s9, p9, f, rfl, hs9, hp9, hmf, hcl⟩ | ⟨s9, p9, f, c9, d, rfl, hs9, hp9, e1, e2, e3, e4, e5, e6⟩
        · refine vv_iload_n cx dM_findColumn_53 rfl rfl (pc' := 54) rfl ?_
          refine vv_if_eq cx dM_findColumn_54 (tgt := 116) (by decide) (pc' := 57) rfl (fun c54 => ?_) (fun c54 => ?_)
          · exact absurd c54 (by decide)
          · refine vv_aload_n cx dM_findColumn_57 rfl rfl (pc' := 58) rfl ?_
            refine vv_iload_n cx dM_findColumn_58 rfl rfl (pc' := 59) rfl ?_
            refine cc_Vi cx hX (tM_sumAt l g _ 150 a hs1 (by decide) hrow) kM_sumAt ww_651 rfl rfl ⟨Nat.le_of_ble_eq_true rfl, Nat.le_of_ble_eq_true rfl⟩ 116 (by decide) sh_116 rfl rfl rfl rfl (Nat.le_of_ble_eq_true rfl) rfl ⟨Nat.le_of_ble_eq_true rfl, Nat.le_of_ble_eq_true rfl⟩ dM_findColumn_59 (pc' := 62) rfl (fun _ _ q => q.elim) (fun r59 h59 q59 => ?_)
            obtain ⟨rfl, rfl⟩ := q59
            refine vv_iload_n cx dM_findColumn_62 rfl rfl (pc' := 63) rfl ?_
            refine vv_icmp_le cx dM_findColumn_63 (tgt := 107) (by decide) (pc' := 66) rfl (fun c63 => ?_) (fun c63 => ?_)
            · exact absurd c63 (Int32.not_le.mpr (Int32.lt_of_lt_of_le (by decide : (-1 : Int32) < 0) (nI_pos' (by omega))))
            · refine vv_aload_n cx dM_findColumn_66 rfl rfl (pc' := 67) rfl ?_
              refine vv_iload_n cx dM_findColumn_67 rfl rfl (pc' := 68) rfl ?_
              refine cc_Vi cx hX (tM_sumAt l g _ 150 a hs1 (by decide) hrow) kM_sumAt ww_651 rfl rfl ⟨Nat.le_of_ble_eq_true rfl, Nat.le_of_ble_eq_true rfl⟩ 116 (by decide) sh_116 rfl rfl rfl rfl (Nat.le_of_ble_eq_true rfl) rfl ⟨Nat.le_of_ble_eq_true rfl, Nat.le_of_ble_eq_true rfl⟩ dM_findColumn_68 (pc' := 71) rfl (fun _ _ q => q.elim) (fun r68 h68 q68 => ?_)
              obtain ⟨rfl, rfl⟩ := q68
              refine vv_istore_n cx dM_findColumn_71 rfl (Nat.le_of_ble_eq_true rfl) (pc' := 72) rfl ?_
              refine vv_iconst cx dM_findColumn_72 (v := 0) (by decide) (pc' := 73) rfl ?_
              refine vv_istore cx dM_findColumn_73 (Nat.le_of_ble_eq_true rfl) (pc' := 75) rfl ?_
              exact hcp 16807 (by have := pq_mu_bd (pq_pat6 hpat hnm6); omega) (by rw [ha1]; rfl) 5 0 _ (by omega) pq_at.rfl' (fun j hj6 => absurd hj6 (by omega))
        · refine vv_iload_n cx dM_findColumn_53 rfl rfl (pc' := 54) rfl ?_
          refine vv_if_eq cx dM_findColumn_54 (tgt := 116) (by decide) (pc' := 57) rfl (fun c54 => ?_) (fun c54 => ?_)
          · exact absurd c54 (by decide)
          · refine vv_aload_n cx dM_findColumn_57 rfl rfl (pc' := 58) rfl ?_
            refine vv_iload_n cx dM_findColumn_58 rfl rfl (pc' := 59) rfl ?_
            refine cc_Vi cx hX (tM_sumAt l g _ 150 a hs1 (by decide) hrow) kM_sumAt ww_651 rfl rfl ⟨Nat.le_of_ble_eq_true rfl, Nat.le_of_ble_eq_true rfl⟩ 116 (by decide) sh_116 rfl rfl rfl rfl (Nat.le_of_ble_eq_true rfl) rfl ⟨Nat.le_of_ble_eq_true rfl, Nat.le_of_ble_eq_true rfl⟩ dM_findColumn_59 (pc' := 62) rfl (fun _ _ q => q.elim) (fun r59 h59 q59 => ?_)
            obtain ⟨rfl, rfl⟩ := q59
            refine vv_iload_n cx dM_findColumn_62 rfl rfl (pc' := 63) rfl ?_
            refine vv_icmp_le cx dM_findColumn_63 (tgt := 107) (by decide) (pc' := 66) rfl (fun c63 => ?_) (fun c63 => ?_)
            · rw [pq_colL, if_neg (fun q => nI_ge q (by omega) c63)] at hcl
              exact hj _ _ s9 f (a (n - 1)) p9 a hfc hlf hrow hs9 hp9 va_up_id.symm (Nat.le_refl _) hpat (Nat.le_of_not_lt (fun q => nI_ge q (by omega) c63)) hmf hcl
            · refine vv_aload_n cx dM_findColumn_66 rfl rfl (pc' := 67) rfl ?_
              refine vv_iload_n cx dM_findColumn_67 rfl rfl (pc' := 68) rfl ?_
              refine cc_Vi cx hX (tM_sumAt l g _ 150 a hs1 (by decide) hrow) kM_sumAt ww_651 rfl rfl ⟨Nat.le_of_ble_eq_true rfl, Nat.le_of_ble_eq_true rfl⟩ 116 (by decide) sh_116 rfl rfl rfl rfl (Nat.le_of_ble_eq_true rfl) rfl ⟨Nat.le_of_ble_eq_true rfl, Nat.le_of_ble_eq_true rfl⟩ dM_findColumn_68 (pc' := 71) rfl (fun _ _ q => q.elim) (fun r68 h68 q68 => ?_)
              obtain ⟨rfl, rfl⟩ := q68
              refine vv_istore_n cx dM_findColumn_71 rfl (Nat.le_of_ble_eq_true rfl) (pc' := 72) rfl ?_
              refine vv_iconst cx dM_findColumn_72 (v := 0) (by decide) (pc' := 73) rfl ?_
              refine vv_istore cx dM_findColumn_73 (Nat.le_of_ble_eq_true rfl) (pc' := 75) rfl ?_
              rw [pq_colL, if_pos (Nat.lt_of_not_le (fun q => c63 (nI_le q (by omega))))] at hcl
              exact hcp f hmf hcl 5 0 _ (by omega) pq_at.rfl' (fun j hj6 => absurd hj6 (by omega))
        · refine vv_iload_n cx dM_findColumn_53 rfl rfl (pc' := 54) rfl ?_
          refine vv_if_eq cx dM_findColumn_54 (tgt := 116) (by decide) (pc' := 57) rfl (fun c54 => ?_) (fun c54 => ?_)
          · exact absurd c54 (by decide)
          · refine vv_aload_n cx dM_findColumn_57 rfl rfl (pc' := 58) rfl ?_
            refine vv_iload_n cx dM_findColumn_58 rfl rfl (pc' := 59) rfl ?_
            refine cc_Vi cx hX (tM_sumAt l g _ 150 a hs1 (by decide) hrow) kM_sumAt ww_651 rfl rfl ⟨Nat.le_of_ble_eq_true rfl, Nat.le_of_ble_eq_true rfl⟩ 116 (by decide) sh_116 rfl rfl rfl rfl (Nat.le_of_ble_eq_true rfl) rfl ⟨Nat.le_of_ble_eq_true rfl, Nat.le_of_ble_eq_true rfl⟩ dM_findColumn_59 (pc' := 62) rfl (fun _ _ q => q.elim) (fun r59 h59 q59 => ?_)
            obtain ⟨rfl, rfl⟩ := q59
            refine vv_iload_n cx dM_findColumn_62 rfl rfl (pc' := 63) rfl ?_
            refine vv_icmp_le cx dM_findColumn_63 (tgt := 107) (by decide) (pc' := 66) rfl (fun c63 => ?_) (fun c63 => ?_)
            · exact hj _ _ s9 f d p9 c9 hfc hlf hrow hs9 hp9 e1 e2 e3 e4 e5 e6
            · exact absurd (nI_le (Nat.le_trans (by rw [e1]; exact pq_price_red e2) e4) (by omega)) c63
  have pre : ∀ (d i : Nat) (h1 : pq_H) (u3 u4 : Option Value), i + d = 5 → pq_only 120 h h1 → (∀ p, p < 150 → h1 120 p = h 120 p) → (∀ j, j < i → h1 120 (150 + j) = nI (nm j)) → VV p l e rM_findColumn s m [.ref (g.2.2 116)].toArray below meth c (vx_MQ below (pq_Qi g (fun r h9 => r = nI (pq_col W n w nm pr).1 ∧ pq_sub h9 121 155 (pq_col W n w nm pr).2 ∧ pq_fc h h9) s.heap.size) (pq_Qx g (pq_no) s.heap.size) [.ref (g.2.2 116)].toArray s 0 0 (pq_A g s.heap.size)) g 0 0 h1 6 [some (.ref (g.2.2 116)), some (.int (nI 150)), some (.int (nI i)), u3, u4] [] := by
    intro d
    induction d with
    | zero =>
      intro i h1 u3 u4 hi ho hp hj
      have e1 : i = 5 := by omega
      subst e1
      have hs1 := hs.only ho (by decide)
      obtain ⟨a0, ha0⟩ := pq_anyR (fun i => h1 121 (150 + i))
      have hlf : pq_sub h1 120 150 nm := fun i hi => hj i hi
      refine vv_iload_n cx dM_findColumn_6 rfl rfl (pc' := 7) rfl ?_
      refine vv_iconst cx dM_findColumn_7 (v := 5) (by decide) (pc' := 8) rfl ?_
      refine vv_icmp_ge cx dM_findColumn_8 (tgt := 43) (by decide) (pc' := 11) rfl (fun c8 => ?_) (fun c8 => ?_)
      · refine vv_aload_n cx dM_findColumn_43 rfl rfl (pc' := 44) rfl ?_
        refine vv_iload_n cx dM_findColumn_44 rfl rfl (pc' := 45) rfl ?_
        refine vv_iconst cx dM_findColumn_45 (v := 0) (by decide) (pc' := 46) rfl ?_
        refine cc_Vv cx hX (tM_fill l g h1 150 0 a0 nm hs1 (by decide) (by omega) (fun i _ => ha0 i) hlf (by rw [Nat.zero_min]; exact Nat.zero_le _) hnm6) kM_fill ww_643 rfl rfl ⟨Nat.le_of_ble_eq_true rfl, Nat.le_of_ble_eq_true rfl⟩ 116 (by decide) sh_116 rfl rfl rfl rfl (Nat.le_of_ble_eq_true rfl) rfl ⟨Nat.le_of_ble_eq_true rfl, Nat.le_of_ble_eq_true rfl⟩ dM_findColumn_46 (pc' := 49) rfl (fun _ _ q => q.elim) (fun h46 q46 => ?_)
        obtain ⟨f1, b, f2, f3⟩ := q46
        have hfc : pq_fc h h46 := pq_fc.trans ⟨fun k q1 _ => ho k q1, fun p hp9 => ⟨hp p hp9, by rw [ho 121 (by decide)]⟩⟩ (f1.fc (by decide))
        have hfr : pq_sub h46 121 150 (pq_first W n w nm) := fun i hi => by rw [f2 i hi, pq_first_of f3 i hi]
        refine vv_iconst cx dM_findColumn_49 (v := -1) (by decide) (pc' := 50) rfl ?_
        refine vv_istore_n cx dM_findColumn_50 rfl (Nat.le_of_ble_eq_true rfl) (pc' := 51) rfl ?_
        refine vv_iconst cx dM_findColumn_51 (v := 1) (by decide) (pc' := 52) rfl ?_
        refine vv_istore_n cx dM_findColumn_52 rfl (Nat.le_of_ble_eq_true rfl) (pc' := 53) rfl ?_
        exact main (pq_mu (pq_first W n w nm) + 1) _ _ _ _ (pq_first W n w nm) hfc (hlf.of (fun i _ => by rw [f1.1 120 (by decide)])) (Or.inr ⟨rfl, by omega, hfr, pq_first_pat, Or.inl ⟨rfl, rfl⟩⟩)
      · exact absurd (Int32.le_refl _) c8
    | succ d ih =>
      intro i h1 u3 u4 hi ho hp hj
      have hs1 := hs.only ho (by decide)
      have hn := hs1.1.2.1
      refine vv_iload_n cx dM_findColumn_6 rfl rfl (pc' := 7) rfl ?_
      refine vv_iconst cx dM_findColumn_7 (v := 5) (by decide) (pc' := 8) rfl ?_
      refine vv_icmp_ge cx dM_findColumn_8 (tgt := 43) (by decide) (pc' := 11) rfl (fun c8 => ?_) (fun c8 => ?_)
      · exact absurd c8 (nI_ge (b := 5) (by omega) (by decide))
      · refine vv_aload_n cx dM_findColumn_11 rfl rfl (pc' := 12) rfl ?_
        refine vv_getR cx (C := RM) (T := TM) (NN := 15) 116 6 _ (by decide) sh_116 rfl rfl (by decide) lyM ww_560 dM_findColumn_12 (pc' := 15) rfl ?_
        refine vv_iload_n cx dM_findColumn_15 rfl rfl (pc' := 16) rfl ?_
        refine vv_iload_n cx dM_findColumn_16 rfl rfl (pc' := 17) rfl ?_
        refine vv_iadd cx dM_findColumn_17 (pc' := 18) rfl ?_
        rw [nI_add]
        refine vv_iload_n cx dM_findColumn_18 rfl rfl (pc' := 19) rfl ?_
        refine vv_aload_n cx dM_findColumn_19 rfl rfl (pc' := 20) rfl ?_
        refine vv_getI cx (C := RM) (T := TM) (NN := 15) 116 2 (by decide) sh_116 rfl rfl (by decide) lyM ww_556 dM_findColumn_20 (pc' := 23) rfl ?_
        rw [hn]
        refine vv_icmp_ge cx dM_findColumn_23 (tgt := 35) (by decide) (pc' := 26) rfl (fun c23 => ?_) (fun c23 => ?_)
        · refine vv_iconst cx dM_findColumn_35 (v := 0) (by decide) (pc' := 36) rfl ?_
          refine vv_iast cx _ (by decide) sh_120 (vp_in_nI (by omega) (by decide)) dM_findColumn_36 (pc' := 37) rfl ?_
          rw [nI_clamp (n := 150 + i) (by omega)]
          refine vv_iinc cx dM_findColumn_37 rfl pq_n1 (pc' := 40) rfl ?_
          refine vv_goto cx dM_findColumn_40 (tgt := 6) (by decide) ?_
          refine ih (i + 1) _ _ _ (by omega) (ho.trans pq_only.up) (fun p hp9 => by rw [va_up_self, pk_un (by omega)]; exact hp p hp9) (fun j hj6 => ?_)
          by_cases e9 : j = i
          · subst e9
            rw [va_up_self]
            first
              | exact pk_us
              | exact pk_us.trans (by rw [hnm0 j (Nat.le_of_not_lt (fun q => nI_ge q (by omega) c23)) (by omega)]; rfl)
          · rw [va_up_self, pk_un (by omega)]; exact hj j (by omega)
        · refine vv_aload_n cx dM_findColumn_26 rfl rfl (pc' := 27) rfl ?_
          refine vv_getR cx (C := RM) (T := TM) (NN := 15) 116 4 _ (by decide) sh_116 rfl rfl (by decide) lyM ww_558 dM_findColumn_27 (pc' := 30) rfl ?_
          refine vv_iload_n cx dM_findColumn_30 rfl rfl (pc' := 31) rfl ?_
          refine vv_iald cx _ (by decide) sh_118 (vp_in_nI (by omega) (by decide)) dM_findColumn_31 (pc' := 32) rfl ?_
          rw [nI_clamp (n := i) (by omega), hs1.1.2.2.2.1 i (by omega)]
          refine vv_goto cx dM_findColumn_32 (tgt := 36) (by decide) ?_
          refine vv_iast cx _ (by decide) sh_120 (vp_in_nI (by omega) (by decide)) dM_findColumn_36 (pc' := 37) rfl ?_
          rw [nI_clamp (n := 150 + i) (by omega)]
          refine vv_iinc cx dM_findColumn_37 rfl pq_n1 (pc' := 40) rfl ?_
          refine vv_goto cx dM_findColumn_40 (tgt := 6) (by decide) ?_
          refine ih (i + 1) _ _ _ (by omega) (ho.trans pq_only.up) (fun p hp9 => by rw [va_up_self, pk_un (by omega)]; exact hp p hp9) (fun j hj6 => ?_)
          by_cases e9 : j = i
          · subst e9
            rw [va_up_self]
            first
              | exact pk_us
              | exact pk_us.trans (by rw [hnm0 j (Nat.le_of_not_lt (fun q => nI_ge q (by omega) c23)) (by omega)]; rfl)
          · rw [va_up_self, pk_un (by omega)]; exact hj j (by omega)
  refine vv_sipush cx dM_findColumn_0 (v := 150) (by decide) (pc' := 3) rfl ?_
  refine vv_istore_n cx dM_findColumn_3 rfl (Nat.le_of_ble_eq_true rfl) (pc' := 4) rfl ?_
  refine vv_iconst cx dM_findColumn_4 (v := 0) (by decide) (pc' := 5) rfl ?_
  refine vv_istore_n cx dM_findColumn_5 rfl (Nat.le_of_ble_eq_true rfl) (pc' := 6) rfl ?_
  exact pre 5 0 _ _ _ (by omega) pq_only.rfl' (fun _ _ => rfl) (fun j hj => absurd hj (by omega))

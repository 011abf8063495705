/-! part 25: the reference's search follows the machine; design -/
/-- the last place of a row that has something -/
theorem pq_last {a : Nat → Nat} {z : Nat} (hz : 0 < a z) : ∀ (m : Nat), z < m → ∃ p, z ≤ p ∧ p < m ∧ 0 < a p ∧ ∀ j, p < j → j < m → a j = 0
  | 0, h => absurd h (by omega)
  | m + 1, h => by
    by_cases q : 0 < a m
    · exact ⟨m, by omega, by omega, q, fun j h1 h2 => absurd h1 (by omega)⟩
    · rcases Nat.lt_or_ge z m with z1 | z1
      · obtain ⟨p, p1, p2, p3, p4⟩ := pq_last hz m z1
        refine ⟨p, p1, by omega, p3, fun j h1 h2 => ?_⟩
        rcases Nat.lt_or_ge j m with z2 | z2
        · exact p4 j h1 z2
        · rw [show j = m by omega]; omega
      · rw [show z = m by omega] at hz; exact absurd hz q
theorem pq_next_z {W n : Nat} {w th a : Nat → Nat} {z : Nat} (hz5 : z < 5) (hz1 : 1 ≤ a z) (h0 : ∀ j, j < z → a j = 0) (hzn : z < n) (hn : n ≤ 5) : ∃ b, pq_next W n w th a 5 n = some b ∧ ((0 < b z ∧ pq_next W n w th a z n = some b) ∨ (b z = 0 ∧ pq_next W n w th a z n = none)) := by
  obtain ⟨p, p1, p2, p3, p4⟩ := pq_last hz1 n hzn
  refine ⟨_, pq_next_at p3 (by omega) p2 p4, ?_⟩
  have hbz : pq_fill W n w th (va_up a p (a p - 1)) (p + 1) z = va_up a p (a p - 1) z := by rw [pq_fill, pq_fillS_out _ _ _ _ _ (by omega)]
  have skip : ∀ m, p < m → m ≤ n → pq_next W n w th a z m = pq_next W n w th a z (p + 1) := by
    intro m
    induction m with
    | zero => intro h; exact absurd h (by omega)
    | succ m ih =>
      intro h1 h2
      rcases Nat.lt_or_ge p m with q | q
      · rw [pq_next, if_neg (by rw [p4 m q (by omega)]; omega)]
        exact ih q (by omega)
      · rw [show m = p by omega]
  rw [hbz, skip n p2 (Nat.le_refl _)]
  by_cases e : p = z
  · subst e
    rw [va_up_self, pq_next, if_pos rfl]
    by_cases q : 1 < a p
    · rw [if_pos q]; exact Or.inl ⟨by omega, rfl⟩
    · rw [if_neg q]; exact Or.inr ⟨by omega, pq_next_none h0⟩
  · rw [va_up_ne _ _ (fun q => e q.symm), pq_next, if_neg e, if_pos p3]
    exact Or.inl ⟨hz1, rfl⟩
/-- how a designing ends, in the reference's cells -/
def pq_mfin (h9 : pq_H) (W n : Nat) (w nm : Nat → Nat) (most : Nat) : Prop := ∃ (k : Nat) (rows best : Nat → Nat → Nat) (bs : Option Nat) (st sp : Nat), pq_reach W n w nm most (2, k, rows, bs, best, st, sp) ∧ h9 116 8 = pq_bsI bs ∧ h9 116 11 = nI sp ∧ h9 116 12 = nI st ∧ ∀ b, bs = some b → b ≤ 30 ∧ ∀ j, j < b → pq_sub h9 122 (5 * j) (best j)
def pq_mb (h h' : pq_H) : Prop := (∀ q, q ∉ [116, 120, 121, 122] → h' q = h q) ∧ ∀ j, j ≠ 8 → j ≠ 11 → j ≠ 12 → h' 116 j = h 116 j
theorem pq_mb.rfl' {h : pq_H} : pq_mb h h := ⟨fun _ _ => rfl, fun _ _ _ _ => rfl⟩
theorem pq_mb.trans {h h' h2 : pq_H} (a : pq_mb h h') (b : pq_mb h' h2) : pq_mb h h2 := ⟨fun q hq => (b.1 q hq).trans (a.1 q hq), fun j q1 q2 q3 => (b.2 j q1 q2 q3).trans (a.2 j q1 q2 q3)⟩
theorem pq_mo.mb {h h' : pq_H} {W n : Nat} {w nm pr : Nat → Nat} (hs : pq_mo h W n w nm pr) (hb : pq_mb h h') : pq_mo h' W n w nm pr := hs.of (hb.2 1 (by decide) (by decide) (by decide)) (hb.2 2 (by decide) (by decide) (by decide)) (hb.1 117 (by decide)) (hb.1 118 (by decide)) (hb.1 119 (by decide))
theorem pq_only.mb {h h' : pq_H} {kr : Nat} (a : pq_only kr h h') (hk : kr = 120 ∨ kr = 121 ∨ kr = 122) : pq_mb h h' := ⟨fun q hq => a q (fun e => hq (by rw [e]; rcases hk with z | z | z <;> rw [z] <;> decide)), fun j _ _ _ => by rw [a 116 (by omega)]⟩
/-- the heap of a search, beside the machine: rows of what is left up to kl, of patterns under kn -/
def pq_sh9 (h1 : pq_H) (nm : Nat → Nat) (rows best : Nat → Nat → Nat) (bs : Option Nat) (st sp kl kn : Nat) : Prop := (∀ j, j < kl → pq_sub h1 120 (5 * j) (pq_L nm rows j)) ∧ (∀ j, j < kn → pq_sub h1 121 (5 * j) (rows j)) ∧ h1 116 8 = pq_bsI bs ∧ h1 116 11 = nI sp ∧ h1 116 12 = nI st ∧ ∀ b, bs = some b → ∀ j, j < b → pq_sub h1 122 (5 * j) (best j)
set_option maxRecDepth 100000 in
set_option maxHeartbeats 4000000 in
theorem tM_search (l : Launch) (g : pq_G) (h : pq_H) {W n : Nat} {w nm pr : Nat → Nat} (most : Nat) (hs : pq_mo h W n w nm pr) (he : pq_env W n w nm) (hm : most ≤ 100000) (hl0 : pq_sub h 120 0 nm) (hbs0 : h 116 8 = -1) (hsp0 : h 116 11 = 0) (hst0 : h 116 12 = 0) : XV l yM_search wM_search rM_search g 0 0 [.ref (g.2.2 116), .int (nI most)] h (fun h9 => pq_mb h h9 ∧ pq_mfin h9 W n w nm most) (pq_no) := by
  refine XV.of (cc := cM_search) (maxL := 7) (ret := none) (by decide +kernel) (by simp [Value.category]) (Nat.le_of_ble_eq_true rfl) ?_
  intro p e s m below meth c cx hX hr hlocks hex
  have hn5 : n ≤ 5 := hs.2.1.2.2
  have hL6 : ∀ (rows : Nat → Nat → Nat) (k i : Nat), i < 5 → pq_L nm rows k i ≤ 6 := fun rows k i hi => Nat.le_trans pq_L_le (he.2.1 i hi)
  have loop : ∀ (N mo k : Nat) (rows best : Nat → Nat → Nat) (bs : Option Nat) (st sp : Nat) (h1 : pq_H) (y2 y3 : Int32) (u4 u5 u6 : Option Value), (most - st) * 200 + k < N → st ≤ most → pq_reach W n w nm most (mo, k, rows, bs, best, st, sp) → pq_inv W n w nm (mo, k, rows, bs, best, st, sp) → pq_mb h h1 → ((mo = 0 ∧ y3 = 1 ∧ y2 = nI k ∧ rows k = pq_first W n w (pq_L nm rows k) ∧ pq_sh9 h1 nm rows best bs st sp (k + 1) k) ∨ (mo = 1 ∧ y3 = 0 ∧ ((k = 0 ∧ y2 = -1) ∨ (0 < k ∧ y2 = nI (k - 1))) ∧ pq_sh9 h1 nm rows best bs st sp k k)) → VV p l e rM_search s m [.ref (g.2.2 116), .int (nI most)].toArray below meth c (vx_MQ below (pq_Qv g (fun h9 => pq_mb h h9 ∧ pq_mfin h9 W n w nm most) s.heap.size) (pq_Qx g (pq_no) s.heap.size) [.ref (g.2.2 116), .int (nI most)].toArray s 0 0 (pq_A g s.heap.size)) g 0 0 h1 13 [some (.ref (g.2.2 116)), some (.int (nI most)), some (.int y2), some (.int y3), u4, u5, u6] [] := by
    intro N
    induction N with
    | zero =>
      intro mo k rows best bs st sp h1 y2 y3 u4 u5 u6 hN
      exact absurd hN (by omega)
    | succ N ih =>
      have hC : ∀ (k : Nat) (rows best : Nat → Nat → Nat) (bs : Option Nat) (st sp : Nat) (h2 : pq_H) (u3 u6 : Option Value), (most - st) * 200 ≤ N → st ≤ most → pq_reach W n w nm most (0, k, rows, bs, best, st, sp) → pq_inv W n w nm (0, k, rows, bs, best, st, sp) → pq_mb h h2 → pq_sh9 h2 nm rows best bs st sp (k + 1) (k + 1) →  VV p l e rM_search s m [.ref (g.2.2 116), .int (nI most)].toArray below meth c (vx_MQ below (pq_Qv g (fun h9 => pq_mb h h9 ∧ pq_mfin h9 W n w nm most) s.heap.size) (pq_Qx g (pq_no) s.heap.size) [.ref (g.2.2 116), .int (nI most)].toArray s 0 0 (pq_A g s.heap.size)) g 0 0 h2 89 [some (.ref (g.2.2 116)), some (.int (nI most)), some (.int (nI k)), u3, some (.int (nI (5 * k))), some (.int 1), u6] [] := by
        intro k rows best bs st sp h2 u3 u6 hN hst hre hin hmb hsh
        have hs2 := hs.mb hmb
        have hokk := hin.2.1 rfl
        have hk29 : k < 30 := pq_k_lt he hin.1 (pq_ok_wd he hokk)
        have hin1 : ∀ j, j < k + 1 → pq_ok W n w nm rows j := fun j hj => (Nat.lt_or_ge j k).elim (hin.1 j) (fun q => by rw [show j = k by omega]; exact hokk)
        obtain ⟨s1, s2, s3, s4, s5, s6⟩ := id hsh
        have hle : ∀ i, i < 5 → rows k i ≤ pq_L nm rows k i := fun i hi => by
          rcases Nat.lt_or_ge i n with q | q
          · exact hokk.1.1 i q
          · rw [hokk.1.2.2 i q hi]; exact Nat.zero_le _
        have cp : st < most → ∀ (d i : Nat) (h3 : pq_H), i + d = 5 → pq_mb h2 h3 → (∀ q, q ≠ 116 → q ≠ 120 → h3 q = h2 q) → h3 116 8 = h2 116 8 → h3 116 11 = h2 116 11 → h3 116 12 = nI (st + 1) → (∀ p, p < 5 * k + 5 → h3 120 p = h2 120 p) → (∀ q, q < i → h3 120 (5 * (k + 1) + q) = nI (pq_L nm rows (k + 1) q)) →  VV p l e rM_search s m [.ref (g.2.2 116), .int (nI most)].toArray below meth c (vx_MQ below (pq_Qv g (fun h9 => pq_mb h h9 ∧ pq_mfin h9 W n w nm most) s.heap.size) (pq_Qx g (pq_no) s.heap.size) [.ref (g.2.2 116), .int (nI most)].toArray s 0 0 (pq_A g s.heap.size)) g 0 0 h3 116 [some (.ref (g.2.2 116)), some (.int (nI most)), some (.int (nI k)), u3, some (.int (nI (5 * k))), some (.int 1), some (.int (nI i))] [] := by
          intro hms d
          induction d with
          | zero =>
            intro i h3 hi g1 g2 g3 g4 g5 g6 g7
            have e1 : i = 5 := by omega
            subst e1
            have hs3 := hs2.mb g1
            have hmb3 := hmb.trans g1
            have hre2 := hre.stp
            have hin2 := pq_inv_stp (most := most) he hin
            rw [pq_stp0 hms] at hre2 hin2
            have hsh3 : pq_sh9 h3 nm rows best bs (st + 1) sp (k + 2) (k + 1) := ⟨fun j hj => by
              rcases Nat.lt_or_ge j (k + 1) with q | q
              · exact (s1 j q).of (fun i hi => g6 _ (by omega))
              · rw [show j = k + 1 by omega]; exact g7, fun j hj => (s2 j hj).of (fun i _ => by rw [g2 121 (by decide) (by decide)]), by rw [g3]; exact s3, by rw [g4]; exact s4, g5, fun b q j hj => (s6 b q j hj).of (fun i _ => by rw [g2 122 (by decide) (by decide)])⟩
            have hmu : (most - (st + 1)) * 200 + (k + 1) < N := by
              have : (most - st) * 200 = (most - (st + 1)) * 200 + 200 := by rw [show most - st = (most - (st + 1)) + 1 by omega, Nat.add_mul]
              omega
            refine vv_iload cx dM_search_116 rfl (pc' := 118) rfl ?_
            refine vv_iconst cx dM_search_118 (v := 5) (by decide) (pc' := 119) rfl ?_
            refine vv_icmp_ge cx dM_search_119 (tgt := 161) (by decide) (pc' := 122) rfl (fun c119 => ?_) (fun c119 => ?_)
            · refine vv_aload_n cx dM_search_161 rfl rfl (pc' := 162) rfl ?_
              refine vv_iload_n cx dM_search_162 rfl rfl (pc' := 163) rfl ?_
              refine vv_iconst cx dM_search_163 (v := 1) (by decide) (pc' := 164) rfl ?_
              refine vv_iadd cx dM_search_164 (pc' := 165) rfl ?_
              rw [nI_1]
              refine cc_Vi cx hX (tM_goesOn l g h3 (k + 1) (pq_L nm rows (k + 1)) bs hs3 (by omega) g7 (fun i hi => hL6 rows (k + 1) i hi) hsh3.2.2.1 (fun b q => (hin.2.2 b q).1)) kM_goesOn ww_680 rfl rfl ⟨Nat.le_of_ble_eq_true rfl, Nat.le_of_ble_eq_true rfl⟩ 116 (by decide) sh_116 rfl rfl rfl rfl (Nat.le_of_ble_eq_true rfl) rfl ⟨Nat.le_of_ble_eq_true rfl, Nat.le_of_ble_eq_true rfl⟩ dM_search_165 (pc' := 168) rfl (fun _ _ q => q.elim) (fun r165 h165 q165 => ?_)
              refine vv_istore_n cx dM_search_168 rfl (Nat.le_of_ble_eq_true rfl) (pc' := 169) rfl ?_
              refine vv_iload_n cx dM_search_169 rfl rfl (pc' := 170) rfl ?_
              refine vv_if_eq cx dM_search_170 (tgt := 179) (by decide) (pc' := 173) rfl (fun c170 => ?_) (fun c170 => ?_)
              · refine vv_iload_n cx dM_search_179 rfl rfl (pc' := 180) rfl ?_
                refine vv_istore_n cx dM_search_180 rfl (Nat.le_of_ble_eq_true rfl) (pc' := 181) rfl ?_
                refine vv_goto cx dM_search_181 (tgt := 13) (by decide) ?_
                rcases q165 with ⟨q1, b1, rfl⟩ | ⟨q1, b1, b2, rfl⟩ | ⟨q1, b1, b2, b3, b4, b5, b6⟩
                · rw [pq_open_b b1] at hre2 hin2
                  first
                    | exact absurd c170 (by rw [q1]; exact fun z => z rfl)
                    | (refine ih 1 (k + 1) rows best bs (st + 1) sp _ _ _ _ _ _ hmu (by omega) hre2 hin2 hmb3 (Or.inr ⟨rfl, q1, Or.inr ⟨by omega, rfl⟩, fun j hj => hsh3.1 j (by omega), hsh3.2⟩))
                · rw [pq_open_f b1 b2] at hre2 hin2
                  first
                    | exact absurd c170 (by rw [q1]; decide)
                    | (refine ih 0 (k + 1) (va_up rows (k + 1) (pq_first W n w (pq_L nm rows (k + 1)))) best bs (st + 1) sp _ _ _ _ _ _ hmu (by omega) hre2 hin2 hmb3 (Or.inl ⟨rfl, q1, nI_1 k, ?_, ?_, ?_, hsh3.2.2⟩)
                       · rw [va_up_self, pq_L_up (Nat.le_refl _)]
                       · intro j hj; rw [pq_L_up (by omega)]; exact hsh3.1 j hj
                       · intro j hj; rw [va_up_ne _ _ (by omega)]; exact hsh3.2.1 j hj)
                · rw [pq_open_z b1 b2] at hre2 hin2
                  first
                    | exact absurd c170 (by rw [q1]; exact fun z => z rfl)
                    | (refine ih 1 (k + 1) rows rows (some (k + 1)) (st + 1) sp _ _ _ _ _ _ hmu (by omega) hre2 hin2 (hmb3.trans ⟨fun q hq => b3 q (by simp at hq ⊢; exact ⟨hq.1, hq.2.2.2⟩), fun j q8 _ _ => b5 j q8⟩) (Or.inr ⟨rfl, q1, Or.inr ⟨by omega, rfl⟩, ?_, ?_, b4, ?_, ?_, ?_⟩)
                       · intro j hj; exact (hsh3.1 j (by omega)).of (fun i _ => by rw [b3 120 (by decide)])
                       · intro j hj; exact (hsh3.2.1 j hj).of (fun i _ => by rw [b3 121 (by decide)])
                       · rw [b5 11 (by decide)]; exact hsh3.2.2.2.1
                       · rw [b5 12 (by decide)]; exact hsh3.2.2.2.2.1
                       · intro b q j hj i hi
                         cases q
                         rw [b6 _ (by omega)]; exact hsh3.2.1 j hj i hi)
              · refine vv_iload_n cx dM_search_173 rfl rfl (pc' := 174) rfl ?_
                refine vv_iconst cx dM_search_174 (v := 1) (by decide) (pc' := 175) rfl ?_
                refine vv_iadd cx dM_search_175 (pc' := 176) rfl ?_
                refine vv_goto cx dM_search_176 (tgt := 180) (by decide) ?_
                refine vv_istore_n cx dM_search_180 rfl (Nat.le_of_ble_eq_true rfl) (pc' := 181) rfl ?_
                refine vv_goto cx dM_search_181 (tgt := 13) (by decide) ?_
                rcases q165 with ⟨q1, b1, rfl⟩ | ⟨q1, b1, b2, rfl⟩ | ⟨q1, b1, b2, b3, b4, b5, b6⟩
                · rw [pq_open_b b1] at hre2 hin2
                  first
                    | exact absurd c170 (by rw [q1]; exact fun z => z rfl)
                    | (refine ih 1 (k + 1) rows best bs (st + 1) sp _ _ _ _ _ _ hmu (by omega) hre2 hin2 hmb3 (Or.inr ⟨rfl, q1, Or.inr ⟨by omega, rfl⟩, fun j hj => hsh3.1 j (by omega), hsh3.2⟩))
                · rw [pq_open_f b1 b2] at hre2 hin2
                  first
                    | exact absurd c170 (by rw [q1]; decide)
                    | (refine ih 0 (k + 1) (va_up rows (k + 1) (pq_first W n w (pq_L nm rows (k + 1)))) best bs (st + 1) sp _ _ _ _ _ _ hmu (by omega) hre2 hin2 hmb3 (Or.inl ⟨rfl, q1, nI_1 k, ?_, ?_, ?_, hsh3.2.2⟩)
                       · rw [va_up_self, pq_L_up (Nat.le_refl _)]
                       · intro j hj; rw [pq_L_up (by omega)]; exact hsh3.1 j hj
                       · intro j hj; rw [va_up_ne _ _ (by omega)]; exact hsh3.2.1 j hj)
                · rw [pq_open_z b1 b2] at hre2 hin2
                  first
                    | exact absurd c170 (by rw [q1]; exact fun z => z rfl)
                    | (refine ih 1 (k + 1) rows rows (some (k + 1)) (st + 1) sp _ _ _ _ _ _ hmu (by omega) hre2 hin2 (hmb3.trans ⟨fun q hq => b3 q (by simp at hq ⊢; exact ⟨hq.1, hq.2.2.2⟩), fun j q8 _ _ => b5 j q8⟩) (Or.inr ⟨rfl, q1, Or.inr ⟨by omega, rfl⟩, ?_, ?_, b4, ?_, ?_, ?_⟩)
                       · intro j hj; exact (hsh3.1 j (by omega)).of (fun i _ => by rw [b3 120 (by decide)])
                       · intro j hj; exact (hsh3.2.1 j hj).of (fun i _ => by rw [b3 121 (by decide)])
                       · rw [b5 11 (by decide)]; exact hsh3.2.2.2.1
                       · rw [b5 12 (by decide)]; exact hsh3.2.2.2.2.1
                       · intro b q j hj i hi
                         cases q
                         rw [b6 _ (by omega)]; exact hsh3.2.1 j hj i hi)
            · exact absurd (Int32.le_refl _) c119
          | succ d ih2 =>
            intro i h3 hi g1 g2 g3 g4 g5 g6 g7
            have hli : h3 120 (5 * k + i) = nI (pq_L nm rows k i) := by rw [g6 _ (by omega)]; exact s1 k (by omega) i (by omega)
            have hri : h3 121 (5 * k + i) = nI (rows k i) := by rw [g2 121 (by decide) (by decide)]; exact s2 k (by omega) i (by omega)
            refine vv_iload cx dM_search_116 rfl (pc' := 118) rfl ?_
            refine vv_iconst cx dM_search_118 (v := 5) (by decide) (pc' := 119) rfl ?_
            refine vv_icmp_ge cx dM_search_119 (tgt := 161) (by decide) (pc' := 122) rfl (fun c119 => ?_) (fun c119 => ?_)
            · exact absurd c119 (nI_ge (b := 5) (by omega) (by decide))
            · refine vv_aload_n cx dM_search_122 rfl rfl (pc' := 123) rfl ?_
              refine vv_getR cx (C := RM) (T := TM) (NN := 15) 116 6 _ (by decide) sh_116 rfl rfl (by decide) lyM ww_560 dM_search_123 (pc' := 126) rfl ?_
              refine vv_iload cx dM_search_126 rfl (pc' := 128) rfl ?_
              refine vv_iconst cx dM_search_128 (v := 5) (by decide) (pc' := 129) rfl ?_
              refine vv_iadd cx dM_search_129 (pc' := 130) rfl ?_
              refine vv_iload cx dM_search_130 rfl (pc' := 132) rfl ?_
              refine vv_iadd cx dM_search_132 (pc' := 133) rfl ?_
              rw [show nI (5 * k) + 5 + nI i = nI (5 * k + 5 + i) by rw [show nI (5 * k) + 5 = nI (5 * k + 5) from nI_add _ 5, nI_add]]
              refine vv_aload_n cx dM_search_133 rfl rfl (pc' := 134) rfl ?_
              refine vv_getR cx (C := RM) (T := TM) (NN := 15) 116 6 _ (by decide) sh_116 rfl rfl (by decide) lyM ww_560 dM_search_134 (pc' := 137) rfl ?_
              refine vv_iload cx dM_search_137 rfl (pc' := 139) rfl ?_
              refine vv_iload cx dM_search_139 rfl (pc' := 141) rfl ?_
              refine vv_iadd cx dM_search_141 (pc' := 142) rfl ?_
              rw [nI_add]
              refine vv_iald cx _ (by decide) sh_120 (vp_in_nI (n := 5 * k + i) (by omega) (by decide)) dM_search_142 (pc' := 143) rfl ?_
              refine vv_aload_n cx dM_search_143 rfl rfl (pc' := 144) rfl ?_
              refine vv_getR cx (C := RM) (T := TM) (NN := 15) 116 7 _ (by decide) sh_116 rfl rfl (by decide) lyM ww_561 dM_search_144 (pc' := 147) rfl ?_
              refine vv_iload cx dM_search_147 rfl (pc' := 149) rfl ?_
              refine vv_iload cx dM_search_149 rfl (pc' := 151) rfl ?_
              refine vv_iadd cx dM_search_151 (pc' := 152) rfl ?_
              rw [nI_add]
              refine vv_iald cx _ (by decide) sh_121 (vp_in_nI (n := 5 * k + i) (by omega) (by decide)) dM_search_152 (pc' := 153) rfl ?_
              rw [nI_clamp (n := 5 * k + i) (by omega), hli, hri]
              refine vv_isub cx dM_search_153 (pc' := 154) rfl ?_
              rw [pk_sub (hle i (by omega))]
              refine vv_iast cx _ (by decide) sh_120 (vp_in_nI (n := 5 * k + 5 + i) (by omega) (by decide)) dM_search_154 (pc' := 155) rfl ?_
              rw [nI_clamp (n := 5 * k + 5 + i) (by omega)]
              refine vv_iinc cx dM_search_155 rfl pq_n1 (pc' := 158) rfl ?_
              refine vv_goto cx dM_search_158 (tgt := 116) (by decide) ?_
              refine ih2 (i + 1) _ (by omega) (g1.trans (pq_only.up.mb (Or.inl rfl))) (fun q q1 q2 => by rw [va_up_ne _ _ q2]; exact g2 q q1 q2) (by rw [va_up_ne _ _ (by decide)]; exact g3) (by rw [va_up_ne _ _ (by decide)]; exact g4) (by rw [va_up_ne _ _ (by decide)]; exact g5) (fun p hp => by rw [va_up_self, pk_un (by omega)]; exact g6 p hp) (fun q hq => ?_)
              by_cases e9 : q = i
              · subst e9; rw [va_up_self, show 5 * (k + 1) + q = 5 * k + 5 + q by omega, pk_us, pq_L_succ]
              · rw [va_up_self, pk_un (by omega)]; exact g7 q (by omega)
        refine vv_aload_n cx dM_search_89 rfl rfl (pc' := 90) rfl ?_
        refine vv_getI cx (C := RM) (T := TM) (NN := 15) 116 12 (by decide) sh_116 rfl rfl (by decide) lyM ww_566 dM_search_90 (pc' := 93) rfl ?_
        refine vv_iload_n cx dM_search_93 rfl rfl (pc' := 94) rfl ?_
        rw [s5]
        refine vv_icmp_ne cx dM_search_94 (tgt := 103) (by decide) (pc' := 97) rfl (fun c94 => ?_) (fun c94 => ?_)
        · refine vv_aload_n cx dM_search_103 rfl rfl (pc' := 104) rfl ?_
          refine vv_dup cx dM_search_104 rfl (pc' := 105) rfl ?_
          refine vv_getI cx (C := RM) (T := TM) (NN := 15) 116 12 (by decide) sh_116 rfl rfl (by decide) lyM ww_566 dM_search_105 (pc' := 108) rfl ?_
          refine vv_iconst cx dM_search_108 (v := 1) (by decide) (pc' := 109) rfl ?_
          rw [s5]
          refine vv_iadd cx dM_search_109 (pc' := 110) rfl ?_
          rw [nI_1]
          refine vv_putI cx (C := RM) (T := TM) (NN := 15) 116 12 (by decide) sh_116 rfl rfl (by decide) lyM tyM tyM_ok nmM rfl rfl rfl ww_566 dM_search_110 (pc' := 113) rfl ?_
          refine vv_iconst cx dM_search_113 (v := 0) (by decide) (pc' := 114) rfl ?_
          refine vv_istore cx dM_search_114 (Nat.le_of_ble_eq_true rfl) (pc' := 116) rfl ?_
          exact cp (Nat.lt_of_le_of_ne hst (fun q => c94 (by rw [q]))) 5 0 _ (by omega) ⟨fun q hq => va_up_ne _ _ (fun e => hq (by rw [e]; decide)), fun j _ _ q12 => by rw [va_up_self, pk_un q12]⟩ (fun q q1 _ => va_up_ne _ _ q1) (by rw [va_up_self, pk_un (by decide)]) (by rw [va_up_self, pk_un (by decide)]) (by rw [va_up_self, pk_us]) (fun p _ => by rw [va_up_ne _ _ (by decide)]) (fun q hq => absurd hq (by omega))
        · refine vv_aload_n cx dM_search_97 rfl rfl (pc' := 98) rfl ?_
          refine vv_iconst cx dM_search_98 (v := 1) (by decide) (pc' := 99) rfl ?_
          refine vv_putI cx (C := RM) (T := TM) (NN := 15) 116 11 (by decide) sh_116 rfl rfl (by decide) lyM tyM tyM_ok nmM rfl rfl rfl ww_565 dM_search_99 (pc' := 102) rfl ?_
          refine vv_vret cx hr hlocks dM_search_102 (Nat.le_of_ble_eq_true rfl) (Nat.le_of_ble_eq_true rfl) ?_
          have hms : most ≤ st := by have := (nI_eq (by omega) (by omega)).mp c94; omega
          refine ⟨hmb.trans ⟨fun q hq => va_up_ne _ _ (fun e => hq (by rw [e]; decide)), fun j _ q11 _ => by rw [va_up_self, pk_un q11]⟩, k, rows, best, bs, st, 1, ?_, ?_, ?_, ?_, fun b q => ⟨(hin.2.2 b q).1, fun j hj => (s6 b q j hj).of (fun i _ => by rw [va_up_ne _ _ (by decide)])⟩⟩
          · have := hre.stp
            rw [pq_stp0e hms] at this
            exact this
          · rw [va_up_self, pk_un (by decide)]; exact s3
          · rw [va_up_self, pk_us]; rfl
          · rw [va_up_self, pk_un (by decide)]; exact s5
      intro mo k rows best bs st sp h1 y2 y3 u4 u5 u6 hN hst hre hin hmb hmo
      have hs1 := hs.mb hmb
      have e5 : ∀ j : Nat, (5 : Int32) * nI j = nI (5 * j) := fun j => by rw [show (5 : Int32) = nI 5 from rfl, pk_mul]
      rcases hmo with ⟨rfl, rfl, rfl, hfst, hsh⟩ | ⟨rfl, rfl, hk, hsh⟩
      · refine vv_iload_n cx dM_search_13 rfl rfl (pc' := 14) rfl ?_
        refine vv_if_lt cx dM_search_14 (tgt := 184) (by decide) (pc' := 17) rfl (fun c14 => ?_) (fun c14 => ?_)
        · exact absurd c14 (nI_pos (by have := pq_tot hin.1; have := he.tot; omega))
        · have hokk := hin.2.1 rfl
          have hk29 : k < 30 := pq_k_lt he hin.1 (pq_ok_wd he hokk)
          obtain ⟨z1, z2, z3⟩ := pq_low_of he (pq_ok_wd he hokk)
          obtain ⟨a0, ha0⟩ := pq_anyR (fun i => h1 121 (5 * k + i))
          refine vv_iconst cx dM_search_17 (v := 5) (by decide) (pc' := 18) rfl ?_
          refine vv_iload_n cx dM_search_18 rfl rfl (pc' := 19) rfl ?_
          refine vv_imul cx dM_search_19 (pc' := 20) rfl ?_
          rw [e5]
          refine vv_istore cx dM_search_20 (Nat.le_of_ble_eq_true rfl) (pc' := 22) rfl ?_
          refine vv_iconst cx dM_search_22 (v := 1) (by decide) (pc' := 23) rfl ?_
          refine vv_istore cx dM_search_23 (Nat.le_of_ble_eq_true rfl) (pc' := 25) rfl ?_
          refine vv_iload_n cx dM_search_25 rfl rfl (pc' := 26) rfl ?_
          refine vv_if_eq cx dM_search_26 (tgt := 39) (by decide) (pc' := 29) rfl (fun c26 => ?_) (fun c26 => ?_)
          · exact absurd c26 (by decide)
          · refine vv_aload_n cx dM_search_29 rfl rfl (pc' := 30) rfl ?_
            refine vv_iload cx dM_search_30 rfl (pc' := 32) rfl ?_
            refine vv_iconst cx dM_search_32 (v := 0) (by decide) (pc' := 33) rfl ?_
            refine cc_Vv cx hX (tM_fill l g h1 (5 * k) 0 a0 (pq_L nm rows k) hs1 (by omega) (by omega) (fun i _ => ha0 i) (hsh.1 k (by omega)) (by rw [Nat.zero_min]; exact Nat.zero_le _) (fun i hi => hL6 rows k i hi)) kM_fill ww_643 rfl rfl ⟨Nat.le_of_ble_eq_true rfl, Nat.le_of_ble_eq_true rfl⟩ 116 (by decide) sh_116 rfl rfl rfl rfl (Nat.le_of_ble_eq_true rfl) rfl ⟨Nat.le_of_ble_eq_true rfl, Nat.le_of_ble_eq_true rfl⟩ dM_search_33 (pc' := 36) rfl (fun _ _ q => q.elim) (fun h33 q33 => ?_)
            obtain ⟨f1, b, f2, f3⟩ := q33
            have hrow : pq_sub h33 121 (5 * k) (rows k) := fun i hi => by rw [f2 i hi, pq_first_of f3 i hi, hfst]
            have hmb3 := hmb.trans (f1.1.mb (Or.inr (Or.inl rfl)))
            have hsh3 : pq_sh9 h33 nm rows best bs st sp (k + 1) (k + 1) := ⟨fun j hj => (hsh.1 j hj).of (fun i _ => by rw [f1.1 120 (by decide)]), fun j hj => (Nat.lt_or_ge j k).elim (fun q => (hsh.2.1 j q).of (fun i hi => f1.2 _ (by omega))) (fun q => by rw [show j = k by omega]; exact hrow), by rw [f1.1 116 (by decide)]; exact hsh.2.2.1, by rw [f1.1 116 (by decide)]; exact hsh.2.2.2.1, by rw [f1.1 116 (by decide)]; exact hsh.2.2.2.2.1, fun b q j hj => (hsh.2.2.2.2.2 b q j hj).of (fun i _ => by rw [f1.1 122 (by decide)])⟩
            refine vv_goto cx dM_search_36 (tgt := 47) (by decide) ?_
            refine vv_iload cx dM_search_47 rfl (pc' := 49) rfl ?_
            refine vv_if_eq cx dM_search_49 (tgt := 73) (by decide) (pc' := 52) rfl (fun c49 => ?_) (fun c49 => ?_)
            · exact absurd c49 (by decide)
            · refine vv_aload_n cx dM_search_52 rfl rfl (pc' := 53) rfl ?_
              refine vv_getR cx (C := RM) (T := TM) (NN := 15) 116 7 _ (by decide) sh_116 rfl rfl (by decide) lyM ww_561 dM_search_53 (pc' := 56) rfl ?_
              refine vv_iload cx dM_search_56 rfl (pc' := 58) rfl ?_
              refine vv_aload_n cx dM_search_58 rfl rfl (pc' := 59) rfl ?_
              refine vv_iload cx dM_search_59 rfl (pc' := 61) rfl ?_
              refine cc_Vi cx hX (tM_lowestLeft l g h33 (5 * k) (pq_low (pq_L nm rows k) n) (pq_L nm rows k) (by omega) (hsh3.1 k (by omega)) (by omega) z2 (hL6 rows k _ (by omega)) z3) kM_lowestLeft ww_692 rfl rfl ⟨Nat.le_of_ble_eq_true rfl, Nat.le_of_ble_eq_true rfl⟩ 116 (by decide) sh_116 rfl rfl rfl rfl (Nat.le_of_ble_eq_true rfl) rfl ⟨Nat.le_of_ble_eq_true rfl, Nat.le_of_ble_eq_true rfl⟩ dM_search_61 (pc' := 64) rfl (fun _ _ q => q.elim) (fun r61 h61 q61 => ?_)
              obtain ⟨rfl, rfl⟩ := q61
              refine vv_iadd cx dM_search_64 (pc' := 65) rfl ?_
              rw [nI_add]
              refine vv_iald cx _ (by decide) sh_121 (vp_in_nI (n := 5 * k + pq_low (pq_L nm rows k) n) (by omega) (by decide)) dM_search_65 (pc' := 66) rfl ?_
              rw [nI_clamp (n := 5 * k + pq_low (pq_L nm rows k) n) (by omega), hrow _ (by omega)]
              refine vv_if_le cx dM_search_66 (tgt := 73) (by decide) (pc' := 69) rfl (fun c66 => ?_) (fun c66 => ?_)
              · exact absurd c66 (nI_nle (by have := hokk.2.2; omega) (by have := (hokk.sm he _ (show pq_low (pq_L nm rows k) n < 5 by omega)).1; omega))
              · refine vv_iconst cx dM_search_69 (v := 1) (by decide) (pc' := 70) rfl ?_
                refine vv_goto cx dM_search_70 (tgt := 74) (by decide) ?_
                refine vv_istore cx dM_search_74 (Nat.le_of_ble_eq_true rfl) (pc' := 76) rfl ?_
                refine vv_iload cx dM_search_76 rfl (pc' := 78) rfl ?_
                refine vv_if_ne cx dM_search_78 (tgt := 89) (by decide) (pc' := 81) rfl (fun c78 => ?_) (fun c78 => ?_)
                · exact hC k rows best bs st sp _ _ _ (by omega) hst hre hin hmb3 hsh3
                · exact absurd c78 (by decide)
      · rcases hk with ⟨rfl, rfl⟩ | ⟨hkp, rfl⟩
        · refine vv_iload_n cx dM_search_13 rfl rfl (pc' := 14) rfl ?_
          refine vv_if_lt cx dM_search_14 (tgt := 184) (by decide) (pc' := 17) rfl (fun c14 => ?_) (fun c14 => ?_)
          · refine vv_vret cx hr hlocks dM_search_184 (Nat.le_of_ble_eq_true rfl) (Nat.le_of_ble_eq_true rfl) ?_
            refine ⟨hmb, 0, rows, best, bs, st, sp, hre.stp, hsh.2.2.1, hsh.2.2.2.1, hsh.2.2.2.2.1, fun b q => ⟨(hin.2.2 b q).1, hsh.2.2.2.2.2 b q⟩⟩
          · exact absurd (by decide) c14
        · obtain ⟨k, rfl⟩ : ∃ k9, k = k9 + 1 := ⟨k - 1, by omega⟩
          rw [show k + 1 - 1 = k from rfl]
          have hokk := hin.1 k (by omega)
          have hk29 : k < 30 := pq_k_lt he (fun j hj => hin.1 j (by omega)) (pq_ok_wd he hokk)
          obtain ⟨z1, z2, z3⟩ := pq_low_of he (pq_ok_wd he hokk)
          have hre2 : pq_reach W n w nm most (pq_back W n w nm k rows bs best st sp) := hre.stp
          have hin2 : pq_inv W n w nm (pq_back W n w nm k rows bs best st sp) := pq_inv_stp (most := most) he hin
          obtain ⟨b0, hb0, hb1⟩ := pq_next_z (W := W) (w := w) (th := pq_L nm rows k) (show pq_low (pq_L nm rows k) n < 5 by omega) hokk.2.2 (fun j hj => by have := hokk.1.1 j (by omega); rw [z3 j hj] at this; omega) z1 hn5
          refine vv_iload_n cx dM_search_13 rfl rfl (pc' := 14) rfl ?_
          refine vv_if_lt cx dM_search_14 (tgt := 184) (by decide) (pc' := 17) rfl (fun c14 => ?_) (fun c14 => ?_)
          · exact absurd c14 (nI_pos (by omega))
          · refine vv_iconst cx dM_search_17 (v := 5) (by decide) (pc' := 18) rfl ?_
            refine vv_iload_n cx dM_search_18 rfl rfl (pc' := 19) rfl ?_
            refine vv_imul cx dM_search_19 (pc' := 20) rfl ?_
            rw [e5]
            refine vv_istore cx dM_search_20 (Nat.le_of_ble_eq_true rfl) (pc' := 22) rfl ?_
            refine vv_iconst cx dM_search_22 (v := 1) (by decide) (pc' := 23) rfl ?_
            refine vv_istore cx dM_search_23 (Nat.le_of_ble_eq_true rfl) (pc' := 25) rfl ?_
            refine vv_iload_n cx dM_search_25 rfl rfl (pc' := 26) rfl ?_
            refine vv_if_eq cx dM_search_26 (tgt := 39) (by decide) (pc' := 29) rfl (fun c26 => ?_) (fun c26 => ?_)
            · refine vv_aload_n cx dM_search_39 rfl rfl (pc' := 40) rfl ?_
              refine vv_iload cx dM_search_40 rfl (pc' := 42) rfl ?_
              refine cc_Vi cx hX (tM_goesDown l g h1 (5 * k) (rows k) (pq_L nm rows k) hs1 (by omega) (hsh.2.1 k (by omega)) (hsh.1 k (by omega)) hokk.1 (fun i hi => hL6 rows k i hi)) kM_goesDown ww_655 rfl rfl ⟨Nat.le_of_ble_eq_true rfl, Nat.le_of_ble_eq_true rfl⟩ 116 (by decide) sh_116 rfl rfl rfl rfl (Nat.le_of_ble_eq_true rfl) rfl ⟨Nat.le_of_ble_eq_true rfl, Nat.le_of_ble_eq_true rfl⟩ dM_search_42 (pc' := 45) rfl (fun _ _ q => q.elim) (fun r42 h42 q42 => ?_)
              rcases q42 with ⟨rfl, b, hnx, f1, f2⟩ | ⟨-, hnx, -⟩
              rotate_left
              · rw [hb0] at hnx; exact nomatch hnx
              obtain rfl : b0 = b := Option.some.inj (hb0.symm.trans hnx)
              have hmb3 := hmb.trans (f1.1.mb (Or.inr (Or.inl rfl)))
              have hb6 := pq_pat6 (pq_next_pat hokk.1 (Nat.le_refl _) hnx) (fun i hi => hL6 rows k i hi)
              refine vv_istore cx dM_search_45 (Nat.le_of_ble_eq_true rfl) (pc' := 47) rfl ?_
              refine vv_iload cx dM_search_47 rfl (pc' := 49) rfl ?_
              refine vv_if_eq cx dM_search_49 (tgt := 73) (by decide) (pc' := 52) rfl (fun c49 => ?_) (fun c49 => ?_)
              · exact absurd c49 (by decide)
              · refine vv_aload_n cx dM_search_52 rfl rfl (pc' := 53) rfl ?_
                refine vv_getR cx (C := RM) (T := TM) (NN := 15) 116 7 _ (by decide) sh_116 rfl rfl (by decide) lyM ww_561 dM_search_53 (pc' := 56) rfl ?_
                refine vv_iload cx dM_search_56 rfl (pc' := 58) rfl ?_
                refine vv_aload_n cx dM_search_58 rfl rfl (pc' := 59) rfl ?_
                refine vv_iload cx dM_search_59 rfl (pc' := 61) rfl ?_
                refine cc_Vi cx hX (tM_lowestLeft l g h42 (5 * k) (pq_low (pq_L nm rows k) n) (pq_L nm rows k) (by omega) ((hsh.1 k (by omega)).of (fun i _ => by rw [f1.1 120 (by decide)])) (by omega) z2 (hL6 rows k _ (by omega)) z3) kM_lowestLeft ww_692 rfl rfl ⟨Nat.le_of_ble_eq_true rfl, Nat.le_of_ble_eq_true rfl⟩ 116 (by decide) sh_116 rfl rfl rfl rfl (Nat.le_of_ble_eq_true rfl) rfl ⟨Nat.le_of_ble_eq_true rfl, Nat.le_of_ble_eq_true rfl⟩ dM_search_61 (pc' := 64) rfl (fun _ _ q => q.elim) (fun r61 h61 q61 => ?_)
                obtain ⟨rfl, rfl⟩ := q61
                refine vv_iadd cx dM_search_64 (pc' := 65) rfl ?_
                rw [nI_add]
                refine vv_iald cx _ (by decide) sh_121 (vp_in_nI (n := 5 * k + pq_low (pq_L nm rows k) n) (by omega) (by decide)) dM_search_65 (pc' := 66) rfl ?_
                rw [nI_clamp (n := 5 * k + pq_low (pq_L nm rows k) n) (by omega), f2 _ (by omega)]
                refine vv_if_le cx dM_search_66 (tgt := 73) (by decide) (pc' := 69) rfl (fun c66 => ?_) (fun c66 => ?_)
                · refine vv_iconst cx dM_search_73 (v := 0) (by decide) (pc' := 74) rfl ?_
                  refine vv_istore cx dM_search_74 (Nat.le_of_ble_eq_true rfl) (pc' := 76) rfl ?_
                  refine vv_iload cx dM_search_76 rfl (pc' := 78) rfl ?_
                  refine vv_if_ne cx dM_search_78 (tgt := 89) (by decide) (pc' := 81) rfl (fun c78 => ?_) (fun c78 => ?_)
                  · first
                    | exact absurd rfl c78
                    | (have hpos : 0 < b0 (pq_low (pq_L nm rows k) n) := pq_pos (Int32.not_le.mp c66)
                       have hyes : pq_next W n w (pq_L nm rows k) (rows k) (pq_low (pq_L nm rows k) n) n = some b0 := by
                         rcases hb1 with q | q
                         · exact q.2
                         · exact absurd q.1 (by omega)
                       rw [pq_back_s hyes] at hre2 hin2
                       refine hC k (va_up rows k b0) best bs st sp _ _ _ (by omega) hst hre2 hin2 hmb3 ⟨fun j hj => ?_, fun j hj => ?_, by rw [f1.1 116 (by decide)]; exact hsh.2.2.1, by rw [f1.1 116 (by decide)]; exact hsh.2.2.2.1, by rw [f1.1 116 (by decide)]; exact hsh.2.2.2.2.1, fun b q j hj => (hsh.2.2.2.2.2 b q j hj).of (fun i _ => by rw [f1.1 122 (by decide)])⟩
                       · rw [pq_L_up (by omega)]; exact (hsh.1 j hj).of (fun i _ => by rw [f1.1 120 (by decide)])
                       · by_cases e9 : j = k
                         · subst e9; rw [va_up_self]; exact f2
                         · rw [va_up_ne _ _ e9]; exact (hsh.2.1 j (by omega)).of (fun i hi => f1.2 _ (by omega)))
                  · refine vv_iinc cx dM_search_81 rfl rfl (pc' := 84) rfl ?_
                    refine vv_iconst cx dM_search_84 (v := 0) (by decide) (pc' := 85) rfl ?_
                    refine vv_istore_n cx dM_search_85 rfl (Nat.le_of_ble_eq_true rfl) (pc' := 86) rfl ?_
                    refine vv_goto cx dM_search_86 (tgt := 181) (by decide) ?_
                    refine vv_goto cx dM_search_181 (tgt := 13) (by decide) ?_
                    first
                    | exact absurd c78 (by decide)
                    | (have hnz : b0 (pq_low (pq_L nm rows k) n) = 0 := Nat.eq_zero_of_not_pos (fun q => nI_nle q (by have := hb6 (pq_low (pq_L nm rows k) n) (by omega); omega) c66)
                       have hno : pq_next W n w (pq_L nm rows k) (rows k) (pq_low (pq_L nm rows k) n) n = none := by
                         rcases hb1 with q | q
                         · exact absurd q.1 (by omega)
                         · exact q.2
                       rw [pq_back_n hno] at hre2 hin2
                       refine ih 1 k rows best bs st sp _ _ _ _ _ _ (by omega) hst hre2 hin2 hmb3 (Or.inr ⟨rfl, rfl, ?_, ?_⟩)
                       · rcases Nat.eq_zero_or_pos k with q | q
                         · exact Or.inl ⟨q, by rw [q]; rfl⟩
                         · exact Or.inr ⟨q, by rw [show k = (k - 1) + 1 by omega]; exact pk_m1 _⟩
                       · exact ⟨fun j hj => (hsh.1 j (by omega)).of (fun i _ => by rw [f1.1 120 (by decide)]), fun j hj => (hsh.2.1 j (by omega)).of (fun i hi => f1.2 _ (by omega)), by rw [f1.1 116 (by decide)]; exact hsh.2.2.1, by rw [f1.1 116 (by decide)]; exact hsh.2.2.2.1, by rw [f1.1 116 (by decide)]; exact hsh.2.2.2.2.1, fun b q j hj => (hsh.2.2.2.2.2 b q j hj).of (fun i _ => by rw [f1.1 122 (by decide)])⟩)
                · refine vv_iconst cx dM_search_69 (v := 1) (by decide) (pc' := 70) rfl ?_
                  refine vv_goto cx dM_search_70 (tgt := 74) (by decide) ?_
                  refine vv_istore cx dM_search_74 (Nat.le_of_ble_eq_true rfl) (pc' := 76) rfl ?_
                  refine vv_iload cx dM_search_76 rfl (pc' := 78) rfl ?_
                  refine vv_if_ne cx dM_search_78 (tgt := 89) (by decide) (pc' := 81) rfl (fun c78 => ?_) (fun c78 => ?_)
                  · first
                    | exact absurd rfl c78
                    | (have hpos : 0 < b0 (pq_low (pq_L nm rows k) n) := pq_pos (Int32.not_le.mp c66)
                       have hyes : pq_next W n w (pq_L nm rows k) (rows k) (pq_low (pq_L nm rows k) n) n = some b0 := by
                         rcases hb1 with q | q
                         · exact q.2
                         · exact absurd q.1 (by omega)
                       rw [pq_back_s hyes] at hre2 hin2
                       refine hC k (va_up rows k b0) best bs st sp _ _ _ (by omega) hst hre2 hin2 hmb3 ⟨fun j hj => ?_, fun j hj => ?_, by rw [f1.1 116 (by decide)]; exact hsh.2.2.1, by rw [f1.1 116 (by decide)]; exact hsh.2.2.2.1, by rw [f1.1 116 (by decide)]; exact hsh.2.2.2.2.1, fun b q j hj => (hsh.2.2.2.2.2 b q j hj).of (fun i _ => by rw [f1.1 122 (by decide)])⟩
                       · rw [pq_L_up (by omega)]; exact (hsh.1 j hj).of (fun i _ => by rw [f1.1 120 (by decide)])
                       · by_cases e9 : j = k
                         · subst e9; rw [va_up_self]; exact f2
                         · rw [va_up_ne _ _ e9]; exact (hsh.2.1 j (by omega)).of (fun i hi => f1.2 _ (by omega)))
                  · refine vv_iinc cx dM_search_81 rfl rfl (pc' := 84) rfl ?_
                    refine vv_iconst cx dM_search_84 (v := 0) (by decide) (pc' := 85) rfl ?_
                    refine vv_istore_n cx dM_search_85 rfl (Nat.le_of_ble_eq_true rfl) (pc' := 86) rfl ?_
                    refine vv_goto cx dM_search_86 (tgt := 181) (by decide) ?_
                    refine vv_goto cx dM_search_181 (tgt := 13) (by decide) ?_
                    first
                    | exact absurd c78 (by decide)
                    | (have hnz : b0 (pq_low (pq_L nm rows k) n) = 0 := Nat.eq_zero_of_not_pos (fun q => nI_nle q (by have := hb6 (pq_low (pq_L nm rows k) n) (by omega); omega) c66)
                       have hno : pq_next W n w (pq_L nm rows k) (rows k) (pq_low (pq_L nm rows k) n) n = none := by
                         rcases hb1 with q | q
                         · exact absurd q.1 (by omega)
                         · exact q.2
                       rw [pq_back_n hno] at hre2 hin2
                       refine ih 1 k rows best bs st sp _ _ _ _ _ _ (by omega) hst hre2 hin2 hmb3 (Or.inr ⟨rfl, rfl, ?_, ?_⟩)
                       · rcases Nat.eq_zero_or_pos k with q | q
                         · exact Or.inl ⟨q, by rw [q]; rfl⟩
                         · exact Or.inr ⟨q, by rw [show k = (k - 1) + 1 by omega]; exact pk_m1 _⟩
                       · exact ⟨fun j hj => (hsh.1 j (by omega)).of (fun i _ => by rw [f1.1 120 (by decide)]), fun j hj => (hsh.2.1 j (by omega)).of (fun i hi => f1.2 _ (by omega)), by rw [f1.1 116 (by decide)]; exact hsh.2.2.1, by rw [f1.1 116 (by decide)]; exact hsh.2.2.2.1, by rw [f1.1 116 (by decide)]; exact hsh.2.2.2.2.1, fun b q j hj => (hsh.2.2.2.2.2 b q j hj).of (fun i _ => by rw [f1.1 122 (by decide)])⟩)
            · exact absurd rfl c26
  refine vv_iconst cx dM_search_0 (v := 0) (by decide) (pc' := 1) rfl ?_
  refine vv_istore_n cx dM_search_1 rfl (Nat.le_of_ble_eq_true rfl) (pc' := 2) rfl ?_
  refine vv_iconst cx dM_search_2 (v := 1) (by decide) (pc' := 3) rfl ?_
  refine vv_istore_n cx dM_search_3 rfl (Nat.le_of_ble_eq_true rfl) (pc' := 4) rfl ?_
  refine vv_aload_n cx dM_search_4 rfl rfl (pc' := 5) rfl ?_
  refine vv_iconst cx dM_search_5 (v := 0) (by decide) (pc' := 6) rfl ?_
  refine cc_Vi cx hX (tM_goesOn l g h 0 (pq_L nm (fun _ _ => 0) 0) none hs (by omega) hl0 (fun i hi => hL6 _ 0 i hi) hbs0 (fun b q => nomatch q)) kM_goesOn ww_680 rfl rfl ⟨Nat.le_of_ble_eq_true rfl, Nat.le_of_ble_eq_true rfl⟩ 116 (by decide) sh_116 rfl rfl rfl rfl (Nat.le_of_ble_eq_true rfl) rfl ⟨Nat.le_of_ble_eq_true rfl, Nat.le_of_ble_eq_true rfl⟩ dM_search_6 (pc' := 9) rfl (fun _ _ q => q.elim) (fun r6 h6 q6 => ?_)
  refine vv_if_ne cx dM_search_9 (tgt := 13) (by decide) (pc' := 12) rfl (fun c9 => ?_) (fun c9 => ?_)
  · have hre0 : pq_reach W n w nm most (pq_open W n w nm 0 (fun _ _ => 0) none (fun _ _ => 0) 0 0) := ⟨0, rfl⟩
    have hin0 : pq_inv W n w nm (pq_open W n w nm 0 (fun _ _ => 0) none (fun _ _ => 0) 0 0) := pq_inv_start he
    rcases q6 with ⟨-, b1, -⟩ | ⟨-, b1, b2, rfl⟩ | ⟨q1, -⟩
    · exact nomatch b1
    · rw [pq_open_f b1 b2] at hre0 hin0
      refine loop ((most - 0) * 200 + 1) 0 0 (va_up (fun _ _ => 0) 0 (pq_first W n w (pq_L nm (fun _ _ => 0) 0))) _ none 0 0 _ _ _ _ _ _ (by omega) (by omega) hre0 hin0 pq_mb.rfl' (Or.inl ⟨rfl, rfl, rfl, by rw [va_up_self, pq_L_up (Nat.le_refl _)], fun j hj => ?_, fun j hj => absurd hj (by omega), hbs0, hsp0, hst0, fun b q => nomatch q⟩)
      rw [show j = 0 by omega]; exact hl0
    · exact absurd q1 c9
  · refine vv_vret cx hr hlocks dM_search_12 (Nat.le_of_ble_eq_true rfl) (Nat.le_of_ble_eq_true rfl) ?_
    have hre0 : pq_reach W n w nm most (pq_open W n w nm 0 (fun _ _ => 0) none (fun _ _ => 0) 0 0) := ⟨0, rfl⟩
    rcases q6 with ⟨-, b1, -⟩ | ⟨q1, -⟩ | ⟨-, b1, b2, b3, b4, b5, -⟩
    · exact nomatch b1
    · exact absurd c9 (by rw [q1]; decide)
    · rw [pq_open_z b1 b2] at hre0
      exact ⟨⟨fun q hq => b3 q (by simp at hq ⊢; exact ⟨hq.1, hq.2.2.2⟩), fun j q8 _ _ => b5 j q8⟩, 0, _, _, some 0, 0, 0, hre0.stp, b4, by rw [b5 11 (by decide), hsp0]; rfl, by rw [b5 12 (by decide), hst0]; rfl, fun b q => by cases q; exact ⟨by omega, fun j hj => absurd hj (by omega)⟩⟩

/-! part 09: the column: pure, and the class's search for it -/
theorem pq_fillS_congr {w th : Nat → Nat} : ∀ (s : Nat) (a a' : Nat → Nat) (i R j : Nat), (∀ x, (x < i ∨ i + s ≤ x) → x < 5 → a x = a' x) → j < 5 → pq_fillS w th s a i R j = pq_fillS w th s a' i R j
  | 0, a, a', i, R, j, h, hj => h j (by omega) hj
  | s + 1, a, a', i, R, j, h, hj => by
    show pq_fillS w th s _ _ _ j = pq_fillS w th s _ _ _ j
    refine pq_fillS_congr s _ _ _ _ j (fun x hx h5 => ?_) hj
    by_cases e : x = i
    · subst e; rw [va_up_self, va_up_self]
    · rw [va_up_ne _ _ e, va_up_ne _ _ e]; exact h x (by omega) h5
def pq_first (W n : Nat) (w th : Nat → Nat) : Nat → Nat := pq_fill W n w th (fun _ => 0) 0
theorem pq_fill_first {W n : Nat} {w th a : Nat → Nat} (hz : ∀ j, n ≤ j → j < 5 → a j = 0) : ∀ i, i < 5 → pq_fill W n w th a 0 i = pq_first W n w th i := fun i hi =>
  pq_fillS_congr _ _ _ _ _ _ (fun x hx h5 => by rw [hz x (by omega) h5]) hi
theorem pq_first_pat {W n : Nat} {w th : Nat → Nat} : pq_pat W n w th (pq_first W n w th) := pq_fill_pat (Nat.zero_le _) (fun j hj => absurd hj (by omega)) (Nat.zero_le _) (fun _ _ _ => rfl)
def pq_price (n : Nat) (pr a : Nat → Nat) : Nat := pq_sum (fun i => a i * pr i) n
def pq_colL (W n : Nat) (w nm pr : Nat → Nat) : Nat → Option (Nat → Nat) → Nat → (Nat → Nat) → Nat × (Nat → Nat)
  | 0, _, s, p => (s, p)
  | _ + 1, none, s, p => (s, p)
  | f + 1, some b, s, p => if s < pq_price n pr b then pq_colL W n w nm pr f (pq_next W n w nm b 5 (n - 1)) (pq_price n pr b) b else pq_colL W n w nm pr f (pq_next W n w nm b 5 (n - 1)) s p
def pq_col (W n : Nat) (w nm pr : Nat → Nat) : Nat × (Nat → Nat) := pq_colL W n w nm pr 16807 (pq_next W n w nm (pq_first W n w nm) 5 (n - 1)) (pq_price n pr (pq_first W n w nm)) (pq_first W n w nm)
theorem pq_price_bd {W n : Nat} {w nm pr a : Nat → Nat} (hn : n ≤ 5) (ha : pq_pat W n w nm a) (hb : ∀ i, i < 5 → nm i ≤ 6 ∧ pr i ≤ 1000) : pq_price n pr a ≤ 30000 :=
  Nat.le_trans (pq_sum_bd (B := 6000) (fun i hi => Nat.le_trans (Nat.mul_le_mul (Nat.le_trans (ha.1 i hi) (hb i (by omega)).1) (hb i (by omega)).2) (by decide))) (by omega)
theorem pq_nd5 : ∀ i, i < 5 → (nI i = -1 ↔ i = 5) := by decide +kernel
theorem pq_top2 : ∀ n, n < 6 → (n - 1 = 0 ∧ (if nI n - 1 < nI n - 2 then nI n - 1 else nI n - 2) < 0) ∨ (0 < n - 1 ∧ (if nI n - 1 < nI n - 2 then nI n - 1 else nI n - 2) = nI (n - 1 - 1)) := by decide +kernel
theorem pq_st.but {h h' : pq_H} {W n : Nat} {w nm pr : Nat → Nat} {L : List Nat} (hs : pq_st h W n w nm pr) (hb : pq_but L h h') (hL : 1 ∉ L ∧ 8 ∉ L ∧ 9 ∉ L ∧ 10 ∉ L) : pq_st h' W n w nm pr := hs.of (hb 1 hL.1) (hb 8 hL.2.1) (hb 9 hL.2.2.1) (hb 10 hL.2.2.2)
/-- a row that has nothing beyond the orders -/
def pq_z (h : pq_H) (k n : Nat) : Prop := ∃ a, pq_row h k a ∧ ∀ j, n ≤ j → j < 5 → a j = 0
/-- the dearest pattern is known -/
def pq_dk (h : pq_H) (W n : Nat) (w nm pr : Nat → Nat) : Prop := h 2 4 = 1 ∧ h 2 3 = nI (pq_col W n w nm pr).1 ∧ pq_row h 11 (pq_col W n w nm pr).2
def pq_dn (h : pq_H) (W n : Nat) (w nm pr : Nat → Nat) : Prop := pq_z h 12 n ∧ (pq_dk h W n w nm pr ∨ h 2 4 = 0)
set_option maxRecDepth 100000 in
set_option maxHeartbeats 4000000 in
theorem tD_seek (l : Launch) (g : pq_G) (h : pq_H) {W n : Nat} {w nm pr : Nat → Nat} (hs : pq_st h W n w nm pr) (hd : pq_dn h W n w nm pr) : XV l yD_seek wD_seek rD_seek g 0 0 [.ref (g.2.2 2)] h (fun h9 => pq_but [2, 11, 12] h h9 ∧ pq_z h9 12 n ∧ pq_dk h9 W n w nm pr) (pq_no) := by
  refine XV.of (cc := cD_seek) (maxL := 5) (ret := none) (by decide +kernel) (by simp [Value.category]) (Nat.le_of_ble_eq_true rfl) ?_
  intro p e s m below meth c cx hX hr hlocks hex
  obtain ⟨⟨a0, ha0, hz0⟩, hdk⟩ := id hd
  have hn5 : n ≤ 5 := hs.2.1.2.2
  have hnm6 : ∀ i, i < 5 → nm i ≤ 6 := fun i hi => (hs.2.2.1 i hi).2.1
  have hbb : ∀ i, i < 5 → nm i ≤ 6 ∧ pr i ≤ 1000 := fun i hi => (hs.2.2.1 i hi).2
  have nx := fun (h1 : pq_H) (b : Nat → Nat) (hs1 : pq_st h1 W n w nm pr) (hb1 : pq_row h1 12 b) (hp : pq_pat W n w nm b) => tS_nextPattern l g h1 12 9 b nm (nI n - 2) (-1) 5 (n - 1) (Or.inl ⟨by decide, by decide⟩) (Or.inl ⟨by decide, by decide⟩) (by decide) (by decide) hs1 hb1 hs1.1.2.2.2.1 hp hnm6 pq_nd5 (by omega) (pq_top2 n (by omega))
  have loop : ∀ (f c9 : Nat) (y mo : Int32) (u4 : Option Value) (h1 : pq_H) (s9 : Nat) (p9 : Nat → Nat) (cur : Option (Nat → Nat)), y = nI c9 → c9 + f = 16807 → pq_but [2, 11, 12] h h1 → h1 2 3 = nI s9 → s9 ≤ 30000 → pq_row h1 11 p9 → ((mo = 1 ∧ ∃ b, cur = some b ∧ pq_row h1 12 b ∧ pq_pat W n w nm b) ∨ (mo = 0 ∧ cur = none ∧ pq_z h1 12 n)) → pq_colL W n w nm pr f cur s9 p9 = pq_col W n w nm pr → VV p l e rD_seek s m [.ref (g.2.2 2)].toArray below meth c (vx_MQ below (pq_Qv g (fun h9 => pq_but [2, 11, 12] h h9 ∧ pq_z h9 12 n ∧ pq_dk h9 W n w nm pr) s.heap.size) (pq_Qx g (pq_no) s.heap.size) [.ref (g.2.2 2)].toArray s 0 0 (pq_A g s.heap.size)) g 0 0 h1 74 [some (.ref (g.2.2 2)), some (.int (nI n - 2)), some (.int mo), some (.int y), u4] [] := by
    have hend : ∀ (h1 : pq_H) (s9 : Nat) (p9 : Nat → Nat), pq_but [2, 11, 12] h h1 → h1 2 3 = nI s9 → pq_row h1 11 p9 → pq_z h1 12 n → (s9, p9) = pq_col W n w nm pr → (pq_but [2, 11, 12] h (va_up h1 2 (upd (h1 2) 4 1)) ∧ pq_z (va_up h1 2 (upd (h1 2) 4 1)) 12 n ∧ pq_dk (va_up h1 2 (upd (h1 2) 4 1)) W n w nm pr) := by
      intro h1 s9 p9 hb h3 h11 hz he
      refine ⟨hb.trans (pq_but.up (by decide)), ?_, ?_, ?_, ?_⟩
      · obtain ⟨a, q1, q2⟩ := hz
        exact ⟨a, q1.of (va_up_ne _ _ (by decide)), q2⟩
      · simp [va_up, upd]
      · rw [← he]; simp [va_up, upd, h3]
      · rw [← he]; exact h11.of (va_up_ne _ _ (by decide))
    intro f
    induction f with
    | zero =>
      intro c9 y mo u4 h1 s9 p9 cur hy hc hb h3 hs9 h11 hm hf
      have hcv : c9 = 16807 := by omega
      subst hcv
      have hz : pq_z h1 12 n := by
        rcases hm with ⟨-, b, -, q1, q2⟩ | ⟨-, -, q⟩
        · exact ⟨b, q1, q2.2.2⟩
        · exact q
      refine vv_iload_n cx dD_seek_74 rfl rfl (pc' := 75) rfl ?_
      refine vv_sipush cx dD_seek_75 (v := 16807) (by decide) (pc' := 78) rfl ?_
      refine vv_icmp_ge cx dD_seek_78 (tgt := 140) (by decide) (pc' := 81) rfl (fun c78 => ?_) (fun c78 => ?_)
      · refine vv_aload_n cx dD_seek_140 rfl rfl (pc' := 141) rfl ?_
        refine vv_iconst cx dD_seek_141 (v := 1) (by decide) (pc' := 142) rfl ?_
        refine vv_putI cx (C := RD) (T := TD) (NN := 5) 2 4 (by decide) sh_2 rfl rfl (by decide) lyD tyD tyD_ok nmD rfl rfl rfl ww_65 dD_seek_142 (pc' := 145) rfl ?_
        refine vv_vret cx hr hlocks dD_seek_145 (Nat.le_of_ble_eq_true rfl) (Nat.le_of_ble_eq_true rfl) ?_
        exact hend h1 s9 p9 hb h3 h11 hz hf
      · exact absurd (by rw [hy]; decide) c78
    | succ f ih =>
      intro c9 y mo u4 h1 s9 p9 cur hy hc hb h3 hs9 h11 hm hf
      have hs1 := hs.but hb (by decide)
      rcases hm with ⟨rfl, b, rfl, hb12, hpat⟩ | ⟨rfl, rfl, hz⟩
      · have hj : ∀ (h2 : pq_H) (s8 : Nat) (p8 : Nat → Nat), pq_but [2, 11, 12] h h2 → h2 2 3 = nI s8 → s8 ≤ 30000 → pq_row h2 11 p8 → pq_row h2 12 b → pq_colL W n w nm pr f (pq_next W n w nm b 5 (n - 1)) s8 p8 = pq_col W n w nm pr → ∀ (u5 : Option Value),  VV p l e rD_seek s m [.ref (g.2.2 2)].toArray below meth c (vx_MQ below (pq_Qv g (fun h9 => pq_but [2, 11, 12] h h9 ∧ pq_z h9 12 n ∧ pq_dk h9 W n w nm pr) s.heap.size) (pq_Qx g (pq_no) s.heap.size) [.ref (g.2.2 2)].toArray s 0 0 (pq_A g s.heap.size)) g 0 0 h2 113 [some (.ref (g.2.2 2)), some (.int (nI n - 2)), some (.int 1), some (.int y), u5] [] := by
          intro h2 s8 p8 kb k3 ks k11 k12 kf u5
          have hs2 := hs.but kb (by decide)
          refine vv_aload_n cx dD_seek_113 rfl rfl (pc' := 114) rfl ?_
          refine vv_getR cx (C := RD) (T := TD) (NN := 5) 2 0 _ (by decide) sh_2 rfl rfl (by decide) lyD ww_61 dD_seek_114 (pc' := 117) rfl ?_
          refine vv_aload_n cx dD_seek_117 rfl rfl (pc' := 118) rfl ?_
          refine vv_getR cx (C := RD) (T := TD) (NN := 5) 2 2 _ (by decide) sh_2 rfl rfl (by decide) lyD ww_63 dD_seek_118 (pc' := 121) rfl ?_
          refine vv_aload_n cx dD_seek_121 rfl rfl (pc' := 122) rfl ?_
          refine vv_getR cx (C := RD) (T := TD) (NN := 5) 2 0 _ (by decide) sh_2 rfl rfl (by decide) lyD ww_61 dD_seek_122 (pc' := 125) rfl ?_
          refine vv_getR cx (C := RS) (T := TS) (NN := 5) 1 3 _ (by decide) sh_1 rfl rfl (by decide) lyS ww_40 dD_seek_125 (pc' := 128) rfl ?_
          refine vv_iload_n cx dD_seek_128 rfl rfl (pc' := 129) rfl ?_
          refine vv_iconst cx dD_seek_129 (v := -1) (by decide) (pc' := 130) rfl ?_
          refine cc_Vi cx hX (nx h2 b hs2 k12 hpat) kS_nextPattern ww_193 rfl rfl ⟨Nat.le_of_ble_eq_true rfl, Nat.le_of_ble_eq_true rfl⟩ 1 (by decide) sh_1 rfl rfl rfl rfl (Nat.le_of_ble_eq_true rfl) rfl ⟨Nat.le_of_ble_eq_true rfl, Nat.le_of_ble_eq_true rfl⟩ dD_seek_130 (pc' := 133) rfl (fun _ _ q => q.elim) (fun r130 h130 q130 => ?_)
          refine vv_istore_n cx dD_seek_133 rfl (Nat.le_of_ble_eq_true rfl) (pc' := 134) rfl ?_
          refine vv_iinc cx dD_seek_134 rfl rfl (pc' := 137) rfl ?_
          refine vv_goto cx dD_seek_137 (tgt := 74) (by decide) ?_
          rcases q130 with ⟨rfl, b2, hnx, ho, hrow⟩ | ⟨rfl, hnx, rfl⟩
          · exact ih (c9 + 1) _ _ _ _ s8 p8 _ (pq_nI1 hy) (by omega) (kb.trans (ho.but (by decide))) (by rw [ho 2 (by decide)]; exact k3) ks (k11.of (ho 11 (by decide))) (Or.inl ⟨rfl, b2, rfl, hrow, pq_next_pat hpat (by omega) hnx⟩) (by rw [← hnx]; exact kf)
          · exact ih (c9 + 1) _ _ _ _ s8 p8 _ (pq_nI1 hy) (by omega) kb k3 ks k11 (Or.inr ⟨rfl, rfl, b, k12, hpat.2.2⟩) (by rw [← hnx]; exact kf)
        refine vv_iload_n cx dD_seek_74 rfl rfl (pc' := 75) rfl ?_
        refine vv_sipush cx dD_seek_75 (v := 16807) (by decide) (pc' := 78) rfl ?_
        refine vv_icmp_ge cx dD_seek_78 (tgt := 140) (by decide) (pc' := 81) rfl (fun c78 => ?_) (fun c78 => ?_)
        · exact absurd (by rw [hy]; exact (nI_lt (b := 16807) (by omega) (by decide) : nI c9 < nI 16807)) (Int32.not_lt.mpr c78)
        · refine vv_iload_n cx dD_seek_81 rfl rfl (pc' := 82) rfl ?_
          refine vv_if_eq cx dD_seek_82 (tgt := 140) (by decide) (pc' := 85) rfl (fun c82 => ?_) (fun c82 => ?_)
          · exact absurd c82 (by decide)
          · refine vv_aload_n cx dD_seek_85 rfl rfl (pc' := 86) rfl ?_
            refine vv_getR cx (C := RD) (T := TD) (NN := 5) 2 0 _ (by decide) sh_2 rfl rfl (by decide) lyD ww_61 dD_seek_86 (pc' := 89) rfl ?_
            refine vv_aload_n cx dD_seek_89 rfl rfl (pc' := 90) rfl ?_
            refine vv_getR cx (C := RD) (T := TD) (NN := 5) 2 2 _ (by decide) sh_2 rfl rfl (by decide) lyD ww_63 dD_seek_90 (pc' := 93) rfl ?_
            refine cc_Vi cx hX (tS_priceOf l g h1 12 b (by decide) rfl hs1 (fun i hi => hb12 i (by omega))) kS_priceOf ww_182 rfl rfl ⟨Nat.le_of_ble_eq_true rfl, Nat.le_of_ble_eq_true rfl⟩ 1 (by decide) sh_1 rfl rfl rfl rfl (Nat.le_of_ble_eq_true rfl) rfl ⟨Nat.le_of_ble_eq_true rfl, Nat.le_of_ble_eq_true rfl⟩ dD_seek_93 (pc' := 96) rfl (fun _ _ q => q.elim) (fun r93 h93 q93 => ?_)
            obtain ⟨rfl, rfl⟩ := q93
            have hpb := pq_price_bd hn5 hpat hbb
            refine vv_istore cx dD_seek_96 (Nat.le_of_ble_eq_true rfl) (pc' := 98) rfl ?_
            refine vv_iload cx dD_seek_98 rfl (pc' := 100) rfl ?_
            refine vv_aload_n cx dD_seek_100 rfl rfl (pc' := 101) rfl ?_
            refine vv_getI cx (C := RD) (T := TD) (NN := 5) 2 3 (by decide) sh_2 rfl rfl (by decide) lyD ww_64 dD_seek_101 (pc' := 104) rfl ?_
            rw [h3]
            refine vv_icmp_le cx dD_seek_104 (tgt := 113) (by decide) (pc' := 107) rfl (fun c104 => ?_) (fun c104 => ?_)
            · first | exact hj h110 (pq_price n pr b) b (hb.trans (g1.mono (by decide))) g2 hpb (fun i hi => by rw [g4 i hi]; exact hb12 i hi) (hb12.of (g1 12 (by decide))) (by rw [← hf, pq_colL, if_pos hgt]) _ | exact hj _ s9 p9 hb h3 hs9 h11 hb12 (by rw [← hf, pq_colL, if_neg (show ¬ s9 < pq_price n pr b from fun q => nI_ge q (by omega) c104)]) _
            · refine vv_aload_n cx dD_seek_107 rfl rfl (pc' := 108) rfl ?_
              refine vv_iload cx dD_seek_108 rfl (pc' := 110) rfl ?_
              refine cc_Vv cx hX (tD_take l g _ _) kD_take ww_186 rfl rfl ⟨Nat.le_of_ble_eq_true rfl, Nat.le_of_ble_eq_true rfl⟩ 2 (by decide) sh_2 rfl rfl rfl rfl (Nat.le_of_ble_eq_true rfl) rfl ⟨Nat.le_of_ble_eq_true rfl, Nat.le_of_ble_eq_true rfl⟩ dD_seek_110 (pc' := 113) rfl (fun _ _ q => q.elim) (fun h110 q110 => ?_)
              obtain ⟨g1, g2, g3, g4⟩ := q110
              have hgt : s9 < pq_price n pr b := Nat.lt_of_not_le (fun q => c104 (nI_le q (by omega)))
              first | exact hj h110 (pq_price n pr b) b (hb.trans (g1.mono (by decide))) g2 hpb (fun i hi => by rw [g4 i hi]; exact hb12 i hi) (hb12.of (g1 12 (by decide))) (by rw [← hf, pq_colL, if_pos hgt]) _ | exact hj _ s9 p9 hb h3 hs9 h11 hb12 (by rw [← hf, pq_colL, if_neg (show ¬ s9 < pq_price n pr b from fun q => nI_ge q (by omega) c104)]) _
      · refine vv_iload_n cx dD_seek_74 rfl rfl (pc' := 75) rfl ?_
        refine vv_sipush cx dD_seek_75 (v := 16807) (by decide) (pc' := 78) rfl ?_
        refine vv_icmp_ge cx dD_seek_78 (tgt := 140) (by decide) (pc' := 81) rfl (fun c78 => ?_) (fun c78 => ?_)
        · exact absurd (by rw [hy]; exact (nI_lt (b := 16807) (by omega) (by decide) : nI c9 < nI 16807)) (Int32.not_lt.mpr c78)
        · refine vv_iload_n cx dD_seek_81 rfl rfl (pc' := 82) rfl ?_
          refine vv_if_eq cx dD_seek_82 (tgt := 140) (by decide) (pc' := 85) rfl (fun c82 => ?_) (fun c82 => ?_)
          · refine vv_aload_n cx dD_seek_140 rfl rfl (pc' := 141) rfl ?_
            refine vv_iconst cx dD_seek_141 (v := 1) (by decide) (pc' := 142) rfl ?_
            refine vv_putI cx (C := RD) (T := TD) (NN := 5) 2 4 (by decide) sh_2 rfl rfl (by decide) lyD tyD tyD_ok nmD rfl rfl rfl ww_65 dD_seek_142 (pc' := 145) rfl ?_
            refine vv_vret cx hr hlocks dD_seek_145 (Nat.le_of_ble_eq_true rfl) (Nat.le_of_ble_eq_true rfl) ?_
            exact hend h1 s9 p9 hb h3 h11 hz hf
          · exact absurd rfl c82
  refine vv_aload_n cx dD_seek_0 rfl rfl (pc' := 1) rfl ?_
  refine vv_getI cx (C := RD) (T := TD) (NN := 5) 2 4 (by decide) sh_2 rfl rfl (by decide) lyD ww_65 dD_seek_1 (pc' := 4) rfl ?_
  refine vv_if_eq cx dD_seek_4 (tgt := 8) (by decide) (pc' := 7) rfl (fun c4 => ?_) (fun c4 => ?_)
  · refine vv_aload_n cx dD_seek_8 rfl rfl (pc' := 9) rfl ?_
    refine vv_getR cx (C := RD) (T := TD) (NN := 5) 2 0 _ (by decide) sh_2 rfl rfl (by decide) lyD ww_61 dD_seek_9 (pc' := 12) rfl ?_
    refine vv_aload_n cx dD_seek_12 rfl rfl (pc' := 13) rfl ?_
    refine vv_getR cx (C := RD) (T := TD) (NN := 5) 2 2 _ (by decide) sh_2 rfl rfl (by decide) lyD ww_63 dD_seek_13 (pc' := 16) rfl ?_
    refine vv_aload_n cx dD_seek_16 rfl rfl (pc' := 17) rfl ?_
    refine vv_getR cx (C := RD) (T := TD) (NN := 5) 2 0 _ (by decide) sh_2 rfl rfl (by decide) lyD ww_61 dD_seek_17 (pc' := 20) rfl ?_
    refine vv_getR cx (C := RS) (T := TS) (NN := 5) 1 3 _ (by decide) sh_1 rfl rfl (by decide) lyS ww_40 dD_seek_20 (pc' := 23) rfl ?_
    refine cc_Vv cx hX (tS_firstPattern l g h 12 9 a0 nm (Or.inl ⟨by decide, by decide⟩) (Or.inl ⟨by decide, by decide⟩) (by decide) (by decide) hs ha0 hs.1.2.2.2.1 hnm6) kS_firstPattern ww_167 rfl rfl ⟨Nat.le_of_ble_eq_true rfl, Nat.le_of_ble_eq_true rfl⟩ 1 (by decide) sh_1 rfl rfl rfl rfl (Nat.le_of_ble_eq_true rfl) rfl ⟨Nat.le_of_ble_eq_true rfl, Nat.le_of_ble_eq_true rfl⟩ dD_seek_23 (pc' := 26) rfl (fun _ _ q => q.elim) (fun h23 q23 => ?_)
    have hs23 := hs.only q23.1 (by decide)
    have hf23 : pq_row h23 12 (pq_first W n w nm) := fun i hi => by rw [q23.2 i hi, pq_fill_first hz0 i hi]
    have hpf := pq_price_bd (W := W) (w := w) hn5 (pq_first_pat) hbb
    refine vv_aload_n cx dD_seek_26 rfl rfl (pc' := 27) rfl ?_
    refine vv_aload_n cx dD_seek_27 rfl rfl (pc' := 28) rfl ?_
    refine vv_getR cx (C := RD) (T := TD) (NN := 5) 2 0 _ (by decide) sh_2 rfl rfl (by decide) lyD ww_61 dD_seek_28 (pc' := 31) rfl ?_
    refine vv_aload_n cx dD_seek_31 rfl rfl (pc' := 32) rfl ?_
    refine vv_getR cx (C := RD) (T := TD) (NN := 5) 2 2 _ (by decide) sh_2 rfl rfl (by decide) lyD ww_63 dD_seek_32 (pc' := 35) rfl ?_
    refine cc_Vi cx hX (tS_priceOf l g h23 12 (pq_first W n w nm) (by decide) rfl hs23 (fun i hi => hf23 i (by omega))) kS_priceOf ww_182 rfl rfl ⟨Nat.le_of_ble_eq_true rfl, Nat.le_of_ble_eq_true rfl⟩ 1 (by decide) sh_1 rfl rfl rfl rfl (Nat.le_of_ble_eq_true rfl) rfl ⟨Nat.le_of_ble_eq_true rfl, Nat.le_of_ble_eq_true rfl⟩ dD_seek_35 (pc' := 38) rfl (fun _ _ q => q.elim) (fun r35 h35 q35 => ?_)
    obtain ⟨rfl, rfl⟩ := q35
    refine cc_Vv cx hX (tD_take l g _ _) kD_take ww_186 rfl rfl ⟨Nat.le_of_ble_eq_true rfl, Nat.le_of_ble_eq_true rfl⟩ 2 (by decide) sh_2 rfl rfl rfl rfl (Nat.le_of_ble_eq_true rfl) rfl ⟨Nat.le_of_ble_eq_true rfl, Nat.le_of_ble_eq_true rfl⟩ dD_seek_38 (pc' := 41) rfl (fun _ _ q => q.elim) (fun h38 q38 => ?_)
    obtain ⟨g1, g2, g3, g4⟩ := q38
    have hs38 := hs23.but g1 (by decide)
    have hb38 : pq_but [2, 11, 12] h h38 := (q23.1.but (by decide)).trans (g1.mono (by decide))
    have hr38 : pq_row h38 12 (pq_first W n w nm) := hf23.of (g1 12 (by decide))
    refine vv_aload_n cx dD_seek_41 rfl rfl (pc' := 42) rfl ?_
    refine vv_getR cx (C := RD) (T := TD) (NN := 5) 2 0 _ (by decide) sh_2 rfl rfl (by decide) lyD ww_61 dD_seek_42 (pc' := 45) rfl ?_
    refine vv_getI cx (C := RS) (T := TS) (NN := 5) 1 1 (by decide) sh_1 rfl rfl (by decide) lyS ww_35 dD_seek_45 (pc' := 48) rfl ?_
    refine vv_iconst cx dD_seek_48 (v := 2) (by decide) (pc' := 49) rfl ?_
    refine vv_isub cx dD_seek_49 (pc' := 50) rfl ?_
    rw [hs38.1.2.1]
    refine vv_istore_n cx dD_seek_50 rfl (Nat.le_of_ble_eq_true rfl) (pc' := 51) rfl ?_
    refine vv_aload_n cx dD_seek_51 rfl rfl (pc' := 52) rfl ?_
    refine vv_getR cx (C := RD) (T := TD) (NN := 5) 2 0 _ (by decide) sh_2 rfl rfl (by decide) lyD ww_61 dD_seek_52 (pc' := 55) rfl ?_
    refine vv_aload_n cx dD_seek_55 rfl rfl (pc' := 56) rfl ?_
    refine vv_getR cx (C := RD) (T := TD) (NN := 5) 2 2 _ (by decide) sh_2 rfl rfl (by decide) lyD ww_63 dD_seek_56 (pc' := 59) rfl ?_
    refine vv_aload_n cx dD_seek_59 rfl rfl (pc' := 60) rfl ?_
    refine vv_getR cx (C := RD) (T := TD) (NN := 5) 2 0 _ (by decide) sh_2 rfl rfl (by decide) lyD ww_61 dD_seek_60 (pc' := 63) rfl ?_
    refine vv_getR cx (C := RS) (T := TS) (NN := 5) 1 3 _ (by decide) sh_1 rfl rfl (by decide) lyS ww_40 dD_seek_63 (pc' := 66) rfl ?_
    refine vv_iload_n cx dD_seek_66 rfl rfl (pc' := 67) rfl ?_
    refine vv_iconst cx dD_seek_67 (v := -1) (by decide) (pc' := 68) rfl ?_
    refine cc_Vi cx hX (nx h38 _ hs38 hr38 pq_first_pat) kS_nextPattern ww_193 rfl rfl ⟨Nat.le_of_ble_eq_true rfl, Nat.le_of_ble_eq_true rfl⟩ 1 (by decide) sh_1 rfl rfl rfl rfl (Nat.le_of_ble_eq_true rfl) rfl ⟨Nat.le_of_ble_eq_true rfl, Nat.le_of_ble_eq_true rfl⟩ dD_seek_68 (pc' := 71) rfl (fun _ _ q => q.elim) (fun r68 h68 q68 => ?_)
    refine vv_istore_n cx dD_seek_71 rfl (Nat.le_of_ble_eq_true rfl) (pc' := 72) rfl ?_
    refine vv_iconst cx dD_seek_72 (v := 0) (by decide) (pc' := 73) rfl ?_
    refine vv_istore_n cx dD_seek_73 rfl (Nat.le_of_ble_eq_true rfl) (pc' := 74) rfl ?_
    rcases q68 with ⟨rfl, b2, hnx, ho, hrow⟩ | ⟨rfl, hnx, rfl⟩
    · exact loop 16807 0 _ _ _ _ (pq_price n pr (pq_first W n w nm)) (pq_first W n w nm) _ nI_0.symm (by omega) (hb38.trans (ho.but (by decide))) (by rw [ho 2 (by decide)]; exact g2) hpf (fun i hi => by rw [ho 11 (by decide), g4 i hi]; exact hf23 i hi) (Or.inl ⟨rfl, b2, rfl, hrow, pq_next_pat pq_first_pat (by omega) hnx⟩) (by rw [← hnx]; rfl)
    · exact loop 16807 0 _ _ _ _ (pq_price n pr (pq_first W n w nm)) (pq_first W n w nm) _ nI_0.symm (by omega) hb38 g2 hpf (fun i hi => by rw [g4 i hi]; exact hf23 i hi) (Or.inr ⟨rfl, rfl, _, hr38, pq_first_pat.2.2⟩) (by rw [← hnx]; rfl)
  · refine vv_vret cx hr hlocks dD_seek_7 (Nat.le_of_ble_eq_true rfl) (Nat.le_of_ble_eq_true rfl) ?_
    rcases hdk with q | q
    · exact ⟨pq_but.rfl', hd.1, q⟩
    · exact absurd q c4
set_option maxRecDepth 100000 in
set_option maxHeartbeats 4000000 in
theorem tD_priceSum (l : Launch) (g : pq_G) (h : pq_H) {W n : Nat} {w nm pr : Nat → Nat} (hs : pq_st h W n w nm pr) (hd : pq_dn h W n w nm pr) : XI l yD_priceSum wD_priceSum rD_priceSum g 0 0 [.ref (g.2.2 2)] h (fun r h9 => r = nI (pq_col W n w nm pr).1 ∧ pq_but [2, 11, 12] h h9 ∧ pq_z h9 12 n ∧ pq_dk h9 W n w nm pr) (pq_no) := by
  refine XI.of (cc := cD_priceSum) (maxL := 1) (ret := (some .int)) (by decide +kernel) (by simp [Value.category]) (Nat.le_of_ble_eq_true rfl) ?_
  intro p e s m below meth c cx hX hr hlocks hex
  refine vv_aload_n cx dD_priceSum_0 rfl rfl (pc' := 1) rfl ?_
  refine cc_Vv cx hX (tD_seek l g h hs hd) kD_seek ww_163 rfl rfl ⟨Nat.le_of_ble_eq_true rfl, Nat.le_of_ble_eq_true rfl⟩ 2 (by decide) sh_2 rfl rfl rfl rfl (Nat.le_of_ble_eq_true rfl) rfl ⟨Nat.le_of_ble_eq_true rfl, Nat.le_of_ble_eq_true rfl⟩ dD_priceSum_1 (pc' := 4) rfl (fun _ _ q => q.elim) (fun h1 q1 => ?_)
  refine vv_aload_n cx dD_priceSum_4 rfl rfl (pc' := 5) rfl ?_
  refine vv_getI cx (C := RD) (T := TD) (NN := 5) 2 3 (by decide) sh_2 rfl rfl (by decide) lyD ww_64 dD_priceSum_5 (pc' := 8) rfl ?_
  refine vv_iret cx hr hlocks dD_priceSum_8 (Nat.le_of_ble_eq_true rfl) (Nat.le_of_ble_eq_true rfl) ?_
  exact ⟨q1.2.2.2.1, q1⟩
set_option maxRecDepth 100000 in
set_option maxHeartbeats 4000000 in
theorem tD_piecesOf (l : Launch) (g : pq_G) (h : pq_H) {W n : Nat} {w nm pr : Nat → Nat} (i : Nat) (hs : pq_st h W n w nm pr) (hd : pq_dn h W n w nm pr) (hi : i < 5) : XI l yD_piecesOf wD_piecesOf rD_piecesOf g 0 0 [.ref (g.2.2 2), .int (nI i)] h (fun r h9 => r = nI ((pq_col W n w nm pr).2 i) ∧ pq_but [2, 11, 12] h h9 ∧ pq_z h9 12 n ∧ pq_dk h9 W n w nm pr) (pq_no) := by
  refine XI.of (cc := cD_piecesOf) (maxL := 2) (ret := (some .int)) (by decide +kernel) (by simp [Value.category]) (Nat.le_of_ble_eq_true rfl) ?_
  intro p e s m below meth c cx hX hr hlocks hex
  refine vv_aload_n cx dD_piecesOf_0 rfl rfl (pc' := 1) rfl ?_
  refine cc_Vv cx hX (tD_seek l g h hs hd) kD_seek ww_163 rfl rfl ⟨Nat.le_of_ble_eq_true rfl, Nat.le_of_ble_eq_true rfl⟩ 2 (by decide) sh_2 rfl rfl rfl rfl (Nat.le_of_ble_eq_true rfl) rfl ⟨Nat.le_of_ble_eq_true rfl, Nat.le_of_ble_eq_true rfl⟩ dD_piecesOf_1 (pc' := 4) rfl (fun _ _ q => q.elim) (fun h1 q1 => ?_)
  refine vv_aload_n cx dD_piecesOf_4 rfl rfl (pc' := 5) rfl ?_
  refine vv_getR cx (C := RD) (T := TD) (NN := 5) 2 1 _ (by decide) sh_2 rfl rfl (by decide) lyD ww_62 dD_piecesOf_5 (pc' := 8) rfl ?_
  refine vv_iload_n cx dD_piecesOf_8 rfl rfl (pc' := 9) rfl ?_
  refine vv_iald cx _ (by decide) sh_11 (pq_in5 rfl hi) dD_piecesOf_9 (pc' := 10) rfl ?_
  refine vv_iret cx hr hlocks dD_piecesOf_10 (Nat.le_of_ble_eq_true rfl) (Nat.le_of_ble_eq_true rfl) ?_
  refine ⟨?_, q1⟩
  rw [nI_clamp (by omega)]
  exact q1.2.2.2.2 i hi

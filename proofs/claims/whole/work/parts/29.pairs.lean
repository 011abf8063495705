/-! part 29 (statements printed by wip/whole/p29.py): each call of class and reference, side by side -/
theorem pq_inr {x : Int32} {i n : Nat} (hx : x = nI i) (hi : i < n) (hn : n < 2 ^ 31) : 0 ≤ x ∧ x < nI n := by
  subst hx
  exact ⟨nI_pos' (by omega), nI_lt hi hn⟩
theorem pq_row_upd {h h1 : pq_H} {k i v : Nat} {a : Nat → Nat} (hr : pq_row h k a) (e : h1 k = upd (h k) i (nI v)) : pq_row h1 k (va_up a i v) := fun j hj => by
  rw [e]
  by_cases q : j = i
  · subst q
    rw [pk_us, va_up_self]
  · rw [pk_un q, va_up_ne _ _ q]
    exact hr j hj
theorem pq_bnd {a : Nat → Nat} {i v B : Nat} (hv : v ≤ B) (ha : ∀ j, j < 5 → a j ≤ B) (j : Nat) (hj : j < 5) : va_up a i v j ≤ B := by
  by_cases q : j = i
  · subst q
    rw [va_up_self]
    exact hv
  · rw [va_up_ne _ _ q]
    exact ha j hj
theorem pq_nm0 {nm : Nat → Nat} {i v n : Nat} (hi : i < n) (hz : ∀ j, n ≤ j → j < 5 → nm j = 0) (j : Nat) (h1 : n ≤ j) (h2 : j < 5) : va_up nm i v j = 0 := by
  rw [va_up_ne _ _ (by omega)]
  exact hz j h1 h2
section REL2
variable {h h1 h2 : pq_H} {W n : Nat} {w nm pr : Nat → Nat} {bs : Option Nat} {best : Nat → Nat → Nat} {ask sp sc : Int32} {c9 : Nat} {kp : Nat → Nat → Nat} {tm dy : Nat → Int32}
theorem pq_MR.forget {W' n' : Nat} {w' nm' pr' : Nat → Nat} (hm : pq_MR h W n w nm pr bs best ask sp sc c9 kp tm dy) (hmo : pq_mo h2 W' n' w' nm' pr') (e8 : h2 116 8 = -1) (e10 : h2 116 10 = 0) (e13 : h2 116 13 = h 116 13) (e123 : h2 123 = h 123) : pq_MR h2 W' n' w' nm' pr' none best 0 sp sc c9 kp tm dy := by
  obtain ⟨a1, a2, a3, a4, a5, a6⟩ := hm
  exact ⟨hmo, ⟨e8, fun b hb => nomatch hb⟩, e10, fun q => absurd rfl q, a5.of e13 e123, by rw [e123]; exact a6⟩
theorem pq_bs_none (hm : pq_md h bs best) : h 116 8 = -1 ↔ bs = none := by
  rw [hm.1]
  cases bs with
  | none => exact ⟨fun _ => rfl, fun _ => rfl⟩
  | some b => exact ⟨fun q => absurd q (by have hb := (hm.2 b rfl).1; show ¬ nI b = -1; intro z; have := nI_pos' (n := b) (by omega); rw [z] at this; exact absurd this (by decide)), fun q => nomatch q⟩
theorem pq_bs_c (hc : pq_de h n bs best) : h 3 5 = -1 ↔ bs = none := by
  rw [hc.1]
  cases bs with
  | none => exact ⟨fun _ => rfl, fun _ => rfl⟩
  | some b => exact ⟨fun q => absurd q (by have hb := (hc.2 b rfl).1; show ¬ nI b = -1; intro z; have := nI_pos' (n := b) (by omega); rw [z] at this; exact absurd this (by decide)), fun q => nomatch q⟩
end REL2
theorem pq_eqr_iff {h h1 : pq_H} {W n : Nat} {w nm pr : Nat → Nat} {bs : Option Nat} {best : Nat → Nat → Nat} {ask sp sc : Int32} {c9 : Nat} {kp : Nat → Nat → Nat} {tm dy : Nat → Int32} (hc : pq_CR h W n w nm pr bs best ask sp sc c9 kp tm dy) (hm : pq_MR h1 W n w nm pr bs best ask sp sc c9 kp tm dy) {b z j : Nat} (hb : bs = some b) (hj : j < b) (hz : z < c9) : pq_eqr h1 z j ↔ ∀ i, i < 5 → h (76 + z) i = h (46 + j) i := by
  have a1 := (hc.2.2.2.2.2.2.1.2.2 z hz).1
  have a2 := (hc.2.2.2.1.2 b hb).2.2 j hj
  have b1 := hm.2.2.2.2.1.2.2 z hz
  have b2 := (hm.2.1.2 b hb).2 j hj
  constructor
  · intro q i hi
    rw [a1 i hi, a2 i hi, ← b1 i hi, ← b2 i hi]
    exact q i hi
  · intro q i hi
    rw [b1 i hi, b2 i hi, ← a1 i hi, ← a2 i hi]
    exact q i hi
theorem op_sheet {h : pq_H} {W n : Nat} {w nm pr : Nat → Nat} {bs : Option Nat} {best : Nat → Nat → Nat} {ask sp sc : Int32} {c9 : Nat} {kp : Nat → Nat → Nat} {tm dy : Nat → Int32} (x : Int32) (hc : pq_CR h W n w nm pr bs best ask sp sc c9 kp tm dy) (hm : pq_MR h W n w nm pr bs best ask sp sc c9 kp tm dy) {k9 : Int32} {h1 : pq_H} (q : (k9 = 0 ∧ (fun h9 => (1 ≤ x ∧ x ≤ 1000) ∧ pq_but [1, 2, 3] h h9 ∧ h9 1 = upd (h 1) 0 x ∧ h9 2 4 = 0 ∧ (∀ j, j ≠ 4 → h9 2 j = h 2 j) ∧ h9 3 5 = -1 ∧ h9 3 6 = 0) h1) ∨ (k9 = 1 ∧ (fun E h9 => E = xIAE ∧ h9 = h ∧ ¬ (1 ≤ x ∧ x ≤ 1000)) xIAE h1)) : pq_MR h1 W n w nm pr bs best ask sp sc c9 kp tm dy ∧ ∀ h2 : pq_H, (fun (h : pq_H) => (fun h9 => (¬ (1 ≤ x ∧ x ≤ 1000) ∧ h9 = pq_th 1 h) ∨ ((1 ≤ x ∧ x ≤ 1000) ∧ pq_only 116 h h9 ∧ h9 116 0 = 0 ∧ h9 116 1 = x ∧ h9 116 10 = 0 ∧ h9 116 8 = -1 ∧ ∀ j, j ≠ 0 → j ≠ 1 → j ≠ 10 → j ≠ 8 → h9 116 j = h 116 j)) h2) h1 → h2 116 0 = k9 ∧ pq_R h2 := by
  rcases q with ⟨rfl, q0, q1, q2, q3, q4, q5, q6⟩ | ⟨rfl, -, rfl, q0⟩
  · refine ⟨hm.but q1 (by decide), fun h2 z => ?_⟩
    rcases z with ⟨z0, -⟩ | ⟨z0, z1, z2, z3, z4, z5, z6⟩
    · exact absurd q0 z0
    · obtain ⟨W9, w1, rfl⟩ := nI_of2 (x := x) (M := 1000) (n := 1000) (by decide) (fun z => absurd (Int32.lt_of_le_of_lt q0.1 z) (by decide)) q0.2
      have w0 : 1 ≤ W9 := (nI_leI (a := 1) (by decide) (by omega)).mp q0.1
      have hst : pq_st h1 W9 n w nm pr := ⟨⟨by rw [q2, pk_us], by rw [q2, pk_un (by decide)]; exact hc.1.1.2.1, hc.1.1.2.2.1.of (q1 8 (by decide)), hc.1.1.2.2.2.1.of (q1 9 (by decide)), hc.1.1.2.2.2.2.of (q1 10 (by decide))⟩, ⟨w0, w1, hc.1.2.1.2.2⟩, hc.1.2.2⟩
      have hc1 := hc.forget (Nat.le_refl n) hst (q1.mono (by decide)) q3 q5 q6
      have hmo : pq_mo h2 W9 n w nm pr := ⟨⟨z3, by rw [z6 2 (by decide) (by decide) (by decide) (by decide), q1 116 (by decide)]; exact hm.1.1.2.1, hm.1.1.2.2.1.of ((z1 117 (by decide)).trans (q1 117 (by decide))), hm.1.1.2.2.2.1.of ((z1 118 (by decide)).trans (q1 118 (by decide))), hm.1.1.2.2.2.2.of ((z1 119 (by decide)).trans (q1 119 (by decide)))⟩, ⟨w0, w1, hm.1.2.1.2.2⟩, hm.1.2.2⟩
      exact ⟨z2, _, _, _, _, _, _, _, _, _, _, _, _, _, _, hc1.of (fun k hk => z1 k (by omega)), hm.forget hmo z5 z4 (by rw [z6 13 (by decide) (by decide) (by decide) (by decide), q1 116 (by decide)]) ((z1 123 (by decide)).trans (q1 123 (by decide)))⟩
  · refine ⟨hm, fun h2 z => ?_⟩
    rcases z with ⟨-, rfl⟩ | ⟨z0, -⟩
    · exact ⟨pq_th_0, _, _, _, _, _, _, _, _, _, _, _, _, _, _, hc.th, hm.th⟩
    · exact absurd z0 q0
theorem op_order {h : pq_H} {W n : Nat} {w nm pr : Nat → Nat} {bs : Option Nat} {best : Nat → Nat → Nat} {ask sp sc : Int32} {c9 : Nat} {kp : Nat → Nat → Nat} {tm dy : Nat → Int32} (x y : Int32) (hc : pq_CR h W n w nm pr bs best ask sp sc c9 kp tm dy) (hm : pq_MR h W n w nm pr bs best ask sp sc c9 kp tm dy) {k9 : Int32} {h1 : pq_H} (q : (k9 = 0 ∧ ∃ r h8, (fun r h9 => ∃ x9 y9, x = nI x9 ∧ y = nI y9 ∧ n < 5 ∧ (1 ≤ x9 ∧ x9 ≤ 1000) ∧ y9 ≤ 6 ∧ r = nI n ∧ pq_but [1, 2, 3, 8, 9, 10] h h9 ∧ pq_st h9 W (n + 1) (va_up w n x9) (va_up nm n y9) (va_up pr n 0) ∧ h9 2 4 = 0 ∧ (∀ j, j ≠ 4 → h9 2 j = h 2 j) ∧ h9 3 5 = -1 ∧ h9 3 6 = 0) r h8 ∧ h1 = va_up h8 124 (upd (h8 124) 0 r)) ∨ (k9 = 1 ∧ (fun E h9 => h9 = h ∧ ((E = xISE ∧ n = 5) ∨ (E = xIAE ∧ n < 5 ∧ ¬ (1 ≤ x ∧ x ≤ 1000 ∧ 0 ≤ y ∧ y ≤ 6)))) xISE h1) ∨ (k9 = 2 ∧ (fun E h9 => h9 = h ∧ ((E = xISE ∧ n = 5) ∨ (E = xIAE ∧ n < 5 ∧ ¬ (1 ≤ x ∧ x ≤ 1000 ∧ 0 ≤ y ∧ y ≤ 6)))) xIAE h1)) : pq_MR h1 W n w nm pr bs best ask sp sc c9 kp tm dy ∧ ∀ (r : Int32) (h2 : pq_H), (fun (h : pq_H) => (fun r h9 => (n = 5 ∧ h9 = pq_th 1 h) ∨ (n < 5 ∧ ¬ (1 ≤ x ∧ x ≤ 1000 ∧ 0 ≤ y ∧ y ≤ 6) ∧ h9 = pq_th 2 h) ∨ (n < 5 ∧ ∃ x9 y9, x = nI x9 ∧ y = nI y9 ∧ (1 ≤ x9 ∧ x9 ≤ 1000) ∧ y9 ≤ 6 ∧ r = nI n ∧ pq_but [116, 117, 118, 119] h h9 ∧ pq_mo h9 W (n + 1) (va_up w n x9) (va_up nm n y9) (va_up pr n 0) ∧ h9 116 0 = 0 ∧ h9 116 10 = 0 ∧ h9 116 8 = -1 ∧ ∀ j, j ≠ 0 → j ≠ 2 → j ≠ 10 → j ≠ 8 → h9 116 j = h 116 j)) r h2) h1 → pq_go k9 r h2 := by
  rcases q with ⟨rfl, r0, h8, ⟨x9, y9, rfl, rfl, q0, q1, q2, rfl, q4, q5, q6, q7, q8, q9⟩, rfl⟩ | ⟨rfl, rfl, q⟩ | ⟨rfl, rfl, q⟩
  · have hm8 : pq_MR h8 W n w nm pr bs best ask sp sc c9 kp tm dy := hm.but q4 (by decide)
    refine ⟨hm8.out, fun r h2 z => ?_⟩
    rcases z with ⟨z0, -⟩ | ⟨-, z0, -⟩ | ⟨-, x8, y8, z1, z2, z3, z4, rfl, z5, z6, z7, z8, z9, z10⟩
    · omega
    · exact absurd ⟨nI_leI (a := 1) (by decide) (by omega) |>.mpr q1.1, nI_leI (b := 1000) (by omega) (by decide) |>.mpr q1.2, nI_pos' (by omega), nI_leI (b := 6) (by omega) (by decide) |>.mpr q2⟩ z0
    · obtain rfl := pq_nI_one rfl z1 (by omega) (by omega)
      obtain rfl := pq_nI_one rfl z2 (by omega) (by omega)
      have e1 : ∀ k, k ∉ [116, 117, 118, 119] → k ≠ 124 → h2 k = h8 k := fun k a b => (z5 k a).trans (va_up_ne _ _ b)
      have hc1 := (hc.forget (Nat.le_succ n) q5 q4 q6 q8 q9).of (h1 := h2) (fun k hk => e1 k (by simp; omega) (by omega))
      exact ⟨z7, fun _ => by rw [z5 124 (by decide)]; exact pq_out0, _, _, _, _, _, _, _, _, _, _, _, _, _, _, hc1, hm8.forget z6 z9 z8 (by rw [z10 13 (by decide) (by decide) (by decide) (by decide), va_up_ne _ _ (by decide)]) (e1 123 (by decide) (by decide))⟩
  · refine ⟨hm, fun r h2 z => ?_⟩
    rcases q with ⟨-, q⟩ | ⟨q, -⟩
    · rcases z with ⟨-, rfl⟩ | ⟨z0, -⟩ | ⟨z0, -⟩
      · exact pq_go.bad hc hm (by decide)
      · omega
      · omega
    · exact absurd q (by decide)
  · refine ⟨hm, fun r h2 z => ?_⟩
    rcases q with ⟨q, -⟩ | ⟨-, q0, q1⟩
    · exact absurd q (by decide)
    · rcases z with ⟨z0, -⟩ | ⟨-, -, rfl⟩ | ⟨z0, x8, y8, rfl, rfl, z3, z4, -⟩
      · omega
      · exact pq_go.bad hc hm (by decide)
      · exact absurd ⟨nI_leI (a := 1) (by decide) (by omega) |>.mpr z3.1, nI_leI (b := 1000) (by omega) (by decide) |>.mpr z3.2, nI_pos' (by omega), nI_leI (b := 6) (by omega) (by decide) |>.mpr z4⟩ q1
theorem op_pieces {h : pq_H} {W n : Nat} {w nm pr : Nat → Nat} {bs : Option Nat} {best : Nat → Nat → Nat} {ask sp sc : Int32} {c9 : Nat} {kp : Nat → Nat → Nat} {tm dy : Nat → Int32} (x y : Int32) (hc : pq_CR h W n w nm pr bs best ask sp sc c9 kp tm dy) (hm : pq_MR h W n w nm pr bs best ask sp sc c9 kp tm dy) {k9 : Int32} {h1 : pq_H} (q : (k9 = 0 ∧ (fun h9 => ∃ i y9, x = nI i ∧ i < n ∧ y = nI y9 ∧ y9 ≤ 6 ∧ pq_but [2, 3, 9] h h9 ∧ h9 9 = upd (h 9) i (nI y9) ∧ h9 2 4 = 0 ∧ (∀ j, j ≠ 4 → h9 2 j = h 2 j) ∧ h9 3 5 = -1 ∧ h9 3 6 = 0) h1) ∨ (k9 = 1 ∧ (fun E h9 => h9 = h ∧ ((E = xIOE ∧ ¬ (0 ≤ x ∧ x < nI n)) ∨ (E = xIAE ∧ (0 ≤ x ∧ x < nI n) ∧ ¬ (0 ≤ y ∧ y ≤ 6)))) xIOE h1) ∨ (k9 = 2 ∧ (fun E h9 => h9 = h ∧ ((E = xIOE ∧ ¬ (0 ≤ x ∧ x < nI n)) ∨ (E = xIAE ∧ (0 ≤ x ∧ x < nI n) ∧ ¬ (0 ≤ y ∧ y ≤ 6)))) xIAE h1)) : pq_MR h1 W n w nm pr bs best ask sp sc c9 kp tm dy ∧ ∀ h2 : pq_H, (fun (h : pq_H) => (fun h9 => (¬ (0 ≤ x ∧ x < nI n) ∧ h9 = pq_th 1 h) ∨ ((0 ≤ x ∧ x < nI n) ∧ ¬ (0 ≤ y ∧ y ≤ 6) ∧ h9 = pq_th 2 h) ∨ ((0 ≤ x ∧ x < nI n) ∧ (0 ≤ y ∧ y ≤ 6) ∧ ∃ i y9, x = nI i ∧ i < n ∧ y = nI y9 ∧ y9 ≤ 6 ∧ pq_but [116, 118] h h9 ∧ h9 118 = upd (h 118) i (nI y9) ∧ h9 116 0 = 0 ∧ h9 116 10 = 0 ∧ h9 116 8 = -1 ∧ ∀ j, j ≠ 0 → j ≠ 10 → j ≠ 8 → h9 116 j = h 116 j)) h2) h1 → h2 116 0 = k9 ∧ pq_R h2 := by
  have hn5 : n ≤ 5 := hc.1.2.1.2.2
  rcases q with ⟨rfl, i, y9, rfl, q0, rfl, q1, q2, q3, q4, q5, q6, q7⟩ | ⟨rfl, rfl, q⟩ | ⟨rfl, rfl, q⟩
  · have hm8 : pq_MR h1 W n w nm pr bs best ask sp sc c9 kp tm dy := hm.but q2 (by decide)
    refine ⟨hm8, fun h2 z => ?_⟩
    have c1 := pq_inr rfl q0 (by omega)
    have c2 : (0 : Int32) ≤ nI y9 ∧ nI y9 ≤ 6 := ⟨nI_pos' (by omega), nI_leI (b := 6) (by omega) (by decide) |>.mpr q1⟩
    rcases z with ⟨z0, -⟩ | ⟨-, z0, -⟩ | ⟨-, -, i8, y8, z1, z2, z3, z4, z5, z6, z7, z8, z9, z10⟩
    · exact absurd c1 z0
    · exact absurd c2 z0
    · obtain rfl := pq_nI_one rfl z1 (by omega) (by omega)
      obtain rfl := pq_nI_one rfl z3 (by omega) (by omega)
      have b1 : ∀ j, j < 5 → w j ≤ 1000 ∧ va_up nm i y9 j ≤ 6 ∧ pr j ≤ 1000 := fun j hj => ⟨(hc.1.2.2.1 j hj).1, pq_bnd q1 (fun a b => (hc.1.2.2.1 a b).2.1) j hj, (hc.1.2.2.1 j hj).2.2⟩
      have b2 : ∀ j, n ≤ j → j < 5 → va_up nm i y9 j = 0 := pq_nm0 q0 hc.1.2.2.2.2
      have hst : pq_st h1 W n w (va_up nm i y9) pr := ⟨⟨by rw [q2 1 (by decide)]; exact hc.1.1.1, by rw [q2 1 (by decide)]; exact hc.1.1.2.1, hc.1.1.2.2.1.of (q2 8 (by decide)), pq_row_upd hc.1.1.2.2.2.1 q3, hc.1.1.2.2.2.2.of (q2 10 (by decide))⟩, hc.1.2.1, b1, hc.1.2.2.2.1, b2⟩
      have hc1 := (hc.forget (Nat.le_refl n) hst (q2.mono (by decide)) q4 q6 q7).of (h1 := h2) (fun k hk => z5 k (by simp; omega))
      have hmo : pq_mo h2 W n w (va_up nm i y9) pr := ⟨⟨by rw [z10 1 (by decide) (by decide) (by decide)]; exact hm8.1.1.1, by rw [z10 2 (by decide) (by decide) (by decide)]; exact hm8.1.1.2.1, hm8.1.1.2.2.1.of (z5 117 (by decide)), pq_row_upd hm8.1.1.2.2.2.1 z6, hm8.1.1.2.2.2.2.of (z5 119 (by decide))⟩, hm8.1.2.1, b1, hm8.1.2.2.2.1, b2⟩
      exact ⟨z7, _, _, _, _, _, _, _, _, _, _, _, _, _, _, hc1, hm8.forget hmo z9 z8 (z10 13 (by decide) (by decide) (by decide)) (z5 123 (by decide))⟩
  · refine ⟨hm, fun h2 z => ?_⟩
    rcases q with ⟨-, q⟩ | ⟨q, -⟩
    · rcases z with ⟨-, rfl⟩ | ⟨z0, -⟩ | ⟨z0, -⟩
      · exact ⟨pq_th_0, _, _, _, _, _, _, _, _, _, _, _, _, _, _, hc.th, hm.th⟩
      · exact absurd z0 q
      · exact absurd z0 q
    · exact absurd q (by decide)
  · refine ⟨hm, fun h2 z => ?_⟩
    rcases q with ⟨q, -⟩ | ⟨-, q0, q1⟩
    · exact absurd q (by decide)
    · rcases z with ⟨z0, -⟩ | ⟨-, -, rfl⟩ | ⟨-, z0, -⟩
      · exact absurd q0 z0
      · exact ⟨pq_th_0, _, _, _, _, _, _, _, _, _, _, _, _, _, _, hc.th, hm.th⟩
      · exact absurd z0 q1
theorem op_price {h : pq_H} {W n : Nat} {w nm pr : Nat → Nat} {bs : Option Nat} {best : Nat → Nat → Nat} {ask sp sc : Int32} {c9 : Nat} {kp : Nat → Nat → Nat} {tm dy : Nat → Int32} (x y : Int32) (hc : pq_CR h W n w nm pr bs best ask sp sc c9 kp tm dy) (hm : pq_MR h W n w nm pr bs best ask sp sc c9 kp tm dy) {k9 : Int32} {h1 : pq_H} (q : (k9 = 0 ∧ (fun h9 => ∃ i y9, x = nI i ∧ i < n ∧ y = nI y9 ∧ y9 ≤ 1000 ∧ pq_but [2, 10] h h9 ∧ h9 10 = upd (h 10) i (nI y9) ∧ h9 2 4 = 0 ∧ ∀ j, j ≠ 4 → h9 2 j = h 2 j) h1) ∨ (k9 = 1 ∧ (fun E h9 => h9 = h ∧ ((E = xIOE ∧ ¬ (0 ≤ x ∧ x < nI n)) ∨ (E = xIAE ∧ (0 ≤ x ∧ x < nI n) ∧ ¬ (0 ≤ y ∧ y ≤ 1000)))) xIOE h1) ∨ (k9 = 2 ∧ (fun E h9 => h9 = h ∧ ((E = xIOE ∧ ¬ (0 ≤ x ∧ x < nI n)) ∨ (E = xIAE ∧ (0 ≤ x ∧ x < nI n) ∧ ¬ (0 ≤ y ∧ y ≤ 1000)))) xIAE h1)) : pq_MR h1 W n w nm pr bs best ask sp sc c9 kp tm dy ∧ ∀ h2 : pq_H, (fun (h : pq_H) => (fun h9 => (¬ (0 ≤ x ∧ x < nI n) ∧ h9 = pq_th 1 h) ∨ ((0 ≤ x ∧ x < nI n) ∧ ¬ (0 ≤ y ∧ y ≤ 1000) ∧ h9 = pq_th 2 h) ∨ ((0 ≤ x ∧ x < nI n) ∧ (0 ≤ y ∧ y ≤ 1000) ∧ ∃ i y9, x = nI i ∧ i < n ∧ y = nI y9 ∧ y9 ≤ 1000 ∧ pq_but [116, 119] h h9 ∧ h9 119 = upd (h 119) i (nI y9) ∧ h9 116 0 = 0 ∧ ∀ j, j ≠ 0 → h9 116 j = h 116 j)) h2) h1 → h2 116 0 = k9 ∧ pq_R h2 := by
  have hn5 : n ≤ 5 := hc.1.2.1.2.2
  rcases q with ⟨rfl, i, y9, rfl, q0, rfl, q1, q2, q3, q4, q5⟩ | ⟨rfl, rfl, q⟩ | ⟨rfl, rfl, q⟩
  · have hm8 : pq_MR h1 W n w nm pr bs best ask sp sc c9 kp tm dy := hm.but q2 (by decide)
    refine ⟨hm8, fun h2 z => ?_⟩
    have c1 := pq_inr rfl q0 (by omega)
    have c2 : (0 : Int32) ≤ nI y9 ∧ nI y9 ≤ 1000 := ⟨nI_pos' (by omega), nI_leI (b := 1000) (by omega) (by decide) |>.mpr q1⟩
    rcases z with ⟨z0, -⟩ | ⟨-, z0, -⟩ | ⟨-, -, i8, y8, z1, z2, z3, z4, z5, z6, z7, z8⟩
    · exact absurd c1 z0
    · exact absurd c2 z0
    · obtain rfl := pq_nI_one rfl z1 (by omega) (by omega)
      obtain rfl := pq_nI_one rfl z3 (by omega) (by omega)
      have b1 : ∀ j, j < 5 → w j ≤ 1000 ∧ nm j ≤ 6 ∧ va_up pr i y9 j ≤ 1000 := fun j hj => ⟨(hc.1.2.2.1 j hj).1, (hc.1.2.2.1 j hj).2.1, pq_bnd q1 (fun a b => (hc.1.2.2.1 a b).2.2) j hj⟩
      have hst : pq_st h1 W n w nm (va_up pr i y9) := ⟨⟨by rw [q2 1 (by decide)]; exact hc.1.1.1, by rw [q2 1 (by decide)]; exact hc.1.1.2.1, hc.1.1.2.2.1.of (q2 8 (by decide)), hc.1.1.2.2.2.1.of (q2 9 (by decide)), pq_row_upd hc.1.1.2.2.2.2 q3⟩, hc.1.2.1, b1, hc.1.2.2.2⟩
      have e' : ∀ k, k ≠ 2 → k ≠ 10 → h1 k = h k := fun k a b => q2 k (by simp [a, b])
      have hc1 : pq_CR h1 W n w nm (va_up pr i y9) bs best ask sp sc c9 kp tm dy := by
        obtain ⟨a1, a2, a3, a4, a5, a6, a7, a8, a9⟩ := hc
        refine ⟨hst, ⟨a2.1.of (e' 12 (by decide) (by decide)), Or.inr q4⟩, a3.rows (fun j hj => e' _ (by omega) (by omega)), a4.of (e' 3 (by decide) (by decide)) (fun j hj => e' _ (by omega) (by omega)), ?_, ?_, a7.of (e' 4 (by decide) (by decide)) (fun j hj => e' _ (by omega) (by omega)), a8, ?_⟩
        · rw [e' 3 (by decide) (by decide)]; exact a5
        · rw [e' 3 (by decide) (by decide)]; exact a6
        · intro j hj
          rw [e' 14 (by decide) (by decide), e' 15 (by decide) (by decide)]
          exact a9 j hj
      have hmo : pq_mo h2 W n w nm (va_up pr i y9) := ⟨⟨by rw [z8 1 (by decide)]; exact hm8.1.1.1, by rw [z8 2 (by decide)]; exact hm8.1.1.2.1, hm8.1.1.2.2.1.of (z5 117 (by decide)), hm8.1.1.2.2.2.1.of (z5 118 (by decide)), pq_row_upd hm8.1.1.2.2.2.2 z6⟩, hm8.1.2.1, b1, hm8.1.2.2.2⟩
      have hm2 : pq_MR h2 W n w nm (va_up pr i y9) bs best ask sp sc c9 kp tm dy := by
        obtain ⟨a1, a2, a3, a4, a5, a6⟩ := hm8
        exact ⟨hmo, a2.of (z8 8 (by decide)) (z5 122 (by decide)), by rw [z8 10 (by decide)]; exact a3, by rw [z8 11 (by decide), z8 12 (by decide)]; exact a4, a5.of (z8 13 (by decide)) (z5 123 (by decide)), by rw [z5 123 (by decide)]; exact a6⟩
      exact ⟨z7, _, _, _, _, _, _, _, _, _, _, _, _, _, _, hc1.of (fun k hk => z5 k (by simp; omega)), hm2⟩
  · refine ⟨hm, fun h2 z => ?_⟩
    rcases q with ⟨-, q⟩ | ⟨q, -⟩
    · rcases z with ⟨-, rfl⟩ | ⟨z0, -⟩ | ⟨z0, -⟩
      · exact ⟨pq_th_0, _, _, _, _, _, _, _, _, _, _, _, _, _, _, hc.th, hm.th⟩
      · exact absurd z0 q
      · exact absurd z0 q
    · exact absurd q (by decide)
  · refine ⟨hm, fun h2 z => ?_⟩
    rcases q with ⟨q, -⟩ | ⟨-, q0, q1⟩
    · exact absurd q (by decide)
    · rcases z with ⟨z0, -⟩ | ⟨-, -, rfl⟩ | ⟨-, z0, -⟩
      · exact absurd q0 z0
      · exact ⟨pq_th_0, _, _, _, _, _, _, _, _, _, _, _, _, _, _, hc.th, hm.th⟩
      · exact absurd z0 q1
theorem op_column {h : pq_H} {W n : Nat} {w nm pr : Nat → Nat} {bs : Option Nat} {best : Nat → Nat → Nat} {ask sp sc : Int32} {c9 : Nat} {kp : Nat → Nat → Nat} {tm dy : Nat → Int32} (hc : pq_CR h W n w nm pr bs best ask sp sc c9 kp tm dy) (hm : pq_MR h W n w nm pr bs best ask sp sc c9 kp tm dy) {k9 : Int32} {h1 : pq_H} (q : ((fun r h9 => r = nI (pq_col W n w nm pr).1 ∧ pq_but [2, 11, 12] h h9 ∧ pq_z h9 12 n ∧ pq_dk h9 W n w nm pr)) k9 h1) : pq_MR h1 W n w nm pr bs best ask sp sc c9 kp tm dy ∧ ∀ (r : Int32) (h2 : pq_H), (fun (h : pq_H) => (fun r h9 => r = nI (pq_col W n w nm pr).1 ∧ pq_fc (pq_th 0 h) h9) r h2) h1 → k9 = r ∧ pq_R h2 := by
  obtain ⟨rfl, q1, q2, q3⟩ := q
  have hm8 : pq_MR h1 W n w nm pr bs best ask sp sc c9 kp tm dy := hm.but q1 (by decide)
  refine ⟨hm8, fun r h2 z => ?_⟩
  obtain ⟨rfl, z1⟩ := z
  exact ⟨rfl, _, _, _, _, _, _, _, _, _, _, _, _, _, _, (hc.col q1 q2 q3).th.fc z1, hm8.th.fc z1⟩
theorem op_columnOf {h : pq_H} {W n : Nat} {w nm pr : Nat → Nat} {bs : Option Nat} {best : Nat → Nat → Nat} {ask sp sc : Int32} {c9 : Nat} {kp : Nat → Nat → Nat} {tm dy : Nat → Int32} (x : Int32) (hc : pq_CR h W n w nm pr bs best ask sp sc c9 kp tm dy) (hm : pq_MR h W n w nm pr bs best ask sp sc c9 kp tm dy) {k9 : Int32} {h1 : pq_H} (q : (k9 = 0 ∧ ∃ r h8, (fun r h9 => ∃ i, x = nI i ∧ i < n ∧ r = nI ((pq_col W n w nm pr).2 i) ∧ pq_but [2, 11, 12] h h9 ∧ pq_z h9 12 n ∧ pq_dk h9 W n w nm pr) r h8 ∧ h1 = va_up h8 124 (upd (h8 124) 0 r)) ∨ (k9 = 1 ∧ (fun E h9 => E = xIOE ∧ h9 = h ∧ ¬ (0 ≤ x ∧ x < nI n)) xIOE h1)) : pq_MR h1 W n w nm pr bs best ask sp sc c9 kp tm dy ∧ ∀ (r : Int32) (h2 : pq_H), (fun (h : pq_H) => (fun r h9 => (¬ (0 ≤ x ∧ x < nI n) ∧ h9 = pq_th 1 h) ∨ ((0 ≤ x ∧ x < nI n) ∧ ∃ i, x = nI i ∧ i < n ∧ r = nI ((pq_col W n w nm pr).2 i) ∧ pq_fc (pq_th 0 h) h9)) r h2) h1 → pq_go k9 r h2 := by
  have hn5 : n ≤ 5 := hc.1.2.1.2.2
  rcases q with ⟨rfl, r0, h8, ⟨i, rfl, q0, rfl, q1, q2, q3⟩, rfl⟩ | ⟨rfl, -, rfl, q⟩
  · have hm8 : pq_MR h8 W n w nm pr bs best ask sp sc c9 kp tm dy := hm.but q1 (by decide)
    refine ⟨hm8.out, fun r h2 z => ?_⟩
    rcases z with ⟨z0, -⟩ | ⟨-, i8, z1, z2, rfl, z3⟩
    · exact absurd (pq_inr rfl q0 (by omega)) z0
    · obtain rfl := pq_nI_one rfl z1 (by omega) (by omega)
      exact pq_go.ok ((hc.col q1 q2 q3).out.th.fc z3) (hm8.out.th.fc z3) (by rw [z3.1 116 (by decide) (by decide)]; exact pq_th_0) (by rw [z3.1 124 (by decide) (by decide), pq_th_ne (by decide)]; exact pq_out0)
  · refine ⟨hm, fun r h2 z => ?_⟩
    rcases z with ⟨-, rfl⟩ | ⟨z0, -⟩
    · exact pq_go.bad hc hm (by decide)
    · exact absurd z0 q
theorem op_bound {h : pq_H} {W n : Nat} {w nm pr : Nat → Nat} {bs : Option Nat} {best : Nat → Nat → Nat} {ask sp sc : Int32} {c9 : Nat} {kp : Nat → Nat → Nat} {tm dy : Nat → Int32} (hc : pq_CR h W n w nm pr bs best ask sp sc c9 kp tm dy) (hm : pq_MR h W n w nm pr bs best ask sp sc c9 kp tm dy) {k9 : Int32} {h1 : pq_H} (q : ((fun r h9 => r = nI (pq_up (pq_price n pr nm) (pq_col W n w nm pr).1) ∧ pq_but [2, 11, 12] h h9 ∧ pq_z h9 12 n ∧ pq_dk h9 W n w nm pr)) k9 h1) : pq_MR h1 W n w nm pr bs best ask sp sc c9 kp tm dy ∧ ∀ (r : Int32) (h2 : pq_H), (fun (h : pq_H) => (fun r h9 => r = nI (pq_up (pq_price n pr nm) (pq_col W n w nm pr).1) ∧ pq_fc (pq_th 0 h) h9) r h2) h1 → k9 = r ∧ pq_R h2 := by
  obtain ⟨rfl, q1, q2, q3⟩ := q
  have hm8 : pq_MR h1 W n w nm pr bs best ask sp sc c9 kp tm dy := hm.but q1 (by decide)
  refine ⟨hm8, fun r h2 z => ?_⟩
  obtain ⟨rfl, z1⟩ := z
  exact ⟨rfl, _, _, _, _, _, _, _, _, _, _, _, _, _, _, (hc.col q1 q2 q3).th.fc z1, hm8.th.fc z1⟩
theorem op_design {h : pq_H} {W n : Nat} {w nm pr : Nat → Nat} {bs : Option Nat} {best : Nat → Nat → Nat} {ask sp sc : Int32} {c9 : Nat} {kp : Nat → Nat → Nat} {tm dy : Nat → Int32} (x : Int32) (hc : pq_CR h W n w nm pr bs best ask sp sc c9 kp tm dy) (hm : pq_MR h W n w nm pr bs best ask sp sc c9 kp tm dy) {k9 : Int32} {h1 : pq_H} (q : (k9 = 0 ∧ ∃ r h8, (fun r h9 => ∃ most, x = nI most ∧ most ≤ 100000 ∧ (∀ i, i < n → ¬ (0 < nm i ∧ W < w i)) ∧ r = h9 3 5 ∧ pq_gb h h9 ∧ pq_zs h9 n ∧ pq_fin h9 W n w nm most) r h8 ∧ h1 = va_up h8 124 (upd (h8 124) 0 r)) ∨ (k9 = 1 ∧ (fun E h9 => h9 = h ∧ ((E = xIAE ∧ ¬ (0 ≤ x ∧ x ≤ 100000)) ∨ (E = xUOE ∧ (0 ≤ x ∧ x ≤ 100000) ∧ ∃ i, i < n ∧ 0 < nm i ∧ W < w i))) xIAE h1) ∨ (k9 = 2 ∧ (fun E h9 => h9 = h ∧ ((E = xIAE ∧ ¬ (0 ≤ x ∧ x ≤ 100000)) ∨ (E = xUOE ∧ (0 ≤ x ∧ x ≤ 100000) ∧ ∃ i, i < n ∧ 0 < nm i ∧ W < w i))) xUOE h1)) : pq_MR h1 W n w nm pr bs best ask sp sc c9 kp tm dy ∧ ∀ (r : Int32) (h2 : pq_H), (fun (h : pq_H) => (fun r h9 => (¬ (0 ≤ x ∧ x ≤ 100000) ∧ h9 = pq_th 1 h) ∨ ((0 ≤ x ∧ x ≤ 100000) ∧ (∃ i, i < n ∧ 0 < nm i ∧ W < w i) ∧ h9 = pq_th 2 h) ∨ (∃ most, x = nI most ∧ most ≤ 100000 ∧ (∀ i, i < n → ¬ (0 < nm i ∧ W < w i)) ∧ r = h9 116 8 ∧ pq_mfin h9 W n w nm most ∧ h9 116 0 = 0 ∧ h9 116 10 = 1 ∧ (∀ q, q ∉ [116, 120, 121, 122] → h9 q = h q) ∧ ∀ j, j ≠ 0 → j ≠ 8 → j ≠ 10 → j ≠ 11 → j ≠ 12 → h9 116 j = h 116 j)) r h2) h1 → pq_go k9 r h2 := by
  rcases q with ⟨rfl, r0, h8, ⟨most, rfl, q0, q1, rfl, q2, q3, k1, rows1, best1, bs1, st1, sp1, q4, q5, q6, q7, q8, q9⟩, rfl⟩ | ⟨rfl, rfl, q⟩ | ⟨rfl, rfl, q⟩
  · have hm8 : pq_MR h8 W n w nm pr bs best ask sp sc c9 kp tm dy := hm.up (fun k a _ => q2 k (by omega) (by omega) (by omega))
    refine ⟨hm8.out, fun r h2 z => ?_⟩
    rcases z with ⟨z0, -⟩ | ⟨-, ⟨i, z0, z1⟩, -⟩ | ⟨most2, z0, z1, z2, rfl, ⟨k2, rows2, best2, bs2, st2, sp2, z4, z5, z6, z7, z8⟩, z9, z10, z11, z12⟩
    · exact absurd ⟨nI_pos' (by omega), nI_leI (b := 100000) (by omega) (by decide) |>.mpr q0⟩ z0
    · exact absurd z1 (q1 i z0)
    · obtain rfl := pq_nI_one rfl z0 (by omega) (by omega)
      have e2 := pq_reach_one q4 z4 rfl rfl
      obtain ⟨rfl, rfl, rfl, rfl, rfl, rfl⟩ : k1 = k2 ∧ rows1 = rows2 ∧ bs1 = bs2 ∧ best1 = best2 ∧ st1 = st2 ∧ sp1 = sp2 := by
        simpa using e2
      have e1 : ∀ k, k < 116 → h2 k = h8 k := fun k hk => (z11 k (by simp; omega)).trans (va_up_ne _ _ (by omega))
      have hc8 : pq_CR h8 W n w nm pr bs1 best1 1 (nI sp1) (nI st1) c9 kp tm dy := by
        obtain ⟨a1, a2, a3, a4, a5, a6, a7, a8, a9⟩ := hc
        refine ⟨a1.gb q2, a2.of (q2 2 (by decide) (by decide) (by decide)) (q2 11 (by decide) (by decide) (by decide)) (q2 12 (by decide) (by decide) (by decide)), q3, ⟨q5, q9⟩, q6, fun _ => ⟨q7, q8⟩, a7.of (q2 4 (by decide) (by decide) (by decide)) (fun j hj => q2 _ (by omega) (by omega) (by omega)), a8, ?_⟩
        intro j hj
        rw [q2 14 (by decide) (by decide) (by decide), q2 15 (by decide) (by decide) (by decide)]
        exact a9 j hj
      have hm2 : pq_MR h2 W n w nm pr bs1 best1 1 (nI sp1) (nI st1) c9 kp tm dy := by
        obtain ⟨a1, a2, a3, a4, a5, a6⟩ := hm8.out (x := h8 3 5)
        exact ⟨a1.of (z12 1 (by decide) (by decide) (by decide) (by decide) (by decide)) (z12 2 (by decide) (by decide) (by decide) (by decide) (by decide)) (z11 117 (by decide)) (z11 118 (by decide)) (z11 119 (by decide)), ⟨z5, z8⟩, z10, fun _ => ⟨z6, z7⟩, a5.of (z12 13 (by decide) (by decide) (by decide) (by decide) (by decide)) (z11 123 (by decide)), by rw [z11 123 (by decide)]; exact a6⟩
      exact pq_go.ok (hc8.of e1) hm2 z9 (by rw [z11 124 (by decide), pq_out0, q5, z5])
  · refine ⟨hm, fun r h2 z => ?_⟩
    rcases q with ⟨-, q⟩ | ⟨q, -⟩
    · rcases z with ⟨-, rfl⟩ | ⟨z0, -⟩ | ⟨most2, rfl, z1, -⟩
      · exact pq_go.bad hc hm (by decide)
      · exact absurd z0 q
      · exact absurd ⟨nI_pos' (by omega), nI_leI (b := 100000) (by omega) (by decide) |>.mpr z1⟩ q
    · exact absurd q (by decide)
  · refine ⟨hm, fun r h2 z => ?_⟩
    rcases q with ⟨q, -⟩ | ⟨-, q0, i, q1, q2⟩
    · exact absurd q (by decide)
    · rcases z with ⟨z0, -⟩ | ⟨-, -, rfl⟩ | ⟨most2, rfl, z1, z2, -⟩
      · exact absurd q0 z0
      · exact pq_go.bad hc hm (by decide)
      · exact absurd q2 (z2 i q1)
theorem op_designed {h : pq_H} {W n : Nat} {w nm pr : Nat → Nat} {bs : Option Nat} {best : Nat → Nat → Nat} {ask sp sc : Int32} {c9 : Nat} {kp : Nat → Nat → Nat} {tm dy : Nat → Int32} (x : Int32) (hc : pq_CR h W n w nm pr bs best ask sp sc c9 kp tm dy) (hm : pq_MR h W n w nm pr bs best ask sp sc c9 kp tm dy) {k9 : Int32} {h1 : pq_H} (q : (k9 = 0 ∧ ∃ r h8, (fun r h9 => h9 = h ∧ (0 ≤ x ∧ x ≤ 1) ∧ ¬ h 3 6 = 0 ∧ ((x = 0 ∧ h 3 7 = 0 ∧ r = 0) ∨ (x = 0 ∧ ¬ h 3 7 = 0 ∧ r = 1) ∨ (¬ x = 0 ∧ r = h 3 8))) r h8 ∧ h1 = va_up h8 124 (upd (h8 124) 0 r)) ∨ (k9 = 1 ∧ (fun E h9 => h9 = h ∧ ((E = xIOE ∧ ¬ (0 ≤ x ∧ x ≤ 1)) ∨ (E = xISE ∧ (0 ≤ x ∧ x ≤ 1) ∧ h 3 6 = 0))) xIOE h1) ∨ (k9 = 2 ∧ (fun E h9 => h9 = h ∧ ((E = xIOE ∧ ¬ (0 ≤ x ∧ x ≤ 1)) ∨ (E = xISE ∧ (0 ≤ x ∧ x ≤ 1) ∧ h 3 6 = 0))) xISE h1)) : pq_MR h1 W n w nm pr bs best ask sp sc c9 kp tm dy ∧ ∀ (r : Int32) (h2 : pq_H), (fun (h : pq_H) => (fun r h9 => (¬ (0 ≤ x ∧ x ≤ 1) ∧ h9 = pq_th 1 h) ∨ ((0 ≤ x ∧ x ≤ 1) ∧ h 116 10 = 0 ∧ h9 = pq_th 2 h) ∨ ((0 ≤ x ∧ x ≤ 1) ∧ ¬ h 116 10 = 0 ∧ h9 = pq_th 0 h ∧ ((x = 1 ∧ r = h 116 12) ∨ (¬ x = 1 ∧ h 116 11 = 0 ∧ r = 0) ∨ (¬ x = 1 ∧ ¬ h 116 11 = 0 ∧ r = 1)))) r h2) h1 → pq_go k9 r h2 := by
  rcases q with ⟨rfl, r0, h8, ⟨rfl, q0, q1, q2⟩, rfl⟩ | ⟨rfl, rfl, q⟩ | ⟨rfl, rfl, q⟩
  · refine ⟨hm.out, fun r h2 z => ?_⟩
    have ea : ¬ ask = 0 := fun q => q1 (hc.2.2.2.2.1.trans q)
    have hm1 := hm.out (x := r0)
    have em : va_up h8 124 (upd (h8 124) 0 r0) 116 10 = ask := hm1.2.2.1
    obtain ⟨m1, m2⟩ := hm1.2.2.2.1 ea
    obtain ⟨d1, d2⟩ := hc.2.2.2.2.2.1 ea
    rcases z with ⟨z0, -⟩ | ⟨-, z0, -⟩ | ⟨-, -, rfl, z1⟩
    · exact absurd q0 z0
    · exact absurd (em.symm.trans z0) ea
    · refine pq_go.ok hc.out.th hm1.th pq_th_0 ?_
      rw [pq_th_ne (by decide), pq_out0]
      have hx01 : x = 0 ∨ x = 1 := by
        obtain ⟨j, j1, rfl⟩ := nI_of2 (x := x) (M := 1) (n := 1) (by decide) (fun z => absurd (Int32.lt_of_le_of_lt q0.1 z) (by decide)) q0.2
        have : j = 0 ∨ j = 1 := by omega
        rcases this with rfl | rfl
        · exact Or.inl rfl
        · exact Or.inr rfl
      rw [m1, m2] at z1
      rw [d1, d2] at q2
      rcases hx01 with rfl | rfl
      · rcases q2 with ⟨-, a, rfl⟩ | ⟨-, a, rfl⟩ | ⟨a, -⟩
        · rcases z1 with ⟨b, -⟩ | ⟨-, b, rfl⟩ | ⟨-, b, rfl⟩
          · exact absurd b (by decide)
          · rfl
          · exact absurd a b
        · rcases z1 with ⟨b, -⟩ | ⟨-, b, rfl⟩ | ⟨-, b, rfl⟩
          · exact absurd b (by decide)
          · exact absurd b a
          · rfl
        · exact absurd rfl a
      · rcases q2 with ⟨a, -⟩ | ⟨a, -⟩ | ⟨-, rfl⟩
        · exact absurd a (by decide)
        · exact absurd a (by decide)
        · rcases z1 with ⟨-, rfl⟩ | ⟨b, -⟩ | ⟨b, -⟩
          · rfl
          · exact absurd rfl b
          · exact absurd rfl b
  · refine ⟨hm, fun r h2 z => ?_⟩
    rcases q with ⟨-, q⟩ | ⟨q, -⟩
    · rcases z with ⟨-, rfl⟩ | ⟨z0, -⟩ | ⟨z0, -⟩
      · exact pq_go.bad hc hm (by decide)
      · exact absurd z0 q
      · exact absurd z0 q
    · exact absurd q (by decide)
  · refine ⟨hm, fun r h2 z => ?_⟩
    rcases q with ⟨q, -⟩ | ⟨-, q0, q1⟩
    · exact absurd q (by decide)
    · rcases z with ⟨z0, -⟩ | ⟨-, -, rfl⟩ | ⟨-, z0, -⟩
      · exact absurd q0 z0
      · exact pq_go.bad hc hm (by decide)
      · exact absurd (hm.2.2.1.trans (hc.2.2.2.2.1.symm.trans q1)) z0
theorem op_gap {h : pq_H} {W n : Nat} {w nm pr : Nat → Nat} {bs : Option Nat} {best : Nat → Nat → Nat} {ask sp sc : Int32} {c9 : Nat} {kp : Nat → Nat → Nat} {tm dy : Nat → Int32} (hc : pq_CR h W n w nm pr bs best ask sp sc c9 kp tm dy) (hm : pq_MR h W n w nm pr bs best ask sp sc c9 kp tm dy) {k9 : Int32} {h1 : pq_H} (q : (k9 = 0 ∧ ∃ r h8, (fun r h9 => ¬ h 3 5 = -1 ∧ r = h 3 5 - nI (max (pq_up (pq_wd n w nm) W) (pq_up (pq_price n pr nm) (pq_col W n w nm pr).1)) ∧ pq_but [2, 11, 12] h h9 ∧ pq_z h9 12 n ∧ pq_dk h9 W n w nm pr) r h8 ∧ h1 = va_up h8 124 (upd (h8 124) 0 r)) ∨ (k9 = 1 ∧ (fun E h9 => E = xISE ∧ h9 = h ∧ h 3 5 = -1) xISE h1)) : pq_MR h1 W n w nm pr bs best ask sp sc c9 kp tm dy ∧ ∀ (r : Int32) (h2 : pq_H), (fun (h : pq_H) => (fun r h9 => (bs = none ∧ h9 = pq_th 1 h) ∨ (¬ bs = none ∧ r = pq_bsI bs - nI (max (pq_up (pq_wd n w nm) W) (pq_up (pq_price n pr nm) (pq_col W n w nm pr).1)) ∧ pq_fc (pq_th 0 h) h9)) r h2) h1 → pq_go k9 r h2 := by
  have cb := pq_bs_c hc.2.2.2.1
  rcases q with ⟨rfl, r0, h8, ⟨q0, rfl, q1, q2, q3⟩, rfl⟩ | ⟨rfl, -, rfl, q⟩
  · have hm8 : pq_MR h8 W n w nm pr bs best ask sp sc c9 kp tm dy := hm.but q1 (by decide)
    refine ⟨hm8.out, fun r h2 z => ?_⟩
    rcases z with ⟨z0, -⟩ | ⟨-, rfl, z3⟩
    · exact absurd (cb.mpr z0) q0
    · refine pq_go.ok ((hc.col q1 q2 q3).out.th.fc z3) (hm8.out.th.fc z3) (by rw [z3.1 116 (by decide) (by decide)]; exact pq_th_0) ?_
      rw [z3.1 124 (by decide) (by decide), pq_th_ne (by decide), pq_out0, hc.2.2.2.1.1]
  · refine ⟨hm, fun r h2 z => ?_⟩
    rcases z with ⟨-, rfl⟩ | ⟨z0, -⟩
    · exact pq_go.bad hc hm (by decide)
    · exact absurd (cb.mp q) z0
theorem op_cut {h : pq_H} {W n : Nat} {w nm pr : Nat → Nat} {bs : Option Nat} {best : Nat → Nat → Nat} {ask sp sc : Int32} {c9 : Nat} {kp : Nat → Nat → Nat} {tm dy : Nat → Int32} (x y : Int32) (hc : pq_CR h W n w nm pr bs best ask sp sc c9 kp tm dy) (hm : pq_MR h W n w nm pr bs best ask sp sc c9 kp tm dy) {k9 : Int32} {h1 : pq_H} (q : (k9 = 0 ∧ ∃ r h8, (fun r h9 => h9 = h ∧ ∃ b j i, bs = some b ∧ x = nI j ∧ j < b ∧ y = nI i ∧ i < n ∧ r = nI (best j i)) r h8 ∧ h1 = va_up h8 124 (upd (h8 124) 0 r)) ∨ (k9 = 1 ∧ (fun E h9 => h9 = h ∧ ((E = xISE ∧ h 3 5 = -1) ∨ (E = xIOE ∧ ¬ h 3 5 = -1 ∧ ¬ (0 ≤ x ∧ x < h 3 5 ∧ 0 ≤ y ∧ y < nI n)))) xIOE h1) ∨ (k9 = 2 ∧ (fun E h9 => h9 = h ∧ ((E = xISE ∧ h 3 5 = -1) ∨ (E = xIOE ∧ ¬ h 3 5 = -1 ∧ ¬ (0 ≤ x ∧ x < h 3 5 ∧ 0 ≤ y ∧ y < nI n)))) xISE h1)) : pq_MR h1 W n w nm pr bs best ask sp sc c9 kp tm dy ∧ ∀ (r : Int32) (h2 : pq_H), (fun (h : pq_H) => (fun r h9 => (bs = none ∧ h9 = pq_th 2 h) ∨ (¬ bs = none ∧ ¬ ((0 ≤ x ∧ x < pq_bsI bs) ∧ 0 ≤ y ∧ y < nI n) ∧ h9 = pq_th 1 h) ∨ (h9 = pq_th 0 h ∧ ∃ b j i, bs = some b ∧ x = nI j ∧ j < b ∧ y = nI i ∧ i < n ∧ r = nI (best j i))) r h2) h1 → pq_go k9 r h2 := by
  have cb := pq_bs_c hc.2.2.2.1
  have e5 : h 3 5 = pq_bsI bs := hc.2.2.2.1.1
  have hn5 : n ≤ 5 := hc.1.2.1.2.2
  rcases q with ⟨rfl, r0, h8, ⟨rfl, b, j, i, q0, rfl, q1, rfl, q2, rfl⟩, rfl⟩ | ⟨rfl, rfl, q⟩ | ⟨rfl, rfl, q⟩
  · have hb30 := (hc.2.2.2.1.2 b q0).1
    refine ⟨hm.out, fun r h2 z => ?_⟩
    rcases z with ⟨z0, -⟩ | ⟨-, z0, -⟩ | ⟨rfl, b2, j2, i2, z0, z1, z2, z3, z4, rfl⟩
    · rw [z0] at q0; cases q0
    · exact absurd ⟨by rw [q0]; exact pq_inr rfl q1 (by omega), pq_inr rfl q2 (by omega)⟩ z0
    · rw [q0] at z0
      cases z0
      obtain rfl := pq_nI_one rfl z1 (by omega) (by omega)
      obtain rfl := pq_nI_one rfl z3 (by omega) (by omega)
      exact pq_go.ok hc.out.th hm.out.th pq_th_0 (by rw [pq_th_ne (by decide)]; exact pq_out0)
  · refine ⟨hm, fun r h2 z => ?_⟩
    rcases q with ⟨q, -⟩ | ⟨-, q0, q1⟩
    · exact absurd q (by decide)
    · rcases z with ⟨z0, -⟩ | ⟨-, -, rfl⟩ | ⟨rfl, b2, j2, i2, z0, rfl, z2, rfl, z4, -⟩
      · exact absurd (cb.mpr z0) q0
      · exact pq_go.bad hc hm (by decide)
      · have hb30 := (hc.2.2.2.1.2 b2 z0).1
        refine absurd ?_ q1
        rw [e5, z0]
        exact ⟨(pq_inr rfl z2 (by omega)).1, (pq_inr rfl z2 (by omega)).2, pq_inr rfl z4 (by omega)⟩
  · refine ⟨hm, fun r h2 z => ?_⟩
    rcases q with ⟨-, q⟩ | ⟨q, -⟩
    · rcases z with ⟨-, rfl⟩ | ⟨z0, -⟩ | ⟨-, b2, j2, i2, z0, -⟩
      · exact pq_go.bad hc hm (by decide)
      · exact absurd (cb.mp q) z0
      · rw [cb.mp q] at z0; cases z0
    · exact absurd q (by decide)
theorem op_over {h : pq_H} {W n : Nat} {w nm pr : Nat → Nat} {bs : Option Nat} {best : Nat → Nat → Nat} {ask sp sc : Int32} {c9 : Nat} {kp : Nat → Nat → Nat} {tm dy : Nat → Int32} (x : Int32) (hc : pq_CR h W n w nm pr bs best ask sp sc c9 kp tm dy) (hm : pq_MR h W n w nm pr bs best ask sp sc c9 kp tm dy) {k9 : Int32} {h1 : pq_H} (q : (k9 = 0 ∧ ∃ r h8, (fun r h9 => h9 = h ∧ ∃ b j, bs = some b ∧ x = nI j ∧ j < b ∧ r = nI W - nI (pq_sum (fun i => best j i * w i) n)) r h8 ∧ h1 = va_up h8 124 (upd (h8 124) 0 r)) ∨ (k9 = 1 ∧ (fun E h9 => h9 = h ∧ ((E = xISE ∧ h 3 5 = -1) ∨ (E = xIOE ∧ ¬ h 3 5 = -1 ∧ ¬ (0 ≤ x ∧ x < h 3 5)))) xIOE h1) ∨ (k9 = 2 ∧ (fun E h9 => h9 = h ∧ ((E = xISE ∧ h 3 5 = -1) ∨ (E = xIOE ∧ ¬ h 3 5 = -1 ∧ ¬ (0 ≤ x ∧ x < h 3 5)))) xISE h1)) : pq_MR h1 W n w nm pr bs best ask sp sc c9 kp tm dy ∧ ∀ (r : Int32) (h2 : pq_H), (fun (h : pq_H) => (fun r h9 => (bs = none ∧ h9 = pq_th 2 h) ∨ (¬ bs = none ∧ ¬ (0 ≤ x ∧ x < pq_bsI bs) ∧ h9 = pq_th 1 h) ∨ (h9 = pq_th 0 h ∧ ∃ b j, bs = some b ∧ x = nI j ∧ j < b ∧ r = nI W - nI (pq_sum (fun i => best j i * w i) n))) r h2) h1 → pq_go k9 r h2 := by
  have cb := pq_bs_c hc.2.2.2.1
  have e5 : h 3 5 = pq_bsI bs := hc.2.2.2.1.1
  rcases q with ⟨rfl, r0, h8, ⟨rfl, b, j, q0, rfl, q1, rfl⟩, rfl⟩ | ⟨rfl, rfl, q⟩ | ⟨rfl, rfl, q⟩
  · have hb30 := (hc.2.2.2.1.2 b q0).1
    refine ⟨hm.out, fun r h2 z => ?_⟩
    rcases z with ⟨z0, -⟩ | ⟨-, z0, -⟩ | ⟨rfl, b2, j2, z0, z1, z2, rfl⟩
    · rw [z0] at q0; cases q0
    · exact absurd (by rw [q0]; exact pq_inr rfl q1 (by omega)) z0
    · rw [q0] at z0
      cases z0
      obtain rfl := pq_nI_one rfl z1 (by omega) (by omega)
      exact pq_go.ok hc.out.th hm.out.th pq_th_0 (by rw [pq_th_ne (by decide)]; exact pq_out0)
  · refine ⟨hm, fun r h2 z => ?_⟩
    rcases q with ⟨q, -⟩ | ⟨-, q0, q1⟩
    · exact absurd q (by decide)
    · rcases z with ⟨z0, -⟩ | ⟨-, -, rfl⟩ | ⟨rfl, b2, j2, z0, rfl, z2, -⟩
      · exact absurd (cb.mpr z0) q0
      · exact pq_go.bad hc hm (by decide)
      · have hb30 := (hc.2.2.2.1.2 b2 z0).1
        refine absurd ?_ q1
        rw [e5, z0]
        exact pq_inr rfl z2 (by omega)
  · refine ⟨hm, fun r h2 z => ?_⟩
    rcases q with ⟨-, q⟩ | ⟨q, -⟩
    · rcases z with ⟨-, rfl⟩ | ⟨z0, -⟩ | ⟨-, b2, j2, z0, -⟩
      · exact pq_go.bad hc hm (by decide)
      · exact absurd (cb.mp q) z0
      · rw [cb.mp q] at z0; cases z0
    · exact absurd q (by decide)
theorem op_keep {h : pq_H} {W n : Nat} {w nm pr : Nat → Nat} {bs : Option Nat} {best : Nat → Nat → Nat} {ask sp sc : Int32} {c9 : Nat} {kp : Nat → Nat → Nat} {tm dy : Nat → Int32} (x y : Int32) (hc : pq_CR h W n w nm pr bs best ask sp sc c9 kp tm dy) (hm : pq_MR h W n w nm pr bs best ask sp sc c9 kp tm dy) {k9 : Int32} {h1 : pq_H} (q : (k9 = 0 ∧ ∃ r h8, (fun r h9 => ∃ b j, bs = some b ∧ x = nI j ∧ j < b ∧ (0 ≤ y ∧ y ≤ 9999) ∧ ((∃ k, k < c9 ∧ r = nI k ∧ (∀ i, i < 5 → h (76 + k) i = h (46 + j) i) ∧ (∀ z, z < k → ¬ (∀ i, i < 5 → h (76 + z) i = h (46 + j) i)) ∧ pq_but [14, 15] h h9 ∧ h9 14 = upd (h 14) k (h 14 k + 1) ∧ h9 15 = upd (h 15) k (if h 15 k < y then y else h 15 k)) ∨ ((∀ z, z < c9 → ¬ (∀ i, i < 5 → h (76 + z) i = h (46 + j) i)) ∧ c9 < 40 ∧ r = nI c9 ∧ pq_but [4, 14, 15, 76 + c9] h h9 ∧ h9 4 0 = nI (c9 + 1) ∧ (∀ i, i < 5 → h9 (76 + c9) i = h (46 + j) i) ∧ h9 14 = upd (h 14) c9 1 ∧ h9 15 = upd (h 15) c9 y))) r h8 ∧ h1 = va_up h8 124 (upd (h8 124) 0 r)) ∨ (k9 = 1 ∧ (fun E h9 => h9 = h ∧ ((E = xISE ∧ h 3 5 = -1) ∨ (E = xIOE ∧ ¬ h 3 5 = -1 ∧ ¬ (0 ≤ x ∧ x < h 3 5)) ∨ (E = xIAE ∧ ¬ h 3 5 = -1 ∧ (0 ≤ x ∧ x < h 3 5) ∧ ¬ (0 ≤ y ∧ y ≤ 9999)) ∨ (E = xUOE ∧ ¬ h 3 5 = -1 ∧ (0 ≤ x ∧ x < h 3 5) ∧ (0 ≤ y ∧ y ≤ 9999) ∧ c9 = 40 ∧ ∃ j, x = nI j ∧ j < 30 ∧ ∀ z, z < c9 → ¬ (∀ i, i < 5 → h (76 + z) i = h (46 + j) i)))) xIOE h1) ∨ (k9 = 2 ∧ (fun E h9 => h9 = h ∧ ((E = xISE ∧ h 3 5 = -1) ∨ (E = xIOE ∧ ¬ h 3 5 = -1 ∧ ¬ (0 ≤ x ∧ x < h 3 5)) ∨ (E = xIAE ∧ ¬ h 3 5 = -1 ∧ (0 ≤ x ∧ x < h 3 5) ∧ ¬ (0 ≤ y ∧ y ≤ 9999)) ∨ (E = xUOE ∧ ¬ h 3 5 = -1 ∧ (0 ≤ x ∧ x < h 3 5) ∧ (0 ≤ y ∧ y ≤ 9999) ∧ c9 = 40 ∧ ∃ j, x = nI j ∧ j < 30 ∧ ∀ z, z < c9 → ¬ (∀ i, i < 5 → h (76 + z) i = h (46 + j) i)))) xISE h1) ∨ (k9 = 3 ∧ (fun E h9 => h9 = h ∧ ((E = xISE ∧ h 3 5 = -1) ∨ (E = xIOE ∧ ¬ h 3 5 = -1 ∧ ¬ (0 ≤ x ∧ x < h 3 5)) ∨ (E = xIAE ∧ ¬ h 3 5 = -1 ∧ (0 ≤ x ∧ x < h 3 5) ∧ ¬ (0 ≤ y ∧ y ≤ 9999)) ∨ (E = xUOE ∧ ¬ h 3 5 = -1 ∧ (0 ≤ x ∧ x < h 3 5) ∧ (0 ≤ y ∧ y ≤ 9999) ∧ c9 = 40 ∧ ∃ j, x = nI j ∧ j < 30 ∧ ∀ z, z < c9 → ¬ (∀ i, i < 5 → h (76 + z) i = h (46 + j) i)))) xIAE h1) ∨ (k9 = 4 ∧ (fun E h9 => h9 = h ∧ ((E = xISE ∧ h 3 5 = -1) ∨ (E = xIOE ∧ ¬ h 3 5 = -1 ∧ ¬ (0 ≤ x ∧ x < h 3 5)) ∨ (E = xIAE ∧ ¬ h 3 5 = -1 ∧ (0 ≤ x ∧ x < h 3 5) ∧ ¬ (0 ≤ y ∧ y ≤ 9999)) ∨ (E = xUOE ∧ ¬ h 3 5 = -1 ∧ (0 ≤ x ∧ x < h 3 5) ∧ (0 ≤ y ∧ y ≤ 9999) ∧ c9 = 40 ∧ ∃ j, x = nI j ∧ j < 30 ∧ ∀ z, z < c9 → ¬ (∀ i, i < 5 → h (76 + z) i = h (46 + j) i)))) xUOE h1)) : pq_MR h1 W n w nm pr bs best ask sp sc c9 kp tm dy ∧ ∀ (r : Int32) (h2 : pq_H), (fun (h : pq_H) => (fun r h9 => (bs = none ∧ h9 = pq_th 2 h) ∨ (¬ bs = none ∧ ¬ (0 ≤ x ∧ x < pq_bsI bs) ∧ h9 = pq_th 1 h) ∨ (¬ bs = none ∧ (0 ≤ x ∧ x < pq_bsI bs) ∧ ¬ (0 ≤ y ∧ y ≤ 9999) ∧ h9 = pq_th 3 h) ∨ (∃ b j, bs = some b ∧ x = nI j ∧ j < b ∧ (0 ≤ y ∧ y ≤ 9999) ∧ c9 = 40 ∧ (∀ z, z < c9 → ¬ pq_eqr h z j) ∧ h9 = pq_th 4 h) ∨ (∃ b j, bs = some b ∧ x = nI j ∧ j < b ∧ (0 ≤ y ∧ y ≤ 9999) ∧ pq_but [116, 123] h h9 ∧ h9 116 0 = 0 ∧ ((∃ k, k < c9 ∧ r = nI k ∧ pq_eqr h k j ∧ (∀ z, z < k → ¬ pq_eqr h z j) ∧ (∀ q, q ≠ 0 → h9 116 q = h 116 q) ∧ h9 123 (7 * k + 5) = h 123 (7 * k + 5) + 1 ∧ h9 123 (7 * k + 6) = (if h 123 (7 * k + 6) < y then y else h 123 (7 * k + 6)) ∧ ∀ p, p ≠ 7 * k + 5 → p ≠ 7 * k + 6 → h9 123 p = h 123 p) ∨ ((∀ z, z < c9 → ¬ pq_eqr h z j) ∧ c9 < 40 ∧ r = nI c9 ∧ h9 116 13 = nI (c9 + 1) ∧ (∀ q, q ≠ 0 → q ≠ 13 → h9 116 q = h 116 q) ∧ (∀ i, i < 5 → h9 123 (7 * c9 + i) = h 122 (5 * j + i)) ∧ h9 123 (7 * c9 + 5) = 1 ∧ h9 123 (7 * c9 + 6) = y ∧ ∀ p, (p < 7 * c9 ∨ 7 * c9 + 7 ≤ p) → h9 123 p = h 123 p)))) r h2) h1 → pq_go k9 r h2 := by
  have cb := pq_bs_c hc.2.2.2.1
  have e5 : h 3 5 = pq_bsI bs := hc.2.2.2.1.1
  have hc40 : c9 ≤ 40 := hc.2.2.2.2.2.2.1.2.1
  rcases q with ⟨rfl, r0, h8, ⟨b, j, q0, rfl, q1, q2, q3⟩, rfl⟩ | ⟨rfl, rfl, q⟩ | ⟨rfl, rfl, q⟩ | ⟨rfl, rfl, q⟩ | ⟨rfl, rfl, q⟩
  · obtain ⟨hb30, hbs, hbr⟩ := hc.2.2.2.1.2 b q0
    have hm8 : pq_MR h8 W n w nm pr bs best ask sp sc c9 kp tm dy := by
      rcases q3 with ⟨k, k1, -, -, -, q4, -⟩ | ⟨-, k1, -, q4, -⟩
      · exact hm.but q4 (by decide)
      · exact hm.but q4 (by simp; omega)
    have hm1 := hm8.out (x := r0)
    have hei : ∀ z, z < c9 → (pq_eqr (va_up h8 124 (upd (h8 124) 0 r0)) z j ↔ ∀ i, i < 5 → h (76 + z) i = h (46 + j) i) := fun z hz => pq_eqr_iff hc hm1 q0 q1 hz
    refine ⟨hm1, fun r h2 z => ?_⟩
    rcases z with ⟨z0, -⟩ | ⟨-, z0, -⟩ | ⟨-, -, z0, -⟩ | ⟨b2, j2, z0, z1, z2, -, z4, z5, -⟩ | ⟨b2, j2, z0, z1, z2, -, z4, z5, z6⟩
    · rw [z0] at q0; cases q0
    · exact absurd (by rw [q0]; exact pq_inr rfl q1 (by omega)) z0
    · exact absurd q2 z0
    · rw [q0] at z0
      cases z0
      obtain rfl := pq_nI_one rfl z1 (by omega) (by omega)
      rcases q3 with ⟨k, k1, -, k2, -⟩ | ⟨-, k1, -⟩
      · exact absurd ((hei k k1).mpr k2) (z5 k k1)
      · omega
    · rw [q0] at z0
      cases z0
      obtain rfl := pq_nI_one rfl z1 (by omega) (by omega)
      have o124 : h2 124 0 = r0 := by rw [z4 124 (by decide)]; exact pq_out0
      have e1 : ∀ k, k < 116 → h2 k = h8 k := fun k hk => (z4 k (by simp; omega)).trans (va_up_ne _ _ (by omega))
      rcases q3 with ⟨k, k1, rfl, k2, k3, q4, q5, q6⟩ | ⟨q3, k1, rfl, q4, q5, q6, q7, q8⟩
      · rcases z6 with ⟨y2, y3, rfl, y4, y5, y6, y7, y8, y9⟩ | ⟨y2, -⟩
        · obtain rfl : k = y2 := by
            rcases Nat.lt_trichotomy k y2 with q | q | q
            · exact absurd ((hei k k1).mpr k2) (y5 k q)
            · exact q
            · exact absurd ((hei y2 y3).mp y4) (k3 y2 q)
          obtain ⟨t1, t2⟩ := hm1.2.2.2.2.2 k k1
          have f' : ∀ q, q ≠ 14 → q ≠ 15 → h8 q = h q := fun q a1 a2 => q4 q (by simp [a1, a2])
          have hc8 : pq_CR h8 W n w nm pr bs best ask sp sc c9 kp (upd tm k (tm k + 1)) (upd dy k (if dy k < y then y else dy k)) := by
            obtain ⟨a1, a2, a3, a4, a5, a6, a7, a8, a9⟩ := hc
            obtain ⟨u1, u2⟩ := a9 k k1
            refine ⟨a1.of (f' 1 (by decide) (by decide)) (f' 8 (by decide) (by decide)) (f' 9 (by decide) (by decide)) (f' 10 (by decide) (by decide)), a2.of (f' 2 (by decide) (by decide)) (f' 11 (by decide) (by decide)) (f' 12 (by decide) (by decide)), a3.rows (fun j hj => f' _ (by omega) (by omega)), a4.of (f' 3 (by decide) (by decide)) (fun j hj => f' _ (by omega) (by omega)), ?_, ?_, a7.of (f' 4 (by decide) (by decide)) (fun j hj => f' _ (by omega) (by omega)), a8, ?_⟩
            · rw [f' 3 (by decide) (by decide)]; exact a5
            · rw [f' 3 (by decide) (by decide)]; exact a6
            · intro j9 hj9
              rw [q5, q6, u1, u2]
              by_cases e : j9 = k
              · subst e
                rw [pk_us, pk_us, pk_us, pk_us]
                exact ⟨rfl, rfl⟩
              · rw [pk_un e, pk_un e, pk_un e, pk_un e]
                exact a9 j9 hj9
          have hm2 : pq_MR h2 W n w nm pr bs best ask sp sc c9 kp (upd tm k (tm k + 1)) (upd dy k (if dy k < y then y else dy k)) := by
            obtain ⟨a1, a2, a3, a4, a5, a6⟩ := hm1
            refine ⟨a1.of (y6 1 (by decide)) (y6 2 (by decide)) (z4 117 (by decide)) (z4 118 (by decide)) (z4 119 (by decide)), a2.of (y6 8 (by decide)) (z4 122 (by decide)), by rw [y6 10 (by decide)]; exact a3, by rw [y6 11 (by decide), y6 12 (by decide)]; exact a4, ⟨by rw [y6 13 (by decide)]; exact a5.1, a5.2.1, fun j9 hj9 => (a5.2.2 j9 hj9).of (fun i hi => y9 _ (by omega) (by omega))⟩, ?_⟩
            intro j9 hj9
            by_cases e : j9 = k
            · subst e
              rw [pk_us, pk_us, y7, y8, t1, t2]
              exact ⟨rfl, rfl⟩
            · rw [pk_un e, pk_un e, y9 _ (by omega) (by omega), y9 _ (by omega) (by omega)]
              exact a6 j9 hj9
          exact pq_go.ok (hc8.of e1) hm2 z5 o124
        · exact absurd ((hei k k1).mpr k2) (y2 k k1)
      · rcases z6 with ⟨y2, y3, -, y4, -⟩ | ⟨y2, -, rfl, y4, y5, y6, y7, y8, y9⟩
        · exact absurd ((hei y2 y3).mp y4) (q3 y2 y3)
        · have f' : ∀ q, q ≠ 4 → q ≠ 14 → q ≠ 15 → q ≠ 76 + c9 → h8 q = h q := fun q a1 a2 a3 a4 => q4 q (by simp [a1, a2, a3, a4])
          have hc8 : pq_CR h8 W n w nm pr bs best ask sp sc (c9 + 1) (va_up kp c9 (best j)) (upd tm c9 1) (upd dy c9 y) := by
            obtain ⟨a1, a2, a3, a4, a5, a6, a7, a8, a9⟩ := hc
            have g' : ∀ q, q < 4 ∨ (4 < q ∧ q < 14) ∨ (15 < q ∧ q < 76) → h8 q = h q := fun q hq => f' q (by omega) (by omega) (by omega) (by omega)
            refine ⟨a1.of (g' 1 (by decide)) (g' 8 (by decide)) (g' 9 (by decide)) (g' 10 (by decide)), a2.of (g' 2 (by decide)) (g' 11 (by decide)) (g' 12 (by decide)), a3.rows (fun j hj => g' _ (by omega)), a4.of (g' 3 (by decide)) (fun j hj => g' _ (by omega)), ?_, ?_, ⟨q5, by omega, ?_⟩, ?_, ?_⟩
            · rw [g' 3 (by decide)]; exact a5
            · rw [g' 3 (by decide)]; exact a6
            · intro j9 hj9
              by_cases e : j9 = c9
              · subst e
                rw [va_up_self]
                exact ⟨fun i hi => (q6 i hi).trans (hbr j q1 i hi), fun i hi => (hbs j q1 i hi).1⟩
              · rw [va_up_ne _ _ e]
                obtain ⟨u1, u2⟩ := a7.2.2 j9 (by omega)
                exact ⟨u1.of (f' _ (by omega) (by omega) (by omega) (by omega)), u2⟩
            · intro j9 hj9
              by_cases e : j9 = c9
              · subst e
                rw [va_up_self]
                exact hbs j q1
              · rw [va_up_ne _ _ e]
                exact a8 j9 (by omega)
            · intro j9 hj9
              rw [q7, q8]
              by_cases e : j9 = c9
              · subst e
                rw [pk_us, pk_us, pk_us, pk_us]
                exact ⟨rfl, rfl⟩
              · rw [pk_un e, pk_un e, pk_un e, pk_un e]
                exact a9 j9 (by omega)
          have hm2 : pq_MR h2 W n w nm pr bs best ask sp sc (c9 + 1) (va_up kp c9 (best j)) (upd tm c9 1) (upd dy c9 y) := by
            obtain ⟨a1, a2, a3, a4, a5, a6⟩ := hm1
            have hbr2 := (a2.2 b q0).2 j q1
            refine ⟨a1.of (y5 1 (by decide) (by decide)) (y5 2 (by decide) (by decide)) (z4 117 (by decide)) (z4 118 (by decide)) (z4 119 (by decide)), a2.of (y5 8 (by decide) (by decide)) (z4 122 (by decide)), by rw [y5 10 (by decide) (by decide)]; exact a3, by rw [y5 11 (by decide) (by decide), y5 12 (by decide) (by decide)]; exact a4, ⟨y4, by omega, ?_⟩, ?_⟩
            · intro j9 hj9
              by_cases e : j9 = c9
              · subst e
                rw [va_up_self]
                exact fun i hi => (y6 i hi).trans (hbr2 i hi)
              · rw [va_up_ne _ _ e]
                exact (a5.2.2 j9 (by omega)).of (fun i hi => y9 _ (by omega))
            · intro j9 hj9
              by_cases e : j9 = c9
              · subst e
                rw [pk_us, pk_us]
                exact ⟨y7, y8⟩
              · rw [pk_un e, pk_un e, y9 _ (by omega), y9 _ (by omega)]
                exact a6 j9 (by omega)
          exact pq_go.ok (hc8.of e1) hm2 z5 o124
  · refine ⟨hm, fun r h2 z => ?_⟩
    rcases q with ⟨q, -⟩ | ⟨-, q0, q1⟩ | ⟨q, -⟩ | ⟨q, -⟩
    · exact absurd q (by decide)
    · rcases z with ⟨z0, -⟩ | ⟨-, -, rfl⟩ | ⟨-, z0, -⟩ | ⟨b2, j2, z0, rfl, z2, -⟩ | ⟨b2, j2, z0, rfl, z2, -⟩
      · exact absurd (cb.mpr z0) q0
      · exact pq_go.bad hc hm (by decide)
      · exact absurd (e5 ▸ z0) q1
      · have hb30 := (hc.2.2.2.1.2 b2 z0).1
        exact absurd (by rw [e5, z0]; exact pq_inr rfl z2 (by omega)) q1
      · have hb30 := (hc.2.2.2.1.2 b2 z0).1
        exact absurd (by rw [e5, z0]; exact pq_inr rfl z2 (by omega)) q1
    · exact absurd q (by decide)
    · exact absurd q (by decide)
  · refine ⟨hm, fun r h2 z => ?_⟩
    rcases q with ⟨-, q⟩ | ⟨q, -⟩ | ⟨q, -⟩ | ⟨q, -⟩
    · rcases z with ⟨-, rfl⟩ | ⟨z0, -⟩ | ⟨z0, -⟩ | ⟨b2, j2, z0, -⟩ | ⟨b2, j2, z0, -⟩
      · exact pq_go.bad hc hm (by decide)
      · exact absurd (cb.mp q) z0
      · exact absurd (cb.mp q) z0
      · rw [cb.mp q] at z0; cases z0
      · rw [cb.mp q] at z0; cases z0
    · exact absurd q (by decide)
    · exact absurd q (by decide)
    · exact absurd q (by decide)
  · refine ⟨hm, fun r h2 z => ?_⟩
    rcases q with ⟨q, -⟩ | ⟨q, -⟩ | ⟨-, q0, q1, q2⟩ | ⟨q, -⟩
    · exact absurd q (by decide)
    · exact absurd q (by decide)
    · rcases z with ⟨z0, -⟩ | ⟨-, z0, -⟩ | ⟨-, -, -, rfl⟩ | ⟨b2, j2, z0, z1, z2, z3, -⟩ | ⟨b2, j2, z0, z1, z2, z3, -⟩
      · exact absurd (cb.mpr z0) q0
      · exact absurd (e5 ▸ q1) z0
      · exact pq_go.bad hc hm (by decide)
      · exact absurd z3 q2
      · exact absurd z3 q2
    · exact absurd q (by decide)
  · refine ⟨hm, fun r h2 z => ?_⟩
    rcases q with ⟨q, -⟩ | ⟨q, -⟩ | ⟨q, -⟩ | ⟨-, q0, q1, q2, q3, j, rfl, q4, q5⟩
    · exact absurd q (by decide)
    · exact absurd q (by decide)
    · exact absurd q (by decide)
    · rcases z with ⟨z0, -⟩ | ⟨-, z0, -⟩ | ⟨-, -, z0, -⟩ | ⟨b2, j2, z0, z1, z2, -, -, -, rfl⟩ | ⟨b2, j2, z0, z1, z2, -, -, -, z6⟩
      · exact absurd (cb.mpr z0) q0
      · exact absurd (e5 ▸ q1) z0
      · exact absurd q2 z0
      · exact pq_go.bad hc hm (by decide)
      · have hb30 := (hc.2.2.2.1.2 b2 z0).1
        obtain rfl := pq_nI_one rfl z1 (by omega) (by omega)
        rcases z6 with ⟨y2, y3, -, y4, -⟩ | ⟨y2, y3, -⟩
        · exact absurd ((pq_eqr_iff hc hm z0 z2 y3).mp y4) (q5 y2 y3)
        · omega
theorem op_kept {h : pq_H} {W n : Nat} {w nm pr : Nat → Nat} {bs : Option Nat} {best : Nat → Nat → Nat} {ask sp sc : Int32} {c9 : Nat} {kp : Nat → Nat → Nat} {tm dy : Nat → Int32} (x y : Int32) (hc : pq_CR h W n w nm pr bs best ask sp sc c9 kp tm dy) (hm : pq_MR h W n w nm pr bs best ask sp sc c9 kp tm dy) {k9 : Int32} {h1 : pq_H} (q : (k9 = 0 ∧ ∃ r h8, (fun r h9 => h9 = h ∧ ∃ j, x = nI j ∧ j < c9 ∧ ((y = 6 ∧ r = h 15 j) ∨ (y = 5 ∧ r = h 14 j) ∨ ∃ i, y = nI i ∧ i < 5 ∧ r = h (76 + j) i)) r h8 ∧ h1 = va_up h8 124 (upd (h8 124) 0 r)) ∨ (k9 = 1 ∧ (fun E h9 => E = xIOE ∧ h9 = h ∧ ¬ ((0 ≤ x ∧ x < nI c9) ∧ 0 ≤ y ∧ y ≤ 6)) xIOE h1)) : pq_MR h1 W n w nm pr bs best ask sp sc c9 kp tm dy ∧ ∀ (r : Int32) (h2 : pq_H), (fun (h : pq_H) => (fun r h9 => (¬ ((0 ≤ x ∧ x < nI c9) ∧ 0 ≤ y ∧ y ≤ 6) ∧ h9 = pq_th 1 h) ∨ (h9 = pq_th 0 h ∧ ∃ j i, x = nI j ∧ j < c9 ∧ y = nI i ∧ i ≤ 6 ∧ r = h 123 (7 * j + i))) r h2) h1 → pq_go k9 r h2 := by
  have hc40 : c9 ≤ 40 := hc.2.2.2.2.2.2.1.2.1
  rcases q with ⟨rfl, r0, h8, ⟨rfl, j, rfl, q0, q1⟩, rfl⟩ | ⟨rfl, -, rfl, q⟩
  · have hm1 := hm.out (x := r0)
    refine ⟨hm1, fun r h2 z => ?_⟩
    have hq6 : ∃ i, y = nI i ∧ i ≤ 6 ∧ r0 = (if i = 6 then dy j else if i = 5 then tm j else nI (kp j i)) := by
      obtain ⟨t1, t2⟩ := hc.2.2.2.2.2.2.2.2 j q0
      rcases q1 with ⟨rfl, rfl⟩ | ⟨rfl, rfl⟩ | ⟨i, rfl, q2, rfl⟩
      · exact ⟨6, rfl, by omega, t2⟩
      · exact ⟨5, rfl, by omega, t1⟩
      · refine ⟨i, rfl, by omega, ?_⟩
        rw [if_neg (by omega), if_neg (by omega)]
        exact (hc.2.2.2.2.2.2.1.2.2 j q0).1 i q2
    obtain ⟨i, rfl, q2, q3⟩ := hq6
    rcases z with ⟨z0, -⟩ | ⟨rfl, j2, i2, z1, z2, z3, z4, z5⟩
    · exact absurd ⟨pq_inr rfl q0 (by omega), nI_pos' (by omega), nI_leI (b := 6) (by omega) (by decide) |>.mpr q2⟩ z0
    · obtain rfl := pq_nI_one rfl z1 (by omega) (by omega)
      obtain rfl := pq_nI_one rfl z3 (by omega) (by omega)
      refine pq_go.ok hc.out.th hm1.th pq_th_0 ?_
      rw [pq_th_ne (by decide), pq_out0, q3]
      obtain ⟨t1, t2⟩ := hm1.2.2.2.2.2 j q0
      by_cases e6 : i = 6
      · subst e6
        rw [if_pos rfl, z5, t2]
      · by_cases e5 : i = 5
        · subst e5
          rw [if_neg e6, if_pos rfl, z5, t1]
        · rw [if_neg e6, if_neg e5, z5]
          exact (hm1.2.2.2.2.1.2.2 j q0 i (by omega)).symm
  · refine ⟨hm, fun r h2 z => ?_⟩
    rcases z with ⟨-, rfl⟩ | ⟨-, j2, i2, rfl, z2, rfl, z4, -⟩
    · exact pq_go.bad hc hm (by decide)
    · exact absurd ⟨pq_inr rfl z2 (by omega), nI_pos' (by omega), nI_leI (b := 6) (by omega) (by decide) |>.mpr z4⟩ q
theorem op_fitting {h : pq_H} {W n : Nat} {w nm pr : Nat → Nat} {bs : Option Nat} {best : Nat → Nat → Nat} {ask sp sc : Int32} {c9 : Nat} {kp : Nat → Nat → Nat} {tm dy : Nat → Int32} (x : Int32) (hc : pq_CR h W n w nm pr bs best ask sp sc c9 kp tm dy) (hm : pq_MR h W n w nm pr bs best ask sp sc c9 kp tm dy) {k9 : Int32} {h1 : pq_H} (q : (k9 = 0 ∧ ∃ r h8, (fun r h9 => h9 = h ∧ ∃ i, x = nI i ∧ i < 2 ^ 31 ∧ r = pq_opI (pq_nth (fun k => pq_fitb W n w nm (kp k)) c9 0 i)) r h8 ∧ h1 = va_up h8 124 (upd (h8 124) 0 r)) ∨ (k9 = 1 ∧ (fun E h9 => E = xIOE ∧ h9 = h ∧ x < 0) xIOE h1)) : pq_MR h1 W n w nm pr bs best ask sp sc c9 kp tm dy ∧ ∀ (r : Int32) (h2 : pq_H), (fun (h : pq_H) => (fun r h9 => (x < 0 ∧ h9 = pq_th 1 h) ∨ (∃ i, x = nI i ∧ i < 2 ^ 31 ∧ h9 = pq_th 0 h ∧ r = pq_opI (pq_nth (fun k => pq_fitb W n w nm (kp k)) c9 0 i))) r h2) h1 → pq_go k9 r h2 := by
  rcases q with ⟨rfl, r0, h8, ⟨rfl, i, rfl, q0, rfl⟩, rfl⟩ | ⟨rfl, -, rfl, q⟩
  · refine ⟨hm.out, fun r h2 z => ?_⟩
    rcases z with ⟨z0, -⟩ | ⟨i2, z1, z2, rfl, rfl⟩
    · exact absurd z0 (nI_pos q0)
    · obtain rfl := pq_nI_one rfl z1 (by omega) (by omega)
      exact pq_go.ok hc.out.th hm.out.th pq_th_0 (by rw [pq_th_ne (by decide)]; exact pq_out0)
  · refine ⟨hm, fun r h2 z => ?_⟩
    rcases z with ⟨-, rfl⟩ | ⟨i2, rfl, z2, -⟩
    · exact pq_go.bad hc hm (by decide)
    · exact absurd q (nI_pos z2)

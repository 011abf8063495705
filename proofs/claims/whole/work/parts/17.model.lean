/-! part 17: the reference: small methods, fill, goesDown -/
/-- the sheets' width and the orders, as they stand in the reference's cells -/
def pq_mo (h : pq_H) (W n : Nat) (w nm pr : Nat → Nat) : Prop := (h 116 1 = nI W ∧ h 116 2 = nI n ∧ pq_row h 117 w ∧ pq_row h 118 nm ∧ pq_row h 119 pr) ∧ (1 ≤ W ∧ W ≤ 1000 ∧ n ≤ 5) ∧ (∀ i, i < 5 → w i ≤ 1000 ∧ nm i ≤ 6 ∧ pr i ≤ 1000) ∧ (∀ i, i < n → 1 ≤ w i) ∧ ∀ i, n ≤ i → i < 5 → nm i = 0
theorem pq_mo.of {h h' : pq_H} {W n : Nat} {w nm pr : Nat → Nat} (hs : pq_mo h W n w nm pr) (e1 : h' 116 1 = h 116 1) (e2 : h' 116 2 = h 116 2) (e7 : h' 117 = h 117) (e8 : h' 118 = h 118) (e9 : h' 119 = h 119) : pq_mo h' W n w nm pr :=
  ⟨⟨by rw [e1]; exact hs.1.1, by rw [e2]; exact hs.1.2.1, hs.1.2.2.1.of e7, hs.1.2.2.2.1.of e8, hs.1.2.2.2.2.of e9⟩, hs.2⟩
theorem pq_mo.only {h h' : pq_H} {W n kr : Nat} {w nm pr : Nat → Nat} (hs : pq_mo h W n w nm pr) (ho : pq_only kr h h') (h1 : 119 < kr) : pq_mo h' W n w nm pr := hs.of (by rw [ho 116 (by omega)]) (by rw [ho 116 (by omega)]) (ho 117 (by omega)) (ho 118 (by omega)) (ho 119 (by omega))
/-- five places of a long row -/
def pq_sub (h : pq_H) (K A : Nat) (a : Nat → Nat) : Prop := ∀ i, i < 5 → h K (A + i) = nI (a i)
theorem pq_sub.of {h h' : pq_H} {K A : Nat} {a : Nat → Nat} (hr : pq_sub h K A a) (e : ∀ i, i < 5 → h' K (A + i) = h K (A + i)) : pq_sub h' K A a := fun i hi => by rw [e i hi]; exact hr i hi
theorem pq_sub.put {h : pq_H} {K A i : Nat} {a : Nat → Nat} {x : Int32} {v : Nat} (hr : pq_sub h K A a) (hx : x = nI v) : pq_sub (va_up h K (upd (h K) (A + i) x)) K A (va_up a i v) := fun j hj => by
  rw [va_up_self]
  by_cases e : j = i
  · subst e; rw [pk_us, va_up_self, hx]
  · rw [pk_un (by omega), va_up_ne _ _ e, hr j hj]
/-- the places A .. A + 4 of the row K alone have changed -/
def pq_at (K A : Nat) (h h' : pq_H) : Prop := pq_only K h h' ∧ ∀ p, (p < A ∨ A + 5 ≤ p) → h' K p = h K p
theorem pq_at.rfl' {K A : Nat} {h : pq_H} : pq_at K A h h := ⟨pq_only.rfl', fun _ _ => rfl⟩
theorem pq_at.trans {K A : Nat} {h h' h2 : pq_H} (a : pq_at K A h h') (b : pq_at K A h' h2) : pq_at K A h h2 := ⟨a.1.trans b.1, fun p hp => (b.2 p hp).trans (a.2 p hp)⟩
theorem pq_at.up {K A i : Nat} {h : pq_H} {x : Int32} (hi : i < 5) : pq_at K A h (va_up h K (upd (h K) (A + i) x)) := ⟨pq_only.up, fun p hp => by rw [va_up_self, pk_un (by omega)]⟩
theorem pq_n1 {i : Nat} : nI i + Int32.ofInt 1 = nI (i + 1) := nI_1 i
theorem pq_thr_pos {t : Int32} (ht : t = 0 ∨ t = 1 ∨ t = 2 ∨ t = 3 ∨ t = 4) : (0 < t ↔ ¬ t = 0) := by
  rcases ht with rfl | rfl | rfl | rfl | rfl <;> decide
def pq_thr (a b c d : Int32) : Int32 := if a = 0 then (if b = 0 then (if c = 0 then (if d = 0 then 0 else 4) else 3) else 2) else 1
/-- a flag and what it tells -/
def pq_fl (r : Int32) (P : Prop) : Prop := (r = 1 ∧ P) ∨ (r = 0 ∧ ¬ P)
theorem pq_fl.z {r : Int32} {P : Prop} (h : pq_fl r P) : narrow .boolean (.int r) = .int r := by rcases h with q | q <;> rw [q.1] <;> rfl
theorem pq_fl.t {r : Int32} {P : Prop} (h : pq_fl r P) (c : ¬ r = 0) : P := by
  rcases h with q | q
  · exact q.2
  · exact absurd q.1 c
theorem pq_fl.f {r : Int32} {P : Prop} (h : pq_fl r P) (c : r = 0) : ¬ P := by
  rcases h with q | q
  · rw [q.1] at c; exact absurd c (by decide)
  · exact q.2
theorem pq_ord {x : Int32} {n : Nat} (hn : n ≤ 50) : (0 ≤ x ∧ x ≤ nI n - 1) ↔ (0 ≤ x ∧ x < nI n) := by
  have h1 : (nI n - 1).toInt = (n : Int) - 1 := pk_sub_toInt (b := 1) (by omega) (by decide)
  have h2 : (nI n).toInt = (n : Int) := nI_toInt (by omega)
  simp only [Int32.le_iff_toInt_le, Int32.lt_iff_toInt_lt, h1, h2]
  omega
theorem pq_sum_put {b w : Nat → Nat} {i v : Nat} : pq_sum (fun j => va_up b i v j * w j) (i + 1) = pq_sum (fun j => b j * w j) i + v * w i := by
  show pq_sum _ i + va_up b i v i * w i = _
  rw [va_up_self, pq_sum_congr (g := fun j => b j * w j) (fun j hj => by show va_up b i v j * w j = _; rw [va_up_ne _ _ (by omega)])]
set_option maxRecDepth 100000 in
set_option maxHeartbeats 4000000 in
theorem tM_thrown (l : Launch) (g : pq_G) (h : pq_H)  : XI l yM_thrown wM_thrown rM_thrown g 0 0 [.ref (g.2.2 116)] h (fun r h9 => h9 = h ∧ r = h 116 0) (pq_no) := by
  refine XI.of (cc := cM_thrown) (maxL := 1) (ret := (some .int)) (by decide +kernel) (by simp [Value.category]) (Nat.le_of_ble_eq_true rfl) ?_
  intro p e s m below meth c cx hX hr hlocks hex
  refine vv_aload_n cx dM_thrown_0 rfl rfl (pc' := 1) rfl ?_
  refine vv_getI cx (C := RM) (T := TM) (NN := 15) 116 0 (by decide) sh_116 rfl rfl (by decide) lyM ww_554 dM_thrown_1 (pc' := 4) rfl ?_
  refine vv_iret cx hr hlocks dM_thrown_4 (Nat.le_of_ble_eq_true rfl) (Nat.le_of_ble_eq_true rfl) ?_
  exact ⟨rfl, rfl⟩
set_option maxRecDepth 100000 in
set_option maxHeartbeats 4000000 in
theorem tM_in (l : Launch) (g : pq_G) (h : pq_H) (v a b : Int32) : XI l yM_in wM_in rM_in g 0 0 [.int v, .int a, .int b] h (fun r h9 => h9 = h ∧ pq_fl r (a ≤ v ∧ v ≤ b)) (pq_no) := by
  refine XI.of (cc := cM_in) (maxL := 3) (ret := (some .boolean)) (by decide +kernel) (by simp [Value.category]) (Nat.le_of_ble_eq_true rfl) ?_
  intro p e s m below meth c cx hX hr hlocks hex
  refine vv_iload_n cx dM_in_0 rfl rfl (pc' := 1) rfl ?_
  refine vv_iload_n cx dM_in_1 rfl rfl (pc' := 2) rfl ?_
  refine vv_icmp_lt cx dM_in_2 (tgt := 14) (by decide) (pc' := 5) rfl (fun c2 => ?_) (fun c2 => ?_)
  · refine vv_iconst cx dM_in_14 (v := 0) (by decide) (pc' := 15) rfl ?_
    refine vv_zret cx hr hlocks dM_in_15 rfl (Nat.le_of_ble_eq_true rfl) (Nat.le_of_ble_eq_true rfl) ?_
    first | exact ⟨rfl, Or.inl ⟨rfl, Int32.not_lt.mp c2, Int32.not_lt.mp c7⟩⟩ | exact ⟨rfl, Or.inr ⟨rfl, fun q => absurd q.1 (Int32.not_le.mpr c2)⟩⟩ | exact ⟨rfl, Or.inr ⟨rfl, fun q => absurd q.2 (Int32.not_le.mpr c7)⟩⟩
  · refine vv_iload_n cx dM_in_5 rfl rfl (pc' := 6) rfl ?_
    refine vv_iload_n cx dM_in_6 rfl rfl (pc' := 7) rfl ?_
    refine vv_icmp_gt cx dM_in_7 (tgt := 14) (by decide) (pc' := 10) rfl (fun c7 => ?_) (fun c7 => ?_)
    · refine vv_iconst cx dM_in_14 (v := 0) (by decide) (pc' := 15) rfl ?_
      refine vv_zret cx hr hlocks dM_in_15 rfl (Nat.le_of_ble_eq_true rfl) (Nat.le_of_ble_eq_true rfl) ?_
      first | exact ⟨rfl, Or.inl ⟨rfl, Int32.not_lt.mp c2, Int32.not_lt.mp c7⟩⟩ | exact ⟨rfl, Or.inr ⟨rfl, fun q => absurd q.1 (Int32.not_le.mpr c2)⟩⟩ | exact ⟨rfl, Or.inr ⟨rfl, fun q => absurd q.2 (Int32.not_le.mpr c7)⟩⟩
    · refine vv_iconst cx dM_in_10 (v := 1) (by decide) (pc' := 11) rfl ?_
      refine vv_goto cx dM_in_11 (tgt := 15) (by decide) ?_
      refine vv_zret cx hr hlocks dM_in_15 rfl (Nat.le_of_ble_eq_true rfl) (Nat.le_of_ble_eq_true rfl) ?_
      first | exact ⟨rfl, Or.inl ⟨rfl, Int32.not_lt.mp c2, Int32.not_lt.mp c7⟩⟩ | exact ⟨rfl, Or.inr ⟨rfl, fun q => absurd q.1 (Int32.not_le.mpr c2)⟩⟩ | exact ⟨rfl, Or.inr ⟨rfl, fun q => absurd q.2 (Int32.not_le.mpr c7)⟩⟩
set_option maxRecDepth 100000 in
set_option maxHeartbeats 4000000 in
theorem tM_throwing (l : Launch) (g : pq_G) (h : pq_H) (a b c9 d : Int32) : XI l yM_throwing wM_throwing rM_throwing g 0 0 [.ref (g.2.2 116), .int a, .int b, .int c9, .int d] h (fun r h9 => h9 = va_up h 116 (upd (h 116) 0 (pq_thr a b c9 d)) ∧ pq_fl r (¬ pq_thr a b c9 d = 0)) (pq_no) := by
  refine XI.of (cc := cM_throwing) (maxL := 5) (ret := (some .boolean)) (by decide +kernel) (by simp [Value.category]) (Nat.le_of_ble_eq_true rfl) ?_
  intro p e s m below meth c cx hX hr hlocks hex
  refine vv_aload_n cx dM_throwing_0 rfl rfl (pc' := 1) rfl ?_
  refine vv_iload_n cx dM_throwing_1 rfl rfl (pc' := 2) rfl ?_
  refine vv_if_eq cx dM_throwing_2 (tgt := 9) (by decide) (pc' := 5) rfl (fun c2 => ?_) (fun c2 => ?_)
  · refine vv_iload_n cx dM_throwing_9 rfl rfl (pc' := 10) rfl ?_
    refine vv_if_eq cx dM_throwing_10 (tgt := 17) (by decide) (pc' := 13) rfl (fun c10 => ?_) (fun c10 => ?_)
    · refine vv_iload_n cx dM_throwing_17 rfl rfl (pc' := 18) rfl ?_
      refine vv_if_eq cx dM_throwing_18 (tgt := 25) (by decide) (pc' := 21) rfl (fun c18 => ?_) (fun c18 => ?_)
      · refine vv_iload cx dM_throwing_25 rfl (pc' := 27) rfl ?_
        refine vv_if_eq cx dM_throwing_27 (tgt := 34) (by decide) (pc' := 30) rfl (fun c27 => ?_) (fun c27 => ?_)
        · refine vv_iconst cx dM_throwing_34 (v := 0) (by decide) (pc' := 35) rfl ?_
          first | (have ht : pq_thr a b c9 d = 1 := if_neg c2) | (have ht : pq_thr a b c9 d = 2 := (if_pos c2).trans (if_neg c10)) | (have ht : pq_thr a b c9 d = 3 := (if_pos c2).trans ((if_pos c10).trans (if_neg c18))) | (have ht : pq_thr a b c9 d = 4 := (if_pos c2).trans ((if_pos c10).trans ((if_pos c18).trans (if_neg c27)))) | (have ht : pq_thr a b c9 d = 0 := (if_pos c2).trans ((if_pos c10).trans ((if_pos c18).trans (if_pos c27))))
          refine vv_putI cx (C := RM) (T := TM) (NN := 15) 116 0 (by decide) sh_116 rfl rfl (by decide) lyM tyM tyM_ok nmM rfl rfl rfl ww_554 dM_throwing_35 (pc' := 38) rfl ?_
          refine vv_aload_n cx dM_throwing_38 rfl rfl (pc' := 39) rfl ?_
          refine vv_getI cx (C := RM) (T := TM) (NN := 15) 116 0 (by decide) sh_116 rfl rfl (by decide) lyM ww_554 dM_throwing_39 (pc' := 42) rfl ?_
          rw [va_up_self, pk_us]
          refine vv_if_le cx dM_throwing_42 (tgt := 49) (by decide) (pc' := 45) rfl (fun c42 => ?_) (fun c42 => ?_)
          · refine vv_iconst cx dM_throwing_49 (v := 0) (by decide) (pc' := 50) rfl ?_
            refine vv_zret cx hr hlocks dM_throwing_50 rfl (Nat.le_of_ble_eq_true rfl) (Nat.le_of_ble_eq_true rfl) ?_
            rw [ht]
            first | exact ⟨rfl, Or.inl ⟨rfl, by decide⟩⟩ | exact ⟨rfl, Or.inr ⟨rfl, by decide⟩⟩ | exact absurd c42 (by decide)
          · refine vv_iconst cx dM_throwing_45 (v := 1) (by decide) (pc' := 46) rfl ?_
            refine vv_goto cx dM_throwing_46 (tgt := 50) (by decide) ?_
            refine vv_zret cx hr hlocks dM_throwing_50 rfl (Nat.le_of_ble_eq_true rfl) (Nat.le_of_ble_eq_true rfl) ?_
            rw [ht]
            first | exact ⟨rfl, Or.inl ⟨rfl, by decide⟩⟩ | exact ⟨rfl, Or.inr ⟨rfl, by decide⟩⟩ | exact absurd c42 (by decide)
        · refine vv_iconst cx dM_throwing_30 (v := 4) (by decide) (pc' := 31) rfl ?_
          refine vv_goto cx dM_throwing_31 (tgt := 35) (by decide) ?_
          first | (have ht : pq_thr a b c9 d = 1 := if_neg c2) | (have ht : pq_thr a b c9 d = 2 := (if_pos c2).trans (if_neg c10)) | (have ht : pq_thr a b c9 d = 3 := (if_pos c2).trans ((if_pos c10).trans (if_neg c18))) | (have ht : pq_thr a b c9 d = 4 := (if_pos c2).trans ((if_pos c10).trans ((if_pos c18).trans (if_neg c27)))) | (have ht : pq_thr a b c9 d = 0 := (if_pos c2).trans ((if_pos c10).trans ((if_pos c18).trans (if_pos c27))))
          refine vv_putI cx (C := RM) (T := TM) (NN := 15) 116 0 (by decide) sh_116 rfl rfl (by decide) lyM tyM tyM_ok nmM rfl rfl rfl ww_554 dM_throwing_35 (pc' := 38) rfl ?_
          refine vv_aload_n cx dM_throwing_38 rfl rfl (pc' := 39) rfl ?_
          refine vv_getI cx (C := RM) (T := TM) (NN := 15) 116 0 (by decide) sh_116 rfl rfl (by decide) lyM ww_554 dM_throwing_39 (pc' := 42) rfl ?_
          rw [va_up_self, pk_us]
          refine vv_if_le cx dM_throwing_42 (tgt := 49) (by decide) (pc' := 45) rfl (fun c42 => ?_) (fun c42 => ?_)
          · refine vv_iconst cx dM_throwing_49 (v := 0) (by decide) (pc' := 50) rfl ?_
            refine vv_zret cx hr hlocks dM_throwing_50 rfl (Nat.le_of_ble_eq_true rfl) (Nat.le_of_ble_eq_true rfl) ?_
            rw [ht]
            first | exact ⟨rfl, Or.inl ⟨rfl, by decide⟩⟩ | exact ⟨rfl, Or.inr ⟨rfl, by decide⟩⟩ | exact absurd c42 (by decide)
          · refine vv_iconst cx dM_throwing_45 (v := 1) (by decide) (pc' := 46) rfl ?_
            refine vv_goto cx dM_throwing_46 (tgt := 50) (by decide) ?_
            refine vv_zret cx hr hlocks dM_throwing_50 rfl (Nat.le_of_ble_eq_true rfl) (Nat.le_of_ble_eq_true rfl) ?_
            rw [ht]
            first | exact ⟨rfl, Or.inl ⟨rfl, by decide⟩⟩ | exact ⟨rfl, Or.inr ⟨rfl, by decide⟩⟩ | exact absurd c42 (by decide)
      · refine vv_iconst cx dM_throwing_21 (v := 3) (by decide) (pc' := 22) rfl ?_
        refine vv_goto cx dM_throwing_22 (tgt := 35) (by decide) ?_
        first | (have ht : pq_thr a b c9 d = 1 := if_neg c2) | (have ht : pq_thr a b c9 d = 2 := (if_pos c2).trans (if_neg c10)) | (have ht : pq_thr a b c9 d = 3 := (if_pos c2).trans ((if_pos c10).trans (if_neg c18))) | (have ht : pq_thr a b c9 d = 4 := (if_pos c2).trans ((if_pos c10).trans ((if_pos c18).trans (if_neg c27)))) | (have ht : pq_thr a b c9 d = 0 := (if_pos c2).trans ((if_pos c10).trans ((if_pos c18).trans (if_pos c27))))
        refine vv_putI cx (C := RM) (T := TM) (NN := 15) 116 0 (by decide) sh_116 rfl rfl (by decide) lyM tyM tyM_ok nmM rfl rfl rfl ww_554 dM_throwing_35 (pc' := 38) rfl ?_
        refine vv_aload_n cx dM_throwing_38 rfl rfl (pc' := 39) rfl ?_
        refine vv_getI cx (C := RM) (T := TM) (NN := 15) 116 0 (by decide) sh_116 rfl rfl (by decide) lyM ww_554 dM_throwing_39 (pc' := 42) rfl ?_
        rw [va_up_self, pk_us]
        refine vv_if_le cx dM_throwing_42 (tgt := 49) (by decide) (pc' := 45) rfl (fun c42 => ?_) (fun c42 => ?_)
        · refine vv_iconst cx dM_throwing_49 (v := 0) (by decide) (pc' := 50) rfl ?_
          refine vv_zret cx hr hlocks dM_throwing_50 rfl (Nat.le_of_ble_eq_true rfl) (Nat.le_of_ble_eq_true rfl) ?_
          rw [ht]
          first | exact ⟨rfl, Or.inl ⟨rfl, by decide⟩⟩ | exact ⟨rfl, Or.inr ⟨rfl, by decide⟩⟩ | exact absurd c42 (by decide)
        · refine vv_iconst cx dM_throwing_45 (v := 1) (by decide) (pc' := 46) rfl ?_
          refine vv_goto cx dM_throwing_46 (tgt := 50) (by decide) ?_
          refine vv_zret cx hr hlocks dM_throwing_50 rfl (Nat.le_of_ble_eq_true rfl) (Nat.le_of_ble_eq_true rfl) ?_
          rw [ht]
          first | exact ⟨rfl, Or.inl ⟨rfl, by decide⟩⟩ | exact ⟨rfl, Or.inr ⟨rfl, by decide⟩⟩ | exact absurd c42 (by decide)
    · refine vv_iconst cx dM_throwing_13 (v := 2) (by decide) (pc' := 14) rfl ?_
      refine vv_goto cx dM_throwing_14 (tgt := 35) (by decide) ?_
      first | (have ht : pq_thr a b c9 d = 1 := if_neg c2) | (have ht : pq_thr a b c9 d = 2 := (if_pos c2).trans (if_neg c10)) | (have ht : pq_thr a b c9 d = 3 := (if_pos c2).trans ((if_pos c10).trans (if_neg c18))) | (have ht : pq_thr a b c9 d = 4 := (if_pos c2).trans ((if_pos c10).trans ((if_pos c18).trans (if_neg c27)))) | (have ht : pq_thr a b c9 d = 0 := (if_pos c2).trans ((if_pos c10).trans ((if_pos c18).trans (if_pos c27))))
      refine vv_putI cx (C := RM) (T := TM) (NN := 15) 116 0 (by decide) sh_116 rfl rfl (by decide) lyM tyM tyM_ok nmM rfl rfl rfl ww_554 dM_throwing_35 (pc' := 38) rfl ?_
      refine vv_aload_n cx dM_throwing_38 rfl rfl (pc' := 39) rfl ?_
      refine vv_getI cx (C := RM) (T := TM) (NN := 15) 116 0 (by decide) sh_116 rfl rfl (by decide) lyM ww_554 dM_throwing_39 (pc' := 42) rfl ?_
      rw [va_up_self, pk_us]
      refine vv_if_le cx dM_throwing_42 (tgt := 49) (by decide) (pc' := 45) rfl (fun c42 => ?_) (fun c42 => ?_)
      · refine vv_iconst cx dM_throwing_49 (v := 0) (by decide) (pc' := 50) rfl ?_
        refine vv_zret cx hr hlocks dM_throwing_50 rfl (Nat.le_of_ble_eq_true rfl) (Nat.le_of_ble_eq_true rfl) ?_
        rw [ht]
        first | exact ⟨rfl, Or.inl ⟨rfl, by decide⟩⟩ | exact ⟨rfl, Or.inr ⟨rfl, by decide⟩⟩ | exact absurd c42 (by decide)
      · refine vv_iconst cx dM_throwing_45 (v := 1) (by decide) (pc' := 46) rfl ?_
        refine vv_goto cx dM_throwing_46 (tgt := 50) (by decide) ?_
        refine vv_zret cx hr hlocks dM_throwing_50 rfl (Nat.le_of_ble_eq_true rfl) (Nat.le_of_ble_eq_true rfl) ?_
        rw [ht]
        first | exact ⟨rfl, Or.inl ⟨rfl, by decide⟩⟩ | exact ⟨rfl, Or.inr ⟨rfl, by decide⟩⟩ | exact absurd c42 (by decide)
  · refine vv_iconst cx dM_throwing_5 (v := 1) (by decide) (pc' := 6) rfl ?_
    refine vv_goto cx dM_throwing_6 (tgt := 35) (by decide) ?_
    first | (have ht : pq_thr a b c9 d = 1 := if_neg c2) | (have ht : pq_thr a b c9 d = 2 := (if_pos c2).trans (if_neg c10)) | (have ht : pq_thr a b c9 d = 3 := (if_pos c2).trans ((if_pos c10).trans (if_neg c18))) | (have ht : pq_thr a b c9 d = 4 := (if_pos c2).trans ((if_pos c10).trans ((if_pos c18).trans (if_neg c27)))) | (have ht : pq_thr a b c9 d = 0 := (if_pos c2).trans ((if_pos c10).trans ((if_pos c18).trans (if_pos c27))))
    refine vv_putI cx (C := RM) (T := TM) (NN := 15) 116 0 (by decide) sh_116 rfl rfl (by decide) lyM tyM tyM_ok nmM rfl rfl rfl ww_554 dM_throwing_35 (pc' := 38) rfl ?_
    refine vv_aload_n cx dM_throwing_38 rfl rfl (pc' := 39) rfl ?_
    refine vv_getI cx (C := RM) (T := TM) (NN := 15) 116 0 (by decide) sh_116 rfl rfl (by decide) lyM ww_554 dM_throwing_39 (pc' := 42) rfl ?_
    rw [va_up_self, pk_us]
    refine vv_if_le cx dM_throwing_42 (tgt := 49) (by decide) (pc' := 45) rfl (fun c42 => ?_) (fun c42 => ?_)
    · refine vv_iconst cx dM_throwing_49 (v := 0) (by decide) (pc' := 50) rfl ?_
      refine vv_zret cx hr hlocks dM_throwing_50 rfl (Nat.le_of_ble_eq_true rfl) (Nat.le_of_ble_eq_true rfl) ?_
      rw [ht]
      first | exact ⟨rfl, Or.inl ⟨rfl, by decide⟩⟩ | exact ⟨rfl, Or.inr ⟨rfl, by decide⟩⟩ | exact absurd c42 (by decide)
    · refine vv_iconst cx dM_throwing_45 (v := 1) (by decide) (pc' := 46) rfl ?_
      refine vv_goto cx dM_throwing_46 (tgt := 50) (by decide) ?_
      refine vv_zret cx hr hlocks dM_throwing_50 rfl (Nat.le_of_ble_eq_true rfl) (Nat.le_of_ble_eq_true rfl) ?_
      rw [ht]
      first | exact ⟨rfl, Or.inl ⟨rfl, by decide⟩⟩ | exact ⟨rfl, Or.inr ⟨rfl, by decide⟩⟩ | exact absurd c42 (by decide)
set_option maxRecDepth 100000 in
set_option maxHeartbeats 4000000 in
theorem tM_isOrder (l : Launch) (g : pq_G) (h : pq_H) {W n : Nat} {w nm pr : Nat → Nat} (x : Int32) (hs : pq_mo h W n w nm pr) : XI l yM_isOrder wM_isOrder rM_isOrder g 0 0 [.ref (g.2.2 116), .int x] h (fun r h9 => h9 = h ∧ pq_fl r (0 ≤ x ∧ x < nI n)) (pq_no) := by
  refine XI.of (cc := cM_isOrder) (maxL := 2) (ret := (some .boolean)) (by decide +kernel) (by simp [Value.category]) (Nat.le_of_ble_eq_true rfl) ?_
  intro p e s m below meth c cx hX hr hlocks hex
  have hn5 := hs.2.1.2.2
  refine vv_iload_n cx dM_isOrder_0 rfl rfl (pc' := 1) rfl ?_
  refine vv_iconst cx dM_isOrder_1 (v := 0) (by decide) (pc' := 2) rfl ?_
  refine vv_aload_n cx dM_isOrder_2 rfl rfl (pc' := 3) rfl ?_
  refine vv_getI cx (C := RM) (T := TM) (NN := 15) 116 2 (by decide) sh_116 rfl rfl (by decide) lyM ww_556 dM_isOrder_3 (pc' := 6) rfl ?_
  rw [hs.1.2.1]
  refine vv_iconst cx dM_isOrder_6 (v := 1) (by decide) (pc' := 7) rfl ?_
  refine vv_isub cx dM_isOrder_7 (pc' := 8) rfl ?_
  refine cc_Si cx hX (tM_in l g h x 0 (nI n - 1)) kM_in ww_608 rfl rfl ⟨Nat.le_of_ble_eq_true rfl, Nat.le_of_ble_eq_true rfl⟩ rfl rfl (Nat.le_of_ble_eq_true rfl) rfl ⟨Nat.le_of_ble_eq_true rfl, Nat.le_of_ble_eq_true rfl⟩ dM_isOrder_8 (pc' := 11) rfl (fun _ _ q => q.elim) (fun r8 h8 q8 => ?_)
  obtain ⟨rfl, q8⟩ := q8
  rw [pq_ord (by omega)] at q8
  refine vv_zret cx hr hlocks dM_isOrder_11 q8.z (Nat.le_of_ble_eq_true rfl) (Nat.le_of_ble_eq_true rfl) ?_
  exact ⟨rfl, q8⟩
set_option maxRecDepth 100000 in
set_option maxHeartbeats 4000000 in
theorem tM_forget (l : Launch) (g : pq_G) (h : pq_H)  : XV l yM_forget wM_forget rM_forget g 0 0 [.ref (g.2.2 116)] h (fun h9 => pq_only 116 h h9 ∧ h9 116 10 = 0 ∧ h9 116 8 = -1 ∧ ∀ j, j ≠ 10 → j ≠ 8 → h9 116 j = h 116 j) (pq_no) := by
  refine XV.of (cc := cM_forget) (maxL := 1) (ret := none) (by decide +kernel) (by simp [Value.category]) (Nat.le_of_ble_eq_true rfl) ?_
  intro p e s m below meth c cx hX hr hlocks hex
  refine vv_aload_n cx dM_forget_0 rfl rfl (pc' := 1) rfl ?_
  refine vv_iconst cx dM_forget_1 (v := 0) (by decide) (pc' := 2) rfl ?_
  refine vv_putI cx (C := RM) (T := TM) (NN := 15) 116 10 (by decide) sh_116 rfl rfl (by decide) lyM tyM tyM_ok nmM rfl rfl rfl ww_564 dM_forget_2 (pc' := 5) rfl ?_
  refine vv_aload_n cx dM_forget_5 rfl rfl (pc' := 6) rfl ?_
  refine vv_iconst cx dM_forget_6 (v := -1) (by decide) (pc' := 7) rfl ?_
  refine vv_putI cx (C := RM) (T := TM) (NN := 15) 116 8 (by decide) sh_116 rfl rfl (by decide) lyM tyM tyM_ok nmM rfl rfl rfl ww_562 dM_forget_7 (pc' := 10) rfl ?_
  refine vv_vret cx hr hlocks dM_forget_10 (Nat.le_of_ble_eq_true rfl) (Nat.le_of_ble_eq_true rfl) ?_
  refine ⟨fun k hk => by simp [va_up, hk], by simp [va_up, upd], by simp [va_up, upd], fun j h1 h2 => by simp [va_up, upd, h1, h2]⟩
set_option maxRecDepth 100000 in
set_option maxHeartbeats 4000000 in
theorem tM_roomAt (l : Launch) (g : pq_G) (h : pq_H) {W n : Nat} {w nm pr : Nat → Nat} (A q0 : Nat) (a : Nat → Nat) (hs : pq_mo h W n w nm pr) (hA : A + 5 ≤ 160) (hq : q0 ≤ 5) (ha : ∀ i, i < q0 → h 121 (A + i) = nI (a i)) (hsum : pq_sum (fun i => a i * w i) q0 ≤ W) : XI l yM_roomAt wM_roomAt rM_roomAt g 0 0 [.ref (g.2.2 116), .int (nI A), .int (nI q0)] h (fun r h9 => h9 = h ∧ r = nI (W - pq_sum (fun i => a i * w i) q0)) (pq_no) := by
  refine XI.of (cc := cM_roomAt) (maxL := 5) (ret := (some .int)) (by decide +kernel) (by simp [Value.category]) (Nat.le_of_ble_eq_true rfl) ?_
  intro p e s m below meth c cx hX hr hlocks hex
  have loop : ∀ (d i : Nat), i + d = q0 → VV p l e rM_roomAt s m [.ref (g.2.2 116), .int (nI A), .int (nI q0)].toArray below meth c (vx_MQ below (pq_Qi g (fun r h9 => h9 = h ∧ r = nI (W - pq_sum (fun i => a i * w i) q0)) s.heap.size) (pq_Qx g (pq_no) s.heap.size) [.ref (g.2.2 116), .int (nI A), .int (nI q0)].toArray s 0 0 (pq_A g s.heap.size)) g 0 0 h 8 [some (.ref (g.2.2 116)), some (.int (nI A)), some (.int (nI q0)), some (.int (nI (W - pq_sum (fun i => a i * w i) i))), some (.int (nI i))] [] := by
    intro d
    induction d with
    | zero =>
      intro i hi
      have e1 : i = q0 := by omega
      subst e1
      refine vv_iload cx dM_roomAt_8 rfl (pc' := 10) rfl ?_
      refine vv_iload_n cx dM_roomAt_10 rfl rfl (pc' := 11) rfl ?_
      refine vv_icmp_ge cx dM_roomAt_11 (tgt := 40) (by decide) (pc' := 14) rfl (fun c11 => ?_) (fun c11 => ?_)
      · refine vv_iload_n cx dM_roomAt_40 rfl rfl (pc' := 41) rfl ?_
        refine vv_iret cx hr hlocks dM_roomAt_41 (Nat.le_of_ble_eq_true rfl) (Nat.le_of_ble_eq_true rfl) ?_
        exact ⟨rfl, rfl⟩
      · exact absurd (Int32.le_refl _) c11
    | succ d ih =>
      intro i hi
      have hlt : i < q0 := by omega
      have hs1 : pq_sum (fun i => a i * w i) (i + 1) ≤ W := Nat.le_trans (pq_sum_mono (show i + 1 ≤ q0 by omega)) hsum
      have hs2 : pq_sum (fun i => a i * w i) i + a i * w i ≤ W := hs1
      refine vv_iload cx dM_roomAt_8 rfl (pc' := 10) rfl ?_
      refine vv_iload_n cx dM_roomAt_10 rfl rfl (pc' := 11) rfl ?_
      refine vv_icmp_ge cx dM_roomAt_11 (tgt := 40) (by decide) (pc' := 14) rfl (fun c11 => ?_) (fun c11 => ?_)
      · exact absurd c11 (nI_ge hlt (by omega))
      · refine vv_iload_n cx dM_roomAt_14 rfl rfl (pc' := 15) rfl ?_
        refine vv_aload_n cx dM_roomAt_15 rfl rfl (pc' := 16) rfl ?_
        refine vv_getR cx (C := RM) (T := TM) (NN := 15) 116 7 _ (by decide) sh_116 rfl rfl (by decide) lyM ww_561 dM_roomAt_16 (pc' := 19) rfl ?_
        refine vv_iload_n cx dM_roomAt_19 rfl rfl (pc' := 20) rfl ?_
        refine vv_iload cx dM_roomAt_20 rfl (pc' := 22) rfl ?_
        refine vv_iadd cx dM_roomAt_22 (pc' := 23) rfl ?_
        rw [nI_add]
        refine vv_iald cx _ (by decide) sh_121 (vp_in_nI (by omega) (by decide)) dM_roomAt_23 (pc' := 24) rfl ?_
        refine vv_aload_n cx dM_roomAt_24 rfl rfl (pc' := 25) rfl ?_
        refine vv_getR cx (C := RM) (T := TM) (NN := 15) 116 3 _ (by decide) sh_116 rfl rfl (by decide) lyM ww_557 dM_roomAt_25 (pc' := 28) rfl ?_
        refine vv_iload cx dM_roomAt_28 rfl (pc' := 30) rfl ?_
        refine vv_iald cx _ (by decide) sh_117 (vp_in_nI (by omega) (by decide)) dM_roomAt_30 (pc' := 31) rfl ?_
        rw [nI_clamp (n := A + i) (by omega), nI_clamp (n := i) (by omega), ha i hlt, hs.1.2.2.1 i (by omega)]
        refine vv_imul cx dM_roomAt_31 (pc' := 32) rfl ?_
        rw [pk_mul]
        refine vv_isub cx dM_roomAt_32 (pc' := 33) rfl ?_
        rw [pk_sub (by omega), show W - pq_sum (fun i => a i * w i) i - a i * w i = W - pq_sum (fun i => a i * w i) (i + 1) by show _ = W - (pq_sum (fun i => a i * w i) i + a i * w i); omega]
        refine vv_istore_n cx dM_roomAt_33 rfl (Nat.le_of_ble_eq_true rfl) (pc' := 34) rfl ?_
        refine vv_iinc cx dM_roomAt_34 rfl pq_n1 (pc' := 37) rfl ?_
        refine vv_goto cx dM_roomAt_37 (tgt := 8) (by decide) ?_
        exact ih (i + 1) (by omega)
  refine vv_aload_n cx dM_roomAt_0 rfl rfl (pc' := 1) rfl ?_
  refine vv_getI cx (C := RM) (T := TM) (NN := 15) 116 1 (by decide) sh_116 rfl rfl (by decide) lyM ww_555 dM_roomAt_1 (pc' := 4) rfl ?_
  rw [hs.1.1]
  refine vv_istore_n cx dM_roomAt_4 rfl (Nat.le_of_ble_eq_true rfl) (pc' := 5) rfl ?_
  refine vv_iconst cx dM_roomAt_5 (v := 0) (by decide) (pc' := 6) rfl ?_
  refine vv_istore cx dM_roomAt_6 (Nat.le_of_ble_eq_true rfl) (pc' := 8) rfl ?_
  exact loop q0 0 (by omega)
set_option maxRecDepth 100000 in
set_option maxHeartbeats 4000000 in
theorem tM_fill (l : Launch) (g : pq_G) (h : pq_H) {W n : Nat} {w nm pr : Nat → Nat} (A i0 : Nat) (a th : Nat → Nat) (hs : pq_mo h W n w nm pr) (hA : A + 5 ≤ 160) (hi0 : i0 ≤ 5) (ha : pq_sub h 121 A a) (ht : pq_sub h 120 A th) (hsum : pq_sum (fun j => a j * w j) (min i0 n) ≤ W) (hth : ∀ i, i < 5 → th i ≤ 6) : XV l yM_fill wM_fill rM_fill g 0 0 [.ref (g.2.2 116), .int (nI A), .int (nI i0)] h (fun h9 => pq_at 121 A h h9 ∧ ∃ b, pq_sub h9 121 A b ∧ ∀ i, i < 5 → b i = if i < n then pq_fill W n w th a i0 i else if i < i0 then a i else 0) (pq_no) := by
  refine XV.of (cc := cM_fill) (maxL := 5) (ret := none) (by decide +kernel) (by simp [Value.category]) (Nat.le_of_ble_eq_true rfl) ?_
  intro p e s m below meth c cx hX hr hlocks hex
  obtain ⟨-, ⟨hW1, hW2, hn5⟩, hb, hw1, -⟩ := id hs
  have loop : ∀ (d i : Nat) (b : Nat → Nat) (h1 : pq_H) (u4 : Option Value), pq_at 121 A h h1 → pq_sub h1 121 A b → i + d = 5 → i0 ≤ i → pq_sum (fun j => b j * w j) (min i n) ≤ W → (∀ j, j < n → pq_fillS w th (n - i) b i (W - pq_sum (fun j => b j * w j) i) j = pq_fill W n w th a i0 j) → (∀ j, j < i → n ≤ j → b j = if j < i0 then a j else 0) → VV p l e rM_fill s m [.ref (g.2.2 116), .int (nI A), .int (nI i0)].toArray below meth c (vx_MQ below (pq_Qv g (fun h9 => pq_at 121 A h h9 ∧ ∃ b, pq_sub h9 121 A b ∧ ∀ i, i < 5 → b i = if i < n then pq_fill W n w th a i0 i else if i < i0 then a i else 0) s.heap.size) (pq_Qx g (pq_no) s.heap.size) [.ref (g.2.2 116), .int (nI A), .int (nI i0)].toArray s 0 0 (pq_A g s.heap.size)) g 0 0 h1 2 [some (.ref (g.2.2 116)), some (.int (nI A)), some (.int (nI i0)), some (.int (nI i)), u4] [] := by
    intro d
    induction d with
    | zero =>
      intro i b h1 u4 hat hb1 hi hii hsm hf hj
      have e1 : i = 5 := by omega
      subst e1
      refine vv_iload_n cx dM_fill_2 rfl rfl (pc' := 3) rfl ?_
      refine vv_iconst cx dM_fill_3 (v := 5) (by decide) (pc' := 4) rfl ?_
      refine vv_icmp_ge cx dM_fill_4 (tgt := 86) (by decide) (pc' := 7) rfl (fun c4 => ?_) (fun c4 => ?_)
      · refine vv_vret cx hr hlocks dM_fill_86 (Nat.le_of_ble_eq_true rfl) (Nat.le_of_ble_eq_true rfl) ?_
        refine ⟨hat, b, hb1, fun j hj5 => ?_⟩
        rcases Nat.lt_or_ge j n with q | q
        · rw [if_pos q, ← hf j q, show n - 5 = 0 by omega]; rfl
        · rw [if_neg (by omega)]; exact hj j hj5 q
      · exact absurd (Int32.le_refl _) c4
    | succ d ih =>
      intro i b h1 u4 hat hb1 hi hii hsm hf hj
      have hlt : i < 5 := by omega
      have hs1 := hs.only hat.1 (by decide)
      have hn := hs1.1.2.1
      have ht1 : pq_sub h1 120 A th := ht.of (fun j _ => by rw [hat.1 120 (by decide)])
      rcases Nat.lt_or_ge i n with hin | hin
      · refine vv_iload_n cx dM_fill_2 rfl rfl (pc' := 3) rfl ?_
        refine vv_iconst cx dM_fill_3 (v := 5) (by decide) (pc' := 4) rfl ?_
        refine vv_icmp_ge cx dM_fill_4 (tgt := 86) (by decide) (pc' := 7) rfl (fun c4 => ?_) (fun c4 => ?_)
        · exact absurd c4 (nI_ge (b := 5) hlt (by decide))
        · refine vv_iload_n cx dM_fill_7 rfl rfl (pc' := 8) rfl ?_
          refine vv_aload_n cx dM_fill_8 rfl rfl (pc' := 9) rfl ?_
          refine vv_getI cx (C := RM) (T := TM) (NN := 15) 116 2 (by decide) sh_116 rfl rfl (by decide) lyM ww_556 dM_fill_9 (pc' := 12) rfl ?_
          rw [hn]
          refine vv_icmp_ge cx dM_fill_12 (tgt := 31) (by decide) (pc' := 15) rfl (fun c12 => ?_) (fun c12 => ?_)
          · exact absurd c12 (nI_ge hin (by omega))
          · refine vv_aload_n cx dM_fill_15 rfl rfl (pc' := 16) rfl ?_
            refine vv_iload_n cx dM_fill_16 rfl rfl (pc' := 17) rfl ?_
            refine vv_iload_n cx dM_fill_17 rfl rfl (pc' := 18) rfl ?_
            refine cc_Vi cx hX (tM_roomAt l g h1 A i b hs1 hA (by omega) (fun j hj2 => hb1 j (by omega)) (by rw [Nat.min_eq_left (by omega)] at hsm; exact hsm)) kM_roomAt ww_647 rfl rfl ⟨Nat.le_of_ble_eq_true rfl, Nat.le_of_ble_eq_true rfl⟩ 116 (by decide) sh_116 rfl rfl rfl rfl (Nat.le_of_ble_eq_true rfl) rfl ⟨Nat.le_of_ble_eq_true rfl, Nat.le_of_ble_eq_true rfl⟩ dM_fill_18 (pc' := 21) rfl (fun _ _ q => q.elim) (fun r18 h18 q18 => ?_)
            obtain ⟨rfl, rfl⟩ := q18
            have hwi : 0 < w i := hw1 i hin
            have hw5 : w i ≤ 1000 := (hb i hlt).1
            have hti : th i ≤ 6 := hth i hlt
            rw [Nat.min_eq_left (by omega)] at hsm
            obtain ⟨R, hR⟩ : ∃ R, R = W - pq_sum (fun j => b j * w j) i := ⟨_, rfl⟩
            have hdv : R / w i ≤ R := Nat.div_le_self _ _
            have hml := pq_div_le (th i) R (w i)
            have hsu : pq_sum (fun j => va_up b i (min (th i) (R / w i)) j * w j) (i + 1) = pq_sum (fun j => b j * w j) i + min (th i) (R / w i) * w i := pq_sum_put
            refine vv_aload_n cx dM_fill_21 rfl rfl (pc' := 22) rfl ?_
            refine vv_getR cx (C := RM) (T := TM) (NN := 15) 116 3 _ (by decide) sh_116 rfl rfl (by decide) lyM ww_557 dM_fill_22 (pc' := 25) rfl ?_
            refine vv_iload_n cx dM_fill_25 rfl rfl (pc' := 26) rfl ?_
            refine vv_iald cx _ (by decide) sh_117 (vp_in_nI hlt (by decide)) dM_fill_26 (pc' := 27) rfl ?_
            rw [nI_clamp (n := i) (by omega), hs1.1.2.2.1 i hlt, ← hR]
            refine vv_idiv cx dM_fill_27 (nI_ne0 hwi (by omega)) (pc' := 28) rfl ?_
            rw [pk_div (by omega) hwi (by omega)]
            refine vv_goto cx dM_fill_28 (tgt := 32) (by decide) ?_
            refine vv_istore cx dM_fill_32 (Nat.le_of_ble_eq_true rfl) (pc' := 34) rfl ?_
            refine vv_aload_n cx dM_fill_34 rfl rfl (pc' := 35) rfl ?_
            refine vv_getR cx (C := RM) (T := TM) (NN := 15) 116 7 _ (by decide) sh_116 rfl rfl (by decide) lyM ww_561 dM_fill_35 (pc' := 38) rfl ?_
            refine vv_iload_n cx dM_fill_38 rfl rfl (pc' := 39) rfl ?_
            refine vv_iload_n cx dM_fill_39 rfl rfl (pc' := 40) rfl ?_
            refine vv_iadd cx dM_fill_40 (pc' := 41) rfl ?_
            rw [nI_add]
            refine vv_iload_n cx dM_fill_41 rfl rfl (pc' := 42) rfl ?_
            refine vv_aload_n cx dM_fill_42 rfl rfl (pc' := 43) rfl ?_
            refine vv_getI cx (C := RM) (T := TM) (NN := 15) 116 2 (by decide) sh_116 rfl rfl (by decide) lyM ww_556 dM_fill_43 (pc' := 46) rfl ?_
            rw [hn]
            refine vv_icmp_ge cx dM_fill_46 (tgt := 78) (by decide) (pc' := 49) rfl (fun c46 => ?_) (fun c46 => ?_)
            · exact absurd c46 (nI_ge hin (by omega))
            · refine vv_iload cx dM_fill_49 rfl (pc' := 51) rfl ?_
              refine vv_aload_n cx dM_fill_51 rfl rfl (pc' := 52) rfl ?_
              refine vv_getR cx (C := RM) (T := TM) (NN := 15) 116 6 _ (by decide) sh_116 rfl rfl (by decide) lyM ww_560 dM_fill_52 (pc' := 55) rfl ?_
              refine vv_iload_n cx dM_fill_55 rfl rfl (pc' := 56) rfl ?_
              refine vv_iload_n cx dM_fill_56 rfl rfl (pc' := 57) rfl ?_
              refine vv_iadd cx dM_fill_57 (pc' := 58) rfl ?_
              rw [nI_add]
              refine vv_iald cx _ (by decide) sh_120 (vp_in_nI (by omega) (by decide)) dM_fill_58 (pc' := 59) rfl ?_
              rw [nI_clamp (n := A + i) (by omega), ht1 i hlt]
              refine vv_icmp_ge cx dM_fill_59 (tgt := 67) (by decide) (pc' := 62) rfl (fun c59 => ?_) (fun c59 => ?_)
              · refine vv_aload_n cx dM_fill_67 rfl rfl (pc' := 68) rfl ?_
                refine vv_getR cx (C := RM) (T := TM) (NN := 15) 116 6 _ (by decide) sh_116 rfl rfl (by decide) lyM ww_560 dM_fill_68 (pc' := 71) rfl ?_
                refine vv_iload_n cx dM_fill_71 rfl rfl (pc' := 72) rfl ?_
                refine vv_iload_n cx dM_fill_72 rfl rfl (pc' := 73) rfl ?_
                refine vv_iadd cx dM_fill_73 (pc' := 74) rfl ?_
                rw [nI_add]
                refine vv_iald cx _ (by decide) sh_120 (vp_in_nI (by omega) (by decide)) dM_fill_74 (pc' := 75) rfl ?_
                rw [nI_clamp (n := A + i) (by omega), ht1 i hlt]
                refine vv_goto cx dM_fill_75 (tgt := 79) (by decide) ?_
                first | rw [show R / w i = min (th i) (R / w i) from (Nat.min_eq_right (Nat.le_of_lt (Nat.lt_of_not_le (fun q => c59 (nI_le q (by omega)))))).symm] | rw [show nI (th i) = nI (min (th i) (R / w i)) by rw [Nat.min_eq_left (Nat.le_of_not_lt (fun q => nI_ge q (by omega) c59))]]
                refine vv_iast cx _ (by decide) sh_121 (vp_in_nI (by omega) (by decide)) dM_fill_79 (pc' := 80) rfl ?_
                rw [nI_clamp (n := A + i) (by omega)]
                refine vv_iinc cx dM_fill_80 rfl pq_n1 (pc' := 83) rfl ?_
                refine vv_goto cx dM_fill_83 (tgt := 2) (by decide) ?_
                refine ih (i + 1) (va_up b i (min (th i) (R / w i))) _ _ (hat.trans (pq_at.up hlt)) (hb1.put rfl) (by omega) (by omega) ?_ (fun j hj2 => ?_) (fun j hj2 hj3 => absurd hj3 (by omega))
                · rw [show min (i + 1) n = i + 1 from Nat.min_eq_left (by omega), hsu]; omega
                · rw [hsu, ← hf j hj2, show n - i = (n - (i + 1)) + 1 by omega]
                  show _ = pq_fillS w th (n - (i + 1)) _ _ _ j
                  rw [← hR, show W - (pq_sum (fun j => b j * w j) i + min (th i) (R / w i) * w i) = R - min (th i) (R / w i) * w i by omega]
              · refine vv_iload cx dM_fill_62 rfl (pc' := 64) rfl ?_
                refine vv_goto cx dM_fill_64 (tgt := 79) (by decide) ?_
                first | rw [show R / w i = min (th i) (R / w i) from (Nat.min_eq_right (Nat.le_of_lt (Nat.lt_of_not_le (fun q => c59 (nI_le q (by omega)))))).symm] | rw [show nI (th i) = nI (min (th i) (R / w i)) by rw [Nat.min_eq_left (Nat.le_of_not_lt (fun q => nI_ge q (by omega) c59))]]
                refine vv_iast cx _ (by decide) sh_121 (vp_in_nI (by omega) (by decide)) dM_fill_79 (pc' := 80) rfl ?_
                rw [nI_clamp (n := A + i) (by omega)]
                refine vv_iinc cx dM_fill_80 rfl pq_n1 (pc' := 83) rfl ?_
                refine vv_goto cx dM_fill_83 (tgt := 2) (by decide) ?_
                refine ih (i + 1) (va_up b i (min (th i) (R / w i))) _ _ (hat.trans (pq_at.up hlt)) (hb1.put rfl) (by omega) (by omega) ?_ (fun j hj2 => ?_) (fun j hj2 hj3 => absurd hj3 (by omega))
                · rw [show min (i + 1) n = i + 1 from Nat.min_eq_left (by omega), hsu]; omega
                · rw [hsu, ← hf j hj2, show n - i = (n - (i + 1)) + 1 by omega]
                  show _ = pq_fillS w th (n - (i + 1)) _ _ _ j
                  rw [← hR, show W - (pq_sum (fun j => b j * w j) i + min (th i) (R / w i) * w i) = R - min (th i) (R / w i) * w i by omega]
      · refine vv_iload_n cx dM_fill_2 rfl rfl (pc' := 3) rfl ?_
        refine vv_iconst cx dM_fill_3 (v := 5) (by decide) (pc' := 4) rfl ?_
        refine vv_icmp_ge cx dM_fill_4 (tgt := 86) (by decide) (pc' := 7) rfl (fun c4 => ?_) (fun c4 => ?_)
        · exact absurd c4 (nI_ge (b := 5) hlt (by decide))
        · refine vv_iload_n cx dM_fill_7 rfl rfl (pc' := 8) rfl ?_
          refine vv_aload_n cx dM_fill_8 rfl rfl (pc' := 9) rfl ?_
          refine vv_getI cx (C := RM) (T := TM) (NN := 15) 116 2 (by decide) sh_116 rfl rfl (by decide) lyM ww_556 dM_fill_9 (pc' := 12) rfl ?_
          rw [hn]
          refine vv_icmp_ge cx dM_fill_12 (tgt := 31) (by decide) (pc' := 15) rfl (fun c12 => ?_) (fun c12 => ?_)
          · refine vv_iconst cx dM_fill_31 (v := 0) (by decide) (pc' := 32) rfl ?_
            refine vv_istore cx dM_fill_32 (Nat.le_of_ble_eq_true rfl) (pc' := 34) rfl ?_
            refine vv_aload_n cx dM_fill_34 rfl rfl (pc' := 35) rfl ?_
            refine vv_getR cx (C := RM) (T := TM) (NN := 15) 116 7 _ (by decide) sh_116 rfl rfl (by decide) lyM ww_561 dM_fill_35 (pc' := 38) rfl ?_
            refine vv_iload_n cx dM_fill_38 rfl rfl (pc' := 39) rfl ?_
            refine vv_iload_n cx dM_fill_39 rfl rfl (pc' := 40) rfl ?_
            refine vv_iadd cx dM_fill_40 (pc' := 41) rfl ?_
            rw [nI_add]
            refine vv_iload_n cx dM_fill_41 rfl rfl (pc' := 42) rfl ?_
            refine vv_aload_n cx dM_fill_42 rfl rfl (pc' := 43) rfl ?_
            refine vv_getI cx (C := RM) (T := TM) (NN := 15) 116 2 (by decide) sh_116 rfl rfl (by decide) lyM ww_556 dM_fill_43 (pc' := 46) rfl ?_
            rw [hn]
            refine vv_icmp_ge cx dM_fill_46 (tgt := 78) (by decide) (pc' := 49) rfl (fun c46 => ?_) (fun c46 => ?_)
            · refine vv_iconst cx dM_fill_78 (v := 0) (by decide) (pc' := 79) rfl ?_
              refine vv_iast cx _ (by decide) sh_121 (vp_in_nI (by omega) (by decide)) dM_fill_79 (pc' := 80) rfl ?_
              rw [nI_clamp (n := A + i) (by omega)]
              refine vv_iinc cx dM_fill_80 rfl pq_n1 (pc' := 83) rfl ?_
              refine vv_goto cx dM_fill_83 (tgt := 2) (by decide) ?_
              refine ih (i + 1) (va_up b i 0) _ _ (hat.trans (pq_at.up hlt)) (hb1.put rfl) (by omega) (by omega) ?_ (fun j hj2 => ?_) (fun j hj2 hj3 => ?_)
              · rw [Nat.min_eq_right (by omega)] at hsm ⊢
                rw [pq_sum_congr (g := fun j => b j * w j) (fun j hj4 => by show va_up b i 0 j * w j = _; rw [va_up_ne _ _ (by omega)])]; exact hsm
              · rw [← hf j hj2, show n - (i + 1) = 0 by omega, show n - i = 0 by omega]
                exact va_up_ne _ _ (by omega)
              · by_cases e9 : j = i
                · subst e9; rw [va_up_self, if_neg (by omega)]
                · rw [va_up_ne _ _ e9]; exact hj j (by omega) hj3
            · exact absurd (nI_le hin (by omega)) c46
          · exact absurd (nI_le hin (by omega)) c12
  refine vv_iload_n cx dM_fill_0 rfl rfl (pc' := 1) rfl ?_
  refine vv_istore_n cx dM_fill_1 rfl (Nat.le_of_ble_eq_true rfl) (pc' := 2) rfl ?_
  refine loop (5 - i0) i0 a _ _ pq_at.rfl' ha (by omega) (Nat.le_refl _) hsum (fun j hj => ?_) (fun j hj hj2 => by rw [if_pos hj])
  rfl

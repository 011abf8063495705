/-! part 06: the Slabs: sums, fills, the next pattern -/
def pq_sum (f : Nat → Nat) : Nat → Nat
  | 0 => 0
  | n + 1 => pq_sum f n + f n
theorem pq_sum_congr {f g : Nat → Nat} : ∀ {n : Nat}, (∀ i, i < n → f i = g i) → pq_sum f n = pq_sum g n
  | 0, _ => rfl
  | n + 1, h => by
    show pq_sum f n + f n = pq_sum g n + g n
    rw [pq_sum_congr (fun i hi => h i (by omega)), h n (by omega)]
theorem pq_sum_le {f g : Nat → Nat} : ∀ {n : Nat}, (∀ i, i < n → f i ≤ g i) → pq_sum f n ≤ pq_sum g n
  | 0, _ => Nat.le_refl _
  | n + 1, h => Nat.add_le_add (pq_sum_le (fun i hi => h i (by omega))) (h n (by omega))
theorem pq_sum_mono {f : Nat → Nat} : ∀ {n m : Nat}, n ≤ m → pq_sum f n ≤ pq_sum f m
  | n, 0, h => by rw [Nat.le_zero.mp h]; exact Nat.le_refl _
  | n, m + 1, h => by
    rcases Nat.lt_or_ge n (m + 1) with q | q
    · exact Nat.le_trans (pq_sum_mono (by omega)) (Nat.le_add_right _ _)
    · rw [show n = m + 1 by omega]; exact Nat.le_refl _
theorem pq_sum_bd {f : Nat → Nat} {B : Nat} : ∀ {n : Nat}, (∀ i, i < n → f i ≤ B) → pq_sum f n ≤ n * B
  | 0, _ => by simp [pq_sum]
  | n + 1, h => by
    have := pq_sum_bd (f := f) (B := B) (n := n) (fun i hi => h i (by omega))
    have := h n (by omega)
    show pq_sum f n + f n ≤ (n + 1) * B
    rw [Nat.succ_mul]; omega
theorem pq_nI1 {x : Int32} {i : Nat} (h : x = nI i) : x + Int32.ofInt 1 = nI (i + 1) := by rw [h]; exact nI_1 i
theorem pq_nIm {x : Int32} {i : Nat} (h : x = nI (i + 1)) : x + Int32.ofInt (-1) = nI i := by rw [h]; exact pk_m1 i
/-- the fill of a row from place i on, with so much room left: s places -/
def pq_fillS (w th : Nat → Nat) : Nat → (Nat → Nat) → Nat → Nat → Nat → Nat
  | 0, a, _, _ => a
  | s + 1, a, i, R => pq_fillS w th s (va_up a i (min (th i) (R / w i))) (i + 1) (R - min (th i) (R / w i) * w i)
def pq_fill (W n : Nat) (w th a : Nat → Nat) (i : Nat) : Nat → Nat := pq_fillS w th (n - i) a i (W - pq_sum (fun j => a j * w j) i)
/-- the next row that has less at some place under m; the place z keeps one -/
def pq_next (W n : Nat) (w th a : Nat → Nat) (z : Nat) : Nat → Option (Nat → Nat)
  | 0 => none
  | i + 1 => if (if i = z then 1 else 0) < a i then some (pq_fill W n w th (va_up a i (a i - 1)) (i + 1)) else pq_next W n w th a z i
def pq_pat (W n : Nat) (w th a : Nat → Nat) : Prop := (∀ i, i < n → a i ≤ th i) ∧ pq_sum (fun i => a i * w i) n ≤ W ∧ ∀ i, n ≤ i → i < 5 → a i = 0
theorem pq_fillS_out {w th : Nat → Nat} : ∀ (s : Nat) (a : Nat → Nat) (i R j : Nat), (j < i ∨ i + s ≤ j) → pq_fillS w th s a i R j = a j
  | 0, a, i, R, j, h => rfl
  | s + 1, a, i, R, j, h => by
    show pq_fillS w th s _ _ _ j = a j
    rw [pq_fillS_out s _ _ _ j (by omega), va_up_ne _ _ (by omega)]
theorem pq_fillS_th {w th : Nat → Nat} : ∀ (s : Nat) (a : Nat → Nat) (i R j : Nat), i ≤ j → j < i + s → pq_fillS w th s a i R j ≤ th j
  | 0, a, i, R, j, h, h2 => by omega
  | s + 1, a, i, R, j, h, h2 => by
    show pq_fillS w th s _ _ _ j ≤ th j
    rcases Nat.lt_or_ge i j with q | q
    · exact pq_fillS_th s _ _ _ j (by omega) (by omega)
    · rw [show j = i by omega, pq_fillS_out s _ _ _ i (by omega), va_up_self]
      exact Nat.min_le_left _ _
theorem pq_div_le (t R w : Nat) : min t (R / w) * w ≤ R := Nat.le_trans (Nat.mul_le_mul_right w (Nat.min_le_right t (R / w))) (Nat.div_mul_le_self R w)
theorem pq_fillS_sum {w th : Nat → Nat} : ∀ (s : Nat) (a : Nat → Nat) (i R : Nat), pq_sum (fun j => pq_fillS w th s a i R j * w j) (i + s) ≤ pq_sum (fun j => a j * w j) i + R
  | 0, a, i, R => Nat.le_add_right _ _
  | s + 1, a, i, R => by
    have h := pq_fillS_sum (w := w) (th := th) s (va_up a i (min (th i) (R / w i))) (i + 1) (R - min (th i) (R / w i) * w i)
    rw [show i + 1 + s = i + (s + 1) by omega] at h
    have h2 := pq_div_le (th i) R (w i)
    have h3 : pq_sum (fun j => va_up a i (min (th i) (R / w i)) j * w j) (i + 1) = pq_sum (fun j => a j * w j) i + min (th i) (R / w i) * w i := by
      show pq_sum _ i + va_up a i (min (th i) (R / w i)) i * w i = _
      rw [va_up_self, pq_sum_congr (g := fun j => a j * w j) (fun j hj => by show va_up a i _ j * w j = _; rw [va_up_ne _ _ (by omega)])]
    rw [h3] at h
    show pq_sum (fun j => pq_fillS w th s _ _ _ j * w j) (i + (s + 1)) ≤ _
    omega
theorem pq_fill_pat {W n : Nat} {w th a : Nat → Nat} {i : Nat} (hi : i ≤ n) (h1 : ∀ j, j < i → a j ≤ th j) (h2 : pq_sum (fun j => a j * w j) i ≤ W) (h3 : ∀ j, n ≤ j → j < 5 → a j = 0) : pq_pat W n w th (pq_fill W n w th a i) := by
  refine ⟨fun j hj => ?_, ?_, fun j hj h5 => ?_⟩
  · rcases Nat.lt_or_ge j i with q | q
    · rw [pq_fill, pq_fillS_out _ _ _ _ _ (Or.inl q)]; exact h1 j q
    · exact pq_fillS_th _ _ _ _ _ q (by omega)
  · have := pq_fillS_sum (w := w) (th := th) (n - i) a i (W - pq_sum (fun j => a j * w j) i)
    rw [show i + (n - i) = n by omega] at this
    show pq_sum (fun j => pq_fillS w th (n - i) a i _ j * w j) n ≤ W
    omega
  · rw [pq_fill, pq_fillS_out _ _ _ _ _ (Or.inr (by omega))]; exact h3 j hj h5
theorem pq_next_pat {W n : Nat} {w th a b : Nat → Nat} {z : Nat} (ha : pq_pat W n w th a) : ∀ {m : Nat}, m ≤ n → pq_next W n w th a z m = some b → pq_pat W n w th b
  | 0, _, h => by cases h
  | m + 1, hm, h => by
    by_cases hlt : (if m = z then 1 else 0) < a m
    · rw [pq_next, if_pos hlt] at h
      cases h
      have h0 : 0 < a m := by omega
      refine pq_fill_pat hm (fun j hj => ?_) ?_ (fun j hj h5 => ?_)
      · rcases Nat.lt_or_ge j m with q | q
        · rw [va_up_ne _ _ (by omega)]; exact ha.1 j (by omega)
        · rw [show j = m by omega, va_up_self]; have := ha.1 m (by omega); omega
      · refine Nat.le_trans ?_ (Nat.le_trans (pq_sum_mono hm) ha.2.1)
        exact pq_sum_le (fun j hj => Nat.mul_le_mul_right _ (by
          rcases Nat.lt_or_ge j m with q | q
          · rw [va_up_ne _ _ (by omega)]; exact Nat.le_refl _
          · rw [show j = m by omega, va_up_self]; omega))
      · rw [va_up_ne _ _ (by omega)]; exact ha.2.2 j hj h5
    · rw [pq_next, if_neg hlt] at h
      exact pq_next_pat ha (by omega) h
/-- the cell kr alone has changed -/
def pq_only (kr : Nat) (h h' : pq_H) : Prop := ∀ k, k ≠ kr → h' k = h k
def pq_row (h : pq_H) (k : Nat) (a : Nat → Nat) : Prop := ∀ i, i < 5 → h k i = nI (a i)
/-- the sheets' width and the orders, as they stand in the class's cells -/
def pq_st (h : pq_H) (W n : Nat) (w nm pr : Nat → Nat) : Prop := (h 1 0 = nI W ∧ h 1 1 = nI n ∧ pq_row h 8 w ∧ pq_row h 9 nm ∧ pq_row h 10 pr) ∧ (1 ≤ W ∧ W ≤ 1000 ∧ n ≤ 5) ∧ (∀ i, i < 5 → w i ≤ 1000 ∧ nm i ≤ 6 ∧ pr i ≤ 1000) ∧ (∀ i, i < n → 1 ≤ w i) ∧ ∀ i, n ≤ i → i < 5 → nm i = 0
theorem pq_only.rfl' {kr : Nat} {h : pq_H} : pq_only kr h h := fun _ _ => rfl
theorem pq_only.trans {kr : Nat} {h h' h2 : pq_H} (a : pq_only kr h h') (b : pq_only kr h' h2) : pq_only kr h h2 := fun k hk => (b k hk).trans (a k hk)
theorem pq_only.up {kr : Nat} {h : pq_H} {f : Nat → Int32} : pq_only kr h (va_up h kr f) := fun _ hk => va_up_ne _ _ hk
theorem pq_row.of {h h' : pq_H} {k : Nat} {a : Nat → Nat} (hr : pq_row h k a) (e : h' k = h k) : pq_row h' k a := fun i hi => by rw [e]; exact hr i hi
theorem pq_row.put {h : pq_H} {k i : Nat} {a : Nat → Nat} {x : Int32} {v : Nat} (hr : pq_row h k a) (hx : x = nI v) : pq_row (va_up h k (upd (h k) i x)) k (va_up a i v) := fun j hj => by
  rw [va_up_self]
  by_cases e : j = i
  · subst e; rw [pk_us, va_up_self, hx]
  · rw [pk_un e, va_up_ne _ _ e, hr j hj]
theorem pq_st.of {h h' : pq_H} {W n : Nat} {w nm pr : Nat → Nat} (hs : pq_st h W n w nm pr) (e1 : h' 1 = h 1) (e8 : h' 8 = h 8) (e9 : h' 9 = h 9) (e10 : h' 10 = h 10) : pq_st h' W n w nm pr :=
  ⟨⟨by rw [e1]; exact hs.1.1, by rw [e1]; exact hs.1.2.1, hs.1.2.2.1.of e8, hs.1.2.2.2.1.of e9, hs.1.2.2.2.2.of e10⟩, hs.2⟩
theorem pq_st.only {h h' : pq_H} {W n kr : Nat} {w nm pr : Nat → Nat} (hs : pq_st h W n w nm pr) (ho : pq_only kr h h') (h1 : 10 < kr) : pq_st h' W n w nm pr := hs.of (ho 1 (by omega)) (ho 8 (by omega)) (ho 9 (by omega)) (ho 10 (by omega))
set_option maxRecDepth 100000 in
set_option maxHeartbeats 4000000 in
theorem tS_has (l : Launch) (g : pq_G) (h : pq_H) (x : Int32) : XI l yS_has wS_has rS_has g 0 0 [.ref (g.2.2 1), .int x] h (fun r h9 => h9 = h ∧ ((r = 1 ∧ 0 ≤ x ∧ x < h 1 1) ∨ (r = 0 ∧ ¬ (0 ≤ x ∧ x < h 1 1)))) (pq_no) := by
  refine XI.of (cc := cS_has) (maxL := 2) (ret := (some .boolean)) (by decide +kernel) (by simp [Value.category]) (Nat.le_of_ble_eq_true rfl) ?_
  intro p e s m below meth c cx hX hr hlocks hex
  refine vv_iload_n cx dS_has_0 rfl rfl (pc' := 1) rfl ?_
  refine vv_if_lt cx dS_has_1 (tgt := 16) (by decide) (pc' := 4) rfl (fun c1 => ?_) (fun c1 => ?_)
  · refine vv_iconst cx dS_has_16 (v := 0) (by decide) (pc' := 17) rfl ?_
    refine vv_zret cx hr hlocks dS_has_17 rfl (Nat.le_of_ble_eq_true rfl) (Nat.le_of_ble_eq_true rfl) ?_
    refine ⟨rfl, ?_⟩
    first | exact Or.inl ⟨rfl, Int32.not_lt.mp c1, Int32.not_le.mp c9⟩ | exact Or.inr ⟨rfl, fun q => absurd q.1 (Int32.not_le.mpr c1)⟩ | exact Or.inr ⟨rfl, fun q => absurd q.2 (Int32.not_lt.mpr c9)⟩
  · refine vv_iload_n cx dS_has_4 rfl rfl (pc' := 5) rfl ?_
    refine vv_aload_n cx dS_has_5 rfl rfl (pc' := 6) rfl ?_
    refine vv_getI cx (C := RS) (T := TS) (NN := 5) 1 1 (by decide) sh_1 rfl rfl (by decide) lyS ww_32 dS_has_6 (pc' := 9) rfl ?_
    refine vv_icmp_ge cx dS_has_9 (tgt := 16) (by decide) (pc' := 12) rfl (fun c9 => ?_) (fun c9 => ?_)
    · refine vv_iconst cx dS_has_16 (v := 0) (by decide) (pc' := 17) rfl ?_
      refine vv_zret cx hr hlocks dS_has_17 rfl (Nat.le_of_ble_eq_true rfl) (Nat.le_of_ble_eq_true rfl) ?_
      refine ⟨rfl, ?_⟩
      first | exact Or.inl ⟨rfl, Int32.not_lt.mp c1, Int32.not_le.mp c9⟩ | exact Or.inr ⟨rfl, fun q => absurd q.1 (Int32.not_le.mpr c1)⟩ | exact Or.inr ⟨rfl, fun q => absurd q.2 (Int32.not_lt.mpr c9)⟩
    · refine vv_iconst cx dS_has_12 (v := 1) (by decide) (pc' := 13) rfl ?_
      refine vv_goto cx dS_has_13 (tgt := 17) (by decide) ?_
      refine vv_zret cx hr hlocks dS_has_17 rfl (Nat.le_of_ble_eq_true rfl) (Nat.le_of_ble_eq_true rfl) ?_
      refine ⟨rfl, ?_⟩
      first | exact Or.inl ⟨rfl, Int32.not_lt.mp c1, Int32.not_le.mp c9⟩ | exact Or.inr ⟨rfl, fun q => absurd q.1 (Int32.not_le.mpr c1)⟩ | exact Or.inr ⟨rfl, fun q => absurd q.2 (Int32.not_lt.mpr c9)⟩
set_option maxRecDepth 100000 in
set_option maxHeartbeats 4000000 in
theorem tS_widthOfFirst (l : Launch) (g : pq_G) (h : pq_H) (k n : Nat) (a w : Nat → Nat) (hk : k < pq_N) (hsh : pq_sh k = .inr (.inl 5)) (hn : n ≤ 5) (ha : ∀ i, i < n → h k i = nI (a i)) (hw : ∀ i, i < n → h 8 i = nI (w i)) : XI l yS_widthOfFirst wS_widthOfFirst rS_widthOfFirst g 0 0 [.ref (g.2.2 1), .ref (g.2.2 k), .int (nI n)] h (fun r h9 => h9 = h ∧ r = nI (pq_sum (fun i => a i * w i) n)) (pq_no) := by
  refine XI.of (cc := cS_widthOfFirst) (maxL := 5) (ret := (some .int)) (by decide +kernel) (by simp [Value.category]) (Nat.le_of_ble_eq_true rfl) ?_
  intro p e s m below meth c cx hX hr hlocks hex
  have loop : ∀ (d i : Nat) (x y : Int32), x = nI (pq_sum (fun i => a i * w i) i) → y = nI i → i + d = n → VV p l e rS_widthOfFirst s m [.ref (g.2.2 1), .ref (g.2.2 k), .int (nI n)].toArray below meth c (vx_MQ below (pq_Qi g (fun r h9 => h9 = h ∧ r = nI (pq_sum (fun i => a i * w i) n)) s.heap.size) (pq_Qx g (pq_no) s.heap.size) [.ref (g.2.2 1), .ref (g.2.2 k), .int (nI n)].toArray s 0 0 (pq_A g s.heap.size)) g 0 0 h 5 [some (.ref (g.2.2 1)), some (.ref (g.2.2 k)), some (.int (nI n)), some (.int x), some (.int y)] [] := by
    intro d
    induction d with
    | zero =>
      intro i x y hx hy hi
      have e1 : i = n := by omega
      subst e1
      refine vv_iload cx dS_widthOfFirst_5 rfl (pc' := 7) rfl ?_
      refine vv_iload_n cx dS_widthOfFirst_7 rfl rfl (pc' := 8) rfl ?_
      refine vv_icmp_ge cx dS_widthOfFirst_8 (tgt := 32) (by decide) (pc' := 11) rfl (fun c8 => ?_) (fun c8 => ?_)
      · refine vv_iload_n cx dS_widthOfFirst_32 rfl rfl (pc' := 33) rfl ?_
        refine vv_iret cx hr hlocks dS_widthOfFirst_33 (Nat.le_of_ble_eq_true rfl) (Nat.le_of_ble_eq_true rfl) ?_
        exact ⟨rfl, hx⟩
      · exact absurd (Int32.le_refl _) (by rw [hy] at c8; exact c8)
    | succ d ih =>
      intro i x y hx hy hi
      have hlt : i < n := by omega
      have hv : vp_in y 5 := by rw [hy]; exact vp_in_nI (by omega) (by decide)
      have hcl : y.toNatClampNeg = i := by rw [hy]; exact nI_clamp (by omega)
      refine vv_iload cx dS_widthOfFirst_5 rfl (pc' := 7) rfl ?_
      refine vv_iload_n cx dS_widthOfFirst_7 rfl rfl (pc' := 8) rfl ?_
      refine vv_icmp_ge cx dS_widthOfFirst_8 (tgt := 32) (by decide) (pc' := 11) rfl (fun c8 => ?_) (fun c8 => ?_)
      · exact absurd (by rw [hy] at c8; exact c8) (nI_ge hlt (by omega))
      · refine vv_iload_n cx dS_widthOfFirst_11 rfl rfl (pc' := 12) rfl ?_
        refine vv_aload_n cx dS_widthOfFirst_12 rfl rfl (pc' := 13) rfl ?_
        refine vv_iload cx dS_widthOfFirst_13 rfl (pc' := 15) rfl ?_
        refine vv_iald cx _ hk hsh hv dS_widthOfFirst_15 (pc' := 16) rfl ?_
        refine vv_aload_n cx dS_widthOfFirst_16 rfl rfl (pc' := 17) rfl ?_
        refine vv_getR cx (C := RS) (T := TS) (NN := 5) 1 2 _ (by decide) sh_1 rfl rfl (by decide) lyS ww_36 dS_widthOfFirst_17 (pc' := 20) rfl ?_
        refine vv_iload cx dS_widthOfFirst_20 rfl (pc' := 22) rfl ?_
        refine vv_iald cx _ (by decide) sh_8 hv dS_widthOfFirst_22 (pc' := 23) rfl ?_
        refine vv_imul cx dS_widthOfFirst_23 (pc' := 24) rfl ?_
        refine vv_iadd cx dS_widthOfFirst_24 (pc' := 25) rfl ?_
        refine vv_istore_n cx dS_widthOfFirst_25 rfl (Nat.le_of_ble_eq_true rfl) (pc' := 26) rfl ?_
        refine vv_iinc cx dS_widthOfFirst_26 rfl rfl (pc' := 29) rfl ?_
        refine vv_goto cx dS_widthOfFirst_29 (tgt := 5) (by decide) ?_
        exact ih (i + 1) _ _ (by rw [hx, hcl, ha i hlt, hw i hlt, pk_mul, nI_add]; rfl) (pq_nI1 hy) (by omega)
  refine vv_iconst cx dS_widthOfFirst_0 (v := 0) (by decide) (pc' := 1) rfl ?_
  refine vv_istore_n cx dS_widthOfFirst_1 rfl (Nat.le_of_ble_eq_true rfl) (pc' := 2) rfl ?_
  refine vv_iconst cx dS_widthOfFirst_2 (v := 0) (by decide) (pc' := 3) rfl ?_
  refine vv_istore cx dS_widthOfFirst_3 (Nat.le_of_ble_eq_true rfl) (pc' := 5) rfl ?_
  exact loop n 0 _ _ nI_0.symm nI_0.symm (by omega)
set_option maxRecDepth 100000 in
set_option maxHeartbeats 4000000 in
theorem tS_priceOf (l : Launch) (g : pq_G) (h : pq_H) {W n : Nat} {w nm pr : Nat → Nat} (k : Nat) (a : Nat → Nat) (hk : k < pq_N) (hsh : pq_sh k = .inr (.inl 5)) (hs : pq_st h W n w nm pr) (ha : ∀ i, i < n → h k i = nI (a i)) : XI l yS_priceOf wS_priceOf rS_priceOf g 0 0 [.ref (g.2.2 1), .ref (g.2.2 k)] h (fun r h9 => h9 = h ∧ r = nI (pq_sum (fun i => a i * pr i) n)) (pq_no) := by
  refine XI.of (cc := cS_priceOf) (maxL := 4) (ret := (some .int)) (by decide +kernel) (by simp [Value.category]) (Nat.le_of_ble_eq_true rfl) ?_
  intro p e s m below meth c cx hX hr hlocks hex
  obtain ⟨⟨-, hn, -, -, hpr⟩, ⟨-, -, hn5⟩, -⟩ := id hs
  have loop : ∀ (d i : Nat) (x y : Int32), x = nI (pq_sum (fun i => a i * pr i) i) → y = nI i → i + d = n → VV p l e rS_priceOf s m [.ref (g.2.2 1), .ref (g.2.2 k)].toArray below meth c (vx_MQ below (pq_Qi g (fun r h9 => h9 = h ∧ r = nI (pq_sum (fun i => a i * pr i) n)) s.heap.size) (pq_Qx g (pq_no) s.heap.size) [.ref (g.2.2 1), .ref (g.2.2 k)].toArray s 0 0 (pq_A g s.heap.size)) g 0 0 h 4 [some (.ref (g.2.2 1)), some (.ref (g.2.2 k)), some (.int x), some (.int y)] [] := by
    intro d
    induction d with
    | zero =>
      intro i x y hx hy hi
      have e1 : i = n := by omega
      subst e1
      refine vv_iload_n cx dS_priceOf_4 rfl rfl (pc' := 5) rfl ?_
      refine vv_aload_n cx dS_priceOf_5 rfl rfl (pc' := 6) rfl ?_
      refine vv_getI cx (C := RS) (T := TS) (NN := 5) 1 1 (by decide) sh_1 rfl rfl (by decide) lyS ww_32 dS_priceOf_6 (pc' := 9) rfl ?_
      refine vv_icmp_ge cx dS_priceOf_9 (tgt := 31) (by decide) (pc' := 12) rfl (fun c9 => ?_) (fun c9 => ?_)
      · refine vv_iload_n cx dS_priceOf_31 rfl rfl (pc' := 32) rfl ?_
        refine vv_iret cx hr hlocks dS_priceOf_32 (Nat.le_of_ble_eq_true rfl) (Nat.le_of_ble_eq_true rfl) ?_
        exact ⟨rfl, hx⟩
      · exact absurd (Int32.le_refl _) (by rw [hy, hn] at c9; exact c9)
    | succ d ih =>
      intro i x y hx hy hi
      have hlt : i < n := by omega
      have hv : vp_in y 5 := by rw [hy]; exact vp_in_nI (by omega) (by decide)
      have hcl : y.toNatClampNeg = i := by rw [hy]; exact nI_clamp (by omega)
      refine vv_iload_n cx dS_priceOf_4 rfl rfl (pc' := 5) rfl ?_
      refine vv_aload_n cx dS_priceOf_5 rfl rfl (pc' := 6) rfl ?_
      refine vv_getI cx (C := RS) (T := TS) (NN := 5) 1 1 (by decide) sh_1 rfl rfl (by decide) lyS ww_32 dS_priceOf_6 (pc' := 9) rfl ?_
      refine vv_icmp_ge cx dS_priceOf_9 (tgt := 31) (by decide) (pc' := 12) rfl (fun c9 => ?_) (fun c9 => ?_)
      · exact absurd (by rw [hy, hn] at c9; exact c9) (nI_ge hlt (by omega))
      · refine vv_iload_n cx dS_priceOf_12 rfl rfl (pc' := 13) rfl ?_
        refine vv_aload_n cx dS_priceOf_13 rfl rfl (pc' := 14) rfl ?_
        refine vv_iload_n cx dS_priceOf_14 rfl rfl (pc' := 15) rfl ?_
        refine vv_iald cx _ hk hsh hv dS_priceOf_15 (pc' := 16) rfl ?_
        refine vv_aload_n cx dS_priceOf_16 rfl rfl (pc' := 17) rfl ?_
        refine vv_getR cx (C := RS) (T := TS) (NN := 5) 1 4 _ (by decide) sh_1 rfl rfl (by decide) lyS ww_41 dS_priceOf_17 (pc' := 20) rfl ?_
        refine vv_iload_n cx dS_priceOf_20 rfl rfl (pc' := 21) rfl ?_
        refine vv_iald cx _ (by decide) sh_10 hv dS_priceOf_21 (pc' := 22) rfl ?_
        refine vv_imul cx dS_priceOf_22 (pc' := 23) rfl ?_
        refine vv_iadd cx dS_priceOf_23 (pc' := 24) rfl ?_
        refine vv_istore_n cx dS_priceOf_24 rfl (Nat.le_of_ble_eq_true rfl) (pc' := 25) rfl ?_
        refine vv_iinc cx dS_priceOf_25 rfl rfl (pc' := 28) rfl ?_
        refine vv_goto cx dS_priceOf_28 (tgt := 4) (by decide) ?_
        exact ih (i + 1) _ _ (by rw [hx, hcl, ha i hlt, hpr i (by omega), pk_mul, nI_add]; rfl) (pq_nI1 hy) (by omega)
  refine vv_iconst cx dS_priceOf_0 (v := 0) (by decide) (pc' := 1) rfl ?_
  refine vv_istore_n cx dS_priceOf_1 rfl (Nat.le_of_ble_eq_true rfl) (pc' := 2) rfl ?_
  refine vv_iconst cx dS_priceOf_2 (v := 0) (by decide) (pc' := 3) rfl ?_
  refine vv_istore_n cx dS_priceOf_3 rfl (Nat.le_of_ble_eq_true rfl) (pc' := 4) rfl ?_
  exact loop n 0 _ _ nI_0.symm nI_0.symm (by omega)
set_option maxRecDepth 100000 in
set_option maxHeartbeats 4000000 in
theorem tS_priceOfAll (l : Launch) (g : pq_G) (h : pq_H) {W n : Nat} {w nm pr : Nat → Nat} (hs : pq_st h W n w nm pr) : XI l yS_priceOfAll wS_priceOfAll rS_priceOfAll g 0 0 [.ref (g.2.2 1)] h (fun r h9 => h9 = h ∧ r = nI (pq_sum (fun i => nm i * pr i) n)) (pq_no) := by
  refine XI.of (cc := cS_priceOfAll) (maxL := 1) (ret := (some .int)) (by decide +kernel) (by simp [Value.category]) (Nat.le_of_ble_eq_true rfl) ?_
  intro p e s m below meth c cx hX hr hlocks hex
  refine vv_aload_n cx dS_priceOfAll_0 rfl rfl (pc' := 1) rfl ?_
  refine vv_aload_n cx dS_priceOfAll_1 rfl rfl (pc' := 2) rfl ?_
  refine vv_getR cx (C := RS) (T := TS) (NN := 5) 1 3 _ (by decide) sh_1 rfl rfl (by decide) lyS ww_37 dS_priceOfAll_2 (pc' := 5) rfl ?_
  refine cc_Vi cx hX (tS_priceOf l g h 9 nm (by decide) sh_9 hs (fun i hi => hs.1.2.2.2.1 i (by have := hs.2.1.2.2; omega))) kS_priceOf ww_209 rfl rfl ⟨Nat.le_of_ble_eq_true rfl, Nat.le_of_ble_eq_true rfl⟩ 1 (by decide) sh_1 rfl rfl rfl rfl (Nat.le_of_ble_eq_true rfl) rfl ⟨Nat.le_of_ble_eq_true rfl, Nat.le_of_ble_eq_true rfl⟩ dS_priceOfAll_5 (pc' := 8) rfl (fun _ _ q => q.elim) (fun r5 h5 q5 => ?_)
  refine vv_iret cx hr hlocks dS_priceOfAll_8 (Nat.le_of_ble_eq_true rfl) (Nat.le_of_ble_eq_true rfl) ?_
  exact q5
set_option maxRecDepth 100000 in
set_option maxHeartbeats 4000000 in
theorem tS_widthOf (l : Launch) (g : pq_G) (h : pq_H) {W n : Nat} {w nm pr : Nat → Nat} (k : Nat) (a : Nat → Nat) (hk : k < pq_N) (hsh : pq_sh k = .inr (.inl 5)) (hs : pq_st h W n w nm pr) (ha : ∀ i, i < n → h k i = nI (a i)) : XI l yS_widthOf wS_widthOf rS_widthOf g 0 0 [.ref (g.2.2 1), .ref (g.2.2 k)] h (fun r h9 => h9 = h ∧ r = nI (pq_sum (fun i => a i * w i) n)) (pq_no) := by
  refine XI.of (cc := cS_widthOf) (maxL := 2) (ret := (some .int)) (by decide +kernel) (by simp [Value.category]) (Nat.le_of_ble_eq_true rfl) ?_
  intro p e s m below meth c cx hX hr hlocks hex
  refine vv_aload_n cx dS_widthOf_0 rfl rfl (pc' := 1) rfl ?_
  refine vv_aload_n cx dS_widthOf_1 rfl rfl (pc' := 2) rfl ?_
  refine vv_aload_n cx dS_widthOf_2 rfl rfl (pc' := 3) rfl ?_
  refine vv_getI cx (C := RS) (T := TS) (NN := 5) 1 1 (by decide) sh_1 rfl rfl (by decide) lyS ww_32 dS_widthOf_3 (pc' := 6) rfl ?_
  rw [hs.1.2.1]
  refine cc_Vi cx hX (tS_widthOfFirst l g h k n a w hk hsh hs.2.1.2.2 ha (fun i hi => hs.1.2.2.1 i (by have := hs.2.1.2.2; omega))) kS_widthOfFirst ww_175 rfl rfl ⟨Nat.le_of_ble_eq_true rfl, Nat.le_of_ble_eq_true rfl⟩ 1 (by decide) sh_1 rfl rfl rfl rfl (Nat.le_of_ble_eq_true rfl) rfl ⟨Nat.le_of_ble_eq_true rfl, Nat.le_of_ble_eq_true rfl⟩ dS_widthOf_6 (pc' := 9) rfl (fun _ _ q => q.elim) (fun r6 h6 q6 => ?_)
  refine vv_iret cx hr hlocks dS_widthOf_9 (Nat.le_of_ble_eq_true rfl) (Nat.le_of_ble_eq_true rfl) ?_
  exact q6
set_option maxRecDepth 100000 in
set_option maxHeartbeats 4000000 in
theorem tS_widthOfAll (l : Launch) (g : pq_G) (h : pq_H) {W n : Nat} {w nm pr : Nat → Nat} (hs : pq_st h W n w nm pr) : XI l yS_widthOfAll wS_widthOfAll rS_widthOfAll g 0 0 [.ref (g.2.2 1)] h (fun r h9 => h9 = h ∧ r = nI (pq_sum (fun i => nm i * w i) n)) (pq_no) := by
  refine XI.of (cc := cS_widthOfAll) (maxL := 1) (ret := (some .int)) (by decide +kernel) (by simp [Value.category]) (Nat.le_of_ble_eq_true rfl) ?_
  intro p e s m below meth c cx hX hr hlocks hex
  refine vv_aload_n cx dS_widthOfAll_0 rfl rfl (pc' := 1) rfl ?_
  refine vv_aload_n cx dS_widthOfAll_1 rfl rfl (pc' := 2) rfl ?_
  refine vv_getR cx (C := RS) (T := TS) (NN := 5) 1 3 _ (by decide) sh_1 rfl rfl (by decide) lyS ww_37 dS_widthOfAll_2 (pc' := 5) rfl ?_
  refine vv_aload_n cx dS_widthOfAll_5 rfl rfl (pc' := 6) rfl ?_
  refine vv_getI cx (C := RS) (T := TS) (NN := 5) 1 1 (by decide) sh_1 rfl rfl (by decide) lyS ww_32 dS_widthOfAll_6 (pc' := 9) rfl ?_
  rw [hs.1.2.1]
  refine cc_Vi cx hX (tS_widthOfFirst l g h 9 n nm w (by decide) sh_9 hs.2.1.2.2 (fun i hi => hs.1.2.2.2.1 i (by have := hs.2.1.2.2; omega)) (fun i hi => hs.1.2.2.1 i (by have := hs.2.1.2.2; omega))) kS_widthOfFirst ww_175 rfl rfl ⟨Nat.le_of_ble_eq_true rfl, Nat.le_of_ble_eq_true rfl⟩ 1 (by decide) sh_1 rfl rfl rfl rfl (Nat.le_of_ble_eq_true rfl) rfl ⟨Nat.le_of_ble_eq_true rfl, Nat.le_of_ble_eq_true rfl⟩ dS_widthOfAll_9 (pc' := 12) rfl (fun _ _ q => q.elim) (fun r9 h9 q9 => ?_)
  refine vv_iret cx hr hlocks dS_widthOfAll_12 (Nat.le_of_ble_eq_true rfl) (Nat.le_of_ble_eq_true rfl) ?_
  exact q9
theorem pq_pos {y : Nat} (h : 0 < nI y) : 0 < y := by
  rcases Nat.eq_zero_or_pos y with q | q
  · subst q; exact absurd h (by decide)
  · exact q
def pq_up (x y : Nat) : Nat := if y = 0 then 0 else (x + y - 1) / y
set_option maxRecDepth 100000 in
set_option maxHeartbeats 4000000 in
theorem tP_roundedUp (l : Launch) (g : pq_G) (h : pq_H) (x y : Nat) (hx : x < 2 ^ 30) (hy : y < 2 ^ 30) : XI l yP_roundedUp wP_roundedUp rP_roundedUp g 0 0 [.int (nI x), .int (nI y)] h (fun r h9 => h9 = h ∧ r = nI (pq_up x y)) (pq_no) := by
  refine XI.of (cc := cP_roundedUp) (maxL := 2) (ret := (some .int)) (by decide +kernel) (by simp [Value.category]) (Nat.le_of_ble_eq_true rfl) ?_
  intro p e s m below meth c cx hX hr hlocks hex
  refine vv_iload_n cx dP_roundedUp_0 rfl rfl (pc' := 1) rfl ?_
  refine vv_if_gt cx dP_roundedUp_1 (tgt := 8) (by decide) (pc' := 4) rfl (fun c1 => ?_) (fun c1 => ?_)
  · refine vv_iload_n cx dP_roundedUp_8 rfl rfl (pc' := 9) rfl ?_
    refine vv_iload_n cx dP_roundedUp_9 rfl rfl (pc' := 10) rfl ?_
    refine vv_iadd cx dP_roundedUp_10 (pc' := 11) rfl ?_
    refine vv_iconst cx dP_roundedUp_11 (v := 1) (by decide) (pc' := 12) rfl ?_
    refine vv_isub cx dP_roundedUp_12 (pc' := 13) rfl ?_
    refine vv_iload_n cx dP_roundedUp_13 rfl rfl (pc' := 14) rfl ?_
    have hy0 : 0 < y := pq_pos c1
    refine vv_idiv cx dP_roundedUp_14 (nI_ne0 hy0 (by omega)) (pc' := 15) rfl ?_
    refine vv_iret cx hr hlocks dP_roundedUp_15 (Nat.le_of_ble_eq_true rfl) (Nat.le_of_ble_eq_true rfl) ?_
    refine ⟨rfl, ?_⟩
    first | (have hy0 : y = 0 := Nat.eq_zero_of_not_pos (fun q => c1 (nI_lt q (by omega))); subst hy0; rfl) | (unfold pq_up; rw [if_neg (by omega), nI_add, show (1 : Int32) = nI 1 from rfl, pk_sub (by omega), pk_div (by omega) hy0 (by omega)])
  · refine vv_iconst cx dP_roundedUp_4 (v := 0) (by decide) (pc' := 5) rfl ?_
    refine vv_goto cx dP_roundedUp_5 (tgt := 15) (by decide) ?_
    refine vv_iret cx hr hlocks dP_roundedUp_15 (Nat.le_of_ble_eq_true rfl) (Nat.le_of_ble_eq_true rfl) ?_
    refine ⟨rfl, ?_⟩
    first | (have hy0 : y = 0 := Nat.eq_zero_of_not_pos (fun q => c1 (nI_lt q (by omega))); subst hy0; rfl) | (unfold pq_up; rw [if_neg (by omega), nI_add, show (1 : Int32) = nI 1 from rfl, pk_sub (by omega), pk_div (by omega) hy0 (by omega)])
set_option maxRecDepth 100000 in
set_option maxHeartbeats 4000000 in
theorem tS_sheetsFor (l : Launch) (g : pq_G) (h : pq_H) {W n : Nat} {w nm pr : Nat → Nat} (x : Nat) (hx : x < 2 ^ 30) (hs : pq_st h W n w nm pr) : XI l yS_sheetsFor wS_sheetsFor rS_sheetsFor g 0 0 [.ref (g.2.2 1), .int (nI x)] h (fun r h9 => h9 = h ∧ r = nI (pq_up x W)) (pq_no) := by
  refine XI.of (cc := cS_sheetsFor) (maxL := 2) (ret := (some .int)) (by decide +kernel) (by simp [Value.category]) (Nat.le_of_ble_eq_true rfl) ?_
  intro p e s m below meth c cx hX hr hlocks hex
  refine vv_iload_n cx dS_sheetsFor_0 rfl rfl (pc' := 1) rfl ?_
  refine vv_aload_n cx dS_sheetsFor_1 rfl rfl (pc' := 2) rfl ?_
  refine vv_getI cx (C := RS) (T := TS) (NN := 5) 1 0 (by decide) sh_1 rfl rfl (by decide) lyS ww_30 dS_sheetsFor_2 (pc' := 5) rfl ?_
  rw [hs.1.1]
  refine cc_Ni cx hX (tP_roundedUp l g h x W hx (by have := hs.2.1; omega)) kP_roundedUp (host := "PatternColumns") (by decide +kernel) rfl rfl ⟨Nat.le_of_ble_eq_true rfl, Nat.le_of_ble_eq_true rfl⟩ rfl rfl (Nat.le_of_ble_eq_true rfl) rfl ⟨Nat.le_of_ble_eq_true rfl, Nat.le_of_ble_eq_true rfl⟩ dS_sheetsFor_5 (pc' := 8) rfl (fun r5 h5 q5 => ?_)
  refine vv_iret cx hr hlocks dS_sheetsFor_8 (Nat.le_of_ble_eq_true rfl) (Nat.le_of_ble_eq_true rfl) ?_
  exact q5

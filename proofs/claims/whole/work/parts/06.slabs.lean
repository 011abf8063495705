/-! part 06: the Slabs: sums, fits -/
def pq_sum (f : Nat → Nat) : Nat → Nat
  | 0 => 0
  | n + 1 => pq_sum f n + f n
theorem pq_nI1 {x : Int32} {i : Nat} (h : x = nI i) : x + Int32.ofInt 1 = nI (i + 1) := by rw [h]; exact nI_1 i
set_option maxRecDepth 100000 in
set_option maxHeartbeats 4000000 in
theorem tS_has (l : Launch) (g : pq_G) (h : pq_H) (x : Int32) : XI l yS_has wS_has rS_has g 0 0 [.ref (g.2.2 1), .int x] h (fun r h9 => h9 = h ∧ ((r = 1 ∧ 0 ≤ x ∧ x < h 1 1) ∨ (r = 0 ∧ ¬ (0 ≤ x ∧ x < h 1 1)))) (pq_no) := by
  refine XI.of (cc := cS_has) (maxL := 2) (ret := (some .boolean)) (by decide +kernel) (by simp [Value.category]) (Nat.le_of_ble_eq_true rfl) ?_
  intro p e s m below meth c cx hX hr hlocks hex
  refine vv_iload_n cx dS_has_0 rfl rfl (pc' := 1) rfl ?_
  refine vv_if_lt cx dS_has_1 (tgt := 16) (by decide) (pc' := 4) rfl (fun c1 => ?_) (fun c1 => ?_)
  · refine vv_iconst cx dS_has_16 (v := 0) (by decide) (pc' := 17) rfl ?_
    refine vv_zret cx hr hlocks dS_has_17 rfl (Nat.le_of_ble_eq_true rfl) (Nat.le_of_ble_eq_true rfl) ?_
    refine ⟨rfl, ?_⟩
    first | exact Or.inl ⟨rfl, Int32.not_lt.mp c1, Int32.not_le.mp c9⟩ | exact Or.inr ⟨rfl, fun q => absurd q.1 (Int32.not_le.mpr c1)⟩ | exact Or.inr ⟨rfl, fun q => absurd q.2 (Int32.not_lt.mpr c9)⟩
  · refine vv_iload_n cx dS_has_4 rfl rfl (pc' := 5) rfl ?_
    refine vv_aload_n cx dS_has_5 rfl rfl (pc' := 6) rfl ?_
    refine vv_getI cx (C := RS) (T := TS) (NN := 5) 1 1 (by decide) sh_1 rfl rfl (by decide) lyS ww_32 dS_has_6 (pc' := 9) rfl ?_
    refine vv_icmp_ge cx dS_has_9 (tgt := 16) (by decide) (pc' := 12) rfl (fun c9 => ?_) (fun c9 => ?_)
    · refine vv_iconst cx dS_has_16 (v := 0) (by decide) (pc' := 17) rfl ?_
      refine vv_zret cx hr hlocks dS_has_17 rfl (Nat.le_of_ble_eq_true rfl) (Nat.le_of_ble_eq_true rfl) ?_
      refine ⟨rfl, ?_⟩
      first | exact Or.inl ⟨rfl, Int32.not_lt.mp c1, Int32.not_le.mp c9⟩ | exact Or.inr ⟨rfl, fun q => absurd q.1 (Int32.not_le.mpr c1)⟩ | exact Or.inr ⟨rfl, fun q => absurd q.2 (Int32.not_lt.mpr c9)⟩
    · refine vv_iconst cx dS_has_12 (v := 1) (by decide) (pc' := 13) rfl ?_
      refine vv_goto cx dS_has_13 (tgt := 17) (by decide) ?_
      refine vv_zret cx hr hlocks dS_has_17 rfl (Nat.le_of_ble_eq_true rfl) (Nat.le_of_ble_eq_true rfl) ?_
      refine ⟨rfl, ?_⟩
      first | exact Or.inl ⟨rfl, Int32.not_lt.mp c1, Int32.not_le.mp c9⟩ | exact Or.inr ⟨rfl, fun q => absurd q.1 (Int32.not_le.mpr c1)⟩ | exact Or.inr ⟨rfl, fun q => absurd q.2 (Int32.not_lt.mpr c9)⟩
set_option maxRecDepth 100000 in
set_option maxHeartbeats 4000000 in
theorem tS_widthOfFirst (l : Launch) (g : pq_G) (h : pq_H) (k n : Nat) (a w : Nat → Nat) (hk : k < pq_N) (hsh : pq_sh k = .inr (.inl 5)) (hn : n ≤ 5) (ha : ∀ i, i < n → h k i = nI (a i)) (hw : ∀ i, i < n → h 8 i = nI (w i)) : XI l yS_widthOfFirst wS_widthOfFirst rS_widthOfFirst g 0 0 [.ref (g.2.2 1), .ref (g.2.2 k), .int (nI n)] h (fun r h9 => h9 = h ∧ r = nI (pq_sum (fun i => a i * w i) n)) (pq_no) := by
  refine XI.of (cc := cS_widthOfFirst) (maxL := 5) (ret := (some .int)) (by decide +kernel) (by simp [Value.category]) (Nat.le_of_ble_eq_true rfl) ?_
  intro p e s m below meth c cx hX hr hlocks hex
  have loop : ∀ (d i : Nat) (x y : Int32), x = nI (pq_sum (fun i => a i * w i) i) → y = nI i → i + d = n → VV p l e rS_widthOfFirst s m [.ref (g.2.2 1), .ref (g.2.2 k), .int (nI n)].toArray below meth c (vx_MQ below (pq_Qi g (fun r h9 => h9 = h ∧ r = nI (pq_sum (fun i => a i * w i) n)) s.heap.size) (pq_Qx g pq_no s.heap.size) [.ref (g.2.2 1), .ref (g.2.2 k), .int (nI n)].toArray s 0 0 (pq_A g s.heap.size)) g 0 0 h 5 [some (.ref (g.2.2 1)), some (.ref (g.2.2 k)), some (.int (nI n)), some (.int x), some (.int y)] [] := by
    intro d
    induction d with
    | zero =>
      intro i x y hx hy hi
      have e1 : i = n := by omega
      subst e1
      refine vv_iload cx dS_widthOfFirst_5 rfl (pc' := 7) rfl ?_
      refine vv_iload_n cx dS_widthOfFirst_7 rfl rfl (pc' := 8) rfl ?_
      refine vv_icmp_ge cx dS_widthOfFirst_8 (tgt := 32) (by decide) (pc' := 11) rfl (fun c8 => ?_) (fun c8 => ?_)
      · refine vv_iload_n cx dS_widthOfFirst_32 rfl rfl (pc' := 33) rfl ?_
        refine vv_iret cx hr hlocks dS_widthOfFirst_33 (Nat.le_of_ble_eq_true rfl) (Nat.le_of_ble_eq_true rfl) ?_
        exact ⟨rfl, hx⟩
      · exact absurd (Int32.le_refl _) (by rw [hy] at c8; exact c8)
    | succ d ih =>
      intro i x y hx hy hi
      have hlt : i < n := by omega
      have hv : vp_in y 5 := by rw [hy]; exact vp_in_nI (by omega) (by decide)
      have hcl : y.toNatClampNeg = i := by rw [hy]; exact nI_clamp (by omega)
      refine vv_iload cx dS_widthOfFirst_5 rfl (pc' := 7) rfl ?_
      refine vv_iload_n cx dS_widthOfFirst_7 rfl rfl (pc' := 8) rfl ?_
      refine vv_icmp_ge cx dS_widthOfFirst_8 (tgt := 32) (by decide) (pc' := 11) rfl (fun c8 => ?_) (fun c8 => ?_)
      · exact absurd (by rw [hy] at c8; exact c8) (nI_ge hlt (by omega))
      · refine vv_iload_n cx dS_widthOfFirst_11 rfl rfl (pc' := 12) rfl ?_
        refine vv_aload_n cx dS_widthOfFirst_12 rfl rfl (pc' := 13) rfl ?_
        refine vv_iload cx dS_widthOfFirst_13 rfl (pc' := 15) rfl ?_
        refine vv_iald cx _ hk hsh hv dS_widthOfFirst_15 (pc' := 16) rfl ?_
        refine vv_aload_n cx dS_widthOfFirst_16 rfl rfl (pc' := 17) rfl ?_
        refine vv_getR cx (C := RS) (T := TS) (NN := 5) 1 2 _ (by decide) sh_1 rfl rfl (by decide) lyS ww_36 dS_widthOfFirst_17 (pc' := 20) rfl ?_
        refine vv_iload cx dS_widthOfFirst_20 rfl (pc' := 22) rfl ?_
        refine vv_iald cx _ (by decide) sh_8 hv dS_widthOfFirst_22 (pc' := 23) rfl ?_
        refine vv_imul cx dS_widthOfFirst_23 (pc' := 24) rfl ?_
        refine vv_iadd cx dS_widthOfFirst_24 (pc' := 25) rfl ?_
        refine vv_istore_n cx dS_widthOfFirst_25 rfl (Nat.le_of_ble_eq_true rfl) (pc' := 26) rfl ?_
        refine vv_iinc cx dS_widthOfFirst_26 rfl rfl (pc' := 29) rfl ?_
        refine vv_goto cx dS_widthOfFirst_29 (tgt := 5) (by decide) ?_
        exact ih (i + 1) _ _ (by rw [hx, hcl, ha i hlt, hw i hlt, pk_mul, nI_add]; rfl) (pq_nI1 hy) (by omega)
  refine vv_iconst cx dS_widthOfFirst_0 (v := 0) (by decide) (pc' := 1) rfl ?_
  refine vv_istore_n cx dS_widthOfFirst_1 rfl (Nat.le_of_ble_eq_true rfl) (pc' := 2) rfl ?_
  refine vv_iconst cx dS_widthOfFirst_2 (v := 0) (by decide) (pc' := 3) rfl ?_
  refine vv_istore cx dS_widthOfFirst_3 (Nat.le_of_ble_eq_true rfl) (pc' := 5) rfl ?_
  exact loop n 0 _ _ nI_0.symm nI_0.symm (by omega)

/-! part 36 (printed by wip/whole/p35.py): the law from its entry -/
set_option maxRecDepth 100000 in
set_option maxHeartbeats 4000000 in
theorem whole_start {p : Program} {e : Env} {s : State} {m : MethodId} {below : List Frame} {meth : Method} {c : Code} (l : Launch) (hl : l.stackTraces = false) {b L : Nat} {xs : Nat → Int32} (hL : L ≤ 1536) (C0 : lw_At p s m meth c b L xs) : W p l e room_1 s m #[Value.ref b] below meth c s.heap [] 0 0 (lw_Z below #[Value.ref b] s) (entryFrame m ([Value.ref b] : List Value).toArray 7) := by
  obtain ⟨hx, hb, hr, hml, hown, hts, hX, hbl, hlocks, hgv⟩ := C0
  have hs := flat_of_before _ hgv
  have hW : ∀ w ∈ pq_W, w.before #[Value.ref b] s = true := fun w hw => hts w (pq_Wtbl hw)
  obtain ⟨c0, i0, k0⟩ := u_known (C := RP) (T := TP) (N := 4) (n := 4) hW lyP (hW _ ww_17)
  obtain ⟨c1, i1, k1⟩ := u_known (C := RS) (T := TS) (N := 5) (n := 5) hW lyS (hW _ ww_25)
  obtain ⟨c2, i2, k2⟩ := u_known (C := RD) (T := TD) (N := 5) (n := 5) hW lyD (hW _ ww_56)
  obtain ⟨c3, i3, k3⟩ := u_known (C := RG) (T := TG) (N := 9) (n := 9) hW lyG (hW _ ww_78)
  obtain ⟨c4, i4, k4⟩ := u_known (C := RT) (T := TT) (N := 4) (n := 4) hW lyT (hW _ ww_119)
  obtain ⟨c5, i5, k5⟩ := u_known (C := RM) (T := TM) (N := 15) (n := 15) hW lyM (hW _ ww_549)
  obtain ⟨cI, kI, pI, nI1, nI2, nI3⟩ := Cond.arrayClass_spec (hW _ ww_54)
  obtain ⟨cL, kL, pL, nL1, nL2, nL3⟩ := Cond.arrayClass_spec (hW _ ww_732)
  have hov := hts _ (pq_tb (w := Cond.arrayOver (.array .int)) 84 (by decide +kernel))
  obtain ⟨cG, kG, pG, nG1, nG2, nG3⟩ := pq_over hov
  have hAO : pq_AO s := hov
  have hK : va_K (pc_g (fun i => match i with | 0 => c0 | 1 => c1 | 2 => c2 | 3 => c3 | 4 => c4 | _ => c5, fun i => match i with | 0 => i0 | 1 => i1 | 2 => i2 | 3 => i3 | 4 => i4 | _ => i5) cI cL cG s.heap.size).1 vwCl (pq_tys (pc_g (fun i => match i with | 0 => c0 | 1 => c1 | 2 => c2 | 3 => c3 | 4 => c4 | _ => c5, fun i => match i with | 0 => i0 | 1 => i1 | 2 => i2 | 3 => i3 | 4 => i4 | _ => i5) cI cL cG s.heap.size)) s := by
    refine ⟨fun c9 q9 h9 => ?_, fun c9 q9 h9 => ?_⟩
    · have hlt : c9 < 6 := (List.getElem?_eq_some_iff.mp h9).1
      have h6 : c9 = 0 ∨ c9 = 1 ∨ c9 = 2 ∨ c9 = 3 ∨ c9 = 4 ∨ c9 = 5 := by omega
      rcases h6 with rfl | rfl | rfl | rfl | rfl | rfl
      · cases h9; exact k0
      · cases h9; exact k1
      · cases h9; exact k2
      · cases h9; exact k3
      · cases h9; exact k4
      · cases h9; exact k5
    · have hlt : c9 < 3 := (List.getElem?_eq_some_iff.mp h9).1
      have h6 : c9 = 0 ∨ c9 = 1 ∨ c9 = 2 := by omega
      rcases h6 with rfl | rfl | rfl
      · cases h9; exact ⟨pq_arrT nI2 nI3, nI1⟩
      · cases h9; exact ⟨pq_arrT nL2 nL3, nL1⟩
      · cases h9; exact ⟨pq_arrT nG2 nG3, nG1⟩
  generalize ((fun i => match i with | 0 => c0 | 1 => c1 | 2 => c2 | 3 => c3 | 4 => c4 | _ => c5, fun i => match i with | 0 => i0 | 1 => i1 | 2 => i2 | 3 => i3 | 4 => i4 | _ => i5) : va_G) = D at hK
  have hfr : ∀ a : Nat, a < s.heap.size → ¬ pq_A (pc_g D cI cL cG s.heap.size) s.heap.size a := by
    rintro a ha (⟨k, -, q⟩ | q)
    · have q2 : a = s.heap.size + pc_off k := q
      omega
    · omega
  have hXX : pq_X (pc_g D cI cL cG s.heap.size) s.heap.size s := ⟨vx_Zqof (args := #[Value.ref b]) (hts _ (pq_tb 248 (by decide +kernel))) (hts _ (pq_tb 7 (by decide +kernel))) (hs _ (by decide +kernel)) hfr, vx_Zqof (args := #[Value.ref b]) (hts _ (pq_tb 250 (by decide +kernel))) (hts _ (pq_tb 7 (by decide +kernel))) (hs _ (by decide +kernel)) hfr, pq_litsW hts hs, fun w hw => va_Nw.of (pq_nk_on (pq_Wn_nk w hw)) (hts w (pq_Wn_in w hw))⟩
  have hNN : pq_Nx s := pq_nxW hs
  have cx : CX p s m #[Value.ref b] c cL_law 7 RL (pc_g D cI cL cG s.heap.size) := ⟨⟨hx, hb, hml, hown, hW⟩, hK⟩
  have C : lw_C p s m meth c (pc_g D cI cL cG s.heap.size) b L xs := ⟨cx, hXX, hNN, hr, hlocks, hX, hbl, fun k _ => Nat.le_add_right _ _⟩
  have start : NV p l e room_1 s m #[Value.ref b] below meth c (lw_Z below #[Value.ref b] s) (pc_g D cI cL cG s.heap.size) s.heap.size 0 0 0 e0 0 (pq_ent 7 [.ref b]) [] := by
    refine nv_new cx (C := RP) (T := TP) (NN := 4) (ci := 0) rfl lyP tyP tyP_ok ww_16 ww_17 ww_1 (fs := [.null, .null, .null, .null]) (by decide) (Nat.le_of_ble_eq_true rfl) (Nat.le_of_ble_eq_true rfl) dL_law_0 (pc' := 3) rfl ?_
    refine nv_dup cx dL_law_3 rfl (pc' := 4) rfl ?_
    refine nv_callI (na := 0) cx hAO (s.heap.size + 0) (tP_init l _ s.heap.size _ rfl) ww_20 ww_1 ww_19 rfl (by decide +kernel) ww_18 rfl rfl ⟨Nat.le_of_ble_eq_true rfl, Nat.le_of_ble_eq_true rfl⟩ rfl rfl (Nat.le_of_ble_eq_true rfl) rfl ⟨Nat.le_of_ble_eq_true rfl, Nat.le_of_ble_eq_true rfl⟩ dL_law_4 (pc' := 7) rfl ?_
    refine nv_astore_n cx dL_law_7 rfl (Nat.le_of_ble_eq_true rfl) (pc' := 8) rfl ?_
    refine nv_new cx (C := RM) (T := TM) (NN := 15) (ci := 5) rfl lyM tyM tyM_ok ww_548 ww_549 ww_6 (fs := [.int 0, .int 0, .int 0, .null, .null, .null, .null, .null, .int 0, .null, .int 0, .int 0, .int 0, .int 0, .null]) (by decide) (Nat.le_of_ble_eq_true rfl) (Nat.le_of_ble_eq_true rfl) dL_law_8 (pc' := 11) rfl ?_
    refine nv_dup cx dL_law_11 rfl (pc' := 12) rfl ?_
    refine nv_callI (na := 0) cx hAO (s.heap.size + 116) (tM_init l _ s.heap.size _ rfl) ww_552 ww_6 ww_551 rfl (by decide +kernel) ww_550 rfl rfl ⟨Nat.le_of_ble_eq_true rfl, Nat.le_of_ble_eq_true rfl⟩ rfl rfl (Nat.le_of_ble_eq_true rfl) rfl ⟨Nat.le_of_ble_eq_true rfl, Nat.le_of_ble_eq_true rfl⟩ dL_law_12 (pc' := 15) rfl ?_
    refine nv_astore_n cx dL_law_15 rfl (Nat.le_of_ble_eq_true rfl) (pc' := 16) rfl ?_
    refine nv_iconst cx dL_law_16 (v := 1) (by decide) (pc' := 17) rfl ?_
    refine nv_newl cx ww_732 (by decide) (N := 1) (by decide) (Nat.le_of_ble_eq_true rfl) (Nat.le_of_ble_eq_true rfl) (Nat.le_of_ble_eq_true rfl) dL_law_17 (pc' := 19) rfl ?_
    refine nv_astore_n cx dL_law_19 rfl (Nat.le_of_ble_eq_true rfl) (pc' := 20) rfl ?_
    refine nv_iconst cx dL_law_20 (v := 0) (by decide) (pc' := 21) rfl ?_
    refine nv_istore cx dL_law_21 (Nat.le_of_ble_eq_true rfl) (pc' := 23) rfl ?_
    refine nv_vv ?_
    exact law_loop hl hL C 512 0 h0 _ _ (by omega) (by omega) h0_R (Nat.le_of_ble_eq_true rfl) (Nat.le_of_ble_eq_true rfl)
  have hc1 : ∀ w ∈ [Value.ref b], w.category = 1 := by simp [Value.category]
  have hl9 := lv_entry [Value.ref b] (n := 7) (by rw [pq_sl hc1]; exact (Nat.le_of_ble_eq_true rfl))
  rw [lg_entry_eq]
  exact start s.heap [] _ ⟨rfl, fun j hj => absurd hj (by omega)⟩ va_S.rf (pq_entry hc1 (Nat.le_of_ble_eq_true rfl) hl9)

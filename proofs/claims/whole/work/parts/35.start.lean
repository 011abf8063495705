/-! part 35 (printed by wip/whole/p35.py): the start -/
def pc_off (k : Nat) : Nat := if k < 16 then (match k with | 0 => 0 | 1 => 1 | 2 => 5 | 3 => 8 | 4 => 72 | 5 => 10 | 6 => 41 | 7 => 73 | 8 => 2 | 9 => 3 | 10 => 4 | 11 => 6 | 12 => 7 | 13 => 9 | 14 => 114 | _ => 115) else if k < 46 then k - 5 else if k < 76 then k - 4 else if k < 116 then k - 2 else k
/-- which cell is made as number j -/
def pc_inv (j : Nat) : Nat := if j < 11 then (match j with | 0 => 0 | 1 => 1 | 2 => 8 | 3 => 9 | 4 => 10 | 5 => 2 | 6 => 11 | 7 => 12 | 8 => 3 | 9 => 13 | _ => 5) else if j < 41 then j + 5 else if j = 41 then 6 else if j < 72 then j + 4 else if j = 72 then 4 else if j = 73 then 7 else if j < 114 then j + 2 else if j = 114 then 14 else if j = 115 then 15 else j
def h0 : pq_H := fun k j => if k = 1 ∧ j = 0 then 100 else if k = 3 ∧ j = 5 then -1 else if k = 116 ∧ j = 1 then 100 else if k = 116 ∧ j = 8 then -1 else 0
theorem pc_cases {k : Nat} (hk : k < 125) : k < 16 ∨ (16 ≤ k ∧ k < 46) ∨ (46 ≤ k ∧ k < 76) ∨ (76 ≤ k ∧ k < 116) ∨ (116 ≤ k ∧ k < 125) := by omega
theorem pc_16 {k : Nat} (h : k < 16) : k = 0 ∨ k = 1 ∨ k = 2 ∨ k = 3 ∨ k = 4 ∨ k = 5 ∨ k = 6 ∨ k = 7 ∨ k = 8 ∨ k = 9 ∨ k = 10 ∨ k = 11 ∨ k = 12 ∨ k = 13 ∨ k = 14 ∨ k = 15 := by omega
theorem pc_a {k : Nat} (h : 16 ≤ k ∧ k < 46) : pc_off k = k - 5 := by unfold pc_off; rw [if_neg (by omega), if_pos h.2]
theorem pc_b {k : Nat} (h : 46 ≤ k ∧ k < 76) : pc_off k = k - 4 := by unfold pc_off; rw [if_neg (by omega), if_neg (by omega), if_pos h.2]
theorem pc_c {k : Nat} (h : 76 ≤ k ∧ k < 116) : pc_off k = k - 2 := by unfold pc_off; rw [if_neg (by omega), if_neg (by omega), if_neg (by omega), if_pos h.2]
theorem pc_d {k : Nat} (h : 116 ≤ k) : pc_off k = k := by unfold pc_off; rw [if_neg (by omega), if_neg (by omega), if_neg (by omega), if_neg (by omega)]
theorem pc_lt {k : Nat} (hk : k < 125) : pc_off k < 125 := by
  rcases pc_cases hk with h | h | h | h | h
  · rcases pc_16 h with rfl | rfl | rfl | rfl | rfl | rfl | rfl | rfl | rfl | rfl | rfl | rfl | rfl | rfl | rfl | rfl <;> decide
  · rw [pc_a h]; omega
  · rw [pc_b h]; omega
  · rw [pc_c h]; omega
  · rw [pc_d h.1]; omega
theorem pc_back {k : Nat} (hk : k < 125) : pc_inv (pc_off k) = k := by
  rcases pc_cases hk with h | h | h | h | h
  · rcases pc_16 h with rfl | rfl | rfl | rfl | rfl | rfl | rfl | rfl | rfl | rfl | rfl | rfl | rfl | rfl | rfl | rfl <;> decide
  · rw [pc_a h]; unfold pc_inv; rw [if_neg (by omega), if_pos (by omega)]; omega
  · rw [pc_b h]; unfold pc_inv; rw [if_neg (by omega), if_neg (by omega), if_neg (by omega), if_pos (by omega)]; omega
  · rw [pc_c h]; unfold pc_inv; rw [if_neg (by omega), if_neg (by omega), if_neg (by omega), if_neg (by omega), if_neg (by omega), if_neg (by omega), if_pos (by omega)]; omega
  · rw [pc_d h.1]; unfold pc_inv; rw [if_neg (by omega), if_neg (by omega), if_neg (by omega), if_neg (by omega), if_neg (by omega), if_neg (by omega), if_neg (by omega), if_neg (by omega), if_neg (by omega)]
abbrev pc_g (D : va_G) (cI cL cG : ClassId) (sz : Nat) : pq_G := (D, (cI, cL, cG), fun k => sz + pc_off k)
def e0 : Nat → va_E := fun _ => .inr (0, [])
abbrev dP : va_E := .inr (0, [.null, .null, .null, .null])
abbrev dM : va_E := .inr (5, [.int 0, .int 0, .int 0, .null, .null, .null, .null, .null, .int 0, .null, .int 0, .int 0, .int 0, .int 0, .null])
def e9 (g : pq_G) (sz : Nat) : Nat → va_E := va_up (eM g sz (va_up (eP g sz (va_up e0 0 dP)) 116 dM)) 124 (.inl (g.2.1.2.1, 1, .inr (.inl (fun _ => 0))))
theorem h0_z {k : Nat} (h1 : k ≠ 1) (h2 : k ≠ 3) (h3 : k ≠ 116) : h0 k = fun _ => 0 := by
  funext j
  simp [h0, h1, h2, h3]
theorem e9_row {g : pq_G} {sz j : Nat} (h : (10 < j ∧ j < 41) ∨ (41 < j ∧ j < 72) ∨ (73 < j ∧ j < 114)) : e9 g sz j = cn_arr g 5 := by
  unfold e9
  rw [va_up_ne _ _ (by omega)]
  unfold eM
  rw [if_pos (by omega), va_up_ne _ _ (by omega)]
  unfold eP
  rw [if_neg (by omega), if_neg (by omega), if_neg (by omega)]
  rcases h with h | h | h
  · rw [if_pos (by omega)]; unfold eG; rw [if_neg (by omega), if_neg (by omega), if_neg (by omega), if_neg (by omega)]
  · rw [if_pos (by omega)]; unfold eG; rw [if_neg (by omega), if_neg (by omega), if_neg (by omega), if_neg (by omega)]
  · rw [if_neg (by omega)]; unfold eT; rw [if_neg (by omega), if_neg (by omega), if_neg (by omega), if_pos (by omega)]
theorem pc_grid {D : va_G} {cI cL cG : ClassId} {sz n N base : Nat} (h : ∀ i, i < N → pc_off (base + i) = n + 1 + i) : cn_out (pc_g D cI cL cG sz) sz n N = .inl (cG, N, .inr (.inr (.inr (.inr (fun i => if i < N then some ((pc_g D cI cL cG sz).2.2 (base + i)) else none))))) := by
  have e : (fun i => if i < N then some (sz + n + 1 + i) else none) = (fun i => if i < N then some ((pc_g D cI cL cG sz).2.2 (base + i)) else none) := by
    funext i
    by_cases q : i < N
    · rw [if_pos q, if_pos q]
      show some (sz + n + 1 + i) = some (sz + pc_off (base + i))
      rw [h i q, show sz + n + 1 + i = sz + (n + 1 + i) by omega]
    · rw [if_neg q, if_neg q]
  unfold cn_out
  rw [e]
set_option maxRecDepth 100000 in
theorem e9_mk {D : va_G} {cI cL cG : ClassId} {sz k : Nat} (hk : k < 125) : e9 (pc_g D cI cL cG sz) sz (pc_off k) = pq_mk (pc_g D cI cL cG sz) (pq_sh k) (h0 k) := by
  have za : ∀ (q n : Nat), q ≠ 1 → q ≠ 3 → q ≠ 116 → pq_sh q = .inr (.inl n) → cn_arr (pc_g D cI cL cG sz) n = pq_mk (pc_g D cI cL cG sz) (pq_sh q) (h0 q) := fun q n h1 h2 h3 hsh => by
    rw [pq_mk_arr hsh, h0_z h1 h2 h3]
    rfl
  rcases pc_cases hk with h | h | h | h | h
  · rcases pc_16 h with rfl | rfl | rfl | rfl | rfl | rfl | rfl | rfl | rfl | rfl | rfl | rfl | rfl | rfl | rfl | rfl
    · rfl
    · rfl
    · rfl
    · rfl
    · rfl
    · rw [pq_mk_grid sh_5]
      exact pc_grid (n := 10) (N := 30) (base := 16) (fun i hi => by rw [pc_a ⟨by omega, by omega⟩]; omega)
    · rw [pq_mk_grid sh_6]
      exact pc_grid (n := 41) (N := 30) (base := 46) (fun i hi => by rw [pc_b ⟨by omega, by omega⟩]; omega)
    · rw [pq_mk_grid sh_7]
      exact pc_grid (n := 73) (N := 40) (base := 76) (fun i hi => by rw [pc_c ⟨by omega, by omega⟩]; omega)
    · exact za 8 5 (by decide) (by decide) (by decide) sh_8
    · exact za 9 5 (by decide) (by decide) (by decide) sh_9
    · exact za 10 5 (by decide) (by decide) (by decide) sh_10
    · exact za 11 5 (by decide) (by decide) (by decide) sh_11
    · exact za 12 5 (by decide) (by decide) (by decide) sh_12
    · exact za 13 5 (by decide) (by decide) (by decide) sh_13
    · exact za 14 40 (by decide) (by decide) (by decide) sh_14
    · exact za 15 40 (by decide) (by decide) (by decide) sh_15
  · rw [pc_a h, e9_row (by omega)]
    exact za k 5 (by omega) (by omega) (by omega) (sh_row (by omega) (by omega))
  · rw [pc_b h, e9_row (by omega)]
    exact za k 5 (by omega) (by omega) (by omega) (sh_row (by omega) (by omega))
  · rw [pc_c h, e9_row (by omega)]
    exact za k 5 (by omega) (by omega) (by omega) (sh_row (by omega) (by omega))
  · have hr : k = 116 ∨ k = 117 ∨ k = 118 ∨ k = 119 ∨ k = 120 ∨ k = 121 ∨ k = 122 ∨ k = 123 ∨ k = 124 := by omega
    rcases hr with rfl | rfl | rfl | rfl | rfl | rfl | rfl | rfl | rfl
    · rfl
    · exact za 117 5 (by decide) (by decide) (by decide) sh_117
    · exact za 118 5 (by decide) (by decide) (by decide) sh_118
    · exact za 119 5 (by decide) (by decide) (by decide) sh_119
    · exact za 120 160 (by decide) (by decide) (by decide) sh_120
    · exact za 121 160 (by decide) (by decide) (by decide) sh_121
    · exact za 122 155 (by decide) (by decide) (by decide) sh_122
    · exact za 123 280 (by decide) (by decide) (by decide) sh_123
    · rw [pq_mk_long sh_124, h0_z (by decide) (by decide) (by decide)]
      rfl
/-- the state at the start -/
theorem h0_R : pq_R h0 := by
  have zr : ∀ k, k ≠ 1 → k ≠ 3 → k ≠ 116 → pq_row h0 k (fun _ => 0) := fun k a b c i _ => by rw [h0_z a b c]; rfl
  have zz : ∀ k n, k ≠ 1 → k ≠ 3 → k ≠ 116 → pq_z h0 k n := fun k n a b c => ⟨fun _ => 0, zr k a b c, fun _ _ _ => rfl⟩
  refine ⟨100, 0, fun _ => 0, fun _ => 0, fun _ => 0, none, fun _ _ => 0, 0, 0, 0, 0, fun _ _ => 0, fun _ => 0, fun _ => 0, ?_, ?_⟩
  · refine ⟨⟨⟨rfl, rfl, zr 8 (by decide) (by decide) (by decide), zr 9 (by decide) (by decide) (by decide), zr 10 (by decide) (by decide) (by decide)⟩, ⟨by decide, by decide, by decide⟩, fun i _ => ⟨Nat.zero_le _, Nat.zero_le _, Nat.zero_le _⟩, fun i hi => absurd hi (by omega), fun _ _ _ => rfl⟩, ⟨zz 12 0 (by decide) (by decide) (by decide), Or.inr rfl⟩, fun j hj => zz _ 0 (by omega) (by omega) (by omega), ⟨rfl, fun b hb => nomatch hb⟩, rfl, fun q => absurd rfl q, ⟨rfl, by decide, fun j hj => absurd hj (by omega)⟩, fun j hj => absurd hj (by omega), fun j hj => absurd hj (by omega)⟩
  · exact ⟨⟨⟨rfl, rfl, zr 117 (by decide) (by decide) (by decide), zr 118 (by decide) (by decide) (by decide), zr 119 (by decide) (by decide) (by decide)⟩, ⟨by decide, by decide, by decide⟩, fun i _ => ⟨Nat.zero_le _, Nat.zero_le _, Nat.zero_le _⟩, fun i hi => absurd hi (by omega), fun _ _ _ => rfl⟩, ⟨rfl, fun b hb => nomatch hb⟩, rfl, fun q => absurd rfl q, ⟨rfl, by decide, fun j hj => absurd hj (by omega)⟩, fun j hj => absurd hj (by omega)⟩
theorem pq_over {args : Array Value} {s : State} (h : (Cond.arrayOver (.array .int)).before args s = true) : ∃ c k comp, s.vm.findClass ("[" ++ (FieldType.array .int).toString) = some c ∧ s.vm.classes[c]? = some k ∧ k.kind = .array comp (.array .int) := by
  simp only [Cond.before, Cond.holds, Cond.value, beq_iff_eq] at h
  cases hc : s.vm.findClass (FieldType.array .int).toString with
  | none => simp [hc] at h
  | some comp =>
    simp only [hc, Option.bind_some, Option.bind_eq_some_iff, Option.map_eq_some_iff] at h
    obtain ⟨c, hi, k, hk, hb⟩ := h
    cases hkind : k.kind with
    | array component ty =>
      rw [hkind] at hb
      simp at hb
      exact ⟨c, k, component, hb.2, hk, by rw [hkind, hb.1]⟩
    | _ => rw [hkind] at hb; simp at hb
theorem pq_arrT {s : State} {c : ClassId} {k : Class} {comp : ClassId} {ty : FieldType} (h1 : s.vm.classes[c]? = some k) (h2 : k.kind = .array comp ty) : ArrOfT s c ty := fun _ _ => ⟨fun _ q => (by cases q), k, h1, comp, h2⟩
theorem pq_lit {own tx : String} {k : Nat} {args : Array Value} {s : State} (h1 : (Cond.stringRef own k tx).before args s = true) (h2 : (Cond.exactly (.string own k) "java/lang/String").before args s = true) : ∃ sa, vk_R own k tx sa s := by
  obtain ⟨a, q⟩ : ∃ a, (Term.string own k).eval args s none [] s = some (.ref a) := by
    obtain ⟨a, cell, c9, k9, q, -⟩ := Cond.exactly_spec h2
    exact ⟨a, q⟩
  exact ⟨a, vk_R.of h1 q⟩
theorem pq_tb {w : Cond} (i : Nat) (h : tables_1[i]? = some w) : w ∈ lw_tbl := List.mem_append_right _ (List.mem_of_getElem? h)
set_option maxRecDepth 100000 in
theorem pq_litsW {args : Array Value} {s : State} (hts : ∀ w ∈ lw_tbl, w.before args s = true) (hs : ∀ w ∈ flatC (Jvm.Cond.and given_1 narrow_1), w.before args s = true) : ∀ q ∈ pq_strs, ∃ sa, vk_R q.1 q.2.1 q.2.2 sa s := by
  unfold pq_strs
  exact List.forall_mem_cons.mpr ⟨pq_lit (hts _ (pq_tb 263 (by decide +kernel))) (hs _ (by decide +kernel)), List.forall_mem_cons.mpr ⟨pq_lit (hts _ (pq_tb 319 (by decide +kernel))) (hs _ (by decide +kernel)), List.forall_mem_cons.mpr ⟨pq_lit (hts _ (pq_tb 326 (by decide +kernel))) (hs _ (by decide +kernel)), List.forall_mem_cons.mpr ⟨pq_lit (hts _ (pq_tb 327 (by decide +kernel))) (hs _ (by decide +kernel)), List.forall_mem_cons.mpr ⟨pq_lit (hts _ (pq_tb 353 (by decide +kernel))) (hs _ (by decide +kernel)), List.forall_mem_cons.mpr ⟨pq_lit (hts _ (pq_tb 367 (by decide +kernel))) (hs _ (by decide +kernel)), List.forall_mem_cons.mpr ⟨pq_lit (hts _ (pq_tb 388 (by decide +kernel))) (hs _ (by decide +kernel)), List.forall_mem_cons.mpr ⟨pq_lit (hts _ (pq_tb 402 (by decide +kernel))) (hs _ (by decide +kernel)), List.forall_mem_cons.mpr ⟨pq_lit (hts _ (pq_tb 462 (by decide +kernel))) (hs _ (by decide +kernel)), List.forall_mem_cons.mpr ⟨pq_lit (hts _ (pq_tb 463 (by decide +kernel))) (hs _ (by decide +kernel)), List.forall_mem_cons.mpr ⟨pq_lit (hts _ (pq_tb 475 (by decide +kernel))) (hs _ (by decide +kernel)), List.forall_mem_cons.mpr ⟨pq_lit (hts _ (pq_tb 492 (by decide +kernel))) (hs _ (by decide +kernel)), List.forall_mem_cons.mpr ⟨pq_lit (hts _ (pq_tb 508 (by decide +kernel))) (hs _ (by decide +kernel)), List.forall_mem_cons.mpr ⟨pq_lit (hts _ (pq_tb 521 (by decide +kernel))) (hs _ (by decide +kernel)), List.forall_mem_cons.mpr ⟨pq_lit (hts _ (pq_tb 534 (by decide +kernel))) (hs _ (by decide +kernel)), List.forall_mem_cons.mpr ⟨pq_lit (hts _ (pq_tb 542 (by decide +kernel))) (hs _ (by decide +kernel)), fun _ hz => absurd hz List.not_mem_nil⟩⟩⟩⟩⟩⟩⟩⟩⟩⟩⟩⟩⟩⟩⟩⟩
theorem pq_nxW {args : Array Value} {s : State} (hs : ∀ w ∈ flatC (Jvm.Cond.and given_1 narrow_1), w.before args s = true) : pq_Nx s := by
  unfold pq_Nx pq_nx
  exact List.forall_mem_cons.mpr ⟨va_Nc.of (args := args) (hs _ (by decide +kernel)), List.forall_mem_cons.mpr ⟨va_Nc.of (args := args) (hs _ (by decide +kernel)), List.forall_mem_cons.mpr ⟨va_Nc.of (args := args) (hs _ (by decide +kernel)), List.forall_mem_cons.mpr ⟨va_Nc.of (args := args) (hs _ (by decide +kernel)), List.forall_mem_cons.mpr ⟨va_Nc.of (args := args) (hs _ (by decide +kernel)), List.forall_mem_cons.mpr ⟨va_Nc.of (args := args) (hs _ (by decide +kernel)), List.forall_mem_cons.mpr ⟨va_Nc.of (args := args) (hs _ (by decide +kernel)), List.forall_mem_cons.mpr ⟨va_Nc.of (args := args) (hs _ (by decide +kernel)), List.forall_mem_cons.mpr ⟨va_Nc.of (args := args) (hs _ (by decide +kernel)), List.forall_mem_cons.mpr ⟨va_Nc.of (args := args) (hs _ (by decide +kernel)), List.forall_mem_cons.mpr ⟨va_Nc.of (args := args) (hs _ (by decide +kernel)), List.forall_mem_cons.mpr ⟨va_Nc.of (args := args) (hs _ (by decide +kernel)), fun _ hz => absurd hz List.not_mem_nil⟩⟩⟩⟩⟩⟩⟩⟩⟩⟩⟩⟩
theorem nv_vv {p : Program} {l : Launch} {e : Env} {R : Room} {s : State} {m : MethodId} {args : Array Value} {below : List Frame} {meth : Method} {c : Code} {Q : State → Prop} {D : va_G} {cI cL cG : ClassId} {cells slots pc : Nat} {vs : List (Option Value)} {st : List Value} (kk : VV p l e R s m args below meth c Q (pc_g D cI cL cG s.heap.size) cells slots h0 pc vs st) : NV p l e R s m args below meth c Q (pc_g D cI cL cG s.heap.size) s.heap.size cells slots 125 (e9 (pc_g D cI cL cG s.heap.size) s.heap.size) pc vs st := by
  intro H locs ls hP hS hl
  refine kk H locs ls (fun k q hk => ?_) ⟨fun i j p q hi hj hpq => ?_, fun k q hk => ?_⟩ ⟨hS.1, fun q h1 h2 => hS.2.1 q h1 (fun z => h2 (Or.inr z)), fun z hz => Or.inr (hS.2.2 z hz)⟩ hl
  · obtain ⟨h1, rfl⟩ := pq_get_iff hk
    have := hP.2 (pc_off k) (pc_lt h1)
    rw [e9_mk h1] at this
    exact this
  · obtain ⟨h1, rfl⟩ := pq_get_iff hi
    obtain ⟨h2, rfl⟩ := pq_get_iff hj
    have h3 : s.heap.size + pc_off i = s.heap.size + pc_off j := hpq
    rw [← pc_back h1, ← pc_back h2, show pc_off i = pc_off j by omega]
  · obtain ⟨h1, rfl⟩ := pq_get_iff hk
    exact Or.inl ⟨k, h1, rfl⟩

/-! part 30: the law (its head pasted from the skeleton; printed by wip/whole/p30.py) -/
/-! THE CLAIM OUT OF ONE WALK OF THE LAW'S BODY. Your part is whole_start (and what it stands on); all else here is the same for every law, but numbers. -/
def R_law : String := "PatternColumnsLaw"
def lw_P (b : Addr) (xs : List Int32) (args : Array Value) (s : State) : Prop := args = #[.ref b] ∧ s.IntsAt b xs ∧ xs.length ≤ 1536 ∧ (Jvm.Cond.and given_1 narrow_1).before args s = true
def lw_Q (_ : Array Value) (s : State) (o : Outcome) (t : State) : Prop := o = .returned (some (.int 1)) ∧ Framed s o t [] 616703 7245995
def lw_Z (below : List Frame) (a : Array Value) (s : State) : State → Prop := fun t => ∃ o, t.status = .running ∧ Ended t below o ∧ lw_Q a s o t
/-- the law's own end, with 1 on the stack, nothing written that was there before, its room as the claim has it -/
theorem lw_ret {p : Program} {l : Launch} {e : Env} {s : State} {m : MethodId} {below : List Frame} {meth : Method} {c : Code} {b : Nat} (hx : p.tables.exec = Jvm.exec) (hb : c.code = code) (hr : meth.sig.returnType = ret) (hlocks : meth.locks = false) {pc : Nat} {H : Heap} {ls : Array Slot} (hdg : decode code pc = .ok (.ireturn, 1)) : W p l e room_1 s m #[Value.ref b] below meth c H [] 616703 7245995 (lw_Z below #[Value.ref b] s) (F0 m pc ls [.int 1]) := by
  intro T hT X
  obtain ⟨fs, hret, hrun, hended, hW, hframe⟩ := X.leave (v := some (.int 1)) (hlocks := hlocks) (fun h => by rw [hr] at h; cases h)
  have hmeth' : T.vm.method? m = some meth := X.method'
  refine ⟨T.setFrames fs, ?_, .returned (some (.int 1)), hrun, hended, rfl, ⟨_, rfl⟩, hW, hframe⟩
  jvm_step X.here [X.here.top, hx, hb, hdg, hmeth', hr, ret, narrow_b1]
  (try refine ⟨rfl, ?_⟩); (try refine ⟨rfl, ?_⟩)
  first | (intro acts; rw [hret _ acts rfl rfl rfl]) | rw [hret _ _ rfl rfl rfl]
  exact Steps.refl _
/-- what holds at the law's entry: the machine, the code, the tables' words (any of lw_tbl by 'hts w (by decide +kernel)'), the script of L ints xs at the cell b, what the Statement gives of the start (any of its parts by flat_of_before) -/
def lw_At (p : Program) (s : State) (m : MethodId) (meth : Method) (c : Code) (b L : Nat) (xs : Nat → Int32) : Prop :=
  p.tables.exec = Jvm.exec ∧ c.code = code ∧ meth.sig.returnType = ret ∧ c.maxLocals = 7 ∧ s.vm.findClass R_law = some m.cls ∧ (∀ w ∈ lw_tbl, w.before #[Value.ref b] s = true) ∧ va_X b L xs s s.heap ∧ b < s.heap.size ∧ meth.locks = false ∧ (Jvm.Cond.and given_1 narrow_1).before #[Value.ref b] s = true
abbrev lw_vs (b : Nat) (g : pq_G) (i : Int32) (v5 v6 : Option Value) : List (Option Value) := [some (.ref b), some (.ref (g.2.2 0)), some (.ref (g.2.2 116)), some (.ref (g.2.2 124)), some (.int i), v5, v6]
/-- what holds through the law's loop -/
def lw_C (p : Program) (s : State) (m : MethodId) (meth : Method) (c : Code) (g : pq_G) (b L : Nat) (xs : Nat → Int32) : Prop :=
  CX p s m #[Value.ref b] c cL_law 7 RL g ∧ pq_X g s.heap.size s ∧ pq_Nx s ∧ meth.sig.returnType = ret ∧ meth.locks = false ∧ va_X b L xs s s.heap ∧ b < s.heap.size ∧ ∀ k, k < pq_N → s.heap.size ≤ g.2.2 k
section LWR
variable {p : Program} {l : Launch} {e : Env} {s : State} {m : MethodId} {below : List Frame} {meth : Method} {c : Code} {Q : State → Prop} {g : pq_G} {cells slots : Nat} {h : pq_H} {pc pc' : Nat} {vs : List (Option Value)} {st : List Value} {R : Room} {b L : Nat} {xs : Nat → Int32}
theorem lw_bA (C : lw_C p s m meth c g b L xs) : ¬ pq_A g s.heap.size b := by
  obtain ⟨-, -, -, -, -, -, h1, h2⟩ := C
  rintro (⟨k, hk, q⟩ | q)
  · have := h2 k hk
    omega
  · omega
theorem vv_sld (C : lw_C p s m meth c g b L xs) {i v : Int32} (hi : vp_in i L) (hv : xs i.toNatClampNeg = v) (hd : decode cL_law pc = .ok (.iaload, 1)) (hp : pc + 1 = pc') (kk : VV p l e R s m #[Value.ref b] below meth c Q g cells slots h pc' vs (.int v :: st)) : VV p l e R s m #[Value.ref b] below meth c Q g cells slots h pc vs (.int i :: .ref b :: st) := by
  intro H locs ls hP hD hS hl
  subst hp hv
  exact va_sld C.1.1.1 C.1.1.2.1 C.2.2.2.2.2.1 C.2.2.2.2.2.2.1 (lw_bA C) hS hi hd (kk H locs ls hP hD hS hl)
theorem vv_slen (C : lw_C p s m meth c g b L xs) (hd : decode cL_law pc = .ok (.arraylength, 1)) (hp : pc + 1 = pc') (kk : VV p l e R s m #[Value.ref b] below meth c Q g cells slots h pc' vs (.int (nI L) :: st)) : VV p l e R s m #[Value.ref b] below meth c Q g cells slots h pc vs (.ref b :: st) := by
  intro H locs ls hP hD hS hl
  subst hp
  exact va_slen C.1.1.1 C.1.1.2.1 C.2.2.2.2.2.1 C.2.2.2.2.2.2.1 (lw_bA C) hS hd (kk H locs ls hP hD hS hl)
theorem vv_tabIn (C : lw_C p s m meth c g b L xs) {dflt lo hi : Int} {offs : Array Int} {len : Nat} {x : Int32} {off : Int} {tgt : Nat} (hd : decode cL_law pc = .ok (.tableswitch dflt lo hi offs, len)) (h1 : ¬ x.toInt < lo) (h2 : ¬ hi < x.toInt) (ho : offs[(x.toInt - lo).toNat]? = some off) (ht : (pc : Int) + off = (tgt : Int)) (kk : VV p l e R s m #[Value.ref b] below meth c Q g cells slots h tgt vs st) : VV p l e R s m #[Value.ref b] below meth c Q g cells slots h pc vs (.int x :: st) :=
  fun H locs ls hP hD hS hl => lv_tableIn C.1.1.1 C.1.1.2.1 hd h1 h2 ho ht (kk H locs ls hP hD hS hl)
theorem vv_tabOut (C : lw_C p s m meth c g b L xs) {dflt lo hi : Int} {offs : Array Int} {len : Nat} {x : Int32} {tgt : Nat} (hd : decode cL_law pc = .ok (.tableswitch dflt lo hi offs, len)) (h1 : x.toInt < lo ∨ hi < x.toInt) (ht : (pc : Int) + dflt = (tgt : Int)) (kk : VV p l e R s m #[Value.ref b] below meth c Q g cells slots h tgt vs st) : VV p l e R s m #[Value.ref b] below meth c Q g cells slots h pc vs (.int x :: st) :=
  fun H locs ls hP hD hS hl => lv_tableOut C.1.1.1 C.1.1.2.1 hd h1 ht (kk H locs ls hP hD hS hl)
/-- the law's end -/
theorem lw_end (C : lw_C p s m meth c g b L xs) (hc : cells ≤ 616703) (hs : slots ≤ 7245995) : VV p l e room_1 s m #[Value.ref b] below meth c (lw_Z below #[Value.ref b] s) g cells slots h 872 vs [] := by
  refine vv_iconst C.1 dL_law_872 (v := 1) (by decide) (pc' := 873) rfl ?_
  intro H locs ls hP hD hS hl
  refine va_forget (fun q hq => ?_) ?_
  · rcases hS.2.2 q hq with ⟨k, hk, z⟩ | z
    · rw [z]; exact C.2.2.2.2.2.2.2 k hk
    · exact z
  · exact W.widen hc hs (lw_ret C.1.1.1 C.1.1.2.1 C.2.2.2.1 C.2.2.2.2.1 dL_law_873)
end LWR
theorem lw_cmp0 {x y : Int32} (h : x = y) : lg_cmp x.toInt64 y.toInt64 = 0 := by
  subst h
  unfold lg_cmp
  rw [if_neg (Int64.lt_irrefl), if_pos rfl]
theorem lw_and15 (v : Int32) : ∃ j : Nat, j < 16 ∧ v &&& 15 = nI j := by
  refine ⟨v.toBitVec.toNat &&& 15, ?_, ?_⟩
  · have := Nat.and_le_right (n := v.toBitVec.toNat) (m := 15)
    omega
  · apply Int32.toBitVec_inj.mp
    apply BitVec.eq_of_toNat_eq
    have h1 := Nat.and_le_right (n := v.toBitVec.toNat) (m := 15)
    have e1 : (nI (v.toBitVec.toNat &&& 15)).toBitVec = BitVec.ofNat 32 (v.toBitVec.toNat &&& 15) := rfl
    rw [e1, BitVec.toNat_ofNat, Nat.mod_eq_of_lt (by omega), Int32.toBitVec_and, BitVec.toNat_and]
    rfl
/-- what is behind a case -/
def lw_T (p : Program) (l : Launch) (e : Env) (s : State) (m : MethodId) (below : List Frame) (meth : Method) (c : Code) (g : pq_G) (b : Nat) (cells slots : Nat) (i : Int32) : Prop :=
  ∀ (h2 : pq_H) (cells' slots' : Nat) (v5 v6 : Option Value), pq_R h2 → cells' ≤ cells + 3 → slots' ≤ slots + 18 → VV p l e room_1 s m #[Value.ref b] below meth c (lw_Z below #[Value.ref b] s) g cells' slots' h2 866 (lw_vs b g i v5 v6) []

/-! part 33: the making: the cells at sz, sz + 1, .. in the order in which they are made; E j is what cell j holds -/
def pq_AO (U : State) : Prop := (Cond.arrayOver (.array .int)).before #[] U = true
theorem pq_AO.use {A : Array Value} {U : State} (h : pq_AO U) : (Cond.arrayOver (.array .int)).before A U = true := h
theorem pq_AO.warm {s U : State} (hW : s.WarmedH U.vm) (h : pq_AO s) : pq_AO U := by
  have h2 : (Cond.arrayOver (.array .int)).before #[] (s.setVm U.vm) = true := by rw [Cond.arrayOver_setVmC hW.alike]; exact h
  exact h2
theorem pq_AO.calling {U : State} {f : JFrame} {mk : MethodId} {a : Array Value} (h : pq_AO U) : pq_AO (U.calling f mk a) := h
def cn_P (D : va_G) (sz n : Nat) (E : Nat → va_E) (H : Heap) : Prop := H.size = sz + n ∧ ∀ j, j < n → va_at D vwCl (sz + j, E j) H
theorem cn_P.congr {D : va_G} {sz n : Nat} {E E' : Nat → va_E} {H : Heap} (h : cn_P D sz n E H) (e : ∀ j, j < n → E j = E' j) : cn_P D sz n E' H := ⟨h.1, fun j hj => by rw [← e j hj]; exact h.2 j hj⟩
theorem cn_grow {A : Nat → Prop} {H0 H H1 : Heap} {locs : List Loc} (hS : va_S A H0 H locs) (z : H.size ≤ H1.size) (o : ∀ q : Nat, q < H.size → H1[q]? = H[q]?) : va_S A H0 H1 locs := ⟨Nat.le_trans hS.1 z, fun x h1 h2 => (o x (Nat.lt_of_lt_of_le h1 hS.1)).trans (hS.2.1 x h1 h2), hS.2.2⟩
def NV (p : Program) (l : Launch) (e : Env) (R : Room) (s : State) (m : MethodId) (args : Array Value) (below : List Frame) (meth : Method) (c : Code) (Q : State → Prop) (g : pq_G) (sz cells slots n : Nat) (E : Nat → va_E) (pc : Nat) (vs : List (Option Value)) (st : List Value) : Prop :=
  ∀ (H : Heap) (locs : List Loc) (ls : Array Slot), cn_P g.1 sz n E H → va_S (fun q => sz ≤ q) s.heap H locs → pq_lh ls vs → W p l e R s m args below meth c H locs cells slots Q (F0 m pc ls st)
def cn_arr (g : pq_G) (N : Nat) : va_E := .inl (g.2.1.1, N, .inl (fun _ => 0))
def cn_out (g : pq_G) (sz n N : Nat) : va_E := .inl (g.2.1.2.2, N, .inr (.inr (.inr (.inr (fun i => if i < N then some (sz + n + 1 + i) else none)))))
def cn_grid (g : pq_G) (sz n N K : Nat) (E : Nat → va_E) (j : Nat) : va_E := if j < n then E j else if j = n then cn_out g sz n N else cn_arr g K
/-- a constructor's contract -/
def NI (l : Launch) (y : MethodName) (ws : List Cond) (rm : Room) (g : pq_G) (sz n n' : Nat) (E E' : Nat → va_E) (mc ms : Nat) (av : List Value) : Prop :=
  Met l y ws rm (va_Pc av (fun U => cn_P g.1 sz n E U.heap ∧ va_K g.1 vwCl (pq_tys g) U ∧ pq_AO U)) (va_Qv (fun _ : Unit => True) (fun _ t => cn_P g.1 sz n' E' t.heap) (fun q => sz ≤ q)) mc ms (fun q => sz ≤ q)
section MAK
variable {p : Program} {l : Launch} {e : Env} {R : Room} {s : State} {m : MethodId} {args : Array Value} {below : List Frame} {meth : Method} {c : Code} {Q : State → Prop} {g : pq_G} {sz cells slots n n' : Nat} {E E' : Nat → va_E} {pc pc' : Nat} {vs : List (Option Value)} {st st0 rest : List Value}
variable {cc bytes : ByteArray} {nL maxL index mc ms : Nat} {own : String} {y : MethodName} {rm : Room} {av As : List Value}
theorem NI.of (hy : plainName y.cls = true) (hyn : y.name = "<init>") (hc : ∀ w ∈ av, w.category = 1) (hn : av.length ≤ maxL)
    (body : ∀ (p : Program) (e : Env) (s : State) (m : MethodId) (below : List Frame) (meth : Method) (c : Code), CX p s m av.toArray c cc maxL y.cls g → pq_AO s → meth.sig.returnType = none → meth.locks = false → meth.name = "<init>" →
      NV p l e rm s m av.toArray below meth c (MQ below (va_Qv (fun _ : Unit => True) (fun _ t => cn_P g.1 sz n' E' t.heap) (fun q => sz ≤ q)) av.toArray s mc ms (fun q => sz ≤ q)) g sz 0 0 n E 0 (pq_ent maxL av) []) : NI l y (Cond.code y cc maxL none :: pq_W) rm g sz n n' E E' mc ms av := by
  refine Met.ofW (cc := cc) (maxL := maxL) (ret := none) hy rfl ?_
  intro p e s m args below meth c s₁ B hml hv
  obtain ⟨rfl, hP, hK, hAO⟩ := hv
  have hts : ∀ w ∈ pq_W, w.before av.toArray s = true := fun w hw => atoms_spec (ws := Cond.code y cc maxL none :: pq_W) B.pre w (List.mem_cons_of_mem _ hw)
  have hown : s.vm.findClass y.cls = some m.cls := findClass_of_methodNamed B.named
  have hin : meth.name = "<init>" := (name_of_methodNamed B.named B.method).1.trans hyn
  have hl := lv_entry av (n := maxL) (by rw [pq_sl hc]; exact hn)
  rw [lg_entry_eq]
  exact body p e s m below meth c ⟨⟨B.exec, B.bytes, hml, hown, hts⟩, hK⟩ hAO B.returns B.notSynchronized hin s.heap [] _ hP va_S.rf (pq_entry hc hn hl)
theorem nv_vret (cx : CX p s m args c cc nL own g) (hr : meth.sig.returnType = none) (hlocks : meth.locks = false) (hd : decode cc pc = .ok (.return_, 1)) (hc : cells ≤ mc) (hs : slots ≤ ms) (hE : ∀ j, j < n → E j = E' j) :
    NV p l e R s m args below meth c (MQ below (va_Qv (fun _ : Unit => True) (fun _ t => cn_P g.1 sz n E' t.heap) (fun q => sz ≤ q)) args s mc ms (fun q => sz ≤ q)) g sz cells slots n E pc vs [] := by
  intro H locs ls hP hS hl
  refine W.widen (k := mc) (n := ms) hc hs ?_
  exact W.vret cx.1.1 cx.1.2.1 hr (fun t ht hW => ⟨⟨(), rfl, trivial, by show cn_P g.1 sz n E' t.heap; rw [ht]; exact hP.congr hE⟩, hS.F ht⟩) hS.2.2 hd hlocks
theorem nv_iconst (cx : CX p s m args c cc nL own g) {k : Int} {v : Int32} (hd : decode cc pc = .ok (.iconst k, 1)) (hv : Int32.ofInt k = v) (hp : pc + 1 = pc') (kk : NV p l e R s m args below meth c Q g sz cells slots n E pc' vs (.int v :: st)) : NV p l e R s m args below meth c Q g sz cells slots n E pc vs st :=
  fun H locs ls hP hS hl => by subst hp; exact lv_iconst cx.1.1 cx.1.2.1 hd hv (kk H locs ls hP hS hl)
theorem nv_bipush (cx : CX p s m args c cc nL own g) {k : Int} {v : Int32} (hd : decode cc pc = .ok (.bipush k, 2)) (hv : (Int8.ofInt k).toInt32 = v) (hp : pc + 2 = pc') (kk : NV p l e R s m args below meth c Q g sz cells slots n E pc' vs (.int v :: st)) : NV p l e R s m args below meth c Q g sz cells slots n E pc vs st :=
  fun H locs ls hP hS hl => by subst hp; exact lv_bipush cx.1.1 cx.1.2.1 hd hv (kk H locs ls hP hS hl)
theorem nv_sipush (cx : CX p s m args c cc nL own g) {k : Int} {v : Int32} (hd : decode cc pc = .ok (.sipush k, 3)) (hv : (Int16.ofInt k).toInt32 = v) (hp : pc + 3 = pc') (kk : NV p l e R s m args below meth c Q g sz cells slots n E pc' vs (.int v :: st)) : NV p l e R s m args below meth c Q g sz cells slots n E pc vs st :=
  fun H locs ls hP hS hl => by subst hp; exact lv_sipush cx.1.1 cx.1.2.1 hd hv (kk H locs ls hP hS hl)
theorem nv_aload_n (cx : CX p s m args c cc nL own g) {k : Fin 4} {i : Nat} {x : Nat} (hd : decode cc pc = .ok (.aload_n k, 1)) (hi : (k : Nat) = i) (hv : vs[i]? = some (some (.ref x))) (hp : pc + 1 = pc') (kk : NV p l e R s m args below meth c Q g sz cells slots n E pc' vs (.ref x :: st)) : NV p l e R s m args below meth c Q g sz cells slots n E pc vs st :=
  fun H locs ls hP hS hl => by subst hp; exact lv_aload_n cx.1.1 cx.1.2.1 hd hi (hl.at hv) (kk H locs ls hP hS hl)
theorem nv_astore_n (cx : CX p s m args c cc nL own g) {k : Fin 4} {i : Nat} {x : Nat} (hd : decode cc pc = .ok (.astore_n k, 1)) (hi : (k : Nat) = i) (hn : i < vs.length) (hp : pc + 1 = pc') (kk : NV p l e R s m args below meth c Q g sz cells slots n E pc' (vs.set i (some (.ref x))) st) : NV p l e R s m args below meth c Q g sz cells slots n E pc vs (.ref x :: st) :=
  fun H locs ls hP hS hl => by subst hp; exact lv_astore_n cx.1.1 cx.1.2.1 hd hi hl.has hn rfl (fun ls9 hl9 => kk H locs ls9 hP hS (hl.store hn rfl hl9))
theorem nv_istore (cx : CX p s m args c cc nL own g) {i : Nat} {x : Int32} (hd : decode cc pc = .ok (.istore i, 2)) (hn : i < vs.length) (hp : pc + 2 = pc') (kk : NV p l e R s m args below meth c Q g sz cells slots n E pc' (vs.set i (some (.int x))) st) : NV p l e R s m args below meth c Q g sz cells slots n E pc vs (.int x :: st) :=
  fun H locs ls hP hS hl => by subst hp; exact lv_istore cx.1.1 cx.1.2.1 hd hl.has hn rfl (fun ls9 hl9 => kk H locs ls9 hP hS (hl.store hn rfl hl9))
theorem nv_dup (cx : CX p s m args c cc nL own g) {v : Value} (hd : decode cc pc = .ok (.dup, 1)) (hv : v.category = 1) (hp : pc + 1 = pc') (kk : NV p l e R s m args below meth c Q g sz cells slots n E pc' vs (v :: v :: st)) : NV p l e R s m args below meth c Q g sz cells slots n E pc vs (v :: st) :=
  fun H locs ls hP hS hl => by subst hp; exact lv_dup cx.1.1 cx.1.2.1 hd hv (kk H locs ls hP hS hl)
theorem nv_obj (cx : CX p s m args c cc nL own g) {a : Nat} (hlink : Cond.methodLink own index Lib.objectInit ∈ pq_W) (hframes : 1 ≤ R.frames) (hlocals : (st.map fun v => v.category).sum + 12 ≤ R.locals) (hvs : vs.length = nL) (hd : decode cc pc = .ok (.invokespecial index, 3)) (hp : pc + 3 = pc') (kk : NV p l e R s m args below meth c Q g sz cells slots n E pc' vs st) : NV p l e R s m args below meth c Q g sz cells slots n E pc vs (.ref a :: st) := by
  intro H locs ls hP hS hl
  subst hp
  obtain ⟨⟨hx, hb, hml, hown, hts⟩, hK⟩ := cx
  refine W.objInit hx hb hown (hts _ hlink) (hts _ ww_22) (hts _ ww_23) rfl (by rw [hml]; exact hl.1.trans hvs) rfl hd hframes ?_ (kk H locs ls hP hS hl)
  have e1 : 2 * (F0 m pc ls (.ref a :: st)).monitorRoom = 0 := rfl
  omega
theorem nv_new (cx : CX p s m args c cc nL own g) {C : String} {T : u_T} {NN ci : Nat} (hci : vwCl[ci]? = some (C, T, NN)) (hin : ∀ w ∈ u_ws C T NN, w ∈ pq_W) (ty : Nat → FieldType) (hty : ∀ k, k < NN → parseFieldDescriptor (T k).2.2.1 = some (ty k)) (hcl : Cond.classLink own index C ∈ pq_W) (hinst : Cond.instantiable C NN ∈ pq_W) (hini : Cond.initialized C ∈ pq_W) {fs : List Value} (hfs : ∀ j, j < NN → defaultValue (ty j) = vp_V fs j) (hcells : cells + 1 ≤ R.cells) (hslots : slots + NN ≤ R.slots) (hd : decode cc pc = .ok (.new index, 3)) (hp : pc + 3 = pc')
    (kk : NV p l e R s m args below meth c Q g sz (cells + 1) (slots + NN) (n + 1) (va_up E n (.inr (ci, fs))) pc' vs (.ref (sz + n) :: st)) : NV p l e R s m args below meth c Q g sz cells slots n E pc vs st := by
  intro H locs ls hP hS hl
  subst hp
  obtain ⟨⟨hx, hb, hml, hown, hts⟩, hK⟩ := cx
  have hKn := hK.1 ci _ hci
  refine W.newcK hx hb hown (hts _ hcl) (hts _ hinst) (hts _ hini) rfl hd hcells hslots hKn.2.1 hP.1 fun H1 kC hkC e1 z1 o1 => ?_
  refine kk H1 locs ls ⟨by rw [z1]; omega, fun j hj => ?_⟩ (cn_grow hS (by rw [z1, hP.1]; omega) (fun q hq => o1 q (by rw [← hP.1]; exact hq))) hl
  by_cases q : j = n
  · subst q
    rw [va_up_self]
    exact ⟨_, hci, (u_born ty hts hin hKn hkC e1 hty).to hfs⟩
  · rw [va_up_ne _ _ q]
    exact (hP.2 j (by omega)).kept (o1 _ (by show sz + j < sz + n; omega))
theorem nv_newa (cx : CX p s m args c cc nL own g) (harr : Cond.arrayClass .int ∈ pq_W) {a : Int32} {N : Nat} (hn : ¬ a < 0) (hN : a.toNatClampNeg = N) (hbytes : N * componentBytes .int ≤ 536870912) (hcells : cells + 1 ≤ R.cells) (hslots : slots + N ≤ R.slots) (hd : decode cc pc = .ok (.newarray .int, 2)) (hp : pc + 2 = pc')
    (kk : NV p l e R s m args below meth c Q g sz (cells + 1) (slots + N) (n + 1) (va_up E n (cn_arr g N)) pc' vs (.ref (sz + n) :: st)) : NV p l e R s m args below meth c Q g sz cells slots n E pc vs (.int a :: st) := by
  intro H locs ls hP hS hl
  subst hp
  obtain ⟨⟨hx, hb, hml, hown, hts⟩, hK⟩ := cx
  refine va_newaK hx hb (atype := .int) (hts _ harr) rfl hd rfl hn hN hbytes hcells hslots hP.1 fun H1 cA e1 z1 o1 hAr hNm => ?_
  have hc9 : s.vm.findClass ("[" ++ FieldType.int.toString) = some g.2.1.1 := (hK.2 0 _ rfl).2
  have hcA : cA = g.2.1.1 := Option.some.inj (hNm.symm.trans hc9)
  subst hcA
  refine kk H1 locs ls ⟨by rw [z1]; omega, fun j hj => ?_⟩ (cn_grow hS (by rw [z1, hP.1]; omega) (fun q hq => o1 q (by rw [← hP.1]; exact hq))) hl
  by_cases q : j = n
  · subst q
    rw [va_up_self]
    exact e1
  · rw [va_up_ne _ _ q]
    exact (hP.2 j (by omega)).kept (o1 _ (by show sz + j < sz + n; omega))
theorem nv_newl (cx : CX p s m args c cc nL own g) (harr : Cond.arrayClass .long ∈ pq_W) {a : Int32} {N : Nat} (hn : ¬ a < 0) (hN : a.toNatClampNeg = N) (hbytes : N * componentBytes .long ≤ 536870912) (hcells : cells + 1 ≤ R.cells) (hslots : slots + N ≤ R.slots) (hd : decode cc pc = .ok (.newarray .long, 2)) (hp : pc + 2 = pc')
    (kk : NV p l e R s m args below meth c Q g sz (cells + 1) (slots + N) (n + 1) (va_up E n (.inl (g.2.1.2.1, N, .inr (.inl (fun _ => 0))))) pc' vs (.ref (sz + n) :: st)) : NV p l e R s m args below meth c Q g sz cells slots n E pc vs (.int a :: st) := by
  intro H locs ls hP hS hl
  subst hp
  obtain ⟨⟨hx, hb, hml, hown, hts⟩, hK⟩ := cx
  refine va_newaK hx hb (atype := .long) (hts _ harr) rfl hd rfl hn hN hbytes hcells hslots hP.1 fun H1 cA e1 z1 o1 hAr hNm => ?_
  have hc9 : s.vm.findClass ("[" ++ FieldType.long.toString) = some g.2.1.2.1 := (hK.2 1 _ rfl).2
  have hcA : cA = g.2.1.2.1 := Option.some.inj (hNm.symm.trans hc9)
  subst hcA
  refine kk H1 locs ls ⟨by rw [z1]; omega, fun j hj => ?_⟩ (cn_grow hS (by rw [z1, hP.1]; omega) (fun q hq => o1 q (by rw [← hP.1]; exact hq))) hl
  by_cases q : j = n
  · subst q
    rw [va_up_self]
    exact e1
  · rw [va_up_ne _ _ q]
    exact (hP.2 j (by omega)).kept (o1 _ (by show sz + j < sz + n; omega))
theorem nv_mna (cx : CX p s m args c cc nL own g) (hAO : pq_AO s) (hcl : Cond.classLink own index "[[I" ∈ pq_W) (harr : Cond.arrayClass .int ∈ pq_W) {a k : Int32} {N K : Nat} (hn : ¬ a < 0) (hk : ¬ k < 0) (hN : a.toNatClampNeg = N) (hM : k.toNatClampNeg = K) (hb1 : N * 4 ≤ 536870912) (hb2 : K * componentBytes .int ≤ 536870912) (hb3 : K ≤ 536870912) (hcells : cells + (1 + N) ≤ R.cells) (hslots : slots + (N + N * K) ≤ R.slots) (hd : decode cc pc = .ok (.multianewarray index 2, 4)) (hp : pc + 4 = pc')
    (kk : NV p l e R s m args below meth c Q g sz (cells + 1 + N) (slots + N + N * K) (n + 1 + N) (cn_grid g sz n N K E) pc' vs (.ref (sz + n) :: st)) : NV p l e R s m args below meth c Q g sz cells slots n E pc vs (.int k :: .int a :: st) := by
  intro H locs ls hP hS hl
  subst hp hN hM
  obtain ⟨⟨hx, hb, hml, hown, hts⟩, hK⟩ := cx
  intro T hT Xs
  obtain ⟨vm₁, cA, comp, -, fA, fC, hO, -, X', step⟩ := Xs.multianewarray2F (ty := .int) hx hown (hts _ hcl) hAO.use (hts _ harr) (g := F0 m pc ls (.int k :: .int a :: st)) rfl (by rw [hb]; exact hd) rfl hn hk hb1 hb2 hb3 rfl rfl hcells hslots
  have hc9 : s.vm.findClass (FieldType.array .int).toString = some g.2.1.1 := (hK.2 0 _ rfl).2
  have hc8 : s.vm.findClass ("[" ++ (FieldType.array .int).toString) = some g.2.1.2.2 := (hK.2 2 _ rfl).2
  have ec : comp = g.2.1.1 := Option.some.inj (fC.symm.trans hc9)
  have eA : cA = g.2.1.2.2 := Option.some.inj (fA.symm.trans hc8)
  subst ec eA
  generalize hF : Jvm.Free.Multi.fill (T.setVm vm₁) g.2.1.2.2 g.2.1.1 a.toNatClampNeg k.toNatClampNeg (defaultValue .int) a.toNatClampNeg = F at X' step
  have hTh : (T.setVm vm₁).heap = H := hT
  obtain ⟨f1, f2, -, -⟩ := Jvm.Free.Multi.fill_facts (T.setVm vm₁) g.2.1.2.2 g.2.1.1 a.toNatClampNeg k.toNatClampNeg (defaultValue .int) a.toNatClampNeg
  rw [hF, hTh] at f1 f2
  have hold : ∀ x : Nat, x < H.size → F.heap[x]? = H[x]? := fun x hx => by
    have := Jvm.Free.Multi.fill_old (T.setVm vm₁) g.2.1.2.2 g.2.1.1 a.toNatClampNeg k.toNatClampNeg (defaultValue .int) (a := x) (by rw [hTh]; exact hx) a.toNatClampNeg
    rw [hF, hTh] at this
    exact this
  have hrow : ∀ j : Nat, j < a.toNatClampNeg → F.heap[H.size + 1 + j]? = some (vp_cell g.2.1.1 (k.toNatClampNeg, .inl (fun _ => 0))) := fun j hj => by
    have := Jvm.Free.Multi.fill_inner (T.setVm vm₁) g.2.1.2.2 g.2.1.1 a.toNatClampNeg k.toNatClampNeg (defaultValue .int) a.toNatClampNeg j hj
    rw [hF, hTh] at this
    rw [this]
    refine congrArg some ?_
    rw [vp_cell_i, ← arrV_new]
    rfl
  have hout : Jvm.Free.Multi.outerC g.2.1.2.2 a.toNatClampNeg H.size a.toNatClampNeg = vp_cell g.2.1.2.2 (a.toNatClampNeg, .inr (.inr (.inr (.inr (fun i => if i < a.toNatClampNeg then some (H.size + 1 + i) else none))))) := by
    rw [vp_cell_q]
    exact vr_outer g.2.1.2.2 a.toNatClampNeg H.size a.toNatClampNeg
  rw [hout] at f2
  rw [hP.1] at f1 f2 hrow
  have hq : ∀ j, j < n + 1 + a.toNatClampNeg → va_at g.1 vwCl (sz + j, cn_grid g sz n a.toNatClampNeg k.toNatClampNeg E j) F.heap := by
    intro j hj
    unfold cn_grid
    by_cases q : j < n
    · rw [if_pos q]
      exact (hP.2 j q).kept (hold _ (by rw [hP.1]; show sz + j < sz + n; omega))
    · rw [if_neg q]
      by_cases q2 : j = n
      · subst q2
        rw [if_pos rfl]
        exact f2
      · rw [if_neg q2]
        have := hrow (j - n - 1) (by omega)
        rw [show sz + n + 1 + (j - n - 1) = sz + j by omega] at this
        exact this
  obtain ⟨t, a1, b1⟩ := kk F.heap locs ls ⟨by rw [f1]; omega, hq⟩ (cn_grow hS (by rw [f1, hP.1]; omega) hold) hl F rfl X'
  refine ⟨t, step t ?_, b1⟩
  have e9 : T.heap.size = sz + n := by rw [hT]; exact hP.1
  rw [e9]
  exact a1
theorem nv_putF (cx : CX p s m args c cc nL own g) (hin2 : meth.name = "<init>") {C : String} {T : u_T} {NN ci : Nat} (j k : Nat) (hj : j < n) {fs : List Value} (hE : E j = .inr (ci, fs)) (hci : vwCl[ci]? = some (C, T, NN)) (hk : k < NN) (hin : ∀ w ∈ u_ws C T NN, w ∈ pq_W) (ty0 : Nat → FieldType) (hty : ∀ k, k < NN → parseFieldDescriptor (T k).2.2.1 = some (ty0 k)) (hnm : ∀ a, a < NN → ∀ b, b < NN → a ≠ b → (T a).2.1 ≠ (T b).2.1) (hfin : (T k).2.2.2 = true) (hdecl : (T k).1 = own) {v : Value} (hn : narrow (ty0 k) v = v) (hfit : fits (ty0 k) v = true) (hl9 : k < fs.length) (hlink : Cond.fieldLink own index (T k).1 (T k).2.1 (T k).2.2.1 ∈ pq_W) (hd : decode cc pc = .ok (.putfield index, 3)) (hp : pc + 3 = pc')
    (kk : NV p l e R s m args below meth c Q g sz cells slots n (va_up E j (.inr (ci, fs.set k v))) pc' vs st) : NV p l e R s m args below meth c Q g sz cells slots n E pc vs (v :: .ref (sz + j) :: st) := by
  intro H locs ls hP hS hl
  subst hp
  obtain ⟨⟨hx, hb, hml, hown, hts⟩, hK⟩ := cx
  have hap := va_apart (own := own) hts hin ty0 hty hnm hK hci
  have hat := hP.2 j hj
  rw [hE] at hat
  obtain ⟨r, h1, cell, q1, q2, q3, q4⟩ := hat
  have hr : r = (C, T, NN) := Option.some.inj (h1.symm.trans hci)
  subst hr
  obtain ⟨hSl, hfc, kC, hkC, hkind⟩ := hK.1 ci _ hci
  obtain ⟨cf, kf, fi, f, hi, hsl⟩ := hSl k hk
  have hlay := hts _ (hin _ (u_in_lay hk))
  unfold u_lay at hlay
  rw [if_pos hfin] at hlay
  have hst := (u_facts hfc hkC (u_lays hts hin hk) hi).1
  have hcf : m.cls = cf := by
    obtain ⟨_, _, c', _, _, _, -, -, hf', -, -, -, hown2, -⟩ := Cond.laysFinal_spec hlay
    have e1 : c' = cf := by have := hi.symm.trans hf'; simp at this; exact this.1.symm
    rw [hdecl] at hown2
    rw [← e1]; exact Option.some.inj (hown.symm.trans hown2)
  have h6 := u_fits hfc hkC hkind (Or.inr hlay) hi (hty k hk) hn hfit
  refine W.putFinK hx hb hown (hts _ hlink) hi hst hcf hin2 (by rw [q2]; exact h6) q1 q3 (by rw [hsl]; exact k2_hasslot (q4 k hk)) rfl rfl hd fun H' e1 e2 e3 => ?_
  rw [hsl] at e1 ⊢
  refine kk H' _ ls ⟨by rw [e2]; exact hP.1, fun i hi9 => ?_⟩ (hS.put e2 e3 (Nat.le_add_right sz j)) hl
  by_cases q : i = j
  · subst q
    rw [va_up_self]
    exact ⟨_, hci, t_OB.to (V := updV (vp_V fs) k v) ⟨_, e1, q2, q3, t_set q4 hap hk v⟩ (fun j _ => vp_updV_set hl9 v j)⟩
  · rw [va_up_ne _ _ q]
    exact (hP.2 i hi9).kept (e3 _ (by show sz + i ≠ sz + j; omega))
theorem nv_put (cx : CX p s m args c cc nL own g) {C : String} {T : u_T} {NN ci : Nat} (j k : Nat) (hj : j < n) {fs : List Value} (hE : E j = .inr (ci, fs)) (hci : vwCl[ci]? = some (C, T, NN)) (hk : k < NN) (hin : ∀ w ∈ u_ws C T NN, w ∈ pq_W) (ty0 : Nat → FieldType) (hty : ∀ k, k < NN → parseFieldDescriptor (T k).2.2.1 = some (ty0 k)) (hnm : ∀ a, a < NN → ∀ b, b < NN → a ≠ b → (T a).2.1 ≠ (T b).2.1) (hfin : (T k).2.2.2 = false) {v : Value} (hn : narrow (ty0 k) v = v) (hfit : fits (ty0 k) v = true) (hl9 : k < fs.length) (hlink : Cond.fieldLink own index (T k).1 (T k).2.1 (T k).2.2.1 ∈ pq_W) (hd : decode cc pc = .ok (.putfield index, 3)) (hp : pc + 3 = pc')
    (kk : NV p l e R s m args below meth c Q g sz cells slots n (va_up E j (.inr (ci, fs.set k v))) pc' vs st) : NV p l e R s m args below meth c Q g sz cells slots n E pc vs (v :: .ref (sz + j) :: st) := by
  intro H locs ls hP hS hl
  subst hp
  obtain ⟨⟨hx, hb, hml, hown, hts⟩, hK⟩ := cx
  have hap := va_apart (own := own) hts hin ty0 hty hnm hK hci
  have hat := hP.2 j hj
  rw [hE] at hat
  obtain ⟨r, h1, cell, q1, q2, q3, q4⟩ := hat
  have hr : r = (C, T, NN) := Option.some.inj (h1.symm.trans hci)
  subst hr
  obtain ⟨hSl, hfc, kC, hkC, hkind⟩ := hK.1 ci _ hci
  obtain ⟨cf, kf, fi, f, hi, hsl⟩ := hSl k hk
  have hlay := hts _ (hin _ (u_in_lay hk))
  unfold u_lay at hlay
  rw [if_neg (by rw [hfin]; decide)] at hlay
  have hst := (u_facts hfc hkC (u_lays hts hin hk) hi).1
  have h6 := u_store hfc hkC hkind hlay hi (hty k hk) hn hfit
  refine W.putK hx hb (f := f) ⟨hown, hts _ hlink, ⟨_, _, _, hi⟩, hst⟩ (by rw [q2]; exact h6) q1 q3 (by rw [hsl]; exact k2_hasslot (q4 k hk)) rfl rfl hd fun H' e1 e2 e3 => ?_
  rw [hsl] at e1 ⊢
  refine kk H' _ ls ⟨by rw [e2]; exact hP.1, fun i hi9 => ?_⟩ (hS.put e2 e3 (Nat.le_add_right sz j)) hl
  by_cases q : i = j
  · subst q
    rw [va_up_self]
    exact ⟨_, hci, t_OB.to (V := updV (vp_V fs) k v) ⟨_, e1, q2, q3, t_set q4 hap hk v⟩ (fun j _ => vp_updV_set hl9 v j)⟩
  · rw [va_up_ne _ _ q]
    exact (hP.2 i hi9).kept (e3 _ (by show sz + i ≠ sz + j; omega))
theorem nv_get (cx : CX p s m args c cc nL own g) {C : String} {T : u_T} {NN ci : Nat} (j k : Nat) (hj : j < n) {fs : List Value} (hE : E j = .inr (ci, fs)) (hci : vwCl[ci]? = some (C, T, NN)) (hk : k < NN) (hin : ∀ w ∈ u_ws C T NN, w ∈ pq_W) (hlink : Cond.fieldLink own index (T k).1 (T k).2.1 (T k).2.2.1 ∈ pq_W) {v : Value} (hv : fs[k]? = some v) (hd : decode cc pc = .ok (.getfield index, 3)) (hp : pc + 3 = pc')
    (kk : NV p l e R s m args below meth c Q g sz cells slots n E pc' vs (v :: st)) : NV p l e R s m args below meth c Q g sz cells slots n E pc vs (.ref (sz + j) :: st) := by
  intro H locs ls hP hS hl
  subst hp
  obtain ⟨⟨hx, hb, hml, hown, hts⟩, hK⟩ := cx
  have hat := hP.2 j hj
  rw [hE] at hat
  have hP1 : va_P g.1 vwCl [(sz + j, .inr (ci, fs))] H := fun k9 q9 h9 => by
    have h0 : k9 < 1 := (List.getElem?_eq_some_iff.mp h9).1
    rw [show k9 = 0 by omega] at h9
    cases h9
    exact hat
  exact va_get hx hb hts hin hown hK hP1 0 rfl hci k hk (hts _ hlink) (fun _ h9 => h9) hv hd (kk H locs ls hP hS hl)
theorem nv_callI {na : Nat} (cx : CX p s m args c cc nL own g) (hAO : pq_AO s) (b : Nat) (hM : NI l y (Cond.code y bytes maxL none :: pq_W) rm g sz n n' E E' mc ms (.ref b :: As)) (hcd : Cond.code y bytes maxL none ∈ pq_W) (hini : Cond.initialized y.cls ∈ pq_W) (hins : Cond.instanceMethod y ∈ pq_W) (hyn : y.name = "<init>") (hd9 : y.cls ≠ "java/lang/invoke/MethodHandle" ∧ y.cls ≠ "java/lang/invoke/VarHandle" ∧ (parseMethodDescriptor y.desc).map (fun d => d.parameters.length) = some na) (hlk : Cond.methodLink own index y ∈ pq_W) (hrc : rm.cells = mc) (hrs : rm.slots = ms) (hR : rm.frames + 1 ≤ R.frames ∧ 8 + (maxL + 11) + rm.locals ≤ R.locals) (hn : As.length = na) (hst : st0 = As.reverse ++ .ref b :: rest) (hroom : (rest.map fun v => v.category).sum ≤ 8) (hvs : vs.length = nL) (hf : cells + mc ≤ R.cells ∧ slots + ms ≤ R.slots) (hd : decode cc pc = .ok (.invokespecial index, 3)) (hp : pc + 3 = pc')
    (kk : NV p l e R s m args below meth c Q g sz (cells + mc) (slots + ms) n' E' pc' vs rest) : NV p l e R s m args below meth c Q g sz cells slots n E pc vs st0 := by
  intro H locs ls hP hS hl
  subst hp hst
  refine va_callv (a := (Value.ref b :: As).toArray) (va_runI cx.1 hM (cwI na cx.1.2.2.2.2 (pq_goodIn hcd) rfl hrc hrs (cx.1.2.2.2.2 _ hini) (cx.1.2.2.2.2 _ hlk) (cx.1.2.2.2.2 _ hins) hyn hd9 hR) ⟨fun a U g mk q => ?_, fun U hU hW => ⟨rfl, by rw [hU]; exact hP, va_K.moved hW.alike cx.2, hAO.warm hW⟩⟩ rfl hn (hl.1.trans hvs) rfl (lv_room hroom) hd hf) hS (fun q _ z => z) (fun q z => z) ?_
  · obtain ⟨q0, q1, q2, q3⟩ := q
    exact ⟨q0, q1, va_K.moved (u := U) (U := U.calling g mk a) (Vm.Alike.refl U.vm) q2, q3.calling⟩
  · intro u t H1 locs1 ht hvm hw hB hz hk1 hS1
    exact kk H1 locs1 ls (by rw [← ht]; exact hB) hS1 hl
end MAK

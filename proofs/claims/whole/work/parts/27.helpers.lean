/-! part 27 (printed by wip/whole/p27.py): the law's helpers -/
def pq_nx : List (String × String) := [(xIAE, xISE), (xIAE, xIOE), (xIAE, xUOE), (xISE, xIAE), (xISE, xIOE), (xISE, xUOE), (xIOE, xIAE), (xIOE, xISE), (xIOE, xUOE), (xUOE, xIAE), (xUOE, xISE), (xUOE, xIOE)]
/-- no class of the four is one of the others -/
def pq_Nx (U : State) : Prop := ∀ q ∈ pq_nx, va_Nc q.1 q.2 U
theorem pq_Nx.calling {U : State} {f : JFrame} {mk : MethodId} {a : Array Value} (h : pq_Nx U) : pq_Nx (U.calling f mk a) := fun q hq => va_Nc.moved (u := U) (U := U.calling f mk a) (Vm.Alike.refl U.vm) (h q hq)
theorem pq_Nx.moved {u U : State} (hvm : u.vm.Alike U.vm) (h : pq_Nx u) : pq_Nx U := fun q hq => va_Nc.moved hvm (h q hq)
def pq_Ph (g : pq_G) (av : List Value) (h : pq_H) (sz : Nat) : Array Value → State → Prop := va_Pc av (fun U => U.heap.size = sz ∧ pq_I g h (fun _ => True) U ∧ pq_X g sz U ∧ pq_Nx U)
theorem pq_Ph.blind {g : pq_G} {av : List Value} {h : pq_H} {sz : Nat} : FrameBlind (pq_Ph g av h sz) := fun _ _ _ _ q => ⟨q.1, q.2.1, q.2.2.1.calling, q.2.2.2.1.calling, q.2.2.2.2.calling⟩
/-- a helper's contract: it never throws -/
def XH (l : Launch) (y : MethodName) (ws : List Cond) (rm : Room) (g : pq_G) (mc ms : Nat) (av : List Value) (h : pq_H) (post : Int32 → pq_H → Prop) : Prop :=
  ∀ sz, vx_Met l y ws rm (pq_Ph g av h sz) (pq_Qi g post sz) (pq_Qx g pq_no sz) mc ms (pq_A g sz)
section HLP
variable {p : Program} {l : Launch} {e : Env} {R : Room} {s : State} {m : MethodId} {args : Array Value} {below : List Frame} {meth : Method} {c : Code} {Q : State → Prop} {g : pq_G} {cells slots : Nat} {h : pq_H} {pc pc' : Nat} {vs : List (Option Value)} {st st0 rest : List Value}
variable {cc bytes : ByteArray} {nL maxL index n mc ms : Nat} {ws : List Cond} {own : String} {y : MethodName} {rm : Room} {ret : Option FieldType} {av : List Value} {hh : List (Nat × Nat × Nat × Nat)} {post : Int32 → pq_H → Prop}
theorem XH.met (hM : XH l y ws rm g mc ms av h post) (sz : Nat) : Met l y ws rm (pq_Ph g av h sz) (pq_Qi g post sz) mc ms (pq_A g sz) := by
  intro p e h1 h2 h3 s m args below h4 h5 h6 h7
  obtain ⟨n, o, a1, a2, a3, a4⟩ := hM sz p e h1 h2 h3 s m args below h4 h5 h6 h7
  refine ⟨n, o, a1, a2, a3, ?_⟩
  rcases a4 with q | ⟨q, -, E, ce, L, ⟨u, -, hz, -⟩, -⟩
  · exact q
  · exact hz.1.elim
theorem XH.of (hy : plainName y.cls = true) (hc : ∀ w ∈ av, w.category = 1) (hn : av.length ≤ maxL)
    (body : ∀ (p : Program) (e : Env) (s : State) (m : MethodId) (below : List Frame) (meth : Method) (c : Code), CX p s m av.toArray c cc maxL y.cls g → pq_X g s.heap.size s → pq_Nx s → meth.sig.returnType = ret → meth.locks = false → c.exceptionTable.toList = tableOf hh →
      VV p l e rm s m av.toArray below meth c (vx_MQ below (pq_Qi g post s.heap.size) (pq_Qx g pq_no s.heap.size) av.toArray s mc ms (pq_A g s.heap.size)) g 0 0 h 0 (pq_ent maxL av) []) : XH l y (Cond.codeWith y cc maxL ret hh :: pq_W) rm g mc ms av h post := by
  intro sz
  refine vx_ofWH (cc := cc) (maxL := maxL) (ret := ret) (hh := hh) hy rfl ?_
  intro p e s m args below meth c s₁ B hml hv
  obtain ⟨rfl, hsz, ⟨hP, hK, hD0⟩, hX, hN⟩ := hv
  subst hsz
  have hts0 : ∀ w ∈ Cond.codeWith y cc maxL ret hh :: pq_W, w.before av.toArray s = true := atoms_spec (ws := Cond.codeWith y cc maxL ret hh :: pq_W) B.pre
  have hts : ∀ w ∈ pq_W, w.before av.toArray s = true := fun w hw => hts0 w (List.mem_cons_of_mem _ hw)
  have hown : s.vm.findClass y.cls = some m.cls := findClass_of_methodNamed B.named
  have hl := lv_entry av (n := maxL) (by rw [pq_sl hc]; exact hn)
  rw [lg_entry_eq]
  exact body p e s m below meth c ⟨⟨B.exec, B.bytes, hml, hown, hts⟩, hK⟩ hX hN B.returns B.notSynchronized (vx_table (x := y) B (hts0 _ List.mem_cons_self)) s.heap [] _ hP (pq_A.of hD0) va_S.rf (pq_entry hc hn hl)
theorem cc_H (cx : CX p s m args c cc nL own g) (hX : pq_X g s.heap.size s) (hN : pq_Nx s) (hM : XH l y (Cond.codeWith y bytes maxL ret hh :: pq_W) rm g mc ms av h post) (hcd : Cond.codeWith y bytes maxL ret hh ∈ pq_W) (hini : Cond.initialized y.cls ∈ pq_W) (hst9 : Cond.static y ∈ pq_W) (hd9 : y.cls ≠ "java/lang/invoke/MethodHandle" ∧ y.cls ≠ "java/lang/invoke/VarHandle" ∧ (parseMethodDescriptor y.desc).map (fun d => d.parameters.length) = some n) (hl : Cond.methodLink own index y ∈ pq_W) (hrc : rm.cells = mc) (hrs : rm.slots = ms) (hR : rm.frames + 1 ≤ R.frames ∧ 8 + (maxL + 11) + rm.locals ≤ R.locals) (hn : av.length = n) (hst : st0 = av.reverse ++ rest) (hroom : (rest.map fun v => v.category).sum ≤ 8) (hvs : vs.length = nL) (hf : cells + mc ≤ R.cells ∧ slots + ms ≤ R.slots) (hd : decode cc pc = .ok (.invokestatic index, 3)) (hp : pc + 3 = pc')
    (kk : ∀ (r : Int32) (h' : pq_H), post r h' → VV p l e R s m args below meth c Q g (cells + mc) (slots + ms) h' pc' vs (.int r :: rest)) : VV p l e R s m args below meth c Q g cells slots h pc vs st0 := by
  intro H locs ls hP hD hS hl9
  subst hp hst
  have hG : GoodIn pq_W (va_wsS own index y (Cond.codeWith y bytes maxL ret hh :: pq_W)) := fun w hw => by
    have h2 : w ∈ pq_W := by
      unfold va_wsS at hw
      rcases List.mem_append.mp hw with q | q
      · rcases List.mem_cons.mp q with rfl | q
        · exact hl
        · rcases List.mem_cons.mp q with rfl | q
          · exact hst9
          · rcases List.mem_cons.mp q with rfl | q
            · exact hini
            · cases q
      · rcases List.mem_cons.mp q with rfl | q
        · exact hcd
        · exact q
    exact ⟨h2, good_of_word (pq_Wgood h2)⟩
  have cw : vx_CSW R s args own index y bytes maxL ret hh (Cond.codeWith y bytes maxL ret hh :: pq_W) rm mc ms n := vx_cwSW n cx.1.2.2.2.2 hG rfl hrc hrs hd9 hR
  refine va_calli (a := av.toArray) (vx_runSW cx.1 (hM.met H.size) cw ⟨pq_Ph.blind, fun U hU hW => ?_⟩ rfl hn (hl9.1.trans hvs) rfl (lv_room hroom) hd hf) hS (fun q _ z => pq_A.up hS.1 z) (fun q z => pq_A.up hS.1 z) ?_
  · obtain ⟨q1, q2, q3, q4⟩ := pq_Pc.at (av := av) hX cx.2 hP hD hS hU hW
    exact ⟨q1, q2, q3, q4, pq_Nx.moved hW.alike hN⟩
  · intro r u t H1 locs1 ht hvm hw hB hz hk1 hS1
    obtain ⟨hP1, -, hD1⟩ := hB
    rw [ht] at hP1
    exact kk r u hw H1 locs1 ls hP1 (pq_A.of hD1) hS1 hl9
theorem vv_i2l (cx : CX p s m args c cc nL own g) {x : Int32} (hd : decode cc pc = .ok (.i2l, 1)) (hp : pc + 1 = pc') (kk : VV p l e R s m args below meth c Q g cells slots h pc' vs (.long x.toInt64 :: st)) : VV p l e R s m args below meth c Q g cells slots h pc vs (.int x :: st) :=
  fun H locs ls hP hD hS hl => by subst hp; exact lv_i2l cx.1.1 cx.1.2.1 hd rfl (kk H locs ls hP hD hS hl)
theorem vv_lcmp (cx : CX p s m args c cc nL own g) {x y : Int64} (hd : decode cc pc = .ok (.lcmp, 1)) (hp : pc + 1 = pc') (kk : VV p l e R s m args below meth c Q g cells slots h pc' vs (.int (lg_cmp x y) :: st)) : VV p l e R s m args below meth c Q g cells slots h pc vs (.long y :: .long x :: st) :=
  fun H locs ls hP hD hS hl => by subst hp; exact W.lcmp cx.1.1 cx.1.2.1 hd (kk H locs ls hP hD hS hl)
theorem vv_last (cx : CX p s m args c cc nL own g) {x : Int32} (hd : decode cc pc = .ok (.lastore, 1)) (hp : pc + 1 = pc')
    (kk : VV p l e R s m args below meth c Q g cells slots (va_up h 124 (upd (h 124) 0 x)) pc' vs st) : VV p l e R s m args below meth c Q g cells slots h pc vs (.long x.toInt64 :: .int 0 :: .ref (g.2.2 124) :: st) := by
  intro H locs ls hP hD hS hl
  subst hp
  refine va_last cx.1.1 cx.1.2.1 cx.2 hP hD hS 124 1 (pq_get (by decide) (pq_mk_long sh_124)) rfl (show ¬ ((0 : Int32) < 0 ∨ 1 ≤ (0 : Int32).toNatClampNeg) by decide) hd (fun H1 locs1 hP1 hD1 hS1 => ?_)
  have he : (pq_ws g h).set 124 (g.2.2 124, .inl (g.2.1.2.1, 1, .inr (.inl (vp_updL (fun j => (h 124 j).toInt64) (0 : Int32).toNatClampNeg x.toInt64)))) = pq_ws g (va_up h 124 (upd (h 124) 0 x)) := by
    refine pq_set (by decide) ?_
    rw [pq_mk_long sh_124]
    have e1 : (fun j => (upd (h 124) 0 x j).toInt64) = vp_updL (fun j => (h 124 j).toInt64) (0 : Int32).toNatClampNeg x.toInt64 := by
      funext j
      show (if j = 0 then x else h 124 j).toInt64 = if j = 0 then x.toInt64 else (h 124 j).toInt64
      by_cases q : j = 0
      · rw [if_pos q, if_pos q]
      · rw [if_neg q, if_neg q]
    rw [e1]
  rw [he] at hP1 hD1
  exact kk H1 locs1 ls hP1 hD1 hS1 hl
theorem vv_lald (cx : CX p s m args c cc nL own g) (hd : decode cc pc = .ok (.laload, 1)) (hp : pc + 1 = pc')
    (kk : VV p l e R s m args below meth c Q g cells slots h pc' vs (.long (h 124 0).toInt64 :: st)) : VV p l e R s m args below meth c Q g cells slots h pc vs (.int 0 :: .ref (g.2.2 124) :: st) := by
  intro H locs ls hP hD hS hl
  subst hp
  exact va_lald cx.1.1 cx.1.2.1 cx.2 hP 124 1 (pq_get (by decide) (pq_mk_long sh_124)) rfl (show ¬ ((0 : Int32) < 0 ∨ 1 ≤ (0 : Int32).toNatClampNeg) by decide) hd (kk H locs ls hP hD hS hl)
/-- caught by the row x of the table -/
theorem vv_catch {E name : String} (cx : CX p s m args c cc nL own g) (hX : pq_X g s.heap.size s) (hN : pq_Nx s) (pre : List ExceptionTableEntry) (x : ExceptionTableEntry) (suf : List ExceptionTableEntry) (hsplit : c.exceptionTable.toList = pre ++ x :: suf)
    (hpass : ∀ z ∈ pre, z.catchType ≠ 0 ∧ ∃ nm : String, Cond.classLink own z.catchType nm ∈ pq_W ∧ (E, nm) ∈ pq_nx) (hx : covers x pc = true) (h0 : x.catchType ≠ 0) (hlink : Cond.classLink own x.catchType name ∈ pq_W) (hcast : Cond.castable E name ∈ pq_Wn)
    (kk : ∀ q : Addr, VV p l e R s m args below meth c Q g cells slots h x.handlerPc vs [.ref q]) : VX p l e R s m args below meth c Q g cells slots h pc vs st E := by
  intro H locs ls q ce hP hD hS hl hce hcv hcl
  obtain ⟨⟨hexec, hb, hml, hown, hts⟩, hK⟩ := cx
  refine vx_catch hown pre x suf hsplit (fun z hz => ?_) hx h0 (hts _ hlink) (va_Nw.use (pq_nk_on (pq_Wn_nk _ hcast)) (hX.2.2.2 _ hcast)) hce hcv hcl (kk q H locs ls hP hD hS hl)
  obtain ⟨h1, nm, h2, h3⟩ := hpass z hz
  exact Or.inr ⟨h1, nm, hts _ h2, hN _ h3⟩
end HLP
abbrev wL_sheet : List Cond := Cond.codeWith yL_sheet cL_sheet 3 (some .int) [(0, 5, 8, 13)] :: pq_W
set_option maxRecDepth 100000 in
set_option maxHeartbeats 4000000 in
theorem tL_sheet (l : Launch) (g : pq_G) (h : pq_H) (x : Int32) {post : pq_H → Prop} {xpost : String → pq_H → Prop} (hM : XV l yP_sheet wP_sheet rP_sheet g 1 6 [.ref (g.2.2 0), .int x] h post xpost) (hx : ∀ E h9, xpost E h9 → E = xIAE) : XH l yL_sheet wL_sheet rL_sheet g 1 6 [.ref (g.2.2 0), .int x] h (fun k9 h9 => (k9 = 0 ∧ post h9) ∨ (k9 = 1 ∧ xpost xIAE h9)) := by
  refine XH.of (cc := cL_sheet) (maxL := 3) (ret := some .int) (hh := [(0, 5, 8, 13)]) (by decide +kernel) (by simp [Value.category]) (Nat.le_of_ble_eq_true rfl) ?_
  intro p e s m below meth c cx hX hN hr hlocks htab
  refine vv_aload_n cx dL_sheet_0 rfl rfl (pc' := 1) rfl ?_
  refine vv_iload_n cx dL_sheet_1 rfl rfl (pc' := 2) rfl ?_
  refine cc_Vv cx hX hM kP_sheet ww_217 rfl rfl ⟨Nat.le_of_ble_eq_true rfl, Nat.le_of_ble_eq_true rfl⟩ 0 (by decide) sh_0 rfl rfl rfl rfl (Nat.le_of_ble_eq_true rfl) rfl ⟨Nat.le_of_ble_eq_true rfl, Nat.le_of_ble_eq_true rfl⟩ dL_sheet_2 (pc' := 5) rfl ?_ ?_
  · intro E h9 q9
    rcases hx E h9 q9 with rfl
    · refine vv_catch (name := xIAE) cx hX hN [] ⟨0, 5, 8, 13⟩ [] (htab.trans rfl) (fun z hz => by cases hz) (by decide) (by decide) ww_216 (by decide) (fun q => ?_)
      refine vv_astore_n cx dL_sheet_8 rfl (Nat.le_of_ble_eq_true rfl) (pc' := 9) rfl ?_
      refine vv_iconst cx dL_sheet_9 (v := 1) (by decide) (pc' := 10) rfl ?_
      exact vv_iret cx hr hlocks dL_sheet_10 (Nat.le_of_ble_eq_true rfl) (Nat.le_of_ble_eq_true rfl) (Or.inr (⟨rfl, q9⟩))
  · intro h9 q9
    refine vv_goto cx dL_sheet_5 (tgt := 11) (by decide) ?_
    refine vv_iconst cx dL_sheet_11 (v := 0) (by decide) (pc' := 12) rfl ?_
    exact vv_iret cx hr hlocks dL_sheet_12 (Nat.le_of_ble_eq_true rfl) (Nat.le_of_ble_eq_true rfl) (Or.inl ⟨rfl, q9⟩)
abbrev wL_order : List Cond := Cond.codeWith yL_order cL_order 5 (some .int) [(0, 10, 13, 19), (0, 10, 17, 13)] :: pq_W
set_option maxRecDepth 100000 in
set_option maxHeartbeats 4000000 in
theorem tL_order (l : Launch) (g : pq_G) (h : pq_H) (x y : Int32) {post : Int32 → pq_H → Prop} {xpost : String → pq_H → Prop} (hM : XI l yP_order wP_order rP_order g 1 6 [.ref (g.2.2 0), .int x, .int y] h post xpost) (hx : ∀ E h9, xpost E h9 → E = xISE ∨ E = xIAE) : XH l yL_order wL_order rL_order g 1 6 [.ref (g.2.2 0), .int x, .int y, .ref (g.2.2 124)] h (fun k9 h9 => (k9 = 0 ∧ ∃ r h8, post r h8 ∧ h9 = va_up h8 124 (upd (h8 124) 0 r)) ∨ (k9 = 1 ∧ xpost xISE h9) ∨ (k9 = 2 ∧ xpost xIAE h9)) := by
  refine XH.of (cc := cL_order) (maxL := 5) (ret := some .int) (hh := [(0, 10, 13, 19), (0, 10, 17, 13)]) (by decide +kernel) (by simp [Value.category]) (Nat.le_of_ble_eq_true rfl) ?_
  intro p e s m below meth c cx hX hN hr hlocks htab
  refine vv_aload_n cx dL_order_0 rfl rfl (pc' := 1) rfl ?_
  refine vv_iconst cx dL_order_1 (v := 0) (by decide) (pc' := 2) rfl ?_
  refine vv_aload_n cx dL_order_2 rfl rfl (pc' := 3) rfl ?_
  refine vv_iload_n cx dL_order_3 rfl rfl (pc' := 4) rfl ?_
  refine vv_iload_n cx dL_order_4 rfl rfl (pc' := 5) rfl ?_
  refine cc_Vi cx hX hM kP_order ww_306 rfl rfl ⟨Nat.le_of_ble_eq_true rfl, Nat.le_of_ble_eq_true rfl⟩ 0 (by decide) sh_0 rfl rfl rfl rfl (Nat.le_of_ble_eq_true rfl) rfl ⟨Nat.le_of_ble_eq_true rfl, Nat.le_of_ble_eq_true rfl⟩ dL_order_5 (pc' := 8) rfl ?_ ?_
  · intro E h9 q9
    rcases hx E h9 q9 with rfl | rfl
    · refine vv_catch (name := xISE) cx hX hN [] ⟨0, 10, 13, 19⟩ [⟨0, 10, 17, 13⟩] (htab.trans rfl) (fun z hz => by cases hz) (by decide) (by decide) ww_305 (by decide) (fun q => ?_)
      refine vv_astore cx dL_order_13 (Nat.le_of_ble_eq_true rfl) (pc' := 15) rfl ?_
      refine vv_iconst cx dL_order_15 (v := 1) (by decide) (pc' := 16) rfl ?_
      exact vv_iret cx hr hlocks dL_order_16 (Nat.le_of_ble_eq_true rfl) (Nat.le_of_ble_eq_true rfl) (Or.inr (Or.inl ⟨rfl, q9⟩))
    · refine vv_catch (name := xIAE) cx hX hN [⟨0, 10, 13, 19⟩] ⟨0, 10, 17, 13⟩ [] (htab.trans rfl) (List.forall_mem_cons.mpr ⟨⟨by decide, _, ww_305, by decide⟩, fun _ hz => absurd hz List.not_mem_nil⟩) (by decide) (by decide) ww_216 (by decide) (fun q => ?_)
      refine vv_astore cx dL_order_17 (Nat.le_of_ble_eq_true rfl) (pc' := 19) rfl ?_
      refine vv_iconst cx dL_order_19 (v := 2) (by decide) (pc' := 20) rfl ?_
      exact vv_iret cx hr hlocks dL_order_20 (Nat.le_of_ble_eq_true rfl) (Nat.le_of_ble_eq_true rfl) (Or.inr (Or.inr (⟨rfl, q9⟩)))
  · intro r9 h9 q9
    refine vv_i2l cx dL_order_8 (pc' := 9) rfl ?_
    refine vv_last cx dL_order_9 (pc' := 10) rfl ?_
    refine vv_goto cx dL_order_10 (tgt := 21) (by decide) ?_
    refine vv_iconst cx dL_order_21 (v := 0) (by decide) (pc' := 22) rfl ?_
    exact vv_iret cx hr hlocks dL_order_22 (Nat.le_of_ble_eq_true rfl) (Nat.le_of_ble_eq_true rfl) (Or.inl ⟨rfl, _, _, q9, rfl⟩)
abbrev wL_pieces : List Cond := Cond.codeWith yL_pieces cL_pieces 4 (some .int) [(0, 6, 9, 25), (0, 6, 12, 13)] :: pq_W
set_option maxRecDepth 100000 in
set_option maxHeartbeats 4000000 in
theorem tL_pieces (l : Launch) (g : pq_G) (h : pq_H) (x y : Int32) {post : pq_H → Prop} {xpost : String → pq_H → Prop} (hM : XV l yP_pieces wP_pieces rP_pieces g 1 6 [.ref (g.2.2 0), .int x, .int y] h post xpost) (hx : ∀ E h9, xpost E h9 → E = xIOE ∨ E = xIAE) : XH l yL_pieces wL_pieces rL_pieces g 1 6 [.ref (g.2.2 0), .int x, .int y] h (fun k9 h9 => (k9 = 0 ∧ post h9) ∨ (k9 = 1 ∧ xpost xIOE h9) ∨ (k9 = 2 ∧ xpost xIAE h9)) := by
  refine XH.of (cc := cL_pieces) (maxL := 4) (ret := some .int) (hh := [(0, 6, 9, 25), (0, 6, 12, 13)]) (by decide +kernel) (by simp [Value.category]) (Nat.le_of_ble_eq_true rfl) ?_
  intro p e s m below meth c cx hX hN hr hlocks htab
  refine vv_aload_n cx dL_pieces_0 rfl rfl (pc' := 1) rfl ?_
  refine vv_iload_n cx dL_pieces_1 rfl rfl (pc' := 2) rfl ?_
  refine vv_iload_n cx dL_pieces_2 rfl rfl (pc' := 3) rfl ?_
  refine cc_Vv cx hX hM kP_pieces ww_336 rfl rfl ⟨Nat.le_of_ble_eq_true rfl, Nat.le_of_ble_eq_true rfl⟩ 0 (by decide) sh_0 rfl rfl rfl rfl (Nat.le_of_ble_eq_true rfl) rfl ⟨Nat.le_of_ble_eq_true rfl, Nat.le_of_ble_eq_true rfl⟩ dL_pieces_3 (pc' := 6) rfl ?_ ?_
  · intro E h9 q9
    rcases hx E h9 q9 with rfl | rfl
    · refine vv_catch (name := xIOE) cx hX hN [] ⟨0, 6, 9, 25⟩ [⟨0, 6, 12, 13⟩] (htab.trans rfl) (fun z hz => by cases hz) (by decide) (by decide) ww_335 (by decide) (fun q => ?_)
      refine vv_astore_n cx dL_pieces_9 rfl (Nat.le_of_ble_eq_true rfl) (pc' := 10) rfl ?_
      refine vv_iconst cx dL_pieces_10 (v := 1) (by decide) (pc' := 11) rfl ?_
      exact vv_iret cx hr hlocks dL_pieces_11 (Nat.le_of_ble_eq_true rfl) (Nat.le_of_ble_eq_true rfl) (Or.inr (Or.inl ⟨rfl, q9⟩))
    · refine vv_catch (name := xIAE) cx hX hN [⟨0, 6, 9, 25⟩] ⟨0, 6, 12, 13⟩ [] (htab.trans rfl) (List.forall_mem_cons.mpr ⟨⟨by decide, _, ww_335, by decide⟩, fun _ hz => absurd hz List.not_mem_nil⟩) (by decide) (by decide) ww_216 (by decide) (fun q => ?_)
      refine vv_astore_n cx dL_pieces_12 rfl (Nat.le_of_ble_eq_true rfl) (pc' := 13) rfl ?_
      refine vv_iconst cx dL_pieces_13 (v := 2) (by decide) (pc' := 14) rfl ?_
      exact vv_iret cx hr hlocks dL_pieces_14 (Nat.le_of_ble_eq_true rfl) (Nat.le_of_ble_eq_true rfl) (Or.inr (Or.inr (⟨rfl, q9⟩)))
  · intro h9 q9
    refine vv_goto cx dL_pieces_6 (tgt := 15) (by decide) ?_
    refine vv_iconst cx dL_pieces_15 (v := 0) (by decide) (pc' := 16) rfl ?_
    exact vv_iret cx hr hlocks dL_pieces_16 (Nat.le_of_ble_eq_true rfl) (Nat.le_of_ble_eq_true rfl) (Or.inl ⟨rfl, q9⟩)
abbrev wL_price : List Cond := Cond.codeWith yL_price cL_price 4 (some .int) [(0, 6, 9, 25), (0, 6, 12, 13)] :: pq_W
set_option maxRecDepth 100000 in
set_option maxHeartbeats 4000000 in
theorem tL_price (l : Launch) (g : pq_G) (h : pq_H) (x y : Int32) {post : pq_H → Prop} {xpost : String → pq_H → Prop} (hM : XV l yP_price wP_price rP_price g 1 6 [.ref (g.2.2 0), .int x, .int y] h post xpost) (hx : ∀ E h9, xpost E h9 → E = xIOE ∨ E = xIAE) : XH l yL_price wL_price rL_price g 1 6 [.ref (g.2.2 0), .int x, .int y] h (fun k9 h9 => (k9 = 0 ∧ post h9) ∨ (k9 = 1 ∧ xpost xIOE h9) ∨ (k9 = 2 ∧ xpost xIAE h9)) := by
  refine XH.of (cc := cL_price) (maxL := 4) (ret := some .int) (hh := [(0, 6, 9, 25), (0, 6, 12, 13)]) (by decide +kernel) (by simp [Value.category]) (Nat.le_of_ble_eq_true rfl) ?_
  intro p e s m below meth c cx hX hN hr hlocks htab
  refine vv_aload_n cx dL_price_0 rfl rfl (pc' := 1) rfl ?_
  refine vv_iload_n cx dL_price_1 rfl rfl (pc' := 2) rfl ?_
  refine vv_iload_n cx dL_price_2 rfl rfl (pc' := 3) rfl ?_
  refine cc_Vv cx hX hM kP_price ww_363 rfl rfl ⟨Nat.le_of_ble_eq_true rfl, Nat.le_of_ble_eq_true rfl⟩ 0 (by decide) sh_0 rfl rfl rfl rfl (Nat.le_of_ble_eq_true rfl) rfl ⟨Nat.le_of_ble_eq_true rfl, Nat.le_of_ble_eq_true rfl⟩ dL_price_3 (pc' := 6) rfl ?_ ?_
  · intro E h9 q9
    rcases hx E h9 q9 with rfl | rfl
    · refine vv_catch (name := xIOE) cx hX hN [] ⟨0, 6, 9, 25⟩ [⟨0, 6, 12, 13⟩] (htab.trans rfl) (fun z hz => by cases hz) (by decide) (by decide) ww_335 (by decide) (fun q => ?_)
      refine vv_astore_n cx dL_price_9 rfl (Nat.le_of_ble_eq_true rfl) (pc' := 10) rfl ?_
      refine vv_iconst cx dL_price_10 (v := 1) (by decide) (pc' := 11) rfl ?_
      exact vv_iret cx hr hlocks dL_price_11 (Nat.le_of_ble_eq_true rfl) (Nat.le_of_ble_eq_true rfl) (Or.inr (Or.inl ⟨rfl, q9⟩))
    · refine vv_catch (name := xIAE) cx hX hN [⟨0, 6, 9, 25⟩] ⟨0, 6, 12, 13⟩ [] (htab.trans rfl) (List.forall_mem_cons.mpr ⟨⟨by decide, _, ww_335, by decide⟩, fun _ hz => absurd hz List.not_mem_nil⟩) (by decide) (by decide) ww_216 (by decide) (fun q => ?_)
      refine vv_astore_n cx dL_price_12 rfl (Nat.le_of_ble_eq_true rfl) (pc' := 13) rfl ?_
      refine vv_iconst cx dL_price_13 (v := 2) (by decide) (pc' := 14) rfl ?_
      exact vv_iret cx hr hlocks dL_price_14 (Nat.le_of_ble_eq_true rfl) (Nat.le_of_ble_eq_true rfl) (Or.inr (Or.inr (⟨rfl, q9⟩)))
  · intro h9 q9
    refine vv_goto cx dL_price_6 (tgt := 15) (by decide) ?_
    refine vv_iconst cx dL_price_15 (v := 0) (by decide) (pc' := 16) rfl ?_
    exact vv_iret cx hr hlocks dL_price_16 (Nat.le_of_ble_eq_true rfl) (Nat.le_of_ble_eq_true rfl) (Or.inl ⟨rfl, q9⟩)
abbrev wL_columnOf : List Cond := Cond.codeWith yL_columnOf cL_columnOf 4 (some .int) [(0, 9, 12, 25)] :: pq_W
set_option maxRecDepth 100000 in
set_option maxHeartbeats 4000000 in
theorem tL_columnOf (l : Launch) (g : pq_G) (h : pq_H) (x : Int32) {post : Int32 → pq_H → Prop} {xpost : String → pq_H → Prop} (hM : XI l yP_columnOf wP_columnOf rP_columnOf g 1 6 [.ref (g.2.2 0), .int x] h post xpost) (hx : ∀ E h9, xpost E h9 → E = xIOE) : XH l yL_columnOf wL_columnOf rL_columnOf g 1 6 [.ref (g.2.2 0), .int x, .ref (g.2.2 124)] h (fun k9 h9 => (k9 = 0 ∧ ∃ r h8, post r h8 ∧ h9 = va_up h8 124 (upd (h8 124) 0 r)) ∨ (k9 = 1 ∧ xpost xIOE h9)) := by
  refine XH.of (cc := cL_columnOf) (maxL := 4) (ret := some .int) (hh := [(0, 9, 12, 25)]) (by decide +kernel) (by simp [Value.category]) (Nat.le_of_ble_eq_true rfl) ?_
  intro p e s m below meth c cx hX hN hr hlocks htab
  refine vv_aload_n cx dL_columnOf_0 rfl rfl (pc' := 1) rfl ?_
  refine vv_iconst cx dL_columnOf_1 (v := 0) (by decide) (pc' := 2) rfl ?_
  refine vv_aload_n cx dL_columnOf_2 rfl rfl (pc' := 3) rfl ?_
  refine vv_iload_n cx dL_columnOf_3 rfl rfl (pc' := 4) rfl ?_
  refine cc_Vi cx hX hM kP_columnOf ww_371 rfl rfl ⟨Nat.le_of_ble_eq_true rfl, Nat.le_of_ble_eq_true rfl⟩ 0 (by decide) sh_0 rfl rfl rfl rfl (Nat.le_of_ble_eq_true rfl) rfl ⟨Nat.le_of_ble_eq_true rfl, Nat.le_of_ble_eq_true rfl⟩ dL_columnOf_4 (pc' := 7) rfl ?_ ?_
  · intro E h9 q9
    rcases hx E h9 q9 with rfl
    · refine vv_catch (name := xIOE) cx hX hN [] ⟨0, 9, 12, 25⟩ [] (htab.trans rfl) (fun z hz => by cases hz) (by decide) (by decide) ww_335 (by decide) (fun q => ?_)
      refine vv_astore_n cx dL_columnOf_12 rfl (Nat.le_of_ble_eq_true rfl) (pc' := 13) rfl ?_
      refine vv_iconst cx dL_columnOf_13 (v := 1) (by decide) (pc' := 14) rfl ?_
      exact vv_iret cx hr hlocks dL_columnOf_14 (Nat.le_of_ble_eq_true rfl) (Nat.le_of_ble_eq_true rfl) (Or.inr (⟨rfl, q9⟩))
  · intro r9 h9 q9
    refine vv_i2l cx dL_columnOf_7 (pc' := 8) rfl ?_
    refine vv_last cx dL_columnOf_8 (pc' := 9) rfl ?_
    refine vv_goto cx dL_columnOf_9 (tgt := 15) (by decide) ?_
    refine vv_iconst cx dL_columnOf_15 (v := 0) (by decide) (pc' := 16) rfl ?_
    exact vv_iret cx hr hlocks dL_columnOf_16 (Nat.le_of_ble_eq_true rfl) (Nat.le_of_ble_eq_true rfl) (Or.inl ⟨rfl, _, _, q9, rfl⟩)
abbrev wL_design : List Cond := Cond.codeWith yL_design cL_design 4 (some .int) [(0, 9, 12, 13), (0, 9, 15, 37)] :: pq_W
set_option maxRecDepth 100000 in
set_option maxHeartbeats 4000000 in
theorem tL_design (l : Launch) (g : pq_G) (h : pq_H) (x : Int32) {post : Int32 → pq_H → Prop} {xpost : String → pq_H → Prop} (hM : XI l yP_design wP_design rP_design g 1 6 [.ref (g.2.2 0), .int x] h post xpost) (hx : ∀ E h9, xpost E h9 → E = xIAE ∨ E = xUOE) : XH l yL_design wL_design rL_design g 1 6 [.ref (g.2.2 0), .int x, .ref (g.2.2 124)] h (fun k9 h9 => (k9 = 0 ∧ ∃ r h8, post r h8 ∧ h9 = va_up h8 124 (upd (h8 124) 0 r)) ∨ (k9 = 1 ∧ xpost xIAE h9) ∨ (k9 = 2 ∧ xpost xUOE h9)) := by
  refine XH.of (cc := cL_design) (maxL := 4) (ret := some .int) (hh := [(0, 9, 12, 13), (0, 9, 15, 37)]) (by decide +kernel) (by simp [Value.category]) (Nat.le_of_ble_eq_true rfl) ?_
  intro p e s m below meth c cx hX hN hr hlocks htab
  refine vv_aload_n cx dL_design_0 rfl rfl (pc' := 1) rfl ?_
  refine vv_iconst cx dL_design_1 (v := 0) (by decide) (pc' := 2) rfl ?_
  refine vv_aload_n cx dL_design_2 rfl rfl (pc' := 3) rfl ?_
  refine vv_iload_n cx dL_design_3 rfl rfl (pc' := 4) rfl ?_
  refine cc_Vi cx hX hM kP_design ww_383 rfl rfl ⟨Nat.le_of_ble_eq_true rfl, Nat.le_of_ble_eq_true rfl⟩ 0 (by decide) sh_0 rfl rfl rfl rfl (Nat.le_of_ble_eq_true rfl) rfl ⟨Nat.le_of_ble_eq_true rfl, Nat.le_of_ble_eq_true rfl⟩ dL_design_4 (pc' := 7) rfl ?_ ?_
  · intro E h9 q9
    rcases hx E h9 q9 with rfl | rfl
    · refine vv_catch (name := xIAE) cx hX hN [] ⟨0, 9, 12, 13⟩ [⟨0, 9, 15, 37⟩] (htab.trans rfl) (fun z hz => by cases hz) (by decide) (by decide) ww_216 (by decide) (fun q => ?_)
      refine vv_astore_n cx dL_design_12 rfl (Nat.le_of_ble_eq_true rfl) (pc' := 13) rfl ?_
      refine vv_iconst cx dL_design_13 (v := 1) (by decide) (pc' := 14) rfl ?_
      exact vv_iret cx hr hlocks dL_design_14 (Nat.le_of_ble_eq_true rfl) (Nat.le_of_ble_eq_true rfl) (Or.inr (Or.inl ⟨rfl, q9⟩))
    · refine vv_catch (name := xUOE) cx hX hN [⟨0, 9, 12, 13⟩] ⟨0, 9, 15, 37⟩ [] (htab.trans rfl) (List.forall_mem_cons.mpr ⟨⟨by decide, _, ww_216, by decide⟩, fun _ hz => absurd hz List.not_mem_nil⟩) (by decide) (by decide) ww_382 (by decide) (fun q => ?_)
      refine vv_astore_n cx dL_design_15 rfl (Nat.le_of_ble_eq_true rfl) (pc' := 16) rfl ?_
      refine vv_iconst cx dL_design_16 (v := 2) (by decide) (pc' := 17) rfl ?_
      exact vv_iret cx hr hlocks dL_design_17 (Nat.le_of_ble_eq_true rfl) (Nat.le_of_ble_eq_true rfl) (Or.inr (Or.inr (⟨rfl, q9⟩)))
  · intro r9 h9 q9
    refine vv_i2l cx dL_design_7 (pc' := 8) rfl ?_
    refine vv_last cx dL_design_8 (pc' := 9) rfl ?_
    refine vv_goto cx dL_design_9 (tgt := 18) (by decide) ?_
    refine vv_iconst cx dL_design_18 (v := 0) (by decide) (pc' := 19) rfl ?_
    exact vv_iret cx hr hlocks dL_design_19 (Nat.le_of_ble_eq_true rfl) (Nat.le_of_ble_eq_true rfl) (Or.inl ⟨rfl, _, _, q9, rfl⟩)
abbrev wL_designed : List Cond := Cond.codeWith yL_designed cL_designed 4 (some .int) [(0, 9, 12, 25), (0, 9, 15, 19)] :: pq_W
set_option maxRecDepth 100000 in
set_option maxHeartbeats 4000000 in
theorem tL_designed (l : Launch) (g : pq_G) (h : pq_H) (x : Int32) {post : Int32 → pq_H → Prop} {xpost : String → pq_H → Prop} (hM : XI l yP_designed wP_designed rP_designed g 1 6 [.ref (g.2.2 0), .int x] h post xpost) (hx : ∀ E h9, xpost E h9 → E = xIOE ∨ E = xISE) : XH l yL_designed wL_designed rL_designed g 1 6 [.ref (g.2.2 0), .int x, .ref (g.2.2 124)] h (fun k9 h9 => (k9 = 0 ∧ ∃ r h8, post r h8 ∧ h9 = va_up h8 124 (upd (h8 124) 0 r)) ∨ (k9 = 1 ∧ xpost xIOE h9) ∨ (k9 = 2 ∧ xpost xISE h9)) := by
  refine XH.of (cc := cL_designed) (maxL := 4) (ret := some .int) (hh := [(0, 9, 12, 25), (0, 9, 15, 19)]) (by decide +kernel) (by simp [Value.category]) (Nat.le_of_ble_eq_true rfl) ?_
  intro p e s m below meth c cx hX hN hr hlocks htab
  refine vv_aload_n cx dL_designed_0 rfl rfl (pc' := 1) rfl ?_
  refine vv_iconst cx dL_designed_1 (v := 0) (by decide) (pc' := 2) rfl ?_
  refine vv_aload_n cx dL_designed_2 rfl rfl (pc' := 3) rfl ?_
  refine vv_iload_n cx dL_designed_3 rfl rfl (pc' := 4) rfl ?_
  refine cc_Vi cx hX hM kP_designed ww_458 rfl rfl ⟨Nat.le_of_ble_eq_true rfl, Nat.le_of_ble_eq_true rfl⟩ 0 (by decide) sh_0 rfl rfl rfl rfl (Nat.le_of_ble_eq_true rfl) rfl ⟨Nat.le_of_ble_eq_true rfl, Nat.le_of_ble_eq_true rfl⟩ dL_designed_4 (pc' := 7) rfl ?_ ?_
  · intro E h9 q9
    rcases hx E h9 q9 with rfl | rfl
    · refine vv_catch (name := xIOE) cx hX hN [] ⟨0, 9, 12, 25⟩ [⟨0, 9, 15, 19⟩] (htab.trans rfl) (fun z hz => by cases hz) (by decide) (by decide) ww_335 (by decide) (fun q => ?_)
      refine vv_astore_n cx dL_designed_12 rfl (Nat.le_of_ble_eq_true rfl) (pc' := 13) rfl ?_
      refine vv_iconst cx dL_designed_13 (v := 1) (by decide) (pc' := 14) rfl ?_
      exact vv_iret cx hr hlocks dL_designed_14 (Nat.le_of_ble_eq_true rfl) (Nat.le_of_ble_eq_true rfl) (Or.inr (Or.inl ⟨rfl, q9⟩))
    · refine vv_catch (name := xISE) cx hX hN [⟨0, 9, 12, 25⟩] ⟨0, 9, 15, 19⟩ [] (htab.trans rfl) (List.forall_mem_cons.mpr ⟨⟨by decide, _, ww_335, by decide⟩, fun _ hz => absurd hz List.not_mem_nil⟩) (by decide) (by decide) ww_305 (by decide) (fun q => ?_)
      refine vv_astore_n cx dL_designed_15 rfl (Nat.le_of_ble_eq_true rfl) (pc' := 16) rfl ?_
      refine vv_iconst cx dL_designed_16 (v := 2) (by decide) (pc' := 17) rfl ?_
      exact vv_iret cx hr hlocks dL_designed_17 (Nat.le_of_ble_eq_true rfl) (Nat.le_of_ble_eq_true rfl) (Or.inr (Or.inr (⟨rfl, q9⟩)))
  · intro r9 h9 q9
    refine vv_i2l cx dL_designed_7 (pc' := 8) rfl ?_
    refine vv_last cx dL_designed_8 (pc' := 9) rfl ?_
    refine vv_goto cx dL_designed_9 (tgt := 18) (by decide) ?_
    refine vv_iconst cx dL_designed_18 (v := 0) (by decide) (pc' := 19) rfl ?_
    exact vv_iret cx hr hlocks dL_designed_19 (Nat.le_of_ble_eq_true rfl) (Nat.le_of_ble_eq_true rfl) (Or.inl ⟨rfl, _, _, q9, rfl⟩)
abbrev wL_gap : List Cond := Cond.codeWith yL_gap cL_gap 3 (some .int) [(0, 8, 11, 19)] :: pq_W
set_option maxRecDepth 100000 in
set_option maxHeartbeats 4000000 in
theorem tL_gap (l : Launch) (g : pq_G) (h : pq_H) {post : Int32 → pq_H → Prop} {xpost : String → pq_H → Prop} (hM : XI l yP_gap wP_gap rP_gap g 1 6 [.ref (g.2.2 0)] h post xpost) (hx : ∀ E h9, xpost E h9 → E = xISE) : XH l yL_gap wL_gap rL_gap g 1 6 [.ref (g.2.2 0), .ref (g.2.2 124)] h (fun k9 h9 => (k9 = 0 ∧ ∃ r h8, post r h8 ∧ h9 = va_up h8 124 (upd (h8 124) 0 r)) ∨ (k9 = 1 ∧ xpost xISE h9)) := by
  refine XH.of (cc := cL_gap) (maxL := 3) (ret := some .int) (hh := [(0, 8, 11, 19)]) (by decide +kernel) (by simp [Value.category]) (Nat.le_of_ble_eq_true rfl) ?_
  intro p e s m below meth c cx hX hN hr hlocks htab
  refine vv_aload_n cx dL_gap_0 rfl rfl (pc' := 1) rfl ?_
  refine vv_iconst cx dL_gap_1 (v := 0) (by decide) (pc' := 2) rfl ?_
  refine vv_aload_n cx dL_gap_2 rfl rfl (pc' := 3) rfl ?_
  refine cc_Vi cx hX hM kP_gap ww_467 rfl rfl ⟨Nat.le_of_ble_eq_true rfl, Nat.le_of_ble_eq_true rfl⟩ 0 (by decide) sh_0 rfl rfl rfl rfl (Nat.le_of_ble_eq_true rfl) rfl ⟨Nat.le_of_ble_eq_true rfl, Nat.le_of_ble_eq_true rfl⟩ dL_gap_3 (pc' := 6) rfl ?_ ?_
  · intro E h9 q9
    rcases hx E h9 q9 with rfl
    · refine vv_catch (name := xISE) cx hX hN [] ⟨0, 8, 11, 19⟩ [] (htab.trans rfl) (fun z hz => by cases hz) (by decide) (by decide) ww_305 (by decide) (fun q => ?_)
      refine vv_astore_n cx dL_gap_11 rfl (Nat.le_of_ble_eq_true rfl) (pc' := 12) rfl ?_
      refine vv_iconst cx dL_gap_12 (v := 1) (by decide) (pc' := 13) rfl ?_
      exact vv_iret cx hr hlocks dL_gap_13 (Nat.le_of_ble_eq_true rfl) (Nat.le_of_ble_eq_true rfl) (Or.inr (⟨rfl, q9⟩))
  · intro r9 h9 q9
    refine vv_i2l cx dL_gap_6 (pc' := 7) rfl ?_
    refine vv_last cx dL_gap_7 (pc' := 8) rfl ?_
    refine vv_goto cx dL_gap_8 (tgt := 14) (by decide) ?_
    refine vv_iconst cx dL_gap_14 (v := 0) (by decide) (pc' := 15) rfl ?_
    exact vv_iret cx hr hlocks dL_gap_15 (Nat.le_of_ble_eq_true rfl) (Nat.le_of_ble_eq_true rfl) (Or.inl ⟨rfl, _, _, q9, rfl⟩)
abbrev wL_cut : List Cond := Cond.codeWith yL_cut cL_cut 5 (some .int) [(0, 10, 13, 25), (0, 10, 17, 19)] :: pq_W
set_option maxRecDepth 100000 in
set_option maxHeartbeats 4000000 in
theorem tL_cut (l : Launch) (g : pq_G) (h : pq_H) (x y : Int32) {post : Int32 → pq_H → Prop} {xpost : String → pq_H → Prop} (hM : XI l yP_cut wP_cut rP_cut g 3 18 [.ref (g.2.2 0), .int x, .int y] h post xpost) (hx : ∀ E h9, xpost E h9 → E = xIOE ∨ E = xISE) : XH l yL_cut wL_cut rL_cut g 3 18 [.ref (g.2.2 0), .int x, .int y, .ref (g.2.2 124)] h (fun k9 h9 => (k9 = 0 ∧ ∃ r h8, post r h8 ∧ h9 = va_up h8 124 (upd (h8 124) 0 r)) ∨ (k9 = 1 ∧ xpost xIOE h9) ∨ (k9 = 2 ∧ xpost xISE h9)) := by
  refine XH.of (cc := cL_cut) (maxL := 5) (ret := some .int) (hh := [(0, 10, 13, 25), (0, 10, 17, 19)]) (by decide +kernel) (by simp [Value.category]) (Nat.le_of_ble_eq_true rfl) ?_
  intro p e s m below meth c cx hX hN hr hlocks htab
  refine vv_aload_n cx dL_cut_0 rfl rfl (pc' := 1) rfl ?_
  refine vv_iconst cx dL_cut_1 (v := 0) (by decide) (pc' := 2) rfl ?_
  refine vv_aload_n cx dL_cut_2 rfl rfl (pc' := 3) rfl ?_
  refine vv_iload_n cx dL_cut_3 rfl rfl (pc' := 4) rfl ?_
  refine vv_iload_n cx dL_cut_4 rfl rfl (pc' := 5) rfl ?_
  refine cc_Vi cx hX hM kP_cut ww_484 rfl rfl ⟨Nat.le_of_ble_eq_true rfl, Nat.le_of_ble_eq_true rfl⟩ 0 (by decide) sh_0 rfl rfl rfl rfl (Nat.le_of_ble_eq_true rfl) rfl ⟨Nat.le_of_ble_eq_true rfl, Nat.le_of_ble_eq_true rfl⟩ dL_cut_5 (pc' := 8) rfl ?_ ?_
  · intro E h9 q9
    rcases hx E h9 q9 with rfl | rfl
    · refine vv_catch (name := xIOE) cx hX hN [] ⟨0, 10, 13, 25⟩ [⟨0, 10, 17, 19⟩] (htab.trans rfl) (fun z hz => by cases hz) (by decide) (by decide) ww_335 (by decide) (fun q => ?_)
      refine vv_astore cx dL_cut_13 (Nat.le_of_ble_eq_true rfl) (pc' := 15) rfl ?_
      refine vv_iconst cx dL_cut_15 (v := 1) (by decide) (pc' := 16) rfl ?_
      exact vv_iret cx hr hlocks dL_cut_16 (Nat.le_of_ble_eq_true rfl) (Nat.le_of_ble_eq_true rfl) (Or.inr (Or.inl ⟨rfl, q9⟩))
    · refine vv_catch (name := xISE) cx hX hN [⟨0, 10, 13, 25⟩] ⟨0, 10, 17, 19⟩ [] (htab.trans rfl) (List.forall_mem_cons.mpr ⟨⟨by decide, _, ww_335, by decide⟩, fun _ hz => absurd hz List.not_mem_nil⟩) (by decide) (by decide) ww_305 (by decide) (fun q => ?_)
      refine vv_astore cx dL_cut_17 (Nat.le_of_ble_eq_true rfl) (pc' := 19) rfl ?_
      refine vv_iconst cx dL_cut_19 (v := 2) (by decide) (pc' := 20) rfl ?_
      exact vv_iret cx hr hlocks dL_cut_20 (Nat.le_of_ble_eq_true rfl) (Nat.le_of_ble_eq_true rfl) (Or.inr (Or.inr (⟨rfl, q9⟩)))
  · intro r9 h9 q9
    refine vv_i2l cx dL_cut_8 (pc' := 9) rfl ?_
    refine vv_last cx dL_cut_9 (pc' := 10) rfl ?_
    refine vv_goto cx dL_cut_10 (tgt := 21) (by decide) ?_
    refine vv_iconst cx dL_cut_21 (v := 0) (by decide) (pc' := 22) rfl ?_
    exact vv_iret cx hr hlocks dL_cut_22 (Nat.le_of_ble_eq_true rfl) (Nat.le_of_ble_eq_true rfl) (Or.inl ⟨rfl, _, _, q9, rfl⟩)
abbrev wL_over : List Cond := Cond.codeWith yL_over cL_over 4 (some .int) [(0, 9, 12, 25), (0, 9, 15, 19)] :: pq_W
set_option maxRecDepth 100000 in
set_option maxHeartbeats 4000000 in
theorem tL_over (l : Launch) (g : pq_G) (h : pq_H) (x : Int32) {post : Int32 → pq_H → Prop} {xpost : String → pq_H → Prop} (hM : XI l yP_over wP_over rP_over g 2 12 [.ref (g.2.2 0), .int x] h post xpost) (hx : ∀ E h9, xpost E h9 → E = xIOE ∨ E = xISE) : XH l yL_over wL_over rL_over g 2 12 [.ref (g.2.2 0), .int x, .ref (g.2.2 124)] h (fun k9 h9 => (k9 = 0 ∧ ∃ r h8, post r h8 ∧ h9 = va_up h8 124 (upd (h8 124) 0 r)) ∨ (k9 = 1 ∧ xpost xIOE h9) ∨ (k9 = 2 ∧ xpost xISE h9)) := by
  refine XH.of (cc := cL_over) (maxL := 4) (ret := some .int) (hh := [(0, 9, 12, 25), (0, 9, 15, 19)]) (by decide +kernel) (by simp [Value.category]) (Nat.le_of_ble_eq_true rfl) ?_
  intro p e s m below meth c cx hX hN hr hlocks htab
  refine vv_aload_n cx dL_over_0 rfl rfl (pc' := 1) rfl ?_
  refine vv_iconst cx dL_over_1 (v := 0) (by decide) (pc' := 2) rfl ?_
  refine vv_aload_n cx dL_over_2 rfl rfl (pc' := 3) rfl ?_
  refine vv_iload_n cx dL_over_3 rfl rfl (pc' := 4) rfl ?_
  refine cc_Vi cx hX hM kP_over ww_496 rfl rfl ⟨Nat.le_of_ble_eq_true rfl, Nat.le_of_ble_eq_true rfl⟩ 0 (by decide) sh_0 rfl rfl rfl rfl (Nat.le_of_ble_eq_true rfl) rfl ⟨Nat.le_of_ble_eq_true rfl, Nat.le_of_ble_eq_true rfl⟩ dL_over_4 (pc' := 7) rfl ?_ ?_
  · intro E h9 q9
    rcases hx E h9 q9 with rfl | rfl
    · refine vv_catch (name := xIOE) cx hX hN [] ⟨0, 9, 12, 25⟩ [⟨0, 9, 15, 19⟩] (htab.trans rfl) (fun z hz => by cases hz) (by decide) (by decide) ww_335 (by decide) (fun q => ?_)
      refine vv_astore_n cx dL_over_12 rfl (Nat.le_of_ble_eq_true rfl) (pc' := 13) rfl ?_
      refine vv_iconst cx dL_over_13 (v := 1) (by decide) (pc' := 14) rfl ?_
      exact vv_iret cx hr hlocks dL_over_14 (Nat.le_of_ble_eq_true rfl) (Nat.le_of_ble_eq_true rfl) (Or.inr (Or.inl ⟨rfl, q9⟩))
    · refine vv_catch (name := xISE) cx hX hN [⟨0, 9, 12, 25⟩] ⟨0, 9, 15, 19⟩ [] (htab.trans rfl) (List.forall_mem_cons.mpr ⟨⟨by decide, _, ww_335, by decide⟩, fun _ hz => absurd hz List.not_mem_nil⟩) (by decide) (by decide) ww_305 (by decide) (fun q => ?_)
      refine vv_astore_n cx dL_over_15 rfl (Nat.le_of_ble_eq_true rfl) (pc' := 16) rfl ?_
      refine vv_iconst cx dL_over_16 (v := 2) (by decide) (pc' := 17) rfl ?_
      exact vv_iret cx hr hlocks dL_over_17 (Nat.le_of_ble_eq_true rfl) (Nat.le_of_ble_eq_true rfl) (Or.inr (Or.inr (⟨rfl, q9⟩)))
  · intro r9 h9 q9
    refine vv_i2l cx dL_over_7 (pc' := 8) rfl ?_
    refine vv_last cx dL_over_8 (pc' := 9) rfl ?_
    refine vv_goto cx dL_over_9 (tgt := 18) (by decide) ?_
    refine vv_iconst cx dL_over_18 (v := 0) (by decide) (pc' := 19) rfl ?_
    exact vv_iret cx hr hlocks dL_over_19 (Nat.le_of_ble_eq_true rfl) (Nat.le_of_ble_eq_true rfl) (Or.inl ⟨rfl, _, _, q9, rfl⟩)
abbrev wL_keep : List Cond := Cond.codeWith yL_keep cL_keep 5 (some .int) [(0, 10, 13, 25), (0, 10, 17, 19), (0, 10, 21, 13), (0, 10, 25, 37)] :: pq_W
set_option maxRecDepth 100000 in
set_option maxHeartbeats 4000000 in
theorem tL_keep (l : Launch) (g : pq_G) (h : pq_H) (x y : Int32) {post : Int32 → pq_H → Prop} {xpost : String → pq_H → Prop} (hM : XI l yP_keep wP_keep rP_keep g 3 18 [.ref (g.2.2 0), .int x, .int y] h post xpost) (hx : ∀ E h9, xpost E h9 → E = xIOE ∨ E = xISE ∨ E = xIAE ∨ E = xUOE) : XH l yL_keep wL_keep rL_keep g 3 18 [.ref (g.2.2 0), .int x, .int y, .ref (g.2.2 124)] h (fun k9 h9 => (k9 = 0 ∧ ∃ r h8, post r h8 ∧ h9 = va_up h8 124 (upd (h8 124) 0 r)) ∨ (k9 = 1 ∧ xpost xIOE h9) ∨ (k9 = 2 ∧ xpost xISE h9) ∨ (k9 = 3 ∧ xpost xIAE h9) ∨ (k9 = 4 ∧ xpost xUOE h9)) := by
  refine XH.of (cc := cL_keep) (maxL := 5) (ret := some .int) (hh := [(0, 10, 13, 25), (0, 10, 17, 19), (0, 10, 21, 13), (0, 10, 25, 37)]) (by decide +kernel) (by simp [Value.category]) (Nat.le_of_ble_eq_true rfl) ?_
  intro p e s m below meth c cx hX hN hr hlocks htab
  refine vv_aload_n cx dL_keep_0 rfl rfl (pc' := 1) rfl ?_
  refine vv_iconst cx dL_keep_1 (v := 0) (by decide) (pc' := 2) rfl ?_
  refine vv_aload_n cx dL_keep_2 rfl rfl (pc' := 3) rfl ?_
  refine vv_iload_n cx dL_keep_3 rfl rfl (pc' := 4) rfl ?_
  refine vv_iload_n cx dL_keep_4 rfl rfl (pc' := 5) rfl ?_
  refine cc_Vi cx hX hM kP_keep ww_504 rfl rfl ⟨Nat.le_of_ble_eq_true rfl, Nat.le_of_ble_eq_true rfl⟩ 0 (by decide) sh_0 rfl rfl rfl rfl (Nat.le_of_ble_eq_true rfl) rfl ⟨Nat.le_of_ble_eq_true rfl, Nat.le_of_ble_eq_true rfl⟩ dL_keep_5 (pc' := 8) rfl ?_ ?_
  · intro E h9 q9
    rcases hx E h9 q9 with rfl | rfl | rfl | rfl
    · refine vv_catch (name := xIOE) cx hX hN [] ⟨0, 10, 13, 25⟩ [⟨0, 10, 17, 19⟩, ⟨0, 10, 21, 13⟩, ⟨0, 10, 25, 37⟩] (htab.trans rfl) (fun z hz => by cases hz) (by decide) (by decide) ww_335 (by decide) (fun q => ?_)
      refine vv_astore cx dL_keep_13 (Nat.le_of_ble_eq_true rfl) (pc' := 15) rfl ?_
      refine vv_iconst cx dL_keep_15 (v := 1) (by decide) (pc' := 16) rfl ?_
      exact vv_iret cx hr hlocks dL_keep_16 (Nat.le_of_ble_eq_true rfl) (Nat.le_of_ble_eq_true rfl) (Or.inr (Or.inl ⟨rfl, q9⟩))
    · refine vv_catch (name := xISE) cx hX hN [⟨0, 10, 13, 25⟩] ⟨0, 10, 17, 19⟩ [⟨0, 10, 21, 13⟩, ⟨0, 10, 25, 37⟩] (htab.trans rfl) (List.forall_mem_cons.mpr ⟨⟨by decide, _, ww_335, by decide⟩, fun _ hz => absurd hz List.not_mem_nil⟩) (by decide) (by decide) ww_305 (by decide) (fun q => ?_)
      refine vv_astore cx dL_keep_17 (Nat.le_of_ble_eq_true rfl) (pc' := 19) rfl ?_
      refine vv_iconst cx dL_keep_19 (v := 2) (by decide) (pc' := 20) rfl ?_
      exact vv_iret cx hr hlocks dL_keep_20 (Nat.le_of_ble_eq_true rfl) (Nat.le_of_ble_eq_true rfl) (Or.inr (Or.inr (Or.inl ⟨rfl, q9⟩)))
    · refine vv_catch (name := xIAE) cx hX hN [⟨0, 10, 13, 25⟩, ⟨0, 10, 17, 19⟩] ⟨0, 10, 21, 13⟩ [⟨0, 10, 25, 37⟩] (htab.trans rfl) (List.forall_mem_cons.mpr ⟨⟨by decide, _, ww_335, by decide⟩, List.forall_mem_cons.mpr ⟨⟨by decide, _, ww_305, by decide⟩, fun _ hz => absurd hz List.not_mem_nil⟩⟩) (by decide) (by decide) ww_216 (by decide) (fun q => ?_)
      refine vv_astore cx dL_keep_21 (Nat.le_of_ble_eq_true rfl) (pc' := 23) rfl ?_
      refine vv_iconst cx dL_keep_23 (v := 3) (by decide) (pc' := 24) rfl ?_
      exact vv_iret cx hr hlocks dL_keep_24 (Nat.le_of_ble_eq_true rfl) (Nat.le_of_ble_eq_true rfl) (Or.inr (Or.inr (Or.inr (Or.inl ⟨rfl, q9⟩))))
    · refine vv_catch (name := xUOE) cx hX hN [⟨0, 10, 13, 25⟩, ⟨0, 10, 17, 19⟩, ⟨0, 10, 21, 13⟩] ⟨0, 10, 25, 37⟩ [] (htab.trans rfl) (List.forall_mem_cons.mpr ⟨⟨by decide, _, ww_335, by decide⟩, List.forall_mem_cons.mpr ⟨⟨by decide, _, ww_305, by decide⟩, List.forall_mem_cons.mpr ⟨⟨by decide, _, ww_216, by decide⟩, fun _ hz => absurd hz List.not_mem_nil⟩⟩⟩) (by decide) (by decide) ww_382 (by decide) (fun q => ?_)
      refine vv_astore cx dL_keep_25 (Nat.le_of_ble_eq_true rfl) (pc' := 27) rfl ?_
      refine vv_iconst cx dL_keep_27 (v := 4) (by decide) (pc' := 28) rfl ?_
      exact vv_iret cx hr hlocks dL_keep_28 (Nat.le_of_ble_eq_true rfl) (Nat.le_of_ble_eq_true rfl) (Or.inr (Or.inr (Or.inr (Or.inr (⟨rfl, q9⟩)))))
  · intro r9 h9 q9
    refine vv_i2l cx dL_keep_8 (pc' := 9) rfl ?_
    refine vv_last cx dL_keep_9 (pc' := 10) rfl ?_
    refine vv_goto cx dL_keep_10 (tgt := 29) (by decide) ?_
    refine vv_iconst cx dL_keep_29 (v := 0) (by decide) (pc' := 30) rfl ?_
    exact vv_iret cx hr hlocks dL_keep_30 (Nat.le_of_ble_eq_true rfl) (Nat.le_of_ble_eq_true rfl) (Or.inl ⟨rfl, _, _, q9, rfl⟩)
abbrev wL_kept : List Cond := Cond.codeWith yL_kept cL_kept 5 (some .int) [(0, 10, 13, 25)] :: pq_W
set_option maxRecDepth 100000 in
set_option maxHeartbeats 4000000 in
theorem tL_kept (l : Launch) (g : pq_G) (h : pq_H) (x y : Int32) {post : Int32 → pq_H → Prop} {xpost : String → pq_H → Prop} (hM : XI l yP_kept wP_kept rP_kept g 1 6 [.ref (g.2.2 0), .int x, .int y] h post xpost) (hx : ∀ E h9, xpost E h9 → E = xIOE) : XH l yL_kept wL_kept rL_kept g 1 6 [.ref (g.2.2 0), .int x, .int y, .ref (g.2.2 124)] h (fun k9 h9 => (k9 = 0 ∧ ∃ r h8, post r h8 ∧ h9 = va_up h8 124 (upd (h8 124) 0 r)) ∨ (k9 = 1 ∧ xpost xIOE h9)) := by
  refine XH.of (cc := cL_kept) (maxL := 5) (ret := some .int) (hh := [(0, 10, 13, 25)]) (by decide +kernel) (by simp [Value.category]) (Nat.le_of_ble_eq_true rfl) ?_
  intro p e s m below meth c cx hX hN hr hlocks htab
  refine vv_aload_n cx dL_kept_0 rfl rfl (pc' := 1) rfl ?_
  refine vv_iconst cx dL_kept_1 (v := 0) (by decide) (pc' := 2) rfl ?_
  refine vv_aload_n cx dL_kept_2 rfl rfl (pc' := 3) rfl ?_
  refine vv_iload_n cx dL_kept_3 rfl rfl (pc' := 4) rfl ?_
  refine vv_iload_n cx dL_kept_4 rfl rfl (pc' := 5) rfl ?_
  refine cc_Vi cx hX hM kP_kept ww_530 rfl rfl ⟨Nat.le_of_ble_eq_true rfl, Nat.le_of_ble_eq_true rfl⟩ 0 (by decide) sh_0 rfl rfl rfl rfl (Nat.le_of_ble_eq_true rfl) rfl ⟨Nat.le_of_ble_eq_true rfl, Nat.le_of_ble_eq_true rfl⟩ dL_kept_5 (pc' := 8) rfl ?_ ?_
  · intro E h9 q9
    rcases hx E h9 q9 with rfl
    · refine vv_catch (name := xIOE) cx hX hN [] ⟨0, 10, 13, 25⟩ [] (htab.trans rfl) (fun z hz => by cases hz) (by decide) (by decide) ww_335 (by decide) (fun q => ?_)
      refine vv_astore cx dL_kept_13 (Nat.le_of_ble_eq_true rfl) (pc' := 15) rfl ?_
      refine vv_iconst cx dL_kept_15 (v := 1) (by decide) (pc' := 16) rfl ?_
      exact vv_iret cx hr hlocks dL_kept_16 (Nat.le_of_ble_eq_true rfl) (Nat.le_of_ble_eq_true rfl) (Or.inr (⟨rfl, q9⟩))
  · intro r9 h9 q9
    refine vv_i2l cx dL_kept_8 (pc' := 9) rfl ?_
    refine vv_last cx dL_kept_9 (pc' := 10) rfl ?_
    refine vv_goto cx dL_kept_10 (tgt := 17) (by decide) ?_
    refine vv_iconst cx dL_kept_17 (v := 0) (by decide) (pc' := 18) rfl ?_
    exact vv_iret cx hr hlocks dL_kept_18 (Nat.le_of_ble_eq_true rfl) (Nat.le_of_ble_eq_true rfl) (Or.inl ⟨rfl, _, _, q9, rfl⟩)
abbrev wL_fitting : List Cond := Cond.codeWith yL_fitting cL_fitting 4 (some .int) [(0, 9, 12, 25)] :: pq_W
set_option maxRecDepth 100000 in
set_option maxHeartbeats 4000000 in
theorem tL_fitting (l : Launch) (g : pq_G) (h : pq_H) (x : Int32) {post : Int32 → pq_H → Prop} {xpost : String → pq_H → Prop} (hM : XI l yP_fitting wP_fitting rP_fitting g 1 6 [.ref (g.2.2 0), .int x] h post xpost) (hx : ∀ E h9, xpost E h9 → E = xIOE) : XH l yL_fitting wL_fitting rL_fitting g 1 6 [.ref (g.2.2 0), .int x, .ref (g.2.2 124)] h (fun k9 h9 => (k9 = 0 ∧ ∃ r h8, post r h8 ∧ h9 = va_up h8 124 (upd (h8 124) 0 r)) ∨ (k9 = 1 ∧ xpost xIOE h9)) := by
  refine XH.of (cc := cL_fitting) (maxL := 4) (ret := some .int) (hh := [(0, 9, 12, 25)]) (by decide +kernel) (by simp [Value.category]) (Nat.le_of_ble_eq_true rfl) ?_
  intro p e s m below meth c cx hX hN hr hlocks htab
  refine vv_aload_n cx dL_fitting_0 rfl rfl (pc' := 1) rfl ?_
  refine vv_iconst cx dL_fitting_1 (v := 0) (by decide) (pc' := 2) rfl ?_
  refine vv_aload_n cx dL_fitting_2 rfl rfl (pc' := 3) rfl ?_
  refine vv_iload_n cx dL_fitting_3 rfl rfl (pc' := 4) rfl ?_
  refine cc_Vi cx hX hM kP_fitting ww_538 rfl rfl ⟨Nat.le_of_ble_eq_true rfl, Nat.le_of_ble_eq_true rfl⟩ 0 (by decide) sh_0 rfl rfl rfl rfl (Nat.le_of_ble_eq_true rfl) rfl ⟨Nat.le_of_ble_eq_true rfl, Nat.le_of_ble_eq_true rfl⟩ dL_fitting_4 (pc' := 7) rfl ?_ ?_
  · intro E h9 q9
    rcases hx E h9 q9 with rfl
    · refine vv_catch (name := xIOE) cx hX hN [] ⟨0, 9, 12, 25⟩ [] (htab.trans rfl) (fun z hz => by cases hz) (by decide) (by decide) ww_335 (by decide) (fun q => ?_)
      refine vv_astore_n cx dL_fitting_12 rfl (Nat.le_of_ble_eq_true rfl) (pc' := 13) rfl ?_
      refine vv_iconst cx dL_fitting_13 (v := 1) (by decide) (pc' := 14) rfl ?_
      exact vv_iret cx hr hlocks dL_fitting_14 (Nat.le_of_ble_eq_true rfl) (Nat.le_of_ble_eq_true rfl) (Or.inr (⟨rfl, q9⟩))
  · intro r9 h9 q9
    refine vv_i2l cx dL_fitting_7 (pc' := 8) rfl ?_
    refine vv_last cx dL_fitting_8 (pc' := 9) rfl ?_
    refine vv_goto cx dL_fitting_9 (tgt := 15) (by decide) ?_
    refine vv_iconst cx dL_fitting_15 (v := 0) (by decide) (pc' := 16) rfl ?_
    exact vv_iret cx hr hlocks dL_fitting_16 (Nat.le_of_ble_eq_true rfl) (Nat.le_of_ble_eq_true rfl) (Or.inl ⟨rfl, _, _, q9, rfl⟩)

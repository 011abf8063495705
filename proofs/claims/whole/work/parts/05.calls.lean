/-! part 05 (printed by wip/whole/gen5.py): layouts, rooms, callee records, call rules -/
theorem lyP : ∀ w ∈ u_ws RP TP 4, w ∈ pq_W := by decide +kernel
theorem lyS : ∀ w ∈ u_ws RS TS 5, w ∈ pq_W := by decide +kernel
theorem lyD : ∀ w ∈ u_ws RD TD 5, w ∈ pq_W := by decide +kernel
theorem lyG : ∀ w ∈ u_ws RG TG 9, w ∈ pq_W := by decide +kernel
theorem lyT : ∀ w ∈ u_ws RT TT 4, w ∈ pq_W := by decide +kernel
theorem lyM : ∀ w ∈ u_ws RM TM 15, w ∈ pq_W := by decide +kernel
theorem sh_0 : pq_sh 0 = .inl (0, [some 1, some 2, some 3, some 4]) := rfl
theorem sh_1 : pq_sh 1 = .inl (1, [none, none, some 8, some 9, some 10]) := rfl
theorem sh_2 : pq_sh 2 = .inl (2, [some 1, some 11, some 12, none, none]) := rfl
theorem sh_3 : pq_sh 3 = .inl (3, [some 1, some 13, none, some 5, some 6, none, none, none, none]) := rfl
theorem sh_4 : pq_sh 4 = .inl (4, [none, some 7, some 14, some 15]) := rfl
theorem sh_5 : pq_sh 5 = .inr (.inr (.inr (30, fun j => 16 + j))) := rfl
theorem sh_6 : pq_sh 6 = .inr (.inr (.inr (30, fun j => 46 + j))) := rfl
theorem sh_7 : pq_sh 7 = .inr (.inr (.inr (40, fun j => 76 + j))) := rfl
theorem sh_8 : pq_sh 8 = .inr (.inl 5) := rfl
theorem sh_9 : pq_sh 9 = .inr (.inl 5) := rfl
theorem sh_10 : pq_sh 10 = .inr (.inl 5) := rfl
theorem sh_11 : pq_sh 11 = .inr (.inl 5) := rfl
theorem sh_12 : pq_sh 12 = .inr (.inl 5) := rfl
theorem sh_13 : pq_sh 13 = .inr (.inl 5) := rfl
theorem sh_14 : pq_sh 14 = .inr (.inl 40) := rfl
theorem sh_15 : pq_sh 15 = .inr (.inl 40) := rfl
theorem sh_116 : pq_sh 116 = .inl (5, [none, none, none, some 117, some 118, some 119, some 120, some 121, none, some 122, none, none, none, none, some 123]) := rfl
theorem sh_117 : pq_sh 117 = .inr (.inl 5) := rfl
theorem sh_118 : pq_sh 118 = .inr (.inl 5) := rfl
theorem sh_119 : pq_sh 119 = .inr (.inl 5) := rfl
theorem sh_120 : pq_sh 120 = .inr (.inl 160) := rfl
theorem sh_121 : pq_sh 121 = .inr (.inl 160) := rfl
theorem sh_122 : pq_sh 122 = .inr (.inl 155) := rfl
theorem sh_123 : pq_sh 123 = .inr (.inl 280) := rfl
theorem sh_124 : pq_sh 124 = .inr (.inr (.inl 1)) := rfl
theorem sh_row {k : Nat} (h1 : 16 ≤ k) (h2 : k < 116) : pq_sh k = .inr (.inl 5) := by
  unfold pq_sh
  rw [if_neg (by omega), if_pos h2]
theorem sh_five {k : Nat} (h : (8 ≤ k ∧ k < 14) ∨ (16 ≤ k ∧ k < 116)) : pq_sh k = .inr (.inl 5) := by
  rcases h with ⟨h1, h2⟩ | ⟨h1, h2⟩
  · have : k = 8 ∨ k = 9 ∨ k = 10 ∨ k = 11 ∨ k = 12 ∨ k = 13 := by omega
    rcases this with rfl | rfl | rfl | rfl | rfl | rfl <;> rfl
  · exact sh_row h1 h2
def pq_cal (y : MethodName) (b : ByteArray) (n : Nat) (r : Option FieldType) (k : Nat) : Prop := Cond.code y b n r ∈ pq_W ∧ Cond.initialized y.cls ∈ pq_W ∧ (y.cls ≠ "java/lang/invoke/MethodHandle" ∧ y.cls ≠ "java/lang/invoke/VarHandle" ∧ (parseMethodDescriptor y.desc).map (fun d => d.parameters.length) = some k)
abbrev pq_rec (y : MethodName) (b : ByteArray) (n : Nat) (r : Option FieldType) (k : Nat) : Prop := pq_cal y b n r k ∧ Cond.instanceMethod y ∈ pq_W ∧ Cond.selects y.cls y y ∈ pq_W
abbrev pq_recS (y : MethodName) (b : ByteArray) (n : Nat) (r : Option FieldType) (k : Nat) : Prop := pq_cal y b n r k ∧ Cond.static y ∈ pq_W
theorem pq_goodIn {y : MethodName} {b : ByteArray} {n : Nat} {r : Option FieldType} (h : Cond.code y b n r ∈ pq_W) : GoodIn pq_W (Cond.code y b n r :: pq_W) := fun w hw => by
  have h2 : w ∈ pq_W := (List.mem_cons.mp hw).elim (fun q => by rw [q]; exact h) id
  exact ⟨h2, good_of_word (pq_Wgood h2)⟩
section CCR
variable {p : Program} {l : Launch} {e : Env} {R : Room} {s : State} {m : MethodId} {args : Array Value} {below : List Frame} {meth : Method} {c : Code} {Q : State → Prop} {g : pq_G} {cells slots : Nat} {h : pq_H} {pc pc' : Nat} {vs : List (Option Value)} {st st0 rest : List Value}
variable {cc bytes : ByteArray} {nL maxL index n mc ms : Nat} {own : String} {y : MethodName} {rm : Room} {ret : Option FieldType} {av As : List Value} {xpost : String → pq_H → Prop}
theorem pq_callB (cx : CX p s m args c cc nL own g) (hc : pq_cal y bytes maxL ret n) (hl : Cond.methodLink own index y ∈ pq_W) (hrc : rm.cells = mc) (hrs : rm.slots = ms) (hR : rm.frames + 1 ≤ R.frames ∧ 8 + (maxL + 11) + rm.locals ≤ R.locals) : CallB R s args own index y bytes maxL ret (Cond.code y bytes maxL ret :: pq_W) rm mc ms n :=
  callB_of n cx.1.2.2.2.2 (pq_goodIn hc.1) rfl hrc hrs (cx.1.2.2.2.2 _ hc.2.1) (cx.1.2.2.2.2 _ hl) hc.2.2 hR
theorem cc_Vi {post : Int32 → pq_H → Prop} (cx : CX p s m args c cc nL own g) (hX : pq_X g s.heap.size s) (hM : XI l y (Cond.code y bytes maxL ret :: pq_W) rm g mc ms av h post xpost) (hc : pq_rec y bytes maxL ret n) (hl : Cond.methodLink own index y ∈ pq_W) (hrc : rm.cells = mc) (hrs : rm.slots = ms) (hR : rm.frames + 1 ≤ R.frames ∧ 8 + (maxL + 11) + rm.locals ≤ R.locals) (k : Nat) (hk : k < pq_N) {ci : Nat} {fl : List (Option Nat)} (hsh : pq_sh k = .inl (ci, fl)) {T : u_T} {NN : Nat} (hci : vwCl[ci]? = some (y.cls, T, NN)) (hav : av = .ref (g.2.2 k) :: As) (hn : As.length = n) (hst : st0 = As.reverse ++ .ref (g.2.2 k) :: rest) (hroom : (rest.map fun v => v.category).sum ≤ 8) (hvs : vs.length = nL) (hf : cells + mc ≤ R.cells ∧ slots + ms ≤ R.slots) (hd : decode cc pc = .ok (.invokevirtual index, 3)) (hp : pc + 3 = pc')
    (kx : ∀ (E : String) (h' : pq_H), xpost E h' → VX p l e R s m args below meth c Q g (cells + mc) (slots + ms) h' pc vs rest E)
    (kk : ∀ (r : Int32) (h' : pq_H), post r h' → VV p l e R s m args below meth c Q g (cells + mc) (slots + ms) h' pc' vs (.int r :: rest)) : VV p l e R s m args below meth c Q g cells slots h pc vs st0 :=
  vv_callVi cx hX hM ⟨pq_callB cx hc.1 hl hrc hrs hR, cx.1.2.2.2.2 _ hc.2.1, cx.1.2.2.2.2 _ hc.2.2⟩ k hk hsh hci hav hn hst hroom hvs hf hd hp kx kk
theorem cc_Vv {post : pq_H → Prop} (cx : CX p s m args c cc nL own g) (hX : pq_X g s.heap.size s) (hM : XV l y (Cond.code y bytes maxL ret :: pq_W) rm g mc ms av h post xpost) (hc : pq_rec y bytes maxL ret n) (hl : Cond.methodLink own index y ∈ pq_W) (hrc : rm.cells = mc) (hrs : rm.slots = ms) (hR : rm.frames + 1 ≤ R.frames ∧ 8 + (maxL + 11) + rm.locals ≤ R.locals) (k : Nat) (hk : k < pq_N) {ci : Nat} {fl : List (Option Nat)} (hsh : pq_sh k = .inl (ci, fl)) {T : u_T} {NN : Nat} (hci : vwCl[ci]? = some (y.cls, T, NN)) (hav : av = .ref (g.2.2 k) :: As) (hn : As.length = n) (hst : st0 = As.reverse ++ .ref (g.2.2 k) :: rest) (hroom : (rest.map fun v => v.category).sum ≤ 8) (hvs : vs.length = nL) (hf : cells + mc ≤ R.cells ∧ slots + ms ≤ R.slots) (hd : decode cc pc = .ok (.invokevirtual index, 3)) (hp : pc + 3 = pc')
    (kx : ∀ (E : String) (h' : pq_H), xpost E h' → VX p l e R s m args below meth c Q g (cells + mc) (slots + ms) h' pc vs rest E)
    (kk : ∀ (h' : pq_H), post h' → VV p l e R s m args below meth c Q g (cells + mc) (slots + ms) h' pc' vs rest) : VV p l e R s m args below meth c Q g cells slots h pc vs st0 :=
  vv_callVv cx hX hM ⟨pq_callB cx hc.1 hl hrc hrs hR, cx.1.2.2.2.2 _ hc.2.1, cx.1.2.2.2.2 _ hc.2.2⟩ k hk hsh hci hav hn hst hroom hvs hf hd hp kx kk
theorem cc_Si {post : Int32 → pq_H → Prop} (cx : CX p s m args c cc nL own g) (hX : pq_X g s.heap.size s) (hM : XI l y (Cond.code y bytes maxL ret :: pq_W) rm g mc ms av h post xpost) (hc : pq_recS y bytes maxL ret n) (hl : Cond.methodLink own index y ∈ pq_W) (hrc : rm.cells = mc) (hrs : rm.slots = ms) (hR : rm.frames + 1 ≤ R.frames ∧ 8 + (maxL + 11) + rm.locals ≤ R.locals) (hn : av.length = n) (hst : st0 = av.reverse ++ rest) (hroom : (rest.map fun v => v.category).sum ≤ 8) (hvs : vs.length = nL) (hf : cells + mc ≤ R.cells ∧ slots + ms ≤ R.slots) (hd : decode cc pc = .ok (.invokestatic index, 3)) (hp : pc + 3 = pc')
    (kx : ∀ (E : String) (h' : pq_H), xpost E h' → VX p l e R s m args below meth c Q g (cells + mc) (slots + ms) h' pc vs rest E)
    (kk : ∀ (r : Int32) (h' : pq_H), post r h' → VV p l e R s m args below meth c Q g (cells + mc) (slots + ms) h' pc' vs (.int r :: rest)) : VV p l e R s m args below meth c Q g cells slots h pc vs st0 :=
  vv_callSi cx hX hM ⟨pq_callB cx hc.1 hl hrc hrs hR, cx.1.2.2.2.2 _ hc.2⟩ hn hst hroom hvs hf hd hp kx kk
theorem cc_Ni {host : String} {post : Int32 → pq_H → Prop} (cx : CX p s m args c cc nL own g) (hX : pq_X g s.heap.size s) (hM : XI l y (Cond.code y bytes maxL ret :: pq_W) rm g mc ms av h post pq_no) (hc : pq_recS y bytes maxL ret n) (hl : Cond.methodLinkNest own index y host ∈ pq_Wn) (hrc : rm.cells = mc) (hrs : rm.slots = ms) (hR : rm.frames + 1 ≤ R.frames ∧ 8 + (maxL + 11) + rm.locals ≤ R.locals) (hn : av.length = n) (hst : st0 = av.reverse ++ rest) (hroom : (rest.map fun v => v.category).sum ≤ 8) (hvs : vs.length = nL) (hf : cells + mc ≤ R.cells ∧ slots + ms ≤ R.slots) (hd : decode cc pc = .ok (.invokestatic index, 3)) (hp : pc + 3 = pc')
    (kk : ∀ (r : Int32) (h' : pq_H), post r h' → VV p l e R s m args below meth c Q g (cells + mc) (slots + ms) h' pc' vs (.int r :: rest)) : VV p l e R s m args below meth c Q g cells slots h pc vs st0 :=
  vv_callNi cx hX hM ⟨va_cnB n cx.1.2.2.2.2 (pq_goodIn hc.1.1) rfl hrc hrs (hX.2.2.2 _ hl) (cx.1.2.2.2.2 _ hc.1.2.1) hc.1.2.2 hR, cx.1.2.2.2.2 _ hc.2, trivial⟩ hn hst hroom hvs hf hd hp kk
end CCR
abbrev rP_init : Room := { frames := 2, cells := 0, slots := 0, locals := 42 }
abbrev rS_init : Room := { frames := 1, cells := 0, slots := 0, locals := 21 }
abbrev rD_init : Room := { frames := 1, cells := 0, slots := 0, locals := 21 }
abbrev rG_init : Room := { frames := 1, cells := 0, slots := 0, locals := 21 }
abbrev rT_init : Room := { frames := 1, cells := 0, slots := 0, locals := 21 }
abbrev rP_column : Room := { frames := 5, cells := 0, slots := 0, locals := 121 }
abbrev wP_column : List Cond := Cond.code yP_column cP_column 1 (some .int) :: pq_W
theorem kP_column : pq_rec yP_column cP_column 1 (some .int) 0 := ⟨⟨ww_158, ww_1, by decide +kernel⟩, ww_156, ww_157⟩
abbrev rD_priceSum : Room := { frames := 4, cells := 0, slots := 0, locals := 101 }
abbrev wD_priceSum : List Cond := Cond.code yD_priceSum cD_priceSum 1 (some .int) :: pq_W
theorem kD_priceSum : pq_rec yD_priceSum cD_priceSum 1 (some .int) 0 := ⟨⟨ww_162, ww_3, by decide +kernel⟩, ww_160, ww_161⟩
abbrev rD_seek : Room := { frames := 3, cells := 0, slots := 0, locals := 77 }
abbrev wD_seek : List Cond := Cond.code yD_seek cD_seek 5 none :: pq_W
theorem kD_seek : pq_rec yD_seek cD_seek 5 none 0 := ⟨⟨ww_166, ww_3, by decide +kernel⟩, ww_165, ws_0⟩
abbrev rS_firstPattern : Room := { frames := 2, cells := 0, slots := 0, locals := 51 }
abbrev wS_firstPattern : List Cond := Cond.code yS_firstPattern cS_firstPattern 3 none :: pq_W
theorem kS_firstPattern : pq_rec yS_firstPattern cS_firstPattern 3 none 2 := ⟨⟨ww_170, ww_2, by decide +kernel⟩, ww_168, ww_169⟩
abbrev rS_fillFrom : Room := { frames := 1, cells := 0, slots := 0, locals := 24 }
abbrev wS_fillFrom : List Cond := Cond.code yS_fillFrom cS_fillFrom 8 none :: pq_W
theorem kS_fillFrom : pq_rec yS_fillFrom cS_fillFrom 8 none 3 := ⟨⟨ww_174, ww_2, by decide +kernel⟩, ww_173, ws_1⟩
abbrev rS_widthOfFirst : Room := { frames := 0, cells := 0, slots := 0, locals := 0 }
abbrev wS_widthOfFirst : List Cond := Cond.code yS_widthOfFirst cS_widthOfFirst 5 (some .int) :: pq_W
theorem kS_widthOfFirst : pq_rec yS_widthOfFirst cS_widthOfFirst 5 (some .int) 2 := ⟨⟨ww_178, ww_2, by decide +kernel⟩, ww_177, ws_2⟩
abbrev rS_priceOf : Room := { frames := 0, cells := 0, slots := 0, locals := 0 }
abbrev wS_priceOf : List Cond := Cond.code yS_priceOf cS_priceOf 4 (some .int) :: pq_W
theorem kS_priceOf : pq_rec yS_priceOf cS_priceOf 4 (some .int) 1 := ⟨⟨ww_185, ww_2, by decide +kernel⟩, ww_183, ww_184⟩
abbrev rD_take : Room := { frames := 1, cells := 0, slots := 0, locals := 40 }
abbrev wD_take : List Cond := Cond.code yD_take cD_take 2 none :: pq_W
theorem kD_take : pq_rec yD_take cD_take 2 none 1 := ⟨⟨ww_189, ww_3, by decide +kernel⟩, ww_188, ws_3⟩
abbrev rS_nextPattern : Room := { frames := 2, cells := 0, slots := 0, locals := 51 }
abbrev wS_nextPattern : List Cond := Cond.code yS_nextPattern cS_nextPattern 7 (some .boolean) :: pq_W
theorem kS_nextPattern : pq_rec yS_nextPattern cS_nextPattern 7 (some .boolean) 4 := ⟨⟨ww_196, ww_2, by decide +kernel⟩, ww_194, ww_195⟩
abbrev rP_bound : Room := { frames := 6, cells := 0, slots := 0, locals := 141 }
abbrev wP_bound : List Cond := Cond.code yP_bound cP_bound 1 (some .int) :: pq_W
theorem kP_bound : pq_rec yP_bound cP_bound 1 (some .int) 0 := ⟨⟨ww_200, ww_1, by decide +kernel⟩, ww_198, ww_199⟩
abbrev rP_boundByPrices : Room := { frames := 5, cells := 0, slots := 0, locals := 121 }
abbrev wP_boundByPrices : List Cond := Cond.code yP_boundByPrices cP_boundByPrices 1 (some .int) :: pq_W
theorem kP_boundByPrices : pq_rec yP_boundByPrices cP_boundByPrices 1 (some .int) 0 := ⟨⟨ww_204, ww_1, by decide +kernel⟩, ww_203, ws_4⟩
abbrev rS_priceOfAll : Room := { frames := 1, cells := 0, slots := 0, locals := 23 }
abbrev wS_priceOfAll : List Cond := Cond.code yS_priceOfAll cS_priceOfAll 1 (some .int) :: pq_W
theorem kS_priceOfAll : pq_rec yS_priceOfAll cS_priceOfAll 1 (some .int) 0 := ⟨⟨ww_208, ww_2, by decide +kernel⟩, ww_206, ww_207⟩
abbrev rP_roundedUp : Room := { frames := 0, cells := 0, slots := 0, locals := 0 }
abbrev wP_roundedUp : List Cond := Cond.code yP_roundedUp cP_roundedUp 2 (some .int) :: pq_W
theorem kP_roundedUp : pq_recS yP_roundedUp cP_roundedUp 2 (some .int) 2 := ⟨⟨ww_212, ww_1, by decide +kernel⟩, ww_211⟩
abbrev rL_sheet : Room := { frames := 7, cells := 1, slots := 6, locals := 121 }
abbrev rP_sheet : Room := { frames := 6, cells := 1, slots := 6, locals := 100 }
abbrev wP_sheet : List Cond := Cond.code yP_sheet cP_sheet 2 none :: pq_W
theorem kP_sheet : pq_rec yP_sheet cP_sheet 2 none 1 := ⟨⟨ww_220, ww_1, by decide +kernel⟩, ww_218, ww_219⟩
abbrev rP_forgetAnswers : Room := { frames := 1, cells := 0, slots := 0, locals := 20 }
abbrev wP_forgetAnswers : List Cond := Cond.code yP_forgetAnswers cP_forgetAnswers 1 none :: pq_W
theorem kP_forgetAnswers : pq_rec yP_forgetAnswers cP_forgetAnswers 1 none 0 := ⟨⟨ww_293, ww_1, by decide +kernel⟩, ww_292, ws_6⟩
abbrev rD_forget : Room := { frames := 0, cells := 0, slots := 0, locals := 0 }
abbrev wD_forget : List Cond := Cond.code yD_forget cD_forget 1 none :: pq_W
theorem kD_forget : pq_rec yD_forget cD_forget 1 none 0 := ⟨⟨ww_297, ww_3, by decide +kernel⟩, ww_295, ww_296⟩
abbrev rG_forget : Room := { frames := 0, cells := 0, slots := 0, locals := 0 }
abbrev wG_forget : List Cond := Cond.code yG_forget cG_forget 1 none :: pq_W
theorem kG_forget : pq_rec yG_forget cG_forget 1 none 0 := ⟨⟨ww_301, ww_4, by decide +kernel⟩, ww_299, ww_300⟩
abbrev rL_order : Room := { frames := 7, cells := 1, slots := 6, locals := 123 }
abbrev rP_order : Room := { frames := 6, cells := 1, slots := 6, locals := 100 }
abbrev wP_order : List Cond := Cond.code yP_order cP_order 4 (some .int) :: pq_W
theorem kP_order : pq_rec yP_order cP_order 4 (some .int) 2 := ⟨⟨ww_309, ww_1, by decide +kernel⟩, ww_307, ww_308⟩
abbrev rS_add : Room := { frames := 0, cells := 0, slots := 0, locals := 0 }
abbrev wS_add : List Cond := Cond.code yS_add cS_add 4 (some .int) :: pq_W
theorem kS_add : pq_rec yS_add cS_add 4 (some .int) 2 := ⟨⟨ww_331, ww_2, by decide +kernel⟩, ww_329, ww_330⟩
abbrev rL_pieces : Room := { frames := 7, cells := 1, slots := 6, locals := 122 }
abbrev rP_pieces : Room := { frames := 6, cells := 1, slots := 6, locals := 100 }
abbrev wP_pieces : List Cond := Cond.code yP_pieces cP_pieces 3 none :: pq_W
theorem kP_pieces : pq_rec yP_pieces cP_pieces 3 none 2 := ⟨⟨ww_339, ww_1, by decide +kernel⟩, ww_337, ww_338⟩
abbrev rS_has : Room := { frames := 0, cells := 0, slots := 0, locals := 0 }
abbrev wS_has : List Cond := Cond.code yS_has cS_has 2 (some .boolean) :: pq_W
theorem kS_has : pq_rec yS_has cS_has 2 (some .boolean) 1 := ⟨⟨ww_343, ww_2, by decide +kernel⟩, ww_341, ww_342⟩
abbrev rL_price : Room := { frames := 7, cells := 1, slots := 6, locals := 122 }
abbrev rP_price : Room := { frames := 6, cells := 1, slots := 6, locals := 100 }
abbrev wP_price : List Cond := Cond.code yP_price cP_price 3 none :: pq_W
theorem kP_price : pq_rec yP_price cP_price 3 none 2 := ⟨⟨ww_366, ww_1, by decide +kernel⟩, ww_364, ww_365⟩
abbrev rL_columnOf : Room := { frames := 7, cells := 1, slots := 6, locals := 143 }
abbrev rP_columnOf : Room := { frames := 6, cells := 1, slots := 6, locals := 122 }
abbrev wP_columnOf : List Cond := Cond.code yP_columnOf cP_columnOf 2 (some .int) :: pq_W
theorem kP_columnOf : pq_rec yP_columnOf cP_columnOf 2 (some .int) 1 := ⟨⟨ww_374, ww_1, by decide +kernel⟩, ww_372, ww_373⟩
abbrev rD_piecesOf : Room := { frames := 4, cells := 0, slots := 0, locals := 101 }
abbrev wD_piecesOf : List Cond := Cond.code yD_piecesOf cD_piecesOf 2 (some .int) :: pq_W
theorem kD_piecesOf : pq_rec yD_piecesOf cD_piecesOf 2 (some .int) 1 := ⟨⟨ww_378, ww_3, by decide +kernel⟩, ww_376, ww_377⟩
abbrev rL_design : Room := { frames := 7, cells := 1, slots := 6, locals := 143 }
abbrev rP_design : Room := { frames := 6, cells := 1, slots := 6, locals := 122 }
abbrev wP_design : List Cond := Cond.code yP_design cP_design 2 (some .int) :: pq_W
theorem kP_design : pq_rec yP_design cP_design 2 (some .int) 1 := ⟨⟨ww_386, ww_1, by decide +kernel⟩, ww_384, ww_385⟩
abbrev rS_somePieceIsTooWide : Room := { frames := 0, cells := 0, slots := 0, locals := 0 }
abbrev wS_somePieceIsTooWide : List Cond := Cond.code yS_somePieceIsTooWide cS_somePieceIsTooWide 2 (some .boolean) :: pq_W
theorem kS_somePieceIsTooWide : pq_rec yS_somePieceIsTooWide cS_somePieceIsTooWide 2 (some .boolean) 0 := ⟨⟨ww_392, ww_2, by decide +kernel⟩, ww_390, ww_391⟩
abbrev rG_run : Room := { frames := 4, cells := 0, slots := 0, locals := 98 }
abbrev wG_run : List Cond := Cond.code yG_run cG_run 5 none :: pq_W
theorem kG_run : pq_rec yG_run cG_run 5 none 1 := ⟨⟨ww_412, ww_4, by decide +kernel⟩, ww_410, ww_411⟩
abbrev rS_widthOfAll : Room := { frames := 1, cells := 0, slots := 0, locals := 24 }
abbrev wS_widthOfAll : List Cond := Cond.code yS_widthOfAll cS_widthOfAll 1 (some .int) :: pq_W
theorem kS_widthOfAll : pq_rec yS_widthOfAll cS_widthOfAll 1 (some .int) 0 := ⟨⟨ww_418, ww_2, by decide +kernel⟩, ww_416, ww_417⟩
abbrev rG_opens : Room := { frames := 3, cells := 0, slots := 0, locals := 73 }
abbrev wG_opens : List Cond := Cond.code yG_opens cG_opens 2 (some .boolean) :: pq_W
theorem kG_opens : pq_rec yG_opens cG_opens 2 (some .boolean) 1 := ⟨⟨ww_422, ww_4, by decide +kernel⟩, ww_421, ws_7⟩
abbrev rS_sheetsFor : Room := { frames := 1, cells := 0, slots := 0, locals := 21 }
abbrev wS_sheetsFor : List Cond := Cond.code yS_sheetsFor cS_sheetsFor 2 (some .int) :: pq_W
theorem kS_sheetsFor : pq_rec yS_sheetsFor cS_sheetsFor 2 (some .int) 1 := ⟨⟨ww_426, ww_2, by decide +kernel⟩, ww_424, ww_425⟩
abbrev rG_takeAsBest : Room := { frames := 1, cells := 0, slots := 0, locals := 40 }
abbrev wG_takeAsBest : List Cond := Cond.code yG_takeAsBest cG_takeAsBest 3 none :: pq_W
theorem kG_takeAsBest : pq_rec yG_takeAsBest cG_takeAsBest 3 none 1 := ⟨⟨ww_431, ww_4, by decide +kernel⟩, ww_430, ws_8⟩
abbrev rG_lay : Room := { frames := 2, cells := 0, slots := 0, locals := 45 }
abbrev wG_lay : List Cond := Cond.code yG_lay cG_lay 3 none :: pq_W
theorem kG_lay : pq_rec yG_lay cG_lay 3 none 1 := ⟨⟨ww_437, ww_4, by decide +kernel⟩, ww_436, ws_9⟩
abbrev rS_widthOf : Room := { frames := 1, cells := 0, slots := 0, locals := 24 }
abbrev wS_widthOf : List Cond := Cond.code yS_widthOf cS_widthOf 2 (some .int) :: pq_W
theorem kS_widthOf : pq_rec yS_widthOf cS_widthOf 2 (some .int) 1 := ⟨⟨ww_441, ww_2, by decide +kernel⟩, ww_439, ww_440⟩
abbrev rG_takeBack : Room := { frames := 2, cells := 0, slots := 0, locals := 45 }
abbrev wG_takeBack : List Cond := Cond.code yG_takeBack cG_takeBack 3 none :: pq_W
theorem kG_takeBack : pq_rec yG_takeBack cG_takeBack 3 none 1 := ⟨⟨ww_445, ww_4, by decide +kernel⟩, ww_444, ws_10⟩
abbrev rG_goesOn : Room := { frames := 3, cells := 0, slots := 0, locals := 77 }
abbrev wG_goesOn : List Cond := Cond.code yG_goesOn cG_goesOn 2 (some .boolean) :: pq_W
theorem kG_goesOn : pq_rec yG_goesOn cG_goesOn 2 (some .boolean) 1 := ⟨⟨ww_449, ww_4, by decide +kernel⟩, ww_448, ws_11⟩
abbrev rG_lowestLeft : Room := { frames := 0, cells := 0, slots := 0, locals := 0 }
abbrev wG_lowestLeft : List Cond := Cond.code yG_lowestLeft cG_lowestLeft 2 (some .int) :: pq_W
theorem kG_lowestLeft : pq_rec yG_lowestLeft cG_lowestLeft 2 (some .int) 0 := ⟨⟨ww_453, ww_4, by decide +kernel⟩, ww_452, ws_12⟩
abbrev rL_designed : Room := { frames := 7, cells := 1, slots := 6, locals := 121 }
abbrev rP_designed : Room := { frames := 6, cells := 1, slots := 6, locals := 100 }
abbrev wP_designed : List Cond := Cond.code yP_designed cP_designed 2 (some .int) :: pq_W
theorem kP_designed : pq_rec yP_designed cP_designed 2 (some .int) 1 := ⟨⟨ww_461, ww_1, by decide +kernel⟩, ww_459, ww_460⟩
abbrev rL_gap : Room := { frames := 8, cells := 1, slots := 6, locals := 162 }
abbrev rP_gap : Room := { frames := 7, cells := 1, slots := 6, locals := 141 }
abbrev wP_gap : List Cond := Cond.code yP_gap cP_gap 2 (some .int) :: pq_W
theorem kP_gap : pq_rec yP_gap cP_gap 2 (some .int) 0 := ⟨⟨ww_470, ww_1, by decide +kernel⟩, ww_468, ww_469⟩
abbrev rP_requireDesign : Room := { frames := 6, cells := 1, slots := 6, locals := 100 }
abbrev wP_requireDesign : List Cond := Cond.code yP_requireDesign cP_requireDesign 1 none :: pq_W
theorem kP_requireDesign : pq_rec yP_requireDesign cP_requireDesign 1 none 0 := ⟨⟨ww_474, ww_1, by decide +kernel⟩, ww_473, ws_13⟩
abbrev rL_cut : Room := { frames := 8, cells := 3, slots := 18, locals := 143 }
abbrev rP_cut : Room := { frames := 7, cells := 3, slots := 18, locals := 121 }
abbrev wP_cut : List Cond := Cond.code yP_cut cP_cut 3 (some .int) :: pq_W
theorem kP_cut : pq_rec yP_cut cP_cut 3 (some .int) 2 := ⟨⟨ww_487, ww_1, by decide +kernel⟩, ww_485, ww_486⟩
abbrev rP_requireSheet : Room := { frames := 6, cells := 1, slots := 6, locals := 100 }
abbrev wP_requireSheet : List Cond := Cond.code yP_requireSheet cP_requireSheet 2 none :: pq_W
theorem kP_requireSheet : pq_rec yP_requireSheet cP_requireSheet 2 none 1 := ⟨⟨ww_491, ww_1, by decide +kernel⟩, ww_490, ws_14⟩
abbrev rL_over : Room := { frames := 8, cells := 2, slots := 12, locals := 142 }
abbrev rP_over : Room := { frames := 7, cells := 2, slots := 12, locals := 121 }
abbrev wP_over : List Cond := Cond.code yP_over cP_over 2 (some .int) :: pq_W
theorem kP_over : pq_rec yP_over cP_over 2 (some .int) 1 := ⟨⟨ww_499, ww_1, by decide +kernel⟩, ww_497, ww_498⟩
abbrev rL_keep : Room := { frames := 8, cells := 3, slots := 18, locals := 145 }
abbrev rP_keep : Room := { frames := 7, cells := 3, slots := 18, locals := 121 }
abbrev wP_keep : List Cond := Cond.code yP_keep cP_keep 5 (some .int) :: pq_W
theorem kP_keep : pq_rec yP_keep cP_keep 5 (some .int) 2 := ⟨⟨ww_507, ww_1, by decide +kernel⟩, ww_505, ww_506⟩
abbrev rT_find : Room := { frames := 1, cells := 0, slots := 0, locals := 22 }
abbrev wT_find : List Cond := Cond.code yT_find cT_find 3 (some .int) :: pq_W
theorem kT_find : pq_rec yT_find cT_find 3 (some .int) 1 := ⟨⟨ww_512, ww_5, by decide +kernel⟩, ww_510, ww_511⟩
abbrev rT_same : Room := { frames := 0, cells := 0, slots := 0, locals := 0 }
abbrev wT_same : List Cond := Cond.code yT_same cT_same 3 (some .boolean) :: pq_W
theorem kT_same : pq_recS yT_same cT_same 3 (some .boolean) 2 := ⟨⟨ww_515, ww_5, by decide +kernel⟩, ww_514⟩
abbrev rT_countAgain : Room := { frames := 1, cells := 0, slots := 0, locals := 24 }
abbrev wT_countAgain : List Cond := Cond.code yT_countAgain cT_countAgain 3 none :: pq_W
theorem kT_countAgain : pq_rec yT_countAgain cT_countAgain 3 none 2 := ⟨⟨ww_519, ww_5, by decide +kernel⟩, ww_517, ww_518⟩
abbrev rT_add : Room := { frames := 1, cells := 0, slots := 0, locals := 40 }
abbrev wT_add : List Cond := Cond.code yT_add cT_add 4 (some .int) :: pq_W
theorem kT_add : pq_rec yT_add cT_add 4 (some .int) 2 := ⟨⟨ww_525, ww_5, by decide +kernel⟩, ww_523, ww_524⟩
abbrev rL_kept : Room := { frames := 7, cells := 1, slots := 6, locals := 122 }
abbrev rP_kept : Room := { frames := 6, cells := 1, slots := 6, locals := 100 }
abbrev wP_kept : List Cond := Cond.code yP_kept cP_kept 3 (some .int) :: pq_W
theorem kP_kept : pq_rec yP_kept cP_kept 3 (some .int) 2 := ⟨⟨ww_533, ww_1, by decide +kernel⟩, ww_531, ww_532⟩
abbrev rL_fitting : Room := { frames := 7, cells := 1, slots := 6, locals := 123 }
abbrev rP_fitting : Room := { frames := 6, cells := 1, slots := 6, locals := 100 }
abbrev wP_fitting : List Cond := Cond.code yP_fitting cP_fitting 4 (some .int) :: pq_W
theorem kP_fitting : pq_rec yP_fitting cP_fitting 4 (some .int) 1 := ⟨⟨ww_541, ww_1, by decide +kernel⟩, ww_539, ww_540⟩
abbrev rS_isPattern : Room := { frames := 2, cells := 0, slots := 0, locals := 45 }
abbrev wS_isPattern : List Cond := Cond.code yS_isPattern cS_isPattern 3 (some .boolean) :: pq_W
theorem kS_isPattern : pq_rec yS_isPattern cS_isPattern 3 (some .boolean) 1 := ⟨⟨ww_546, ww_2, by decide +kernel⟩, ww_544, ww_545⟩
abbrev rM_init : Room := { frames := 1, cells := 0, slots := 0, locals := 21 }
abbrev rM_thrown : Room := { frames := 0, cells := 0, slots := 0, locals := 0 }
abbrev wM_thrown : List Cond := Cond.code yM_thrown cM_thrown 1 (some .int) :: pq_W
theorem kM_thrown : pq_rec yM_thrown cM_thrown 1 (some .int) 0 := ⟨⟨ww_603, ww_6, by decide +kernel⟩, ww_601, ww_602⟩
abbrev rM_sheet : Room := { frames := 1, cells := 0, slots := 0, locals := 24 }
abbrev wM_sheet : List Cond := Cond.code yM_sheet cM_sheet 2 none :: pq_W
theorem kM_sheet : pq_rec yM_sheet cM_sheet 2 none 1 := ⟨⟨ww_607, ww_6, by decide +kernel⟩, ww_605, ww_606⟩
abbrev rM_in : Room := { frames := 0, cells := 0, slots := 0, locals := 0 }
abbrev wM_in : List Cond := Cond.code yM_in cM_in 3 (some .boolean) :: pq_W
theorem kM_in : pq_recS yM_in cM_in 3 (some .boolean) 3 := ⟨⟨ww_610, ww_6, by decide +kernel⟩, ww_609⟩
abbrev rM_throwing : Room := { frames := 0, cells := 0, slots := 0, locals := 0 }
abbrev wM_throwing : List Cond := Cond.code yM_throwing cM_throwing 5 (some .boolean) :: pq_W
theorem kM_throwing : pq_rec yM_throwing cM_throwing 5 (some .boolean) 4 := ⟨⟨ww_614, ww_6, by decide +kernel⟩, ww_613, ws_15⟩
abbrev rM_forget : Room := { frames := 0, cells := 0, slots := 0, locals := 0 }
abbrev wM_forget : List Cond := Cond.code yM_forget cM_forget 1 none :: pq_W
theorem kM_forget : pq_rec yM_forget cM_forget 1 none 0 := ⟨⟨ww_618, ww_6, by decide +kernel⟩, ww_617, ws_16⟩
abbrev rM_order : Room := { frames := 1, cells := 0, slots := 0, locals := 24 }
abbrev wM_order : List Cond := Cond.code yM_order cM_order 3 (some .int) :: pq_W
theorem kM_order : pq_rec yM_order cM_order 3 (some .int) 2 := ⟨⟨ww_622, ww_6, by decide +kernel⟩, ww_620, ww_621⟩
abbrev rM_pieces : Room := { frames := 2, cells := 0, slots := 0, locals := 43 }
abbrev wM_pieces : List Cond := Cond.code yM_pieces cM_pieces 3 none :: pq_W
theorem kM_pieces : pq_rec yM_pieces cM_pieces 3 none 2 := ⟨⟨ww_626, ww_6, by decide +kernel⟩, ww_624, ww_625⟩
abbrev rM_isOrder : Room := { frames := 1, cells := 0, slots := 0, locals := 22 }
abbrev wM_isOrder : List Cond := Cond.code yM_isOrder cM_isOrder 2 (some .boolean) :: pq_W
theorem kM_isOrder : pq_rec yM_isOrder cM_isOrder 2 (some .boolean) 1 := ⟨⟨ww_630, ww_6, by decide +kernel⟩, ww_629, ws_17⟩
abbrev rM_price : Room := { frames := 2, cells := 0, slots := 0, locals := 43 }
abbrev wM_price : List Cond := Cond.code yM_price cM_price 3 none :: pq_W
theorem kM_price : pq_rec yM_price cM_price 3 none 2 := ⟨⟨ww_634, ww_6, by decide +kernel⟩, ww_632, ww_633⟩
abbrev rM_column : Room := { frames := 4, cells := 0, slots := 0, locals := 94 }
abbrev wM_column : List Cond := Cond.code yM_column cM_column 1 (some .int) :: pq_W
theorem kM_column : pq_rec yM_column cM_column 1 (some .int) 0 := ⟨⟨ww_638, ww_6, by decide +kernel⟩, ww_636, ww_637⟩
abbrev rM_findColumn : Room := { frames := 3, cells := 0, slots := 0, locals := 70 }
abbrev wM_findColumn : List Cond := Cond.code yM_findColumn cM_findColumn 5 (some .int) :: pq_W
theorem kM_findColumn : pq_rec yM_findColumn cM_findColumn 5 (some .int) 0 := ⟨⟨ww_642, ww_6, by decide +kernel⟩, ww_641, ws_18⟩
abbrev rM_fill : Room := { frames := 1, cells := 0, slots := 0, locals := 24 }
abbrev wM_fill : List Cond := Cond.code yM_fill cM_fill 5 none :: pq_W
theorem kM_fill : pq_rec yM_fill cM_fill 5 none 2 := ⟨⟨ww_646, ww_6, by decide +kernel⟩, ww_645, ws_19⟩
abbrev rM_roomAt : Room := { frames := 0, cells := 0, slots := 0, locals := 0 }
abbrev wM_roomAt : List Cond := Cond.code yM_roomAt cM_roomAt 5 (some .int) :: pq_W
theorem kM_roomAt : pq_rec yM_roomAt cM_roomAt 5 (some .int) 2 := ⟨⟨ww_650, ww_6, by decide +kernel⟩, ww_649, ws_20⟩
abbrev rM_sumAt : Room := { frames := 0, cells := 0, slots := 0, locals := 0 }
abbrev wM_sumAt : List Cond := Cond.code yM_sumAt cM_sumAt 4 (some .int) :: pq_W
theorem kM_sumAt : pq_rec yM_sumAt cM_sumAt 4 (some .int) 1 := ⟨⟨ww_654, ww_6, by decide +kernel⟩, ww_653, ws_21⟩
abbrev rM_goesDown : Room := { frames := 2, cells := 0, slots := 0, locals := 48 }
abbrev wM_goesDown : List Cond := Cond.code yM_goesDown cM_goesDown 3 (some .boolean) :: pq_W
theorem kM_goesDown : pq_rec yM_goesDown cM_goesDown 3 (some .boolean) 1 := ⟨⟨ww_658, ww_6, by decide +kernel⟩, ww_657, ws_22⟩
abbrev rM_columnOf : Room := { frames := 4, cells := 0, slots := 0, locals := 94 }
abbrev wM_columnOf : List Cond := Cond.code yM_columnOf cM_columnOf 2 (some .int) :: pq_W
theorem kM_columnOf : pq_rec yM_columnOf cM_columnOf 2 (some .int) 1 := ⟨⟨ww_662, ww_6, by decide +kernel⟩, ww_660, ww_661⟩
abbrev rM_bound : Room := { frames := 5, cells := 0, slots := 0, locals := 117 }
abbrev wM_bound : List Cond := Cond.code yM_bound cM_bound 1 (some .int) :: pq_W
theorem kM_bound : pq_rec yM_bound cM_bound 1 (some .int) 0 := ⟨⟨ww_666, ww_6, by decide +kernel⟩, ww_664, ww_665⟩
abbrev rM_boundNow : Room := { frames := 4, cells := 0, slots := 0, locals := 94 }
abbrev wM_boundNow : List Cond := Cond.code yM_boundNow cM_boundNow 4 (some .int) :: pq_W
theorem kM_boundNow : pq_rec yM_boundNow cM_boundNow 4 (some .int) 0 := ⟨⟨ww_670, ww_6, by decide +kernel⟩, ww_669, ws_23⟩
abbrev rM_design : Room := { frames := 4, cells := 0, slots := 0, locals := 96 }
abbrev wM_design : List Cond := Cond.code yM_design cM_design 4 (some .int) :: pq_W
theorem kM_design : pq_rec yM_design cM_design 4 (some .int) 1 := ⟨⟨ww_674, ww_6, by decide +kernel⟩, ww_672, ww_673⟩
abbrev rM_search : Room := { frames := 3, cells := 0, slots := 0, locals := 70 }
abbrev wM_search : List Cond := Cond.code yM_search cM_search 7 none :: pq_W
theorem kM_search : pq_rec yM_search cM_search 7 none 1 := ⟨⟨ww_679, ww_6, by decide +kernel⟩, ww_678, ws_24⟩
abbrev rM_goesOn : Room := { frames := 1, cells := 0, slots := 0, locals := 23 }
abbrev wM_goesOn : List Cond := Cond.code yM_goesOn cM_goesOn 3 (some .boolean) :: pq_W
theorem kM_goesOn : pq_rec yM_goesOn cM_goesOn 3 (some .boolean) 1 := ⟨⟨ww_683, ww_6, by decide +kernel⟩, ww_682, ws_25⟩
abbrev rM_sheetsFor : Room := { frames := 0, cells := 0, slots := 0, locals := 0 }
abbrev wM_sheetsFor : List Cond := Cond.code yM_sheetsFor cM_sheetsFor 4 (some .int) :: pq_W
theorem kM_sheetsFor : pq_rec yM_sheetsFor cM_sheetsFor 4 (some .int) 1 := ⟨⟨ww_687, ww_6, by decide +kernel⟩, ww_686, ws_26⟩
abbrev rM_isNothingLeft : Room := { frames := 0, cells := 0, slots := 0, locals := 0 }
abbrev wM_isNothingLeft : List Cond := Cond.code yM_isNothingLeft cM_isNothingLeft 4 (some .boolean) :: pq_W
theorem kM_isNothingLeft : pq_rec yM_isNothingLeft cM_isNothingLeft 4 (some .boolean) 1 := ⟨⟨ww_691, ww_6, by decide +kernel⟩, ww_690, ws_27⟩
abbrev rM_lowestLeft : Room := { frames := 0, cells := 0, slots := 0, locals := 0 }
abbrev wM_lowestLeft : List Cond := Cond.code yM_lowestLeft cM_lowestLeft 3 (some .int) :: pq_W
theorem kM_lowestLeft : pq_rec yM_lowestLeft cM_lowestLeft 3 (some .int) 1 := ⟨⟨ww_695, ww_6, by decide +kernel⟩, ww_694, ws_28⟩
abbrev rM_designed : Room := { frames := 1, cells := 0, slots := 0, locals := 24 }
abbrev wM_designed : List Cond := Cond.code yM_designed cM_designed 2 (some .int) :: pq_W
theorem kM_designed : pq_rec yM_designed cM_designed 2 (some .int) 1 := ⟨⟨ww_699, ww_6, by decide +kernel⟩, ww_697, ww_698⟩
abbrev rM_gap : Room := { frames := 5, cells := 0, slots := 0, locals := 117 }
abbrev wM_gap : List Cond := Cond.code yM_gap cM_gap 4 (some .int) :: pq_W
theorem kM_gap : pq_rec yM_gap cM_gap 4 (some .int) 0 := ⟨⟨ww_703, ww_6, by decide +kernel⟩, ww_701, ww_702⟩
abbrev rM_cut : Room := { frames := 2, cells := 0, slots := 0, locals := 46 }
abbrev wM_cut : List Cond := Cond.code yM_cut cM_cut 3 (some .int) :: pq_W
theorem kM_cut : pq_rec yM_cut cM_cut 3 (some .int) 2 := ⟨⟨ww_707, ww_6, by decide +kernel⟩, ww_705, ww_706⟩
abbrev rM_refuses : Room := { frames := 1, cells := 0, slots := 0, locals := 24 }
abbrev wM_refuses : List Cond := Cond.code yM_refuses cM_refuses 3 (some .boolean) :: pq_W
theorem kM_refuses : pq_rec yM_refuses cM_refuses 3 (some .boolean) 2 := ⟨⟨ww_711, ww_6, by decide +kernel⟩, ww_710, ws_29⟩
abbrev rM_over : Room := { frames := 2, cells := 0, slots := 0, locals := 46 }
abbrev wM_over : List Cond := Cond.code yM_over cM_over 4 (some .int) :: pq_W
theorem kM_over : pq_rec yM_over cM_over 4 (some .int) 1 := ⟨⟨ww_715, ww_6, by decide +kernel⟩, ww_713, ww_714⟩
abbrev rM_keep : Room := { frames := 2, cells := 0, slots := 0, locals := 46 }
abbrev wM_keep : List Cond := Cond.code yM_keep cM_keep 5 (some .int) :: pq_W
theorem kM_keep : pq_rec yM_keep cM_keep 5 (some .int) 2 := ⟨⟨ww_719, ww_6, by decide +kernel⟩, ww_717, ww_718⟩
abbrev rM_keptAs : Room := { frames := 0, cells := 0, slots := 0, locals := 0 }
abbrev wM_keptAs : List Cond := Cond.code yM_keptAs cM_keptAs 5 (some .int) :: pq_W
theorem kM_keptAs : pq_rec yM_keptAs cM_keptAs 5 (some .int) 1 := ⟨⟨ww_723, ww_6, by decide +kernel⟩, ww_722, ws_30⟩
abbrev rM_kept : Room := { frames := 1, cells := 0, slots := 0, locals := 24 }
abbrev wM_kept : List Cond := Cond.code yM_kept cM_kept 3 (some .int) :: pq_W
theorem kM_kept : pq_rec yM_kept cM_kept 3 (some .int) 2 := ⟨⟨ww_727, ww_6, by decide +kernel⟩, ww_725, ww_726⟩
abbrev rM_fitting : Room := { frames := 1, cells := 0, slots := 0, locals := 24 }
abbrev wM_fitting : List Cond := Cond.code yM_fitting cM_fitting 8 (some .int) :: pq_W
theorem kM_fitting : pq_rec yM_fitting cM_fitting 8 (some .int) 1 := ⟨⟨ww_731, ww_6, by decide +kernel⟩, ww_729, ww_730⟩
theorem thIAE_at : ∀ w ∈ vx_atS "PatternColumns" 43 "java/lang/IllegalArgumentException" ["java/lang/RuntimeException", "java/lang/Exception"], w ∈ pq_W ∨ w ∈ pq_Wn := by decide +kernel
theorem thIAE_good : ∀ w ∈ Cond.classLink "PatternColumns" 39 "java/lang/IllegalArgumentException" :: Cond.initialized "java/lang/IllegalArgumentException" :: vx_atS "PatternColumns" 43 "java/lang/IllegalArgumentException" ["java/lang/RuntimeException", "java/lang/Exception"], vx_ot w = true := by decide +kernel
theorem thISE_at : ∀ w ∈ vx_atS "PatternColumns" 60 "java/lang/IllegalStateException" ["java/lang/RuntimeException", "java/lang/Exception"], w ∈ pq_W ∨ w ∈ pq_Wn := by decide +kernel
theorem thISE_good : ∀ w ∈ Cond.classLink "PatternColumns" 56 "java/lang/IllegalStateException" :: Cond.initialized "java/lang/IllegalStateException" :: vx_atS "PatternColumns" 60 "java/lang/IllegalStateException" ["java/lang/RuntimeException", "java/lang/Exception"], vx_ot w = true := by decide +kernel
theorem thIOE_at : ∀ w ∈ vx_atS "PatternColumns" 77 "java/lang/IndexOutOfBoundsException" ["java/lang/RuntimeException", "java/lang/Exception"], w ∈ pq_W ∨ w ∈ pq_Wn := by decide +kernel
theorem thIOE_good : ∀ w ∈ Cond.classLink "PatternColumns" 73 "java/lang/IndexOutOfBoundsException" :: Cond.initialized "java/lang/IndexOutOfBoundsException" :: vx_atS "PatternColumns" 77 "java/lang/IndexOutOfBoundsException" ["java/lang/RuntimeException", "java/lang/Exception"], vx_ot w = true := by decide +kernel
theorem thUOE_at : ∀ w ∈ vx_atS "PatternColumns" 112 "java/lang/UnsupportedOperationException" ["java/lang/RuntimeException", "java/lang/Exception"], w ∈ pq_W ∨ w ∈ pq_Wn := by decide +kernel
theorem thUOE_good : ∀ w ∈ Cond.classLink "PatternColumns" 108 "java/lang/UnsupportedOperationException" :: Cond.initialized "java/lang/UnsupportedOperationException" :: vx_atS "PatternColumns" 112 "java/lang/UnsupportedOperationException" ["java/lang/RuntimeException", "java/lang/Exception"], vx_ot w = true := by decide +kernel

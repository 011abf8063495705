section
-- ===== PART A: goes FIRST, ahead of the names: the tables' words, and 'selects' of the private methods out of them =====
/-- a private method of a class that the tables say can be made, by its rows of tables_1 -/
def lw_okq (q : MethodName × Nat) : Prop := (q.1.cls ≠ "java/lang/invoke/MethodHandle" ∧ q.1.cls ≠ "java/lang/invoke/VarHandle") ∧ Cond.instantiable q.1.cls q.2 ∈ tables_1 ∧ Cond.privateMethod q.1 ∈ tables_1 ∧ Cond.instanceMethod q.1 ∈ tables_1
theorem lw_p0 : lw_okq (⟨"PatternColumns$DearestPattern", "seek", "()V"⟩, 5) := ⟨⟨by decide +kernel, by decide +kernel⟩, List.mem_of_getElem? (i := 56) (by decide +kernel), List.mem_of_getElem? (i := 164) (by decide +kernel), List.mem_of_getElem? (i := 165) (by decide +kernel)⟩
theorem lw_p1 : lw_okq (⟨"PatternColumns$Slabs", "fillFrom", "(I[I[I)V"⟩, 5) := ⟨⟨by decide +kernel, by decide +kernel⟩, List.mem_of_getElem? (i := 25) (by decide +kernel), List.mem_of_getElem? (i := 172) (by decide +kernel), List.mem_of_getElem? (i := 173) (by decide +kernel)⟩
theorem lw_p2 : lw_okq (⟨"PatternColumns$Slabs", "widthOfFirst", "([II)I"⟩, 5) := ⟨⟨by decide +kernel, by decide +kernel⟩, List.mem_of_getElem? (i := 25) (by decide +kernel), List.mem_of_getElem? (i := 176) (by decide +kernel), List.mem_of_getElem? (i := 177) (by decide +kernel)⟩
theorem lw_p3 : lw_okq (⟨"PatternColumns$DearestPattern", "take", "(I)V"⟩, 5) := ⟨⟨by decide +kernel, by decide +kernel⟩, List.mem_of_getElem? (i := 56) (by decide +kernel), List.mem_of_getElem? (i := 187) (by decide +kernel), List.mem_of_getElem? (i := 188) (by decide +kernel)⟩
theorem lw_p4 : lw_okq (⟨"PatternColumns", "boundByPrices", "()I"⟩, 4) := ⟨⟨by decide +kernel, by decide +kernel⟩, List.mem_of_getElem? (i := 17) (by decide +kernel), List.mem_of_getElem? (i := 202) (by decide +kernel), List.mem_of_getElem? (i := 203) (by decide +kernel)⟩
theorem lw_p5 : lw_okq (⟨"java/lang/Throwable", "fillInStackTrace", "(I)Ljava/lang/Throwable;"⟩, 6) := ⟨⟨by decide +kernel, by decide +kernel⟩, List.mem_of_getElem? (i := 261) (by decide +kernel), List.mem_of_getElem? (i := 259) (by decide +kernel), List.mem_of_getElem? (i := 260) (by decide +kernel)⟩
theorem lw_p6 : lw_okq (⟨"PatternColumns", "forgetAnswers", "()V"⟩, 4) := ⟨⟨by decide +kernel, by decide +kernel⟩, List.mem_of_getElem? (i := 17) (by decide +kernel), List.mem_of_getElem? (i := 291) (by decide +kernel), List.mem_of_getElem? (i := 292) (by decide +kernel)⟩
theorem lw_p7 : lw_okq (⟨"PatternColumns$Designing", "opens", "(I)Z"⟩, 9) := ⟨⟨by decide +kernel, by decide +kernel⟩, List.mem_of_getElem? (i := 78) (by decide +kernel), List.mem_of_getElem? (i := 420) (by decide +kernel), List.mem_of_getElem? (i := 421) (by decide +kernel)⟩
theorem lw_p8 : lw_okq (⟨"PatternColumns$Designing", "takeAsBest", "(I)V"⟩, 9) := ⟨⟨by decide +kernel, by decide +kernel⟩, List.mem_of_getElem? (i := 78) (by decide +kernel), List.mem_of_getElem? (i := 429) (by decide +kernel), List.mem_of_getElem? (i := 430) (by decide +kernel)⟩
theorem lw_p9 : lw_okq (⟨"PatternColumns$Designing", "lay", "([I)V"⟩, 9) := ⟨⟨by decide +kernel, by decide +kernel⟩, List.mem_of_getElem? (i := 78) (by decide +kernel), List.mem_of_getElem? (i := 435) (by decide +kernel), List.mem_of_getElem? (i := 436) (by decide +kernel)⟩
theorem lw_p10 : lw_okq (⟨"PatternColumns$Designing", "takeBack", "([I)V"⟩, 9) := ⟨⟨by decide +kernel, by decide +kernel⟩, List.mem_of_getElem? (i := 78) (by decide +kernel), List.mem_of_getElem? (i := 443) (by decide +kernel), List.mem_of_getElem? (i := 444) (by decide +kernel)⟩
theorem lw_p11 : lw_okq (⟨"PatternColumns$Designing", "goesOn", "([I)Z"⟩, 9) := ⟨⟨by decide +kernel, by decide +kernel⟩, List.mem_of_getElem? (i := 78) (by decide +kernel), List.mem_of_getElem? (i := 447) (by decide +kernel), List.mem_of_getElem? (i := 448) (by decide +kernel)⟩
theorem lw_p12 : lw_okq (⟨"PatternColumns$Designing", "lowestLeft", "()I"⟩, 9) := ⟨⟨by decide +kernel, by decide +kernel⟩, List.mem_of_getElem? (i := 78) (by decide +kernel), List.mem_of_getElem? (i := 451) (by decide +kernel), List.mem_of_getElem? (i := 452) (by decide +kernel)⟩
theorem lw_p13 : lw_okq (⟨"PatternColumns", "requireDesign", "()V"⟩, 4) := ⟨⟨by decide +kernel, by decide +kernel⟩, List.mem_of_getElem? (i := 17) (by decide +kernel), List.mem_of_getElem? (i := 472) (by decide +kernel), List.mem_of_getElem? (i := 473) (by decide +kernel)⟩
theorem lw_p14 : lw_okq (⟨"PatternColumns", "requireSheet", "(I)V"⟩, 4) := ⟨⟨by decide +kernel, by decide +kernel⟩, List.mem_of_getElem? (i := 17) (by decide +kernel), List.mem_of_getElem? (i := 489) (by decide +kernel), List.mem_of_getElem? (i := 490) (by decide +kernel)⟩
theorem lw_p15 : lw_okq (⟨"PatternColumnsModel", "throwing", "(ZZZZ)Z"⟩, 15) := ⟨⟨by decide +kernel, by decide +kernel⟩, List.mem_of_getElem? (i := 549) (by decide +kernel), List.mem_of_getElem? (i := 612) (by decide +kernel), List.mem_of_getElem? (i := 613) (by decide +kernel)⟩
def lw_privs_1 : List (MethodName × Nat) := [(⟨"PatternColumns$DearestPattern", "seek", "()V"⟩, 5), (⟨"PatternColumns$Slabs", "fillFrom", "(I[I[I)V"⟩, 5), (⟨"PatternColumns$Slabs", "widthOfFirst", "([II)I"⟩, 5), (⟨"PatternColumns$DearestPattern", "take", "(I)V"⟩, 5), (⟨"PatternColumns", "boundByPrices", "()I"⟩, 4), (⟨"java/lang/Throwable", "fillInStackTrace", "(I)Ljava/lang/Throwable;"⟩, 6), (⟨"PatternColumns", "forgetAnswers", "()V"⟩, 4), (⟨"PatternColumns$Designing", "opens", "(I)Z"⟩, 9), (⟨"PatternColumns$Designing", "takeAsBest", "(I)V"⟩, 9), (⟨"PatternColumns$Designing", "lay", "([I)V"⟩, 9), (⟨"PatternColumns$Designing", "takeBack", "([I)V"⟩, 9), (⟨"PatternColumns$Designing", "goesOn", "([I)Z"⟩, 9), (⟨"PatternColumns$Designing", "lowestLeft", "()I"⟩, 9), (⟨"PatternColumns", "requireDesign", "()V"⟩, 4), (⟨"PatternColumns", "requireSheet", "(I)V"⟩, 4), (⟨"PatternColumnsModel", "throwing", "(ZZZZ)Z"⟩, 15)]
theorem lw_r1 : ∀ q ∈ lw_privs_1, lw_okq q := List.forall_mem_cons.mpr ⟨lw_p0, List.forall_mem_cons.mpr ⟨lw_p1, List.forall_mem_cons.mpr ⟨lw_p2, List.forall_mem_cons.mpr ⟨lw_p3, List.forall_mem_cons.mpr ⟨lw_p4, List.forall_mem_cons.mpr ⟨lw_p5, List.forall_mem_cons.mpr ⟨lw_p6, List.forall_mem_cons.mpr ⟨lw_p7, List.forall_mem_cons.mpr ⟨lw_p8, List.forall_mem_cons.mpr ⟨lw_p9, List.forall_mem_cons.mpr ⟨lw_p10, List.forall_mem_cons.mpr ⟨lw_p11, List.forall_mem_cons.mpr ⟨lw_p12, List.forall_mem_cons.mpr ⟨lw_p13, List.forall_mem_cons.mpr ⟨lw_p14, List.forall_mem_cons.mpr ⟨lw_p15, fun _ h => absurd h List.not_mem_nil⟩⟩⟩⟩⟩⟩⟩⟩⟩⟩⟩⟩⟩⟩⟩⟩
theorem lw_p16 : lw_okq (⟨"PatternColumnsModel", "forget", "()V"⟩, 15) := ⟨⟨by decide +kernel, by decide +kernel⟩, List.mem_of_getElem? (i := 549) (by decide +kernel), List.mem_of_getElem? (i := 616) (by decide +kernel), List.mem_of_getElem? (i := 617) (by decide +kernel)⟩
theorem lw_p17 : lw_okq (⟨"PatternColumnsModel", "isOrder", "(I)Z"⟩, 15) := ⟨⟨by decide +kernel, by decide +kernel⟩, List.mem_of_getElem? (i := 549) (by decide +kernel), List.mem_of_getElem? (i := 628) (by decide +kernel), List.mem_of_getElem? (i := 629) (by decide +kernel)⟩
theorem lw_p18 : lw_okq (⟨"PatternColumnsModel", "findColumn", "()I"⟩, 15) := ⟨⟨by decide +kernel, by decide +kernel⟩, List.mem_of_getElem? (i := 549) (by decide +kernel), List.mem_of_getElem? (i := 640) (by decide +kernel), List.mem_of_getElem? (i := 641) (by decide +kernel)⟩
theorem lw_p19 : lw_okq (⟨"PatternColumnsModel", "fill", "(II)V"⟩, 15) := ⟨⟨by decide +kernel, by decide +kernel⟩, List.mem_of_getElem? (i := 549) (by decide +kernel), List.mem_of_getElem? (i := 644) (by decide +kernel), List.mem_of_getElem? (i := 645) (by decide +kernel)⟩
theorem lw_p20 : lw_okq (⟨"PatternColumnsModel", "roomAt", "(II)I"⟩, 15) := ⟨⟨by decide +kernel, by decide +kernel⟩, List.mem_of_getElem? (i := 549) (by decide +kernel), List.mem_of_getElem? (i := 648) (by decide +kernel), List.mem_of_getElem? (i := 649) (by decide +kernel)⟩
theorem lw_p21 : lw_okq (⟨"PatternColumnsModel", "sumAt", "(I)I"⟩, 15) := ⟨⟨by decide +kernel, by decide +kernel⟩, List.mem_of_getElem? (i := 549) (by decide +kernel), List.mem_of_getElem? (i := 652) (by decide +kernel), List.mem_of_getElem? (i := 653) (by decide +kernel)⟩
theorem lw_p22 : lw_okq (⟨"PatternColumnsModel", "goesDown", "(I)Z"⟩, 15) := ⟨⟨by decide +kernel, by decide +kernel⟩, List.mem_of_getElem? (i := 549) (by decide +kernel), List.mem_of_getElem? (i := 656) (by decide +kernel), List.mem_of_getElem? (i := 657) (by decide +kernel)⟩
theorem lw_p23 : lw_okq (⟨"PatternColumnsModel", "boundNow", "()I"⟩, 15) := ⟨⟨by decide +kernel, by decide +kernel⟩, List.mem_of_getElem? (i := 549) (by decide +kernel), List.mem_of_getElem? (i := 668) (by decide +kernel), List.mem_of_getElem? (i := 669) (by decide +kernel)⟩
theorem lw_p24 : lw_okq (⟨"PatternColumnsModel", "search", "(I)V"⟩, 15) := ⟨⟨by decide +kernel, by decide +kernel⟩, List.mem_of_getElem? (i := 549) (by decide +kernel), List.mem_of_getElem? (i := 677) (by decide +kernel), List.mem_of_getElem? (i := 678) (by decide +kernel)⟩
theorem lw_p25 : lw_okq (⟨"PatternColumnsModel", "goesOn", "(I)Z"⟩, 15) := ⟨⟨by decide +kernel, by decide +kernel⟩, List.mem_of_getElem? (i := 549) (by decide +kernel), List.mem_of_getElem? (i := 681) (by decide +kernel), List.mem_of_getElem? (i := 682) (by decide +kernel)⟩
theorem lw_p26 : lw_okq (⟨"PatternColumnsModel", "sheetsFor", "(I)I"⟩, 15) := ⟨⟨by decide +kernel, by decide +kernel⟩, List.mem_of_getElem? (i := 549) (by decide +kernel), List.mem_of_getElem? (i := 685) (by decide +kernel), List.mem_of_getElem? (i := 686) (by decide +kernel)⟩
theorem lw_p27 : lw_okq (⟨"PatternColumnsModel", "isNothingLeft", "(I)Z"⟩, 15) := ⟨⟨by decide +kernel, by decide +kernel⟩, List.mem_of_getElem? (i := 549) (by decide +kernel), List.mem_of_getElem? (i := 689) (by decide +kernel), List.mem_of_getElem? (i := 690) (by decide +kernel)⟩
theorem lw_p28 : lw_okq (⟨"PatternColumnsModel", "lowestLeft", "(I)I"⟩, 15) := ⟨⟨by decide +kernel, by decide +kernel⟩, List.mem_of_getElem? (i := 549) (by decide +kernel), List.mem_of_getElem? (i := 693) (by decide +kernel), List.mem_of_getElem? (i := 694) (by decide +kernel)⟩
theorem lw_p29 : lw_okq (⟨"PatternColumnsModel", "refuses", "(IZ)Z"⟩, 15) := ⟨⟨by decide +kernel, by decide +kernel⟩, List.mem_of_getElem? (i := 549) (by decide +kernel), List.mem_of_getElem? (i := 709) (by decide +kernel), List.mem_of_getElem? (i := 710) (by decide +kernel)⟩
theorem lw_p30 : lw_okq (⟨"PatternColumnsModel", "keptAs", "(I)I"⟩, 15) := ⟨⟨by decide +kernel, by decide +kernel⟩, List.mem_of_getElem? (i := 549) (by decide +kernel), List.mem_of_getElem? (i := 721) (by decide +kernel), List.mem_of_getElem? (i := 722) (by decide +kernel)⟩
def lw_privs_2 : List (MethodName × Nat) := [(⟨"PatternColumnsModel", "forget", "()V"⟩, 15), (⟨"PatternColumnsModel", "isOrder", "(I)Z"⟩, 15), (⟨"PatternColumnsModel", "findColumn", "()I"⟩, 15), (⟨"PatternColumnsModel", "fill", "(II)V"⟩, 15), (⟨"PatternColumnsModel", "roomAt", "(II)I"⟩, 15), (⟨"PatternColumnsModel", "sumAt", "(I)I"⟩, 15), (⟨"PatternColumnsModel", "goesDown", "(I)Z"⟩, 15), (⟨"PatternColumnsModel", "boundNow", "()I"⟩, 15), (⟨"PatternColumnsModel", "search", "(I)V"⟩, 15), (⟨"PatternColumnsModel", "goesOn", "(I)Z"⟩, 15), (⟨"PatternColumnsModel", "sheetsFor", "(I)I"⟩, 15), (⟨"PatternColumnsModel", "isNothingLeft", "(I)Z"⟩, 15), (⟨"PatternColumnsModel", "lowestLeft", "(I)I"⟩, 15), (⟨"PatternColumnsModel", "refuses", "(IZ)Z"⟩, 15), (⟨"PatternColumnsModel", "keptAs", "(I)I"⟩, 15)]
theorem lw_r2 : ∀ q ∈ lw_privs_2, lw_okq q := List.forall_mem_cons.mpr ⟨lw_p16, List.forall_mem_cons.mpr ⟨lw_p17, List.forall_mem_cons.mpr ⟨lw_p18, List.forall_mem_cons.mpr ⟨lw_p19, List.forall_mem_cons.mpr ⟨lw_p20, List.forall_mem_cons.mpr ⟨lw_p21, List.forall_mem_cons.mpr ⟨lw_p22, List.forall_mem_cons.mpr ⟨lw_p23, List.forall_mem_cons.mpr ⟨lw_p24, List.forall_mem_cons.mpr ⟨lw_p25, List.forall_mem_cons.mpr ⟨lw_p26, List.forall_mem_cons.mpr ⟨lw_p27, List.forall_mem_cons.mpr ⟨lw_p28, List.forall_mem_cons.mpr ⟨lw_p29, List.forall_mem_cons.mpr ⟨lw_p30, fun _ h => absurd h List.not_mem_nil⟩⟩⟩⟩⟩⟩⟩⟩⟩⟩⟩⟩⟩⟩⟩
def lw_privs : List (MethodName × Nat) := lw_privs_1 ++ (lw_privs_2)
def lw_tbl : List Cond := k2_sels lw_privs ++ tables_1
theorem lw_privs_ok : ∀ q ∈ lw_privs, lw_okq q := by
  show ∀ q ∈ lw_privs_1 ++ (lw_privs_2), lw_okq q
  exact List.forall_mem_append.mpr ⟨lw_r1, lw_r2⟩
/-! ===== BEGIN words of one list among another's, by their places ===== -/
theorem goodIn_r {big : List Cond} (ws : List Cond) (ps : List Nat) (hp : ws = ps.filterMap (fun i => big[i]?)) (h : ws.all goodWord = true) : GoodIn big ws := by
  intro w hw
  have h1 := List.all_eq_true.mp h w hw
  rw [hp] at hw
  obtain ⟨i, -, hi⟩ := List.mem_filterMap.mp hw
  have hm : w ∈ big := by first | exact List.mem_of_getElem? hi | exact List.getElem?_mem hi
  exact ⟨hm, good_of_word h1⟩
theorem goodIn_app {big a b : List Cond} (ha : GoodIn big a) (hb : GoodIn big b) : GoodIn big (a ++ b) := fun w h => (List.mem_append.mp h).elim (ha w) (hb w)
theorem goodIn_ca {big a b : List Cond} {c : Cond} (ha : GoodIn big (c :: a)) (hb : GoodIn big b) : GoodIn big (c :: (a ++ b)) := fun w h => (List.mem_cons.mp h).elim (fun e => ha w (List.mem_cons.mpr (Or.inl e))) (fun h => (List.mem_append.mp h).elim (fun h => ha w (List.mem_cons.mpr (Or.inr h))) (hb w))
theorem goodIn_sub {big ws : List Cond} (hm : ∀ w ∈ ws, w ∈ big) (h : ws.all goodWord = true) : GoodIn big ws := fun w hw => ⟨hm w hw, good_of_word (List.all_eq_true.mp h w hw)⟩
/-! ===== END ===== -/

/-! ===== BEGIN new T[n][m]: the outer array a place, the inner ones among the pooled ===== -/
/-- f, but v at every address of l -/
def vr_up {α : Type} (f : Nat → α) (l : List Nat) (v : α) : Nat → α := fun a => if a ∈ l then v else f a
theorem vr_up_in {α : Type} {f : Nat → α} {l : List Nat} {v : α} {a : Nat} (h : a ∈ l) : vr_up f l v a = v := if_pos h
theorem vr_up_ne {α : Type} {f : Nat → α} {l : List Nat} {v : α} {a : Nat} (h : a ∉ l) : vr_up f l v a = f a := if_neg h
theorem vr_rows {L l : List Nat} {f : Nat → va_E} {e : va_E} (h : ∀ a, a ∈ l → a ∉ L) : va_pl L f ++ l.map (fun a => (a, e)) = va_pl (L ++ l) (vr_up f l e) := by
  unfold va_pl
  rw [List.map_append]
  congr 1
  · apply List.map_congr_left
    intro a ha
    rw [vr_up_ne (fun q => h a q ha)]
  · apply List.map_congr_left
    intro a ha
    rw [vr_up_in ha]
theorem vr_lay {X rows : va_W} {x : Nat × va_E} {pl : va_W} {D : va_G} {cl : List vw_C} {H : Heap} (hP : va_P D cl (((X ++ pl) ++ [x]) ++ rows) H) : va_P D cl ((X ++ [x]) ++ (pl ++ rows)) H := by
  rw [List.append_assoc (X ++ pl)] at hP
  have h := va_P.swap hP
  rw [← List.append_assoc X] at h
  have h2 := va_P.swap h
  rw [List.append_assoc (X ++ [x])] at h2
  exact h2
theorem vr_layD {X rows : va_W} {x : Nat × va_E} {pl : va_W} {A : Nat → Prop} (hD : va_D A (((X ++ pl) ++ [x]) ++ rows)) : va_D A ((X ++ [x]) ++ (pl ++ rows)) := by
  rw [List.append_assoc (X ++ pl)] at hD
  have h := va_D.swap hD
  rw [← List.append_assoc X] at h
  have h2 := va_D.swap h
  rw [List.append_assoc (X ++ [x])] at h2
  exact h2
theorem vr_outer (c : ClassId) (N h0 : Nat) : ∀ i : Nat, Jvm.Free.Multi.outerC c N h0 i = arrV c N (fun j => va_rf (if j < i then some (h0 + 1 + j) else none))
  | 0 => by
    show ({ cls := c, slots := Array.replicate N .null, vm := .none } : Cell) = _
    rw [arrV_new]
    refine congrArg (arrV c N) (funext fun j => ?_)
    simp [va_rf]
  | i + 1 => by
    show (Jvm.Free.Multi.outerC c N h0 i).setSlot i (.ref (h0 + 1 + i)) = _
    rw [vr_outer c N h0 i, arrV_store]
    refine congrArg (arrV c N) (funext fun j => ?_)
    by_cases e : j = i
    · subst e
      simp [updV, va_rf]
    · by_cases h : j < i
      · simp [updV, e, h, Nat.lt_succ_of_lt h]
      · simp [updV, e, h, show ¬ j < i + 1 by omega]
section VGM
variable {p : Program} {l : Launch} {e : Env} {R : Room} {s : State} {m : MethodId} {args : Array Value} {below : List Frame} {meth : Method} {c : Code} {H : Heap} {locs : List Loc} {cells slots : Nat} {Q : State → Prop}
variable {cc : ByteArray} {pc : Nat} {ls : Array Slot} {rest : List Value} {D : va_G} {cl : List vw_C} {A : Nat → Prop} {a : Nat} {tys : List (ClassId × FieldType)} {ws : va_W} {H0 : Heap}
theorem va_mna {X : va_W} {L : List Nat} {f : Nat → va_E} {cc : ByteArray} (hexec : p.tables.exec = Jvm.exec) (hb : c.code = cc) {own : String} {index : Nat} {ty : FieldType} {cy : ClassId} (hown : s.vm.findClass own = some m.cls) (hclink : (Cond.classLink own index ("[" ++ (FieldType.array ty).toString)).before args s = true) (hover : (Cond.arrayOver (.array ty)).before args s = true) (harr : (Cond.arrayClass ty).before args s = true) (hcy : s.vm.findClass (FieldType.array ty).toString = some cy)
    (hK : va_K D cl tys s) (hP : va_P D cl (X ++ va_pl L f) H) (hD : va_D A (X ++ va_pl L f)) (hS : va_S A H0 H locs) (hA : ∀ q, H0.size ≤ q → A q) {n k : Int32} {N' K' : Nat} {z : vp_A} (hn : ¬ n < 0) (hk : ¬ k < 0) (hN : n.toNatClampNeg = N') (hM : k.toNatClampNeg = K')
    (hb1 : N' * 4 ≤ 536870912) (hb2 : K' * componentBytes ty ≤ 536870912) (hb3 : K' ≤ 536870912) (hdf : fits ty (defaultValue ty) = true) (hdd : (defaultValue ty).isDefault = true) (hcells : cells + (1 + N') ≤ R.cells) (hslots : slots + (N' + N' * K') ≤ R.slots) (hz : ∀ c : ClassId, Jvm.Free.Multi.innerC c K' (defaultValue ty) = vp_cell c z) (hdg : decode cc pc = .ok (.multianewarray index 2, 4))
    (kk : ∀ (q : Nat) (r : Nat → Nat) (cA : ClassId) (H1 : Heap), (∀ i j : Nat, i < N' → j < N' → r i = r j → i = j) → (∀ i : Nat, i < N' → r i ∉ L) → va_K D cl (tys ++ [(cA, .array ty)]) s →
      va_P D cl ((X ++ [(q, .inl (cA, N', .inr (.inr (.inr (.inr (fun i => if i < N' then some (r i) else none))))))]) ++ va_pl (L ++ (List.range N').map r) (vr_up f ((List.range N').map r) (.inl (cy, z)))) H1 → va_D A ((X ++ [(q, .inl (cA, N', .inr (.inr (.inr (.inr (fun i => if i < N' then some (r i) else none))))))]) ++ va_pl (L ++ (List.range N').map r) (vr_up f ((List.range N').map r) (.inl (cy, z)))) → va_S A H0 H1 locs →
      W p l e R s m args below meth c H1 locs (cells + 1 + N') (slots + N' + N' * K') Q (F0 m (pc + 4) ls (.ref q :: rest))) : W p l e R s m args below meth c H locs cells slots Q (F0 m pc ls (.int k :: .int n :: rest)) := by
  subst hN
  subst hM
  intro T hT Xs
  obtain ⟨vm₁, cA, comp, -, fA, fC, hO, -, X', step⟩ := Xs.multianewarray2F hexec hown hclink hover harr (g := F0 m pc ls (.int k :: .int n :: rest)) rfl (by rw [hb]; exact hdg) rfl hn hk hb1 hb2 hb3 hdf hdd hcells hslots
  have ec : some cy = some comp := hcy.symm.trans fC
  cases ec
  generalize hF : Jvm.Free.Multi.fill (T.setVm vm₁) cA cy n.toNatClampNeg k.toNatClampNeg (defaultValue ty) n.toNatClampNeg = F at X' step
  have hTh : (T.setVm vm₁).heap = H := hT
  obtain ⟨f1, f2, -, -⟩ := Jvm.Free.Multi.fill_facts (T.setVm vm₁) cA cy n.toNatClampNeg k.toNatClampNeg (defaultValue ty) n.toNatClampNeg
  rw [hF, hTh] at f1 f2
  have hold : ∀ x : Nat, x < H.size → F.heap[x]? = H[x]? := fun x hx => by
    have := Jvm.Free.Multi.fill_old (T.setVm vm₁) cA cy n.toNatClampNeg k.toNatClampNeg (defaultValue ty) (a := x) (by rw [hTh]; exact hx) n.toNatClampNeg
    rw [hF, hTh] at this
    exact this
  have hrow : ∀ j : Nat, j < n.toNatClampNeg → F.heap[H.size + 1 + j]? = some (vp_cell cy z) := fun j hj => by
    have := Jvm.Free.Multi.fill_inner (T.setVm vm₁) cA cy n.toNatClampNeg k.toNatClampNeg (defaultValue ty) n.toNatClampNeg j hj
    rw [hF, hTh, hz] at this
    exact this
  have hout : Jvm.Free.Multi.outerC cA n.toNatClampNeg H.size n.toNatClampNeg = vp_cell cA (n.toNatClampNeg, .inr (.inr (.inr (.inr (fun i => if i < n.toNatClampNeg then some (H.size + 1 + i) else none))))) := by
    rw [vp_cell_q]
    exact vr_outer cA n.toNatClampNeg H.size n.toNatClampNeg
  rw [hout] at f2
  have hlt : ∀ a, a ∈ L → a < H.size := fun a ha => by
    obtain ⟨k9, hk9⟩ := va_pl_get (X := X) (f := f) ha
    exact (hP k9 _ hk9).lt
  have hnl : ∀ i : Nat, i < n.toNatClampNeg → H.size + 1 + i ∉ L := fun i _ h => by
    have := hlt _ h
    omega
  have hnm : ∀ a, a ∈ (List.range n.toNatClampNeg).map (fun i => H.size + 1 + i) → a ∉ L := fun a ha h => by
    obtain ⟨i, -, rfl⟩ := List.mem_map.mp ha
    have := hlt _ h
    omega
  have hP0 : va_P D cl (X ++ va_pl L f) F.heap := hP.kept (fun k9 x hx => hold x.1 ((hP k9 x hx).lt))
  have hP1 : va_P D cl ((X ++ va_pl L f) ++ [(H.size, .inl (cA, n.toNatClampNeg, .inr (.inr (.inr (.inr (fun i => if i < n.toNatClampNeg then some (H.size + 1 + i) else none))))))]) F.heap := hP0.app (fun k9 x hx => by
    have h0 : k9 < 1 := (List.getElem?_eq_some_iff.mp hx).1
    rw [show k9 = 0 by omega] at hx
    cases hx
    exact f2)
  have hP2 : va_P D cl (((X ++ va_pl L f) ++ [(H.size, .inl (cA, n.toNatClampNeg, .inr (.inr (.inr (.inr (fun i => if i < n.toNatClampNeg then some (H.size + 1 + i) else none))))))]) ++ ((List.range n.toNatClampNeg).map (fun i => H.size + 1 + i)).map (fun a => (a, .inl (cy, z)))) F.heap := hP1.app (fun k9 x hx => by
    obtain ⟨a, ha, rfl⟩ := List.mem_map.mp (List.mem_of_getElem? hx)
    obtain ⟨i, hi, rfl⟩ := List.mem_map.mp ha
    exact hrow i (List.mem_range.mp hi))
  have hD2 : va_D A (((X ++ va_pl L f) ++ [(H.size, .inl (cA, n.toNatClampNeg, .inr (.inr (.inr (.inr (fun i => if i < n.toNatClampNeg then some (H.size + 1 + i) else none))))))]) ++ ((List.range n.toNatClampNeg).map (fun i => H.size + 1 + i)).map (fun a => (a, .inl (cy, z)))) := by
    have hD1 := hD.push (e := .inl (cA, n.toNatClampNeg, .inr (.inr (.inr (.inr (fun i => if i < n.toNatClampNeg then some (H.size + 1 + i) else none)))))) hP rfl (hA _ hS.1)
    generalize hW1 : (X ++ va_pl L f) ++ [(H.size, .inl (cA, n.toNatClampNeg, .inr (.inr (.inr (.inr (fun i => if i < n.toNatClampNeg then some (H.size + 1 + i) else none))))))] = W1 at hD1 hP1 ⊢
    have hle : ∀ (k9 : Nat) (x : Nat × va_E), W1[k9]? = some x → x.1 ≤ H.size := fun k9 x hx => by
      rw [← hW1] at hx
      by_cases hl : k9 < (X ++ va_pl L f).length
      · rw [List.getElem?_append_left hl] at hx
        exact Nat.le_of_lt ((hP k9 x hx).lt)
      · rw [List.getElem?_append_right (by omega)] at hx
        have h0 : k9 - (X ++ va_pl L f).length < 1 := (List.getElem?_eq_some_iff.mp hx).1
        rw [show k9 - (X ++ va_pl L f).length = 0 by omega] at hx
        cases hx
        exact Nat.le_refl _
    have hr : ∀ (k9 : Nat) (x : Nat × va_E), (((List.range n.toNatClampNeg).map (fun i => H.size + 1 + i)).map (fun a => ((a, .inl (cy, z)) : Nat × va_E)))[k9]? = some x → x.1 = H.size + 1 + k9 := fun k9 x hx => by
      rw [List.getElem?_map, List.getElem?_map] at hx
      by_cases h9 : k9 < n.toNatClampNeg
      · rw [List.getElem?_range h9] at hx
        cases hx
        rfl
      · have hn0 : (List.range n.toNatClampNeg)[k9]? = none := List.getElem?_eq_none (by rw [List.length_range]; omega)
        rw [hn0] at hx
        cases hx
    refine ⟨fun i j x y hi hj hxy => ?_, fun k9 x hx => ?_⟩
    · by_cases h1 : i < W1.length <;> by_cases h2 : j < W1.length
      · rw [List.getElem?_append_left h1] at hi
        rw [List.getElem?_append_left h2] at hj
        exact hD1.1 i j x y hi hj hxy
      · rw [List.getElem?_append_left h1] at hi
        rw [List.getElem?_append_right (by omega)] at hj
        have := hle _ _ hi
        have := hr _ _ hj
        omega
      · rw [List.getElem?_append_right (by omega)] at hi
        rw [List.getElem?_append_left h2] at hj
        have := hle _ _ hj
        have := hr _ _ hi
        omega
      · rw [List.getElem?_append_right (by omega)] at hi hj
        have := hr _ _ hi
        have := hr _ _ hj
        omega
    · by_cases h1 : k9 < W1.length
      · rw [List.getElem?_append_left h1] at hx
        exact hD1.2 k9 x hx
      · rw [List.getElem?_append_right (by omega)] at hx
        have := hr _ _ hx
        exact hA _ (by have := hS.1; omega)
  have hAr : ArrOfT s cA (.array ty) := fun N9 z9 => by
    obtain ⟨-, k9, hk9, cm9, hkk9⟩ := (hO 0 0 0).1
    exact ⟨(fun q hq => by cases hq), k9, hk9, cm9, hkk9⟩
  have hK2 : va_K D cl (tys ++ [(cA, .array ty)]) s := ⟨hK.1, fun k9 x hx => by
    by_cases hl : k9 < tys.length
    · rw [List.getElem?_append_left hl] at hx
      exact hK.2 k9 x hx
    · rw [List.getElem?_append_right (by omega)] at hx
      have h0 : k9 - tys.length < 1 := (List.getElem?_eq_some_iff.mp hx).1
      rw [show k9 - tys.length = 0 by omega] at hx
      cases hx
      exact ⟨hAr, fA⟩⟩
  obtain ⟨t, a1, b1⟩ := kk H.size (fun i => H.size + 1 + i) cA F.heap (fun i j _ _ h => by have h9 : H.size + 1 + i = H.size + 1 + j := h; omega) hnl hK2 (by rw [← vr_rows hnm]; exact vr_lay hP2) (by rw [← vr_rows hnm]; exact vr_layD hD2) ⟨by rw [f1]; have := hS.1; omega, fun x h1 h2 => (hold x (Nat.lt_of_lt_of_le h1 hS.1)).trans (hS.2.1 x h1 h2), hS.2.2⟩ F rfl X'
  refine ⟨t, step t ?_, b1⟩
  have e : T.heap.size = H.size := by rw [hT]
  rw [e]
  exact a1
end VGM
/-! ===== END ===== -/

/-! ===== BEGIN exceptions that leave a method, and their catching by the caller (launches without stack traces) ===== -/
section VXA
/-! The laws vx_back, vx_callV, vx_callS, vx_callSW, vx_throw0, vx_throwS follow proofs of the library, with one case more: JvmDerived/Free/Laws.lean (Back.of_free), Shelf42/LK1.lean (callV, callS), Shelf/KitTraced.lean (throwNew0V, throwNewS). -/
/-- where a method has thrown q: the class by its name, the cell, what was written, the world -/
def vx_T (XC : String → State → State → Prop) (st : State) (q : Addr) (t : State) (mc ms : Nat) (free : Addr → Prop) : Prop :=
  ∃ (E : String) (ce : Cell) (L : List Loc), XC E st t ∧ t.heap[q]? = some ce ∧ ce.vm = .none ∧ st.vm.findClass E = some ce.cls ∧ st.WarmedH t.vm ∧ st.sameButNew ({ t with vm := st.vm } : State) L mc ms ∧ ∀ z ∈ L, free z.base
def vx_Q (Qc : Array Value → State → Outcome → State → Prop) (XC : String → State → State → Prop) (mc ms : Nat) (free : Addr → Prop) : Array Value → State → Outcome → State → Prop := fun a st o t =>
  (Qc a st o t ∧ ∃ L, FrameEnd st o t L mc ms ∧ ∀ q ∈ L, free q.base) ∨ ∃ q, o = .threw q ∧ vx_T XC st q t mc ms free
/-- a callee that returns or throws -/
def vx_Met (l : Launch) (y : MethodName) (ws : List Cond) (rm : Room) (Pc : Array Value → State → Prop) (Qc : Array Value → State → Outcome → State → Prop) (XC : String → State → State → Prop) (mc ms : Nat) (free : Addr → Prop) : Prop :=
  MetFree l y (headSpec ws rm) Pc (fun _ _ _ _ _ => True) (vx_Q Qc XC mc ms free)
def vx_Post (XC : String → State → State → Prop) (mc ms : Nat) (free : Addr → Prop) : Pt → Array Value → Addr → Pt → Prop := fun A a q B =>
  ∃ (g : JFrame) (mk : MethodId) (t : State) (L : List Loc) (E : String) (ce : Cell), B.U.heap = t.heap ∧ B.U.vm = t.vm ∧ XC E (A.U.calling g mk a) t ∧ t.heap[q]? = some ce ∧ ce.vm = .none ∧ A.U.vm.findClass E = some ce.cls ∧ B.locs = A.locs ++ L ∧ (∀ z ∈ L, free z.base) ∧ B.cells = A.cells + mc ∧ B.slots = A.slots + ms
def vx_Back (l : Launch) (R : Room) (p : Program) (e : Env) (below : List Frame) (s : State) (sargs : Array Value) (y : MethodName) (len W9 : Nat)
    (Pre : Pt → Array Value → Prop) (Post : Pt → Array Value → Option Value → Pt → Prop) (PostX : Pt → Array Value → Addr → Pt → Prop) : Prop :=
  ∀ (m : MethodId) (meth : Method) (c : Code) (A : Pt) (g : JFrame) (ig : Instr) (mk : MethodId) (a : Array Value),
    Stand p l e R s m sargs below meth c A.U A.locs A.cells A.slots → g.method = m → g.locals.size = c.maxLocals → decode c.code g.pc = .ok (ig, len) →
    2 * g.monitorRoom + (g.stack.map fun v => v.category).sum ≤ W9 → A.U.methodNamed? y = some mk → Pre A a →
    (∃ (v : Option Value) (B : Pt), Stand p l e R s m sargs below meth c B.U B.locs B.cells B.slots ∧ Post A a v B ∧
      Steps p.tables e below (doInvoke e (A.U.setTop g) [] mk a).1 (B.U.setTop { g with pc := g.pc + len, stack := v.toList ++ g.stack })) ∨
    (∃ (q : Addr) (B : Pt), Stand p l e R s m sargs below meth c B.U B.locs B.cells B.slots ∧ PostX A a q B ∧
      Steps p.tables e below (doInvoke e (A.U.setTop g) [] mk a).1 ((B.U.setTop g).pushFrame (.throwing q)))
section Payer
variable {l : Launch} {R : Room} {p : Program} {e : Env} {below : List Frame} {s : State} {sargs : Array Value} {y : MethodName} {len W9 : Nat}
theorem vx_back {ws : List Cond} {rm : Room} {Pc : Array Value → State → Prop} {Qc : Array Value → State → Outcome → State → Prop} {XC : String → State → State → Prop} {mc ms : Nat} {free : Addr → Prop} {bytes : ByteArray} {maxL : Nat} {ret : Option FieldType}
    (hM : vx_Met l y ws rm Pc Qc XC mc ms free) (hblind : FrameBlind Pc) (hrc : rm.cells = mc) (hrs : rm.slots = ms)
    (hframes : rm.frames + 1 ≤ R.frames) (hlocals : W9 + (maxL + 11) + rm.locals ≤ R.locals)
    (hws : ∀ w ∈ ws, ∀ a' U, s.WarmedH U.vm → w.before a' U = true) (hcode : Cond.code y bytes maxL ret ∈ ws) (hinit : ∀ a' U, s.WarmedH U.vm → (Cond.initialized y.cls).before a' U = true) :
    vx_Back l R p e below s sargs y len W9 (PreOf R mc ms Pc) (PostOf Qc mc ms free) (vx_Post XC mc ms free) := by
  intro m meth c A g ig mk a X hg hsize hdg hW hn hp
  have h1 : (headSpec ws rm).pre.before a A.U = true := atoms_intro fun w hw => hws w hw _ _ X.warmed
  have h2 : (Cond.code y bytes maxL ret).before a A.U = true := hws _ hcode _ _ X.warmed
  have h3 : (Cond.initialized y.cls).before a A.U = true := hinit _ _ X.warmed
  have h4 : A.cells + (headSpec ws rm).room.cells ≤ R.cells := by rw [show (headSpec ws rm).room.cells = mc from hrc]; exact hp.1
  have h5 : A.slots + (headSpec ws rm).room.slots ≤ R.slots := by rw [show (headSpec ws rm).room.slots = ms from hrs]; exact hp.2.1
  have hPc : Pc a (A.U.calling g mk a) := hblind _ _ _ _ hp.2.2
  obtain ⟨U, Ls, c0, s0⟩ := A
  dsimp only [Pt.U, Pt.locs, Pt.cells, Pt.slots] at h1 h2 h3 h4 h5 X hn hPc ⊢
  obtain ⟨methY, cY, hmY, hcY, -, hlY, -, -, -, -⟩ := Cond.code_spec hn h2
  obtain ⟨kY, hkY, -⟩ := className_of_methodNamed hn
  have hinitY : kY.init = .initialized := Cond.initialized_spec (findClass_of_methodNamed hn) hkY h3
  have h : At U g.method c below := by rw [hg]; exact X.here
  have hlocals9 : W9 + (maxL + 11) + (headSpec ws rm).room.locals ≤ R.locals := hlocals
  have happ : (headSpec ws rm).appliesLoose y e.platform (U.calling g mk a) = true :=
    Spec.appliesLoose_calling (g := g) h hdg hn hkY hinitY
      (X.room_calling (g := g) (R' := (headSpec ws rm).room) hsize hmY hcY hframes (by rw [hlY]; omega) h4 h5) h1
  obtain ⟨mid, hmid⟩ := h.above
  have hfr : (U.setTop g).frames = (.java g :: mid) ++ below := by rw [State.frames_setTop' g h.top, hmid]; rfl
  obtain ⟨o, s₂, hsteps, -, hend, hq⟩ := Steps.callFree hM p X.admits X.cas X.clock (acts := []) hfr happ hPc trivial
  have hq' : vx_Q Qc XC mc ms free a (U.calling g mk a) o s₂ := hq
  rw [State.frames_setTop' g h.top] at hend
  obtain ⟨g₀, hg0⟩ := Option.isSome_iff_exists.mp h.top
  obtain ⟨r, hr⟩ := State.topJava?_eq_some.mp hg0
  have hr' : (({ U with heap := s₂.heap, slotsUsed := s₂.slotsUsed } : State).setVm s₂.vm).frames = .java g₀ :: r := hr
  rcases hq' with ⟨hqc, L, hfe, hL⟩ | ⟨q, rfl, E, ce, L, hx, hce, hcv, hcl, hW₂, hsm, hL⟩
  · obtain ⟨⟨v, rfl⟩, hW₂, e2, q2, q3, q4, q5, q6⟩ := id hfe
    have e3 : s₂ = ({ (U.calling g mk a).setFrames s₂.frames with heap := s₂.heap, slotsUsed := s₂.slotsUsed } : State).setVm s₂.vm := by
      have : s₂ = ({ s₂ with vm := (U.calling g mk a).vm } : State).setVm s₂.vm := rfl
      rw [e2] at this
      exact this
    obtain ⟨c₂, i₂, len₂, hc₂, hd₂, hf₂⟩ := hend
    have hW' : U.WarmedH s₂.vm := hW₂
    have hcc : c₂ = c := by
      have h1 : s₂.code? g.method = U.code? g.method := by
        rw [State.code?_eq, State.code?_eq, hW'.alike.method?]
      exact Option.some.inj (hc₂.symm.trans (h1.trans h.code))
    subst hcc
    have hlen : len₂ = len := by rw [hdg] at hd₂; cases hd₂; rfl
    subst hlen
    have hs₂ : s₂ = (({ U with heap := s₂.heap, slotsUsed := s₂.slotsUsed } : State).setVm s₂.vm).setTop { g with pc := g.pc + len₂, stack := v.toList ++ g.stack } := by
      refine e3.trans ?_
      rw [hf₂, State.calling_eq h.top, State.setFrames_setFrames, State.setTop_of_frames _ hr', hr]
      rfl
    have hsame : U.sameButNew ({ U with heap := s₂.heap, slotsUsed := s₂.slotsUsed } : State) L mc ms := by
      refine ⟨?_, q2, q3, q4, q5, q6⟩
      obtain ⟨t, ht, -⟩ := State.frames_cons hr
      show ({ U with heap := s₂.heap, slotsUsed := s₂.slotsUsed } : State) = { U.setFrames U.frames with heap := s₂.heap, slotsUsed := s₂.slotsUsed }
      rw [State.setFrames_self ht]
    subst hg
    refine Or.inl ⟨v, ⟨(({ U with heap := s₂.heap, slotsUsed := s₂.slotsUsed } : State).setVm s₂.vm), Ls ++ L, c0 + mc, s0 + ms⟩,
      ⟨X.admits, X.cas, X.clock, X.frames, X.room, X.hears, X.method, X.code, (X.here.setHeapUsed s₂.heap s₂.slotsUsed).setVm hW'.alike, X.tail, State.WarmedH.trans X.warmed hW', X.limits, X.bytes, X.same.trans (hsame.setVm s.vm)⟩,
      ⟨g, mk, s₂, L, rfl, rfl, hqc, rfl, hL, rfl, rfl⟩, ?_⟩
    show Steps p.tables e below _ ((({ U with heap := s₂.heap, slotsUsed := s₂.slotsUsed } : State).setVm s₂.vm).setTop { g with pc := g.pc + len₂, stack := v.toList ++ g.stack })
    rw [← hs₂]
    exact hsteps
  · obtain ⟨e2, q2, q3, q4, q5, q6⟩ := id hsm
    have e3 : s₂ = ({ (U.calling g mk a).setFrames s₂.frames with heap := s₂.heap, slotsUsed := s₂.slotsUsed } : State).setVm s₂.vm := by
      have : s₂ = ({ s₂ with vm := (U.calling g mk a).vm } : State).setVm s₂.vm := rfl
      rw [e2] at this
      exact this
    have hf₂ : s₂.frames = .throwing q :: .java g :: U.frames.tail := hend
    have hW' : U.WarmedH s₂.vm := hW₂
    have hs₂ : s₂ = ((({ U with heap := s₂.heap, slotsUsed := s₂.slotsUsed } : State).setVm s₂.vm).setTop g).pushFrame (.throwing q) := by
      refine e3.trans ?_
      rw [hf₂, State.calling_eq h.top, State.setFrames_setFrames, State.pushFrame, State.frames_setTop _ hr', State.setTop_of_frames _ hr', State.setFrames_setFrames, hr]
      rfl
    have hsame : U.sameButNew ({ U with heap := s₂.heap, slotsUsed := s₂.slotsUsed } : State) L mc ms := by
      refine ⟨?_, q2, q3, q4, q5, q6⟩
      obtain ⟨t, ht, -⟩ := State.frames_cons hr
      show ({ U with heap := s₂.heap, slotsUsed := s₂.slotsUsed } : State) = { U.setFrames U.frames with heap := s₂.heap, slotsUsed := s₂.slotsUsed }
      rw [State.setFrames_self ht]
    subst hg
    refine Or.inr ⟨q, ⟨(({ U with heap := s₂.heap, slotsUsed := s₂.slotsUsed } : State).setVm s₂.vm), Ls ++ L, c0 + mc, s0 + ms⟩,
      ⟨X.admits, X.cas, X.clock, X.frames, X.room, X.hears, X.method, X.code, (X.here.setHeapUsed s₂.heap s₂.slotsUsed).setVm hW'.alike, X.tail, State.WarmedH.trans X.warmed hW', X.limits, X.bytes, X.same.trans (hsame.setVm s.vm)⟩,
      ⟨g, mk, s₂, L, E, ce, rfl, rfl, hx, hce, hcv, hcl, rfl, hL, rfl, rfl⟩, ?_⟩
    show Steps p.tables e below _ (((({ U with heap := s₂.heap, slotsUsed := s₂.slotsUsed } : State).setVm s₂.vm).setTop g).pushFrame (.throwing q))
    rw [← hs₂]
    exact hsteps
end Payer
section Calls
variable {p : Program} {l : Launch} {e : Env} {R : Room} {s : State} {m : MethodId} {args : Array Value} {below : List Frame} {meth : Method} {c : Code} {T : State} {locs : List Loc} {cells slots : Nat}
theorem vx_callV (X : Stand p l e R s m args below meth c T locs cells slots) (hexec : p.tables.exec = Jvm.exec) {own C : String} {index : Nat} {y : MethodName} {bytes : ByteArray} {maxL : Nat} {ret : Option FieldType}
    (hown : s.vm.findClass own = some m.cls) (hlink : (Cond.methodLink own index y).before args s = true) (hinst : (Cond.instanceMethod y).before args s = true) (hsel : (Cond.selects C y y).before args s = true)
    (hcode : (Cond.code y bytes maxL ret).before args s = true) (hy : y.cls ≠ "java/lang/invoke/MethodHandle" ∧ y.cls ≠ "java/lang/invoke/VarHandle")
    {W9 : Nat} {Pre : Pt → Array Value → Prop} {Post : Pt → Array Value → Option Value → Pt → Prop} {PostX : Pt → Array Value → Addr → Pt → Prop} (hK : vx_Back l R p e below s args y 3 W9 Pre Post PostX)
    {b : Addr} {cellB : Cell} (hcell : T.heap[b]? = some cellB) (hobj : cellB.vm.isStatics = false) (hcls : s.vm.findClass C = some cellB.cls)
    {g : JFrame} (hg : g.method = m) (hsize : g.locals.size = c.maxLocals) {argsL rest : List Value} (hlen : ∀ sig, parseMethodDescriptor y.desc = some sig → argsL.length = sig.parameters.length)
    (hstack : g.stack = argsL.reverse ++ .ref b :: rest) (hW : 2 * g.monitorRoom + (rest.map fun v => v.category).sum ≤ W9) (hdg : decode c.code g.pc = .ok (.invokevirtual index, 3))
    (hpre : ∀ vm₁, s.WarmedH vm₁ → Pre ⟨T.setVm vm₁, locs, cells, slots⟩ (Value.ref b :: argsL).toArray) :
    (∃ (v : Option Value) (vm₁ : Vm) (B : Pt), s.WarmedH vm₁ ∧ Stand p l e R s m args below meth c B.U B.locs B.cells B.slots ∧ Post ⟨T.setVm vm₁, locs, cells, slots⟩ (Value.ref b :: argsL).toArray v B ∧
      ∀ target, Steps p.tables e below (B.U.setTop { g with pc := g.pc + 3, stack := v.toList ++ rest }) target → Steps p.tables e below (T.setTop g) target) ∨
    (∃ (q : Addr) (vm₁ : Vm) (B : Pt), s.WarmedH vm₁ ∧ Stand p l e R s m args below meth c B.U B.locs B.cells B.slots ∧ PostX ⟨T.setVm vm₁, locs, cells, slots⟩ (Value.ref b :: argsL).toArray q B ∧
      Steps p.tables e below (T.setTop g) ((B.U.setTop { g with stack := rest }).pushFrame (.throwing q))) := by
  obtain ⟨mk, methM, hnamed, hmethM, hstM, habM⟩ := Cond.instanceMethod_spec hinst
  obtain ⟨methM', cM, hmethM', -, -, -, -, -, -, hsigM⟩ := Cond.code_spec hnamed hcode
  cases hmethM.symm.trans hmethM'
  obtain ⟨c2, r2, m2, q1, q2, q3, q4, kP, hkP, hkPi⟩ := Cond.selects_spec hsel
  cases hcls.symm.trans q1
  cases (State.methodFound?_of_named hnamed hy).symm.trans q2
  cases hnamed.symm.trans q3
  have hselP : selectMethod e.platform s.vm cellB.cls mk = .method mk := by rw [Launch.admits_selectMethod X.admits]; exact q4
  obtain ⟨vm₁, X₁, hstep₁⟩ := X.invokevirtual hexec hown hlink hnamed hmethM hstM hkP hkPi hy (a := b) (cell := cellB) hcell
    (fun z h => by rw [h] at hobj; cases hobj) hselP hmethM habM hkP hkPi (g := g) hg (argsL := argsL) (rest := rest) (hlen _ hsigM) hstack hdg
  rcases hK m meth c ⟨T.setVm vm₁, locs, cells, slots⟩ { g with stack := rest } (.invokevirtual index) mk (Value.ref b :: argsL).toArray X₁ hg hsize hdg hW (X₁.named hnamed) (hpre vm₁ X₁.warmed) with ⟨v, B, X', hpost, hsteps⟩ | ⟨q, B, X', hpost, hsteps⟩
  · exact Or.inl ⟨v, vm₁, B, X₁.warmed, X', hpost, fun target h => hstep₁ _ fun acts => by rw [doInvoke_state]; exact hsteps.trans h⟩
  · exact Or.inr ⟨q, vm₁, B, X₁.warmed, X', hpost, hstep₁ _ fun acts => by rw [doInvoke_state]; exact hsteps⟩
theorem vx_callS (X : Stand p l e R s m args below meth c T locs cells slots) (hexec : p.tables.exec = Jvm.exec) {own : String} {index : Nat} {y : MethodName} {bytes : ByteArray} {maxL : Nat} {ret : Option FieldType}
    (hown : s.vm.findClass own = some m.cls) (hlink : (Cond.methodLink own index y).before args s = true) (hstat : (Cond.static y).before args s = true) (hinit : (Cond.initialized y.cls).before args s = true)
    (hcode : (Cond.code y bytes maxL ret).before args s = true) (hy : y.cls ≠ "java/lang/invoke/MethodHandle" ∧ y.cls ≠ "java/lang/invoke/VarHandle")
    {W9 : Nat} {Pre : Pt → Array Value → Prop} {Post : Pt → Array Value → Option Value → Pt → Prop} {PostX : Pt → Array Value → Addr → Pt → Prop} (hK : vx_Back l R p e below s args y 3 W9 Pre Post PostX)
    {g : JFrame} (hg : g.method = m) (hsize : g.locals.size = c.maxLocals) {argsL rest : List Value} (hlen : ∀ sig, parseMethodDescriptor y.desc = some sig → argsL.length = sig.parameters.length)
    (hstack : g.stack = argsL.reverse ++ rest) (hW : 2 * g.monitorRoom + (rest.map fun v => v.category).sum ≤ W9) (hdg : decode c.code g.pc = .ok (.invokestatic index, 3))
    (hpre : ∀ vm₁, s.WarmedH vm₁ → Pre ⟨T.setVm vm₁, locs, cells, slots⟩ argsL.toArray) :
    (∃ (v : Option Value) (vm₁ : Vm) (B : Pt), s.WarmedH vm₁ ∧ Stand p l e R s m args below meth c B.U B.locs B.cells B.slots ∧ Post ⟨T.setVm vm₁, locs, cells, slots⟩ argsL.toArray v B ∧
      ∀ target, Steps p.tables e below (B.U.setTop { g with pc := g.pc + 3, stack := v.toList ++ rest }) target → Steps p.tables e below (T.setTop g) target) ∨
    (∃ (q : Addr) (vm₁ : Vm) (B : Pt), s.WarmedH vm₁ ∧ Stand p l e R s m args below meth c B.U B.locs B.cells B.slots ∧ PostX ⟨T.setVm vm₁, locs, cells, slots⟩ argsL.toArray q B ∧
      Steps p.tables e below (T.setTop g) ((B.U.setTop { g with stack := rest }).pushFrame (.throwing q))) := by
  obtain ⟨mk, hnamed⟩ := Cond.code_named hcode
  obtain ⟨methM, cM, hmethM, -, -, -, -, -, -, hsigM⟩ := Cond.code_spec hnamed hcode
  have hstatic : methM.isStatic = true := Cond.static_spec hnamed hmethM hstat
  obtain ⟨kP, hkP, -⟩ := className_of_methodNamed hnamed
  have hinitP : kP.init = .initialized := Cond.initialized_spec (findClass_of_methodNamed hnamed) hkP hinit
  obtain ⟨vm₁, X₁, hstep₁⟩ := X.invokestatic hexec hown hlink hnamed hmethM hstatic hkP hinitP hy (g := g) hg (argsL := argsL) (rest := rest) (hlen _ hsigM) hstack hdg
  rcases hK m meth c ⟨T.setVm vm₁, locs, cells, slots⟩ { g with stack := rest } (.invokestatic index) mk argsL.toArray X₁ hg hsize hdg hW (X₁.named hnamed) (hpre vm₁ X₁.warmed) with ⟨v, B, X', hpost, hsteps⟩ | ⟨q, B, X', hpost, hsteps⟩
  · exact Or.inl ⟨v, vm₁, B, X₁.warmed, X', hpost, fun target h => hstep₁ _ fun acts => by rw [doInvoke_state]; exact hsteps.trans h⟩
  · exact Or.inr ⟨q, vm₁, B, X₁.warmed, X', hpost, hstep₁ _ fun acts => by rw [doInvoke_state]; exact hsteps⟩
end Calls
theorem vx_cls {s : State} {T : State} {vm₁ : Vm} {E : String} {k : ClassId} (hW : s.WarmedH vm₁) (h : (T.setVm vm₁).vm.findClass E = some k) : s.vm.findClass E = some k := by
  have h1 : vm₁.findClass E = some k := h
  rw [hW.alike.findClass] at h1
  exact h1
/-- the method's frame g, with q thrown over it -/
def vx_W (p : Program) (l : Launch) (e : Env) (R : Room) (s : State) (m : MethodId) (args : Array Value) (below : List Frame) (meth : Method) (c : Code) (H : Heap) (locs : List Loc) (cells slots : Nat) (Q : State → Prop) (g : JFrame) (q : Addr) : Prop :=
  ∀ T : State, T.heap = H → Stand p l e R s m args below meth c T locs cells slots → ∃ t, Steps p.tables e below ((T.setTop g).pushFrame (.throwing q)) t ∧ Q t
def vx_Run (p : Program) (l : Launch) (e : Env) (R : Room) (s : State) (m : MethodId) (args : Array Value) (below : List Frame) (meth : Method) (c : Code) (H : Heap) (locs : List Loc) (cells slots mc ms : Nat) (g : JFrame) (rest : List Value) (Qa : State → Outcome → State → Prop) (XC : String → State → State → Prop) (free : Addr → Prop) : Prop :=
  ∀ T : State, T.heap = H → Stand p l e R s m args below meth c T locs cells slots →
    (∃ (v : Option Value) (st₀ t T' : State) (L : List Loc), st₀.heap = H ∧ Stand p l e R s m args below meth c T' (locs ++ L) (cells + mc) (slots + ms) ∧ (∀ q ∈ L, free q.base) ∧ T'.heap = t.heap ∧ T'.vm = t.vm ∧ Qa st₀ (.returned v) t ∧
      Goes p e below T g T' { g with pc := g.pc + 3, stack := v.toList ++ rest }) ∨
    (∃ (q : Addr) (st₀ t T' : State) (L : List Loc) (E : String) (ce : Cell), st₀.heap = H ∧ Stand p l e R s m args below meth c T' (locs ++ L) (cells + mc) (slots + ms) ∧ (∀ z ∈ L, free z.base) ∧ T'.heap = t.heap ∧ T'.vm = t.vm ∧ XC E st₀ t ∧ t.heap[q]? = some ce ∧ ce.vm = .none ∧ s.vm.findClass E = some ce.cls ∧
      Steps p.tables e below (T.setTop g) ((T'.setTop { g with stack := rest }).pushFrame (.throwing q)))
def vx_X {S : Type} (px : S → Prop) (B : String → S → State → Prop) (A : Nat → Prop) : String → State → State → Prop := fun E st t => ∃ u : S, px u ∧ B E u t ∧ va_F A st t
section Runs
variable {p : Program} {l : Launch} {e : Env} {R : Room} {s : State} {m : MethodId} {args : Array Value} {below : List Frame} {meth : Method} {c : Code} {H : Heap} {locs : List Loc} {cells slots : Nat}
variable {y : MethodName} {bytes cc : ByteArray} {maxL nL mc ms n index : Nat} {ret : Option FieldType} {ws : List Cond} {rm : Room} {Pc : Array Value → State → Prop} {Qc : Array Value → State → Outcome → State → Prop} {XC : String → State → State → Prop} {free : Addr → Prop} {Ts : List Cond} {own C : String} {b : Addr} {As rest : List Value} {g : JFrame}
theorem vx_callBack (cb : CallB R s args own index y bytes maxL ret ws rm mc ms n) (hM : vx_Met l y ws rm Pc Qc XC mc ms free) (hbl : FrameBlind Pc) : vx_Back l R p e below s args y 3 8 (PreOf R mc ms Pc) (PostOf Qc mc ms free) (vx_Post XC mc ms free) := by
  obtain ⟨hrc, hrs, hfr, hlo, hws, hcw, -, hini, -⟩ := cb
  exact vx_back (bytes := bytes) (maxL := maxL) (ret := ret) hM hbl hrc hrs hfr hlo hws hcw (fun a' U hW => word_at hW (Or.inl (by first | rfl | simp [Cond.onTables, Cond.keeps, Cond.steady])) hini)
theorem vx_runV (S : CallFix p m c cc nL s args Ts own) (hM : vx_Met l y ws rm Pc Qc XC mc ms free) (cw : CallW R s args own C index y bytes maxL ret ws rm mc ms n) (hp : PreV s H C b Pc As)
    (hg : g.method = m) (hn : As.length = n) (hsize : g.locals.size = nL) (hstack : g.stack = As.reverse ++ .ref b :: rest) (hW : 2 * g.monitorRoom + (rest.map fun v => v.category).sum ≤ 8) (hdg : decode cc g.pc = .ok (.invokevirtual index, 3)) (hf : cells + mc ≤ R.cells ∧ slots + ms ≤ R.slots) :
    vx_Run p l e R s m args below meth c H locs cells slots mc ms g rest (Qc (Value.ref b :: As).toArray) XC free := by
  have hK : vx_Back l R p e below s args y 3 8 (PreOf R mc ms Pc) (PostOf Qc mc ms free) (vx_Post XC mc ms free) := vx_callBack cw.1 hM hp.1
  obtain ⟨⟨-, -, -, -, -, -, hcode, -, hy, hlen, hl⟩, hin, hse⟩ := cw
  obtain ⟨hx, hb, hml, ho, -⟩ := S
  obtain ⟨-, ⟨cellB, hcB, hoB, hclB⟩, hPc⟩ := hp
  intro T hT X
  rcases vx_callV X hx (C := C) (bytes := bytes) (maxL := maxL) (ret := ret) ho hl hin hse hcode hy hK (by rw [hT]; exact hcB) hoB hclB hg (hsize.trans hml.symm) (argsL := As) (rest := rest) (fun sig h => hn.trans (hlen sig h)) hstack hW (by rw [hb]; exact hdg)
    (fun vm₁ hW₁ => ⟨hf.1, hf.2, hPc (T.setVm vm₁) hT hW₁⟩) with ⟨v, vm₁, ⟨U', l2, c2, s2⟩, hW₁, X', ⟨g', mk, t, L, e1, e2, hq, h1, hL, h2, h3⟩, st⟩ | ⟨q, vm₁, ⟨U', l2, c2, s2⟩, hW₁, X', ⟨g', mk, t, L, E, ce, e1, e2, hq, hce, hcv, hcl, h1, hL, h2, h3⟩, st⟩
  · dsimp only [Pt.U, Pt.locs, Pt.cells, Pt.slots] at X' e1 e2 h1 h2 h3 st
    subst h1; subst h2; subst h3
    exact Or.inl ⟨v, (T.setVm vm₁).calling g' mk (Value.ref b :: As).toArray, t, U', L, hT, X', hL, e1, e2, hq, st⟩
  · dsimp only [Pt.U, Pt.locs, Pt.cells, Pt.slots] at X' e1 e2 h1 h2 h3 st hcl
    subst h1; subst h2; subst h3
    exact Or.inr ⟨q, (T.setVm vm₁).calling g' mk (Value.ref b :: As).toArray, t, U', L, E, ce, hT, X', hL, e1, e2, hq, hce, hcv, vx_cls hW₁ hcl, st⟩
theorem vx_runS (S : CallFix p m c cc nL s args Ts own) (hM : vx_Met l y ws rm Pc Qc XC mc ms free) (cw : CallB R s args own index y bytes maxL ret ws rm mc ms n ∧ (Cond.static y).before args s = true) (hp : PreS s H Pc As)
    (hg : g.method = m) (hn : As.length = n) (hsize : g.locals.size = nL) (hstack : g.stack = As.reverse ++ rest) (hW : 2 * g.monitorRoom + (rest.map fun v => v.category).sum ≤ 8) (hdg : decode cc g.pc = .ok (.invokestatic index, 3)) (hf : cells + mc ≤ R.cells ∧ slots + ms ≤ R.slots) :
    vx_Run p l e R s m args below meth c H locs cells slots mc ms g rest (Qc As.toArray) XC free := by
  have hK : vx_Back l R p e below s args y 3 8 (PreOf R mc ms Pc) (PostOf Qc mc ms free) (vx_Post XC mc ms free) := vx_callBack cw.1 hM hp.1
  obtain ⟨⟨-, -, -, -, -, -, hcode, hini, hy, hlen, hl⟩, hstt⟩ := cw
  obtain ⟨hx, hb, hml, ho, -⟩ := S
  intro T hT X
  rcases vx_callS X hx (bytes := bytes) (maxL := maxL) (ret := ret) ho hl hstt hini hcode hy hK hg (hsize.trans hml.symm) (argsL := As) (rest := rest) (fun sig h => hn.trans (hlen sig h)) hstack hW (by rw [hb]; exact hdg)
    (fun vm₁ hW₁ => ⟨hf.1, hf.2, hp.2 (T.setVm vm₁) hT hW₁⟩) with ⟨v, vm₁, ⟨U', l2, c2, s2⟩, hW₁, X', ⟨g', mk, t, L, e1, e2, hq, h1, hL, h2, h3⟩, st⟩ | ⟨q, vm₁, ⟨U', l2, c2, s2⟩, hW₁, X', ⟨g', mk, t, L, E, ce, e1, e2, hq, hce, hcv, hcl, h1, hL, h2, h3⟩, st⟩
  · dsimp only [Pt.U, Pt.locs, Pt.cells, Pt.slots] at X' e1 e2 h1 h2 h3 st
    subst h1; subst h2; subst h3
    exact Or.inl ⟨v, (T.setVm vm₁).calling g' mk As.toArray, t, U', L, hT, X', hL, e1, e2, hq, st⟩
  · dsimp only [Pt.U, Pt.locs, Pt.cells, Pt.slots] at X' e1 e2 h1 h2 h3 st hcl
    subst h1; subst h2; subst h3
    exact Or.inr ⟨q, (T.setVm vm₁).calling g' mk As.toArray, t, U', L, E, ce, hT, X', hL, e1, e2, hq, hce, hcv, vx_cls hW₁ hcl, st⟩
end Runs
section Rows
variable {p : Program} {l : Launch} {e : Env} {R : Room} {s : State} {m : MethodId} {args : Array Value} {below : List Frame} {meth : Method} {c : Code} {H : Heap} {locs : List Loc} {cells slots : Nat} {Q : State → Prop}
variable {mc ms : Nat} {free : Addr → Prop} {A0 A1 : Nat → Prop} {H0 : Heap} {a : Array Value} {pc : Nat} {ls : Array Slot} {st0 rest : List Value}
theorem vx_keep {st₀ t T' : State} {L : List Loc} (h0 : st₀.heap = H) (e1 : T'.heap = t.heap) (hS : va_S A0 H0 H locs) (hA : ∀ q, q < H.size → A1 q → A0 q) (hf : ∀ q, free q → A0 q) (hL : ∀ q ∈ L, free q.base) (hF : va_F A1 st₀ t) :
    H.size ≤ T'.heap.size ∧ (∀ q : Nat, q < H.size → ¬ A1 q → T'.heap[q]? = H[q]?) ∧ va_S A0 H0 T'.heap (locs ++ L) := by
  obtain ⟨hz, hk⟩ := hF
  rw [h0] at hz hk
  exact ⟨by rw [e1]; exact hz, fun q h1 h2 => by rw [e1]; exact hk q h1 h2,
    ⟨Nat.le_trans hS.1 (by rw [e1]; exact hz), fun q h1 h2 => by rw [e1, hk q (Nat.lt_of_lt_of_le h1 hS.1) (fun z => h2 (hA q (Nat.lt_of_lt_of_le h1 hS.1) z))]; exact hS.2.1 q h1 h2, fun q hq => by
      rcases List.mem_append.mp hq with h | h
      · exact hS.2.2 q h
      · exact hf _ (hL q h)⟩⟩
theorem vx_calli {S SX : Type} {post : Int32 → S → Prop} {px : SX → Prop} {B : S → State → Prop} {BX : String → SX → State → Prop} {AX : Nat → Prop} (hr : vx_Run p l e R s m args below meth c H locs cells slots mc ms (F0 m pc ls st0) rest (va_Qi post B A1 a) (vx_X px BX AX) free) (hS : va_S A0 H0 H locs) (hA : ∀ q, q < H.size → A1 q → A0 q) (hf : ∀ q, free q → A0 q) (hAX : ∀ q, q < H.size → AX q → A0 q)
    (kx : ∀ (E : String) (ce : Cell) (q9 : Addr) (u : SX) (t : State) (H1 : Heap) (locs1 : List Loc), t.heap = H1 → s.vm.Alike t.vm → px u → BX E u t → H.size ≤ H1.size → (∀ q : Nat, q < H.size → ¬ AX q → H1[q]? = H[q]?) → va_S A0 H0 H1 locs1 → H1[q9]? = some ce → ce.vm = .none → s.vm.findClass E = some ce.cls → vx_W p l e R s m args below meth c H1 locs1 (cells + mc) (slots + ms) Q (F0 m pc ls rest) q9)
    (kk : ∀ (r : Int32) (u : S) (t : State) (H1 : Heap) (locs1 : List Loc), t.heap = H1 → s.vm.Alike t.vm → post r u → B u t → H.size ≤ H1.size → (∀ q : Nat, q < H.size → ¬ A1 q → H1[q]? = H[q]?) → va_S A0 H0 H1 locs1 → W p l e R s m args below meth c H1 locs1 (cells + mc) (slots + ms) Q (F0 m (pc + 3) ls (.int r :: rest))) : W p l e R s m args below meth c H locs cells slots Q (F0 m pc ls st0) := by
  intro T hT X
  rcases hr T hT X with ⟨v, st₀, t, T', L, h0, X', hL, e1, e2, ⟨⟨r, u, hv, hp, hb⟩, hF⟩, st⟩ | ⟨q, st₀, t, T', L, E, ce, h0, X', hL, e1, e2, ⟨u, hp, hb, hF⟩, hce, hcv, hcl, st⟩
  · cases hv
    obtain ⟨k1, k2, k3⟩ := vx_keep h0 e1 hS hA hf hL hF
    obtain ⟨t2, a1, b1⟩ := kk r u t T'.heap (locs ++ L) e1.symm (by rw [← e2]; exact X'.warmed.alike) hp hb k1 k2 k3 T' rfl X'
    exact ⟨t2, st t2 a1, b1⟩
  · obtain ⟨k1, k2, k3⟩ := vx_keep h0 e1 hS hAX hf hL hF
    obtain ⟨t2, a1, b1⟩ := kx E ce q u t T'.heap (locs ++ L) e1.symm (by rw [← e2]; exact X'.warmed.alike) hp hb k1 k2 k3 (by rw [e1]; exact hce) hcv hcl T' rfl X'
    exact ⟨t2, st.trans a1, b1⟩
theorem vx_calll {S SX : Type} {post : Int64 → S → Prop} {px : SX → Prop} {B : S → State → Prop} {BX : String → SX → State → Prop} {AX : Nat → Prop} (hr : vx_Run p l e R s m args below meth c H locs cells slots mc ms (F0 m pc ls st0) rest (va_Ql post B A1 a) (vx_X px BX AX) free) (hS : va_S A0 H0 H locs) (hA : ∀ q, q < H.size → A1 q → A0 q) (hf : ∀ q, free q → A0 q) (hAX : ∀ q, q < H.size → AX q → A0 q)
    (kx : ∀ (E : String) (ce : Cell) (q9 : Addr) (u : SX) (t : State) (H1 : Heap) (locs1 : List Loc), t.heap = H1 → s.vm.Alike t.vm → px u → BX E u t → H.size ≤ H1.size → (∀ q : Nat, q < H.size → ¬ AX q → H1[q]? = H[q]?) → va_S A0 H0 H1 locs1 → H1[q9]? = some ce → ce.vm = .none → s.vm.findClass E = some ce.cls → vx_W p l e R s m args below meth c H1 locs1 (cells + mc) (slots + ms) Q (F0 m pc ls rest) q9)
    (kk : ∀ (r : Int64) (u : S) (t : State) (H1 : Heap) (locs1 : List Loc), t.heap = H1 → s.vm.Alike t.vm → post r u → B u t → H.size ≤ H1.size → (∀ q : Nat, q < H.size → ¬ A1 q → H1[q]? = H[q]?) → va_S A0 H0 H1 locs1 → W p l e R s m args below meth c H1 locs1 (cells + mc) (slots + ms) Q (F0 m (pc + 3) ls (.long r :: rest))) : W p l e R s m args below meth c H locs cells slots Q (F0 m pc ls st0) := by
  intro T hT X
  rcases hr T hT X with ⟨v, st₀, t, T', L, h0, X', hL, e1, e2, ⟨⟨r, u, hv, hp, hb⟩, hF⟩, st⟩ | ⟨q, st₀, t, T', L, E, ce, h0, X', hL, e1, e2, ⟨u, hp, hb, hF⟩, hce, hcv, hcl, st⟩
  · cases hv
    obtain ⟨k1, k2, k3⟩ := vx_keep h0 e1 hS hA hf hL hF
    obtain ⟨t2, a1, b1⟩ := kk r u t T'.heap (locs ++ L) e1.symm (by rw [← e2]; exact X'.warmed.alike) hp hb k1 k2 k3 T' rfl X'
    exact ⟨t2, st t2 a1, b1⟩
  · obtain ⟨k1, k2, k3⟩ := vx_keep h0 e1 hS hAX hf hL hF
    obtain ⟨t2, a1, b1⟩ := kx E ce q u t T'.heap (locs ++ L) e1.symm (by rw [← e2]; exact X'.warmed.alike) hp hb k1 k2 k3 (by rw [e1]; exact hce) hcv hcl T' rfl X'
    exact ⟨t2, st.trans a1, b1⟩
theorem vx_callf {S SX : Type} {post : UInt32 → S → Prop} {px : SX → Prop} {B : S → State → Prop} {BX : String → SX → State → Prop} {AX : Nat → Prop} (hr : vx_Run p l e R s m args below meth c H locs cells slots mc ms (F0 m pc ls st0) rest (va_Qf post B A1 a) (vx_X px BX AX) free) (hS : va_S A0 H0 H locs) (hA : ∀ q, q < H.size → A1 q → A0 q) (hf : ∀ q, free q → A0 q) (hAX : ∀ q, q < H.size → AX q → A0 q)
    (kx : ∀ (E : String) (ce : Cell) (q9 : Addr) (u : SX) (t : State) (H1 : Heap) (locs1 : List Loc), t.heap = H1 → s.vm.Alike t.vm → px u → BX E u t → H.size ≤ H1.size → (∀ q : Nat, q < H.size → ¬ AX q → H1[q]? = H[q]?) → va_S A0 H0 H1 locs1 → H1[q9]? = some ce → ce.vm = .none → s.vm.findClass E = some ce.cls → vx_W p l e R s m args below meth c H1 locs1 (cells + mc) (slots + ms) Q (F0 m pc ls rest) q9)
    (kk : ∀ (r : UInt32) (u : S) (t : State) (H1 : Heap) (locs1 : List Loc), t.heap = H1 → s.vm.Alike t.vm → post r u → B u t → H.size ≤ H1.size → (∀ q : Nat, q < H.size → ¬ A1 q → H1[q]? = H[q]?) → va_S A0 H0 H1 locs1 → W p l e R s m args below meth c H1 locs1 (cells + mc) (slots + ms) Q (F0 m (pc + 3) ls (.float r :: rest))) : W p l e R s m args below meth c H locs cells slots Q (F0 m pc ls st0) := by
  intro T hT X
  rcases hr T hT X with ⟨v, st₀, t, T', L, h0, X', hL, e1, e2, ⟨⟨r, u, hv, hp, hb⟩, hF⟩, st⟩ | ⟨q, st₀, t, T', L, E, ce, h0, X', hL, e1, e2, ⟨u, hp, hb, hF⟩, hce, hcv, hcl, st⟩
  · cases hv
    obtain ⟨k1, k2, k3⟩ := vx_keep h0 e1 hS hA hf hL hF
    obtain ⟨t2, a1, b1⟩ := kk r u t T'.heap (locs ++ L) e1.symm (by rw [← e2]; exact X'.warmed.alike) hp hb k1 k2 k3 T' rfl X'
    exact ⟨t2, st t2 a1, b1⟩
  · obtain ⟨k1, k2, k3⟩ := vx_keep h0 e1 hS hAX hf hL hF
    obtain ⟨t2, a1, b1⟩ := kx E ce q u t T'.heap (locs ++ L) e1.symm (by rw [← e2]; exact X'.warmed.alike) hp hb k1 k2 k3 (by rw [e1]; exact hce) hcv hcl T' rfl X'
    exact ⟨t2, st.trans a1, b1⟩
theorem vx_calld {S SX : Type} {post : UInt64 → S → Prop} {px : SX → Prop} {B : S → State → Prop} {BX : String → SX → State → Prop} {AX : Nat → Prop} (hr : vx_Run p l e R s m args below meth c H locs cells slots mc ms (F0 m pc ls st0) rest (va_Qd post B A1 a) (vx_X px BX AX) free) (hS : va_S A0 H0 H locs) (hA : ∀ q, q < H.size → A1 q → A0 q) (hf : ∀ q, free q → A0 q) (hAX : ∀ q, q < H.size → AX q → A0 q)
    (kx : ∀ (E : String) (ce : Cell) (q9 : Addr) (u : SX) (t : State) (H1 : Heap) (locs1 : List Loc), t.heap = H1 → s.vm.Alike t.vm → px u → BX E u t → H.size ≤ H1.size → (∀ q : Nat, q < H.size → ¬ AX q → H1[q]? = H[q]?) → va_S A0 H0 H1 locs1 → H1[q9]? = some ce → ce.vm = .none → s.vm.findClass E = some ce.cls → vx_W p l e R s m args below meth c H1 locs1 (cells + mc) (slots + ms) Q (F0 m pc ls rest) q9)
    (kk : ∀ (r : UInt64) (u : S) (t : State) (H1 : Heap) (locs1 : List Loc), t.heap = H1 → s.vm.Alike t.vm → post r u → B u t → H.size ≤ H1.size → (∀ q : Nat, q < H.size → ¬ A1 q → H1[q]? = H[q]?) → va_S A0 H0 H1 locs1 → W p l e R s m args below meth c H1 locs1 (cells + mc) (slots + ms) Q (F0 m (pc + 3) ls (.double r :: rest))) : W p l e R s m args below meth c H locs cells slots Q (F0 m pc ls st0) := by
  intro T hT X
  rcases hr T hT X with ⟨v, st₀, t, T', L, h0, X', hL, e1, e2, ⟨⟨r, u, hv, hp, hb⟩, hF⟩, st⟩ | ⟨q, st₀, t, T', L, E, ce, h0, X', hL, e1, e2, ⟨u, hp, hb, hF⟩, hce, hcv, hcl, st⟩
  · cases hv
    obtain ⟨k1, k2, k3⟩ := vx_keep h0 e1 hS hA hf hL hF
    obtain ⟨t2, a1, b1⟩ := kk r u t T'.heap (locs ++ L) e1.symm (by rw [← e2]; exact X'.warmed.alike) hp hb k1 k2 k3 T' rfl X'
    exact ⟨t2, st t2 a1, b1⟩
  · obtain ⟨k1, k2, k3⟩ := vx_keep h0 e1 hS hAX hf hL hF
    obtain ⟨t2, a1, b1⟩ := kx E ce q u t T'.heap (locs ++ L) e1.symm (by rw [← e2]; exact X'.warmed.alike) hp hb k1 k2 k3 (by rw [e1]; exact hce) hcv hcl T' rfl X'
    exact ⟨t2, st.trans a1, b1⟩
theorem vx_callv {S SX : Type} {post : S → Prop} {px : SX → Prop} {B : S → State → Prop} {BX : String → SX → State → Prop} {AX : Nat → Prop} (hr : vx_Run p l e R s m args below meth c H locs cells slots mc ms (F0 m pc ls st0) rest (va_Qv post B A1 a) (vx_X px BX AX) free) (hS : va_S A0 H0 H locs) (hA : ∀ q, q < H.size → A1 q → A0 q) (hf : ∀ q, free q → A0 q) (hAX : ∀ q, q < H.size → AX q → A0 q)
    (kx : ∀ (E : String) (ce : Cell) (q9 : Addr) (u : SX) (t : State) (H1 : Heap) (locs1 : List Loc), t.heap = H1 → s.vm.Alike t.vm → px u → BX E u t → H.size ≤ H1.size → (∀ q : Nat, q < H.size → ¬ AX q → H1[q]? = H[q]?) → va_S A0 H0 H1 locs1 → H1[q9]? = some ce → ce.vm = .none → s.vm.findClass E = some ce.cls → vx_W p l e R s m args below meth c H1 locs1 (cells + mc) (slots + ms) Q (F0 m pc ls rest) q9)
    (kk : ∀ (u : S) (t : State) (H1 : Heap) (locs1 : List Loc), t.heap = H1 → s.vm.Alike t.vm → post u → B u t → H.size ≤ H1.size → (∀ q : Nat, q < H.size → ¬ A1 q → H1[q]? = H[q]?) → va_S A0 H0 H1 locs1 → W p l e R s m args below meth c H1 locs1 (cells + mc) (slots + ms) Q (F0 m (pc + 3) ls (rest))) : W p l e R s m args below meth c H locs cells slots Q (F0 m pc ls st0) := by
  intro T hT X
  rcases hr T hT X with ⟨v, st₀, t, T', L, h0, X', hL, e1, e2, ⟨⟨u, hv, hp, hb⟩, hF⟩, st⟩ | ⟨q, st₀, t, T', L, E, ce, h0, X', hL, e1, e2, ⟨u, hp, hb, hF⟩, hce, hcv, hcl, st⟩
  · cases hv
    obtain ⟨k1, k2, k3⟩ := vx_keep h0 e1 hS hA hf hL hF
    obtain ⟨t2, a1, b1⟩ := kk u t T'.heap (locs ++ L) e1.symm (by rw [← e2]; exact X'.warmed.alike) hp hb k1 k2 k3 T' rfl X'
    exact ⟨t2, st t2 a1, b1⟩
  · obtain ⟨k1, k2, k3⟩ := vx_keep h0 e1 hS hAX hf hL hF
    obtain ⟨t2, a1, b1⟩ := kx E ce q u t T'.heap (locs ++ L) e1.symm (by rw [← e2]; exact X'.warmed.alike) hp hb k1 k2 k3 (by rw [e1]; exact hce) hcv hcl T' rfl X'
    exact ⟨t2, st.trans a1, b1⟩
/-- caught by the row x of this method's table; the rows ahead don't take it -/
theorem vx_catch {own name : String} {E : String} {ce : Cell} {q : Addr} (hown : s.vm.findClass own = some m.cls) (pre : List ExceptionTableEntry) (x : ExceptionTableEntry) (suf : List ExceptionTableEntry) (hsplit : c.exceptionTable.toList = pre ++ x :: suf)
    (hpass : ∀ z ∈ pre, covers z pc = false ∨ (z.catchType ≠ 0 ∧ ∃ nm : String, (Cond.classLink own z.catchType nm).before args s = true ∧ va_Nc E nm s)) (hx : covers x pc = true) (h0 : x.catchType ≠ 0)
    (hlink : (Cond.classLink own x.catchType name).before args s = true) (hcast : (Cond.castable E name).before args s = true) (hcell : H[q]? = some ce) (hv : ce.vm = .none) (hcl : s.vm.findClass E = some ce.cls)
    (kk : W p l e R s m args below meth c H locs cells slots Q (F0 m x.handlerPc ls [.ref q])) : vx_W p l e R s m args below meth c H locs cells slots Q (F0 m pc ls rest) q := by
  intro T hT X
  have hpl : e.platform.magicAccessors = ({} : Platform).magicAccessors := by rw [X.admits.platform]
  obtain ⟨c3, c4, hc3, hc4, hasg⟩ := Cond.castable_spec hcast
  cases Option.some.inj (hc3.symm.trans hcl)
  obtain ⟨c5, hc5, hcl5⟩ := Cond.classLink_spec hown hlink e.platform hpl
  cases Option.some.inj (hc4.symm.trans hc5)
  obtain ⟨vm', X', st⟩ := X.thenCaughtThrough q (g := F0 m pc ls rest) rfl (Steps.refl _) (by rw [hT]; exact hcell) (by rw [hv]; rfl) (by obtain ⟨k9, h9, -⟩ := Vm.findClass_spec hcl; exact ⟨k9, h9⟩) pre x suf hsplit
    (fun z hz => by
      rcases hpass z hz with h | ⟨hz0, nm, hl1, hn1⟩
      · exact Or.inl h
      · obtain ⟨c6, hc6, hcl6⟩ := Cond.classLink_spec hown hl1 e.platform hpl
        obtain ⟨a8, b8, h1, h2, h3⟩ := hn1
        cases Option.some.inj (h1.symm.trans hcl)
        cases Option.some.inj (h2.symm.trans hc6)
        exact Or.inr ⟨hz0, _, hcl6, h3⟩) hx (Or.inr ⟨h0, c4, hcl5, hasg⟩)
  obtain ⟨t, a1, b1⟩ := kk (T.setVm vm') hT X'
  exact ⟨t, st.trans a1, b1⟩
end Rows
section Ends
variable {p : Program} {l : Launch} {e : Env} {R : Room} {s : State} {m : MethodId} {args : Array Value} {below : List Frame} {meth : Method} {c : Code} {H : Heap} {locs : List Loc} {cells slots : Nat} {Q : State → Prop}
variable {mc ms : Nat} {free : Addr → Prop} {A0 A1 : Nat → Prop} {H0 : Heap} {a : Array Value} {ls : Array Slot} {st0 rest : List Value}
variable {Qc : Array Value → State → Outcome → State → Prop} {XC : String → State → State → Prop}
/-- what a body that may throw owes at its end -/
def vx_MQ (below : List Frame) (Qc : Array Value → State → Outcome → State → Prop) (XC : String → State → State → Prop) (a : Array Value) (s : State) (mc ms : Nat) (free : Addr → Prop) : State → Prop := fun t =>
  ∃ o, t.status = .running ∧ Ended t below o ∧ vx_Q Qc XC mc ms free a s o t
theorem vx_ret {g : JFrame} {mc ms : Nat} (k : W p l e R s m args below meth c H locs cells slots (MQ below Qc args s mc ms free) g) : W p l e R s m args below meth c H locs cells slots (vx_MQ below Qc XC args s mc ms free) g := by
  intro T hT X
  obtain ⟨t, a1, o, b1, b2, b3, b4⟩ := k T hT X
  exact ⟨t, a1, o, b1, b2, Or.inl ⟨b3, b4⟩⟩
/-- not caught here: it goes on to the caller -/
theorem vx_widen {g : JFrame} {q : Addr} {k n : Nat} (h1 : cells ≤ k) (h2 : slots ≤ n) (kk : vx_W p l e R s m args below meth c H locs k n Q g q) : vx_W p l e R s m args below meth c H locs cells slots Q g q := fun T hT X => kk T hT (stand_widen X h1 h2)
theorem vx_out {pc : Nat} {E : String} {ce : Cell} {q : Addr} {mc ms : Nat} (hout : ∀ x ∈ c.exceptionTable.toList, covers x pc = false) (hlocks : meth.locks = false) (hcell : H[q]? = some ce) (hv : ce.vm = .none) (hcl : s.vm.findClass E = some ce.cls)
    (hx : ∀ t : State, t.heap = H → s.vm.Alike t.vm → XC E s t) (hf : ∀ z ∈ locs, free z.base) (hc : cells ≤ mc) (hs : slots ≤ ms) :
    vx_W p l e R s m args below meth c H locs cells slots (vx_MQ below Qc XC args s mc ms free) (F0 m pc ls rest) q := by
  intro T hT X
  obtain ⟨st1, hrun, hend, hW, hsm⟩ := X.leaveThrown q (g := F0 m pc ls rest) rfl rfl rfl hout hlocks
  have hcell9 : (T.setFrames (.throwing q :: below)).heap[q]? = some ce := by
    show T.heap[q]? = some ce
    rw [hT]; exact hcell
  exact ⟨_, st1, .threw q, hrun, hend, Or.inr ⟨q, rfl, E, ce, locs, hx _ hT hW.alike, hcell9, hv, hcl, hW, hsm.mono hc hs, hf⟩⟩
theorem vx_frame {U : State} {k n : Nat} (h : s.sameButNew ({ U with vm := s.vm } : State) locs k n) : s.heap.size ≤ U.heap.size ∧ ∀ q : Nat, q < s.heap.size → (∀ z ∈ locs, z.base ≠ q) → U.heap[q]? = s.heap[q]? := by
  obtain ⟨-, h2, -, -, -, h6⟩ := h
  refine ⟨h2, fun q hq hz => ?_⟩
  obtain ⟨c9, e1, e2, e3, e4⟩ := h6 q _ (Array.getElem?_eq_getElem hq)
  have hs : c9.slots = (s.heap[q]).slots := Array.ext_getElem? fun i => e4 i fun hm => hz _ hm rfl
  have h9 : c9 = s.heap[q] := by
    rw [hs] at e2
    exact e2
  have e5 : U.heap[q]? = some c9 := e1
  rw [e5, h9, Array.getElem?_eq_getElem hq]
/-- the words of a throw but the four that speak of the heap -/
def vx_no (w : Cond) : Bool := decide (w ≠ .isRef (.static Bundle.tN "UNASSIGNED_STACK" Bundle.steD)) && decide (w ≠ .isRef (.static Bundle.tN "SUPPRESSED_SENTINEL" Bundle.listD)) && decide (w ≠ .laysStatic Bundle.tN "UNASSIGNED_STACK" Bundle.steD) && decide (w ≠ .laysStatic Bundle.tN "SUPPRESSED_SENTINEL" Bundle.listD)
def vx_at0 (own : String) (ic : Nat) (X : String) (names : List String) : List Cond := (Bundle.ownAtoms0 own ic X names).filter vx_no
def vx_atS (own : String) (ic : Nat) (X : String) (names : List String) : List Cond := (Bundle.ownAtoms own ic X names).filter vx_no
/-- a word that the tables alone decide, or a good one -/
def vx_ot (w : Cond) : Bool := w.onTables || goodWord w
theorem vx_ot_at {args a' : Array Value} {s U : State} {w : Cond} (hW : s.WarmedH U.vm) (hvm : s.vm = U.vm) (hg : vx_ot w = true) (h : w.before args s = true) : w.before a' U = true := by
  simp only [vx_ot, Bool.or_eq_true] at hg
  rcases hg with hg | hg
  · exact va_tabs hg hvm h
  · exact word_at hW (good_of_word hg) h
/-- a list's words: the good ones out of the method's own list, the others by premises of their own -/
theorem vx_hat {args : Array Value} {s : State} {L B : List Cond} (h1 : ∀ w ∈ L.filter goodWord, w.before args s = true) (h2 : ∀ w ∈ L.filter (fun w => !goodWord w), w ∈ B) (h3 : ∀ w ∈ B, w.before args s = true) : ∀ w ∈ L, w.before args s = true := by
  intro w hw
  by_cases g : goodWord w = true
  · exact h1 w (List.mem_filter.mpr ⟨hw, g⟩)
  · refine h3 w (h2 w (List.mem_filter.mpr ⟨hw, ?_⟩))
    show (!goodWord w) = true
    cases hgw : goodWord w
    · rfl
    · exact absurd hgw g
theorem vx_c {args : Array Value} {s : State} {w : Cond} {B : List Cond} (h : w.before args s = true) (t : ∀ w ∈ B, w.before args s = true) : ∀ w' ∈ w :: B, w'.before args s = true := fun w' h' => (List.mem_cons.mp h').elim (fun e => by rw [e]; exact h) (t w')
theorem vx_n {args : Array Value} {s : State} : ∀ w ∈ ([] : List Cond), w.before args s = true := fun _ h => nomatch h
theorem vx_own {args : Array Value} {s : State} {L : List Cond} (h1 : ∀ w ∈ L.filter vx_no, w.before args s = true)
    (hU : (Cond.isRef (.static Bundle.tN "UNASSIGNED_STACK" Bundle.steD)).before args s = true) (hN : (Cond.isRef (.static Bundle.tN "SUPPRESSED_SENTINEL" Bundle.listD)).before args s = true)
    (lU : (Cond.laysStatic Bundle.tN "UNASSIGNED_STACK" Bundle.steD).before args s = true) (lN : (Cond.laysStatic Bundle.tN "SUPPRESSED_SENTINEL" Bundle.listD).before args s = true) : ∀ w ∈ L, w.before args s = true := by
  intro w hw
  by_cases e1 : w = .isRef (.static Bundle.tN "UNASSIGNED_STACK" Bundle.steD)
  · rw [e1]; exact hU
  · by_cases e2 : w = .isRef (.static Bundle.tN "SUPPRESSED_SENTINEL" Bundle.listD)
    · rw [e2]; exact hN
    · by_cases e3 : w = .laysStatic Bundle.tN "UNASSIGNED_STACK" Bundle.steD
      · rw [e3]; exact lU
      · by_cases e4 : w = .laysStatic Bundle.tN "SUPPRESSED_SENTINEL" Bundle.listD
        · rw [e4]; exact lN
        · exact h1 w (List.mem_filter.mpr ⟨hw, by unfold vx_no; rw [decide_eq_true e1, decide_eq_true e2, decide_eq_true e3, decide_eq_true e4]; rfl⟩)
/-- where a static field lies, its class's statics cell in H -/
def vx_L (C n d : String) (A : Nat → Prop) (U : State) (H : Heap) : Prop := ∃ (c : ClassId) (k : Class) (i : Nat) (f : Field) (a : Nat) (cell : Cell), U.vm.findClass C = some c ∧ U.fieldFound? C n d = some (c, k, i, f) ∧ f.isStatic = true ∧ k.statics = some a ∧ H[a]? = some cell ∧ cell.vm.isStatics = true ∧ cell.cls = c ∧ f.slot < cell.slots.size ∧ k.staticTypes[f.slot]? = some f.type ∧ ¬ A a
theorem vx_L.moved {C n d : String} {A : Nat → Prop} {u U : State} {H : Heap} (hvm : u.vm.Alike U.vm) (h : vx_L C n d A u H) : vx_L C n d A U H := by
  obtain ⟨c, k, i, f, a, cell, h1, h2, h3, h4, h5, h6, h7, h8, h9, h10⟩ := h
  obtain ⟨k', hi', he⟩ := State.fieldFound?_setVm hvm h2
  exact ⟨c, k', i, f, a, cell, by rw [hvm.findClass]; exact h1, hi', h3, by rw [he]; exact h4, h5, h6, h7, h8, by rw [he]; exact h9, h10⟩
theorem vx_L.kept {C n d : String} {A : Nat → Prop} {U : State} {H H1 : Heap} (h : vx_L C n d A U H) (hq : ∀ a : Nat, a < H.size → ¬ A a → H1[a]? = H[a]?) : vx_L C n d A U H1 := by
  obtain ⟨c, k, i, f, a, cell, h1, h2, h3, h4, h5, h6, h7, h8, h9, h10⟩ := h
  exact ⟨c, k, i, f, a, cell, h1, h2, h3, h4, by rw [hq a (Array.getElem?_eq_some_iff.mp h5).1 h10]; exact h5, h6, h7, h8, h9, h10⟩
theorem vx_L.narrow {C n d : String} {A B : Nat → Prop} {U : State} {H : Heap} (h : vx_L C n d A U H) (hAB : ∀ q, B q → A q) : vx_L C n d B U H := by
  obtain ⟨c, k, i, f, a, cell, h1, h2, h3, h4, h5, h6, h7, h8, h9, h10⟩ := h
  exact ⟨c, k, i, f, a, cell, h1, h2, h3, h4, h5, h6, h7, h8, h9, fun z => h10 (hAB _ z)⟩
theorem vx_L.word {C n d : String} {A : Nat → Prop} {s : State} {args : Array Value} (h : vx_L C n d A s s.heap) : (Cond.laysStatic C n d).before args s = true := by
  obtain ⟨c, k, i, f, a, cell, h1, h2, h3, h4, h5, h6, h7, h8, h9, -⟩ := h
  show (Cond.laysStatic C n d).holds args s none s [] = true
  exact Cond.laysStatic_of h1 h2 h3 h4 h5 h6 h7 h8 h9
/-- .. and what it holds: null or some reference -/
def vx_Zq (C n d : String) (A : Nat → Prop) (U : State) (H : Heap) : Prop := va_Zq C n d A U H ∧ vx_L C n d A U H
theorem vx_Zq.moved {C n d : String} {A : Nat → Prop} {u U : State} {H : Heap} (hvm : u.vm.Alike U.vm) (h : vx_Zq C n d A u H) : vx_Zq C n d A U H := ⟨va_Zq.moved hvm h.1, vx_L.moved hvm h.2⟩
theorem vx_Zq.kept {C n d : String} {A : Nat → Prop} {U : State} {H H1 : Heap} (h : vx_Zq C n d A U H) (hq : ∀ a : Nat, a < H.size → ¬ A a → H1[a]? = H[a]?) : vx_Zq C n d A U H1 := ⟨va_Zq.kept h.1 hq, vx_L.kept h.2 hq⟩
theorem vx_Zq.narrow {C n d : String} {A B : Nat → Prop} {U : State} {H : Heap} (h : vx_Zq C n d A U H) (hAB : ∀ q, B q → A q) : vx_Zq C n d B U H := ⟨va_Zq.narrow h.1 hAB, vx_L.narrow h.2 hAB⟩
theorem vx_Zqof {args : Array Value} {s : State} {C n d : String} {A : Nat → Prop} (hl : (Cond.laysStatic C n d).before args s = true) (hini : (Cond.initialized C).before args s = true) (h : (Cond.isRef (.static C n d)).before args s = true) (hA : ∀ a : Nat, a < s.heap.size → ¬ A a) : vx_Zq C n d A s s.heap := by
  refine ⟨va_Zqof hl hini h hA, ?_⟩
  obtain ⟨c, k, i, f, a, cell, h1, h2, h3, h4, h5, h6, h7, h8, h9⟩ := Cond.laysStatic_spec hl
  exact ⟨c, k, i, f, a, cell, h1, h2, h3, h4, h5, h6, h7, h8, h9, hA a (Array.getElem?_eq_some_iff.mp h5).1⟩
theorem vx_isRef {C n d : String} {v : Value} {A : Nat → Prop} {s : State} {args : Array Value} (h : va_Z C n d v A s s.heap) (hv : v.isRef = true) : (Cond.isRef (.static C n d)).before args s = true := by
  obtain ⟨cf, kf, fi, f, a, cell, h1, h2, h3, h4, h5, h6, h7, -⟩ := h
  have he : (Term.static C n d).eval args s none [] s = some v := by
    simp [Term.eval, State.fieldNamed?, h1, h2, h4, h5, h6, h7]
  simp only [Cond.before, Cond.holds, Cond.value, he]
  cases v <;> simp_all [Value.isRef]
theorem vx_isRefq {C n d : String} {A : Nat → Prop} {s : State} {args : Array Value} (h : va_Zq C n d A s s.heap) : (Cond.isRef (.static C n d)).before args s = true := by
  rcases h with h | ⟨t, h⟩
  · exact vx_isRef h rfl
  · exact vx_isRef h rfl
/-- the same frame, seen from here: as if the method were called anew in this heap -/
theorem vx_rebase {T : State} (X : Stand p l e R s m args below meth c T locs cells slots) {R' : Room} (hf : R'.frames ≤ R.frames) (hl : R'.locals ≤ R.locals) (hc : cells + R'.cells ≤ R.cells) (hs : slots + R'.slots ≤ R.slots) :
    Stand p l e R' ((T.setVm s.vm).setFrames (.invoking m args :: below)) m args below meth c T [] 0 0 := by
  have htop : (T.setVm s.vm).topJava?.isSome := X.here.top
  have hF : ((T.setVm s.vm).setFrames (.invoking m args :: below)).frames = .invoking m args :: below := State.frames_setFrames _ (State.cur_lt_of_top htop)
  obtain ⟨g₀, hg0⟩ := Option.isSome_iff_exists.mp htop
  obtain ⟨r, hr⟩ := State.topJava?_eq_some.mp hg0
  have hl9 : e.platform.stackLimits (T.setVm s.vm).me = e.platform.stackLimits s.me := X.limits
  have hb9 : (T.setVm s.vm).me.stackBytes = s.me.stackBytes := X.bytes
  refine ⟨X.admits, X.cas, X.clock, hF, ?_, X.hears, X.method, X.code, X.here, X.tail, X.warmed, ?_, ?_, ?_⟩
  · have h := X.room
    have hU : ((T.setVm s.vm).setFrames (.invoking m args :: below)).localsInUse = s.localsInUse := by
      rw [State.localsInUse_invoking hF (meth := meth) (c := c) X.method X.code, State.localsInUse_invoking X.frames X.method X.code]
    simp only [State.hasRoom, Bool.and_eq_true, decide_eq_true_eq] at h ⊢
    obtain ⟨⟨⟨⟨h1, h2, h3, h4, h5, h6⟩, h7⟩, h8⟩, h9⟩ := h
    rw [X.frames, List.length_cons] at h2 h3
    have q1 := X.heapSize
    have q2 := X.used
    simp only [hF, hU, List.length_cons, State.stackLimits_setFrames, State.stackBytes_setFrames, hl9, hb9]
    refine ⟨⟨⟨⟨by omega, by omega, by omega, by omega, by omega, h6⟩, ?_⟩, ?_⟩, X.book⟩
    · show T.heap.size + R'.cells ≤ e.platform.maxCells
      omega
    · show T.slotsUsed + R'.slots ≤ e.platform.maxSlots
      omega
  · rw [State.stackLimits_setFrames]; rfl
  · rw [State.stackBytes_setFrames]; rfl
  · refine ⟨?_, Nat.le_refl _, Nat.le_refl _, ?_, ?_, fun a c9 h9 => ⟨c9, h9, rfl, rfl, fun _ _ => rfl⟩⟩
    · obtain ⟨t, ht, -⟩ := State.frames_cons hr
      show T.setVm s.vm = { ((T.setVm s.vm).setFrames (.invoking m args :: below)).setFrames (T.setVm s.vm).frames with heap := T.heap, slotsUsed := T.slotsUsed }
      rw [State.setFrames_setFrames, State.setFrames_self ht]
      rfl
    · show T.slotsUsed = T.slotsUsed + ((T.heap.toList.drop T.heap.size).map (·.slots.size)).sum
      rw [List.drop_eq_nil_of_le (Nat.le_of_eq Array.length_toList)]
      rfl
    · show ((T.heap.toList.drop T.heap.size).map (·.slots.size)).sum ≤ 0
      rw [List.drop_eq_nil_of_le (Nat.le_of_eq Array.length_toList)]
      exact Nat.le_refl _
/-- 'throw new E()': new; dup; invokespecial; athrow -/
theorem vx_throw0 {cc : ByteArray} {pc : Nat} (hexec : p.tables.exec = Jvm.exec) (hb : c.code = cc) (hl : l.stackTraces = false) {own cls : String} {names : List String} {ik ic mc ms : Nat} {A : Nat → Prop}
    (hown : s.vm.findClass own = some m.cls) (hcls : Bundle.fit cls = true) (hnames : ∀ n ∈ names, Bundle.fit n = true)
    (hk : (Cond.classLink own ik cls).before args s = true) (hini : (Cond.initialized cls).before args s = true) (hat : ∀ w ∈ vx_at0 own ic cls names, w.before args s = true)
    (hgood : ∀ w ∈ Cond.classLink own ik cls :: Cond.initialized cls :: vx_at0 own ic cls names, vx_ot w = true)
    (hU : vx_Zq Bundle.tN "UNASSIGNED_STACK" Bundle.steD A s s.heap) (hN : vx_Zq Bundle.tN "SUPPRESSED_SENTINEL" Bundle.listD A s s.heap) (hS : va_S A s.heap H locs) (hsize : ls.size = c.maxLocals)
    (d0 : decode cc pc = .ok (.new ik, 3)) (d3 : decode cc (pc + 3) = .ok (.dup, 1)) (d4 : decode cc (pc + 4) = .ok (.invokespecial ic, 3)) (d7 : decode cc (pc + 7) = .ok (.athrow, 1))
    (hout : ∀ x ∈ c.exceptionTable.toList, covers x (pc + 7) = false)
    (hRframes : names.length + 3 < R.frames) (hRlocals : (rest.map fun v => v.category).sum + (13 * (names.length + 1) + 42) ≤ R.locals) (hRcells : cells + 1 ≤ R.cells) (hRslots : slots + 6 ≤ R.slots) (hlocks : meth.locks = false)
    (hx : ∀ t : State, s.vm.Alike t.vm → H.size ≤ t.heap.size → (∀ q : Nat, q < H.size → t.heap[q]? = H[q]?) → XC cls s t)
    (hf : ∀ z ∈ locs, free z.base) (hc : cells + 1 ≤ mc) (hs : slots + 6 ≤ ms) :
    W p l e R s m args below meth c H locs cells slots (vx_MQ below Qc XC args s mc ms free) (F0 m pc ls rest) := by
  intro T hT X
  have htr : e.platform.stackTraces = false := (show e.platform.stackTraces = l.stackTraces by rw [X.admits.platform]).trans hl
  have Y := vx_rebase X (R' := { frames := R.frames, locals := R.locals, cells := 1, slots := 6 }) (Nat.le_refl _) (Nat.le_refl _) hRcells hRslots
  obtain ⟨s', hA⟩ : ∃ z, z = (T.setVm s.vm).setFrames (.invoking m args :: below) := ⟨_, rfl⟩
  rw [← hA] at Y
  have hvm : s'.vm = s.vm := by rw [hA]; rfl
  have hhp : s'.heap = H := by rw [hA]; exact hT
  have hW0 : s.WarmedH s'.vm := by rw [hvm]; exact State.WarmedH.refl s
  have hat' : ∀ w ∈ vx_at0 own ic cls names, w.before args s' = true := fun w hw => vx_ot_at hW0 hvm.symm (hgood w (List.mem_cons_of_mem _ (List.mem_cons_of_mem _ hw))) (hat w hw)
  have hk' : (Cond.classLink own ik cls).before args s' = true := vx_ot_at hW0 hvm.symm (hgood _ List.mem_cons_self) hk
  have hini' : (Cond.initialized cls).before args s' = true := vx_ot_at hW0 hvm.symm (hgood _ (List.mem_cons_of_mem _ List.mem_cons_self)) hini
  have hU' : vx_Zq Bundle.tN "UNASSIGNED_STACK" Bundle.steD A s' s'.heap := by rw [hhp]; exact vx_Zq.moved hW0.alike (hU.kept hS.2.1)
  have hN' : vx_Zq Bundle.tN "SUPPRESSED_SENTINEL" Bundle.listD A s' s'.heap := by rw [hhp]; exact vx_Zq.moved hW0.alike (hN.kept hS.2.1)
  have h : ∀ w ∈ Bundle.ownAtoms0 own ic cls names, w.before args s' = true := vx_own hat' (vx_isRefq hU'.1) (vx_isRefq hN'.1) hU'.2.word hN'.2.word
  have hown' : s'.vm.findClass own = some m.cls := by rw [hvm]; exact hown
  have hins : (Cond.instantiable cls 6).before args s' = true := h _ (by simp [Bundle.ownAtoms0])
  obtain ⟨vm₁, cX, kX, hfX, hkX, -, -, X₁, st1⟩ := Y.newCold hexec (own := own) (C := cls) (index := ik) (n := 6) hown' hk' hins hini'
    (g := F0 m pc ls rest) rfl (by rw [hb]; exact d0) (Nat.le_refl _) (Nat.le_refl _)
  generalize hT1 : (T.setVm vm₁).pushCell { cls := cX, slots := kX.instanceTypes.map defaultValue, vm := .none } = T1 at X₁ st1
  have hcat : (Value.ref T.heap.size).category = 1 := rfl
  have hcellA : T1.heap[T.heap.size]? = some (freshCell cX kX) := by rw [← hT1]; exact State.heap_pushCell_size _ _
  have d3' : decode c.code (pc + 3) = .ok (.dup, 1) := by rw [hb]; exact d3
  obtain ⟨U, hsteps, hrun, hend, hW, hsame, ce, hce, hO⟩ := X₁.ctorThrow0 hexec htr (own := own) (cls := cls) (names := names) (ic := ic) hown' hcls hnames h (fun x hx => nomatch hx) hfX hkX hcellA (by rw [hhp, hT]; exact Nat.le_refl _)
    (g := { method := m, pc := pc + 4, locals := ls, stack := .ref T.heap.size :: .ref T.heap.size :: rest, locked := none }) rfl hsize rfl rfl (rest := rest) rfl
    (by rw [hb]; exact d4) (by rw [hb]; exact d7) hout hRframes (by simp only [List.map_cons, List.sum_cons, hcat]; omega) hlocks
  obtain ⟨f1, f2⟩ := vx_frame hsame
  rw [hhp] at f1 f2
  have hWs : s.WarmedH U.vm := State.WarmedH.trans hW0 hW
  have hcl : s.vm.findClass cls = some ce.cls := by
    have h9 := hO.cls
    rw [hvm] at h9
    exact h9
  have hall : s.sameButNew ({ U with vm := s.vm } : State) locs mc ms := by
    subst hA
    obtain ⟨e1, e2⟩ := hsame
    rw [State.setFrames_setFrames] at e1
    have h2 : (T.setVm s.vm).sameButNew ({ U with vm := s.vm } : State) [] (0 + 1) (0 + 6) := ⟨e1, e2⟩
    have h3 := X.same.trans h2
    rw [List.append_nil] at h3
    exact h3.mono hc hs
  refine ⟨U, ?_, .threw T.heap.size, hrun, hend, Or.inr ⟨T.heap.size, rfl, cls, ce, locs, hx U hWs.alike f1 (fun q hq => f2 q hq (fun z hz => nomatch hz)), hce, hO.vm, hcl, hWs, hall, hf⟩⟩
  refine st1 _ ?_
  show Steps p.tables e below (T1.setTop { method := m, pc := pc + 3, locals := ls, stack := .ref T.heap.size :: rest, locked := none }) _
  jvm_step X₁.here [X₁.here.top, hexec, d3', Value.category]
  exact hsteps
/-- 'throw new E("text")': new; dup; ldc; invokespecial; athrow -/
theorem vx_throwS {cc : ByteArray} {pc : Nat} (hexec : p.tables.exec = Jvm.exec) (hb : c.code = cc) (hl : l.stackTraces = false) {own cls text : String} {names : List String} {ik is ic mc ms sa : Nat} {A : Nat → Prop}
    (hown : s.vm.findClass own = some m.cls) (hcls : Bundle.fit cls = true) (hnames : ∀ n ∈ names, Bundle.fit n = true)
    (hk : (Cond.classLink own ik cls).before args s = true) (hini : (Cond.initialized cls).before args s = true) (hstr : vk_R own is text sa s) (hat : ∀ w ∈ vx_atS own ic cls names, w.before args s = true)
    (hgood : ∀ w ∈ Cond.classLink own ik cls :: Cond.initialized cls :: vx_atS own ic cls names, vx_ot w = true)
    (hU : vx_Zq Bundle.tN "UNASSIGNED_STACK" Bundle.steD A s s.heap) (hN : vx_Zq Bundle.tN "SUPPRESSED_SENTINEL" Bundle.listD A s s.heap) (hS : va_S A s.heap H locs) (hsize : ls.size = c.maxLocals)
    (d0 : decode cc pc = .ok (.new ik, 3)) (d3 : decode cc (pc + 3) = .ok (.dup, 1)) (d4 : decode cc (pc + 4) = .ok (.ldc is, 2)) (d6 : decode cc (pc + 6) = .ok (.invokespecial ic, 3)) (d9 : decode cc (pc + 9) = .ok (.athrow, 1))
    (hout : ∀ x ∈ c.exceptionTable.toList, covers x (pc + 9) = false)
    (hRframes : names.length + 3 < R.frames) (hRlocals : (rest.map fun v => v.category).sum + (13 * (names.length + 1) + 43) ≤ R.locals) (hRcells : cells + 1 ≤ R.cells) (hRslots : slots + 6 ≤ R.slots) (hlocks : meth.locks = false)
    (hx : ∀ t : State, s.vm.Alike t.vm → H.size ≤ t.heap.size → (∀ q : Nat, q < H.size → t.heap[q]? = H[q]?) → XC cls s t)
    (hf : ∀ z ∈ locs, free z.base) (hc : cells + 1 ≤ mc) (hs : slots + 6 ≤ ms) :
    W p l e R s m args below meth c H locs cells slots (vx_MQ below Qc XC args s mc ms free) (F0 m pc ls rest) := by
  intro T hT X
  have htr : e.platform.stackTraces = false := (show e.platform.stackTraces = l.stackTraces by rw [X.admits.platform]).trans hl
  have Y := vx_rebase X (R' := { frames := R.frames, locals := R.locals, cells := 1, slots := 6 }) (Nat.le_refl _) (Nat.le_refl _) hRcells hRslots
  obtain ⟨s', hA⟩ : ∃ z, z = (T.setVm s.vm).setFrames (.invoking m args :: below) := ⟨_, rfl⟩
  rw [← hA] at Y
  have hvm : s'.vm = s.vm := by rw [hA]; rfl
  have hhp : s'.heap = H := by rw [hA]; exact hT
  have hW0 : s.WarmedH s'.vm := by rw [hvm]; exact State.WarmedH.refl s
  have hat' : ∀ w ∈ vx_atS own ic cls names, w.before args s' = true := fun w hw => vx_ot_at hW0 hvm.symm (hgood w (List.mem_cons_of_mem _ (List.mem_cons_of_mem _ hw))) (hat w hw)
  have hk' : (Cond.classLink own ik cls).before args s' = true := vx_ot_at hW0 hvm.symm (hgood _ List.mem_cons_self) hk
  have hini' : (Cond.initialized cls).before args s' = true := vx_ot_at hW0 hvm.symm (hgood _ (List.mem_cons_of_mem _ List.mem_cons_self)) hini
  have hU' : vx_Zq Bundle.tN "UNASSIGNED_STACK" Bundle.steD A s' s'.heap := by rw [hhp]; exact vx_Zq.moved hW0.alike (hU.kept hS.2.1)
  have hN' : vx_Zq Bundle.tN "SUPPRESSED_SENTINEL" Bundle.listD A s' s'.heap := by rw [hhp]; exact vx_Zq.moved hW0.alike (hN.kept hS.2.1)
  have h : ∀ w ∈ Bundle.ownAtoms own ic cls names, w.before args s' = true := vx_own hat' (vx_isRefq hU'.1) (vx_isRefq hN'.1) hU'.2.word hN'.2.word
  have hown' : s'.vm.findClass own = some m.cls := by rw [hvm]; exact hown
  have hins : (Cond.instantiable cls 6).before args s' = true := h _ (by simp [Bundle.ownAtoms])
  obtain ⟨vm₁, cX, kX, hfX, hkX, -, -, X₁, st1⟩ := Y.newCold hexec (own := own) (C := cls) (index := ik) (n := 6) hown' hk' hins hini'
    (g := F0 m pc ls rest) rfl (by rw [hb]; exact d0) (Nat.le_refl _) (Nat.le_refl _)
  generalize hT1 : (T.setVm vm₁).pushCell { cls := cX, slots := kX.instanceTypes.map defaultValue, vm := .none } = T1 at X₁ st1
  have hcat : (Value.ref T.heap.size).category = 1 := rfl
  have hcellA : T1.heap[T.heap.size]? = some (freshCell cX kX) := by rw [← hT1]; exact State.heap_pushCell_size _ _
  have d3' : decode c.code (pc + 3) = .ok (.dup, 1) := by rw [hb]; exact d3
  have d4' : decode c.code (pc + 4) = .ok (.ldc is, 2) := by rw [hb]; exact d4
  have hstr' : vk_R own is text sa s' := vk_R.warm hW0 hstr
  obtain ⟨U, hsteps, hrun, hend, hW, hsame, ce, hce, hO⟩ := X₁.ctorThrowS hexec htr (own := own) (cls := cls) (names := names) (ic := ic) hown' hcls hnames h (fun x hx => nomatch hx) hfX hkX hcellA (by rw [hhp, hT]; exact Nat.le_refl _) (msg := .ref sa) rfl
    (g := { method := m, pc := pc + 6, locals := ls, stack := .ref sa :: .ref T.heap.size :: .ref T.heap.size :: rest, locked := none }) rfl hsize rfl rfl (rest := rest) rfl
    (by rw [hb]; exact d6) (by rw [hb]; exact d9) hout hRframes (by simp only [List.map_cons, List.sum_cons, hcat]; omega) hlocks
  obtain ⟨f1, f2⟩ := vx_frame hsame
  rw [hhp] at f1 f2
  have hWs : s.WarmedH U.vm := State.WarmedH.trans hW0 hW
  have hcl : s.vm.findClass cls = some ce.cls := by
    have h9 := hO.cls
    rw [hvm] at h9
    exact h9
  have hall : s.sameButNew ({ U with vm := s.vm } : State) locs mc ms := by
    subst hA
    obtain ⟨e1, e2⟩ := hsame
    rw [State.setFrames_setFrames] at e1
    have h2 : (T.setVm s.vm).sameButNew ({ U with vm := s.vm } : State) [] (0 + 1) (0 + 6) := ⟨e1, e2⟩
    have h3 := X.same.trans h2
    rw [List.append_nil] at h3
    exact h3.mono hc hs
  refine ⟨U, ?_, .threw T.heap.size, hrun, hend, Or.inr ⟨T.heap.size, rfl, cls, ce, locs, hx U hWs.alike f1 (fun q hq => f2 q hq (fun z hz => nomatch hz)), hce, hO.vm, hcl, hWs, hall, hf⟩⟩
  refine st1 _ ?_
  show Steps p.tables e below (T1.setTop { method := m, pc := pc + 3, locals := ls, stack := .ref T.heap.size :: rest, locked := none }) _
  jvm_step X₁.here [X₁.here.top, hexec, d3', Value.category]
  exact X₁.ldcString hexec (own := own) (text := text) (index := is) (a := sa) hown' hstr'.1 hstr'.2
    (g := { method := m, pc := pc + 4, locals := ls, stack := .ref T.heap.size :: .ref T.heap.size :: rest, locked := none }) rfl d4' _ hsteps
/-- 'throw new E("text")', the text by a wide index -/
theorem vx_throwSW {cc : ByteArray} {pc : Nat} (hexec : p.tables.exec = Jvm.exec) (hb : c.code = cc) (hl : l.stackTraces = false) {own cls text : String} {names : List String} {ik is ic mc ms sa : Nat} {A : Nat → Prop}
    (hown : s.vm.findClass own = some m.cls) (hcls : Bundle.fit cls = true) (hnames : ∀ n ∈ names, Bundle.fit n = true)
    (hk : (Cond.classLink own ik cls).before args s = true) (hini : (Cond.initialized cls).before args s = true) (hstr : vk_R own is text sa s) (hat : ∀ w ∈ vx_atS own ic cls names, w.before args s = true)
    (hgood : ∀ w ∈ Cond.classLink own ik cls :: Cond.initialized cls :: vx_atS own ic cls names, vx_ot w = true)
    (hU : vx_Zq Bundle.tN "UNASSIGNED_STACK" Bundle.steD A s s.heap) (hN : vx_Zq Bundle.tN "SUPPRESSED_SENTINEL" Bundle.listD A s s.heap) (hS : va_S A s.heap H locs) (hsize : ls.size = c.maxLocals)
    (d0 : decode cc pc = .ok (.new ik, 3)) (d3 : decode cc (pc + 3) = .ok (.dup, 1)) (d4 : decode cc (pc + 4) = .ok (.ldc_w is, 3)) (d7 : decode cc (pc + 7) = .ok (.invokespecial ic, 3)) (d10 : decode cc (pc + 10) = .ok (.athrow, 1))
    (hout : ∀ x ∈ c.exceptionTable.toList, covers x (pc + 10) = false)
    (hRframes : names.length + 3 < R.frames) (hRlocals : (rest.map fun v => v.category).sum + (13 * (names.length + 1) + 43) ≤ R.locals) (hRcells : cells + 1 ≤ R.cells) (hRslots : slots + 6 ≤ R.slots) (hlocks : meth.locks = false)
    (hx : ∀ t : State, s.vm.Alike t.vm → H.size ≤ t.heap.size → (∀ q : Nat, q < H.size → t.heap[q]? = H[q]?) → XC cls s t)
    (hf : ∀ z ∈ locs, free z.base) (hc : cells + 1 ≤ mc) (hs : slots + 6 ≤ ms) :
    W p l e R s m args below meth c H locs cells slots (vx_MQ below Qc XC args s mc ms free) (F0 m pc ls rest) := by
  intro T hT X
  have htr : e.platform.stackTraces = false := (show e.platform.stackTraces = l.stackTraces by rw [X.admits.platform]).trans hl
  have Y := vx_rebase X (R' := { frames := R.frames, locals := R.locals, cells := 1, slots := 6 }) (Nat.le_refl _) (Nat.le_refl _) hRcells hRslots
  obtain ⟨s', hA⟩ : ∃ z, z = (T.setVm s.vm).setFrames (.invoking m args :: below) := ⟨_, rfl⟩
  rw [← hA] at Y
  have hvm : s'.vm = s.vm := by rw [hA]; rfl
  have hhp : s'.heap = H := by rw [hA]; exact hT
  have hW0 : s.WarmedH s'.vm := by rw [hvm]; exact State.WarmedH.refl s
  have hat' : ∀ w ∈ vx_atS own ic cls names, w.before args s' = true := fun w hw => vx_ot_at hW0 hvm.symm (hgood w (List.mem_cons_of_mem _ (List.mem_cons_of_mem _ hw))) (hat w hw)
  have hk' : (Cond.classLink own ik cls).before args s' = true := vx_ot_at hW0 hvm.symm (hgood _ List.mem_cons_self) hk
  have hini' : (Cond.initialized cls).before args s' = true := vx_ot_at hW0 hvm.symm (hgood _ (List.mem_cons_of_mem _ List.mem_cons_self)) hini
  have hU' : vx_Zq Bundle.tN "UNASSIGNED_STACK" Bundle.steD A s' s'.heap := by rw [hhp]; exact vx_Zq.moved hW0.alike (hU.kept hS.2.1)
  have hN' : vx_Zq Bundle.tN "SUPPRESSED_SENTINEL" Bundle.listD A s' s'.heap := by rw [hhp]; exact vx_Zq.moved hW0.alike (hN.kept hS.2.1)
  have h : ∀ w ∈ Bundle.ownAtoms own ic cls names, w.before args s' = true := vx_own hat' (vx_isRefq hU'.1) (vx_isRefq hN'.1) hU'.2.word hN'.2.word
  have hown' : s'.vm.findClass own = some m.cls := by rw [hvm]; exact hown
  have hins : (Cond.instantiable cls 6).before args s' = true := h _ (by simp [Bundle.ownAtoms])
  obtain ⟨vm₁, cX, kX, hfX, hkX, -, -, X₁, st1⟩ := Y.newCold hexec (own := own) (C := cls) (index := ik) (n := 6) hown' hk' hins hini'
    (g := F0 m pc ls rest) rfl (by rw [hb]; exact d0) (Nat.le_refl _) (Nat.le_refl _)
  generalize hT1 : (T.setVm vm₁).pushCell { cls := cX, slots := kX.instanceTypes.map defaultValue, vm := .none } = T1 at X₁ st1
  have hcat : (Value.ref T.heap.size).category = 1 := rfl
  have hcellA : T1.heap[T.heap.size]? = some (freshCell cX kX) := by rw [← hT1]; exact State.heap_pushCell_size _ _
  have d3' : decode c.code (pc + 3) = .ok (.dup, 1) := by rw [hb]; exact d3
  have d4' : decode c.code (pc + 4) = .ok (.ldc_w is, 3) := by rw [hb]; exact d4
  have hstr' : vk_R own is text sa s' := vk_R.warm hW0 hstr
  obtain ⟨U, hsteps, hrun, hend, hW, hsame, ce, hce, hO⟩ := X₁.ctorThrowS hexec htr (own := own) (cls := cls) (names := names) (ic := ic) hown' hcls hnames h (fun x hx => nomatch hx) hfX hkX hcellA (by rw [hhp, hT]; exact Nat.le_refl _) (msg := .ref sa) rfl
    (g := { method := m, pc := pc + 7, locals := ls, stack := .ref sa :: .ref T.heap.size :: .ref T.heap.size :: rest, locked := none }) rfl hsize rfl rfl (rest := rest) rfl
    (by rw [hb]; exact d7) (by rw [hb]; exact d10) hout hRframes (by simp only [List.map_cons, List.sum_cons, hcat]; omega) hlocks
  obtain ⟨f1, f2⟩ := vx_frame hsame
  rw [hhp] at f1 f2
  have hWs : s.WarmedH U.vm := State.WarmedH.trans hW0 hW
  have hcl : s.vm.findClass cls = some ce.cls := by
    have h9 := hO.cls
    rw [hvm] at h9
    exact h9
  have hall : s.sameButNew ({ U with vm := s.vm } : State) locs mc ms := by
    subst hA
    obtain ⟨e1, e2⟩ := hsame
    rw [State.setFrames_setFrames] at e1
    have h2 : (T.setVm s.vm).sameButNew ({ U with vm := s.vm } : State) [] (0 + 1) (0 + 6) := ⟨e1, e2⟩
    have h3 := X.same.trans h2
    rw [List.append_nil] at h3
    exact h3.mono hc hs
  refine ⟨U, ?_, .threw T.heap.size, hrun, hend, Or.inr ⟨T.heap.size, rfl, cls, ce, locs, hx U hWs.alike f1 (fun q hq => f2 q hq (fun z hz => nomatch hz)), hce, hO.vm, hcl, hWs, hall, hf⟩⟩
  refine st1 _ ?_
  show Steps p.tables e below (T1.setTop { method := m, pc := pc + 3, locals := ls, stack := .ref T.heap.size :: rest, locked := none }) _
  jvm_step X₁.here [X₁.here.top, hexec, d3', Value.category]
  exact X₁.ldcStringW hexec (own := own) (text := text) (index := is) (a := sa) hown' hstr'.1 hstr'.2
    (g := { method := m, pc := pc + 4, locals := ls, stack := .ref T.heap.size :: .ref T.heap.size :: rest, locked := none }) rfl d4' _ hsteps
end Ends
section Bodies
variable {l : Launch}
theorem vx_ofW {y : MethodName} {ws ws' : List Cond} {rm : Room} {Pc : Array Value → State → Prop} {Qc : Array Value → State → Outcome → State → Prop} {XC : String → State → State → Prop} {mc ms : Nat} {free : Addr → Prop} {cc : ByteArray} {maxL : Nat} {ret : Option FieldType}
    (hy : plainName y.cls = true) (hw : ws = Cond.code y cc maxL ret :: ws')
    (body : ∀ p e s m args below meth c s₁, BodyLoose p l y (headSpec ws rm) cc maxL ret e s m args below meth c s₁ → c.maxLocals = maxL → (∀ x ∈ c.exceptionTable.toList, False) → Pc args s →
      W p l e (headSpec ws rm).room s m args below meth c s.heap [] 0 0 (vx_MQ below Qc XC args s mc ms free) (entryFrame m args maxL)) : vx_Met l y ws rm Pc Qc XC mc ms free := by
  refine MetFree.of_bodyS (code := cc) (maxLocals := maxL) (ret := ret) hy ?_ ?_
  · intro args s m h hn
    obtain ⟨meth, c, h1, h2, h3, h4, h5, h6, -, -⟩ := Cond.code_spec hn (atoms_spec (ws := ws) h _ (by rw [hw]; exact List.mem_cons_self))
    exact ⟨meth, c, h1, h2, h3, h4, h5, h6⟩
  · intro p e s m args below meth c s₁ B hml hP _
    have hh0 : s₁.heap = s.heap := by rw [B.state]; rfl
    have ht : ∀ x ∈ c.exceptionTable.toList, False := by
      obtain ⟨meth9, c9, h1, h2, -, -, -, -, h7, -⟩ := Cond.code_spec B.named (atoms_spec (ws := ws) B.pre _ (by rw [hw]; exact List.mem_cons_self))
      cases Option.some.inj (h1.symm.trans B.method)
      cases Option.some.inj (h2.symm.trans (Stand.of_body B).code)
      intro x hx
      rw [Array.isEmpty_iff.mp h7] at hx
      cases hx
    obtain ⟨t, a1, o, b1, b2, b3⟩ := body p e s m args below meth c s₁ B hml ht hP s₁ hh0 (Stand.of_body B)
    exact ⟨t, o, a1, b1, b2, b3⟩
/-- the table of a body with handlers -/
theorem vx_table {p : Program} {x y : MethodName} {S : Spec} {cc bytes : ByteArray} {maxL maxL' : Nat} {ret ret' : Option FieldType} {e : Env} {s s₁ : State} {m : MethodId} {args : Array Value} {below : List Frame} {meth : Method} {c : Code} {hh : List (Nat × Nat × Nat × Nat)}
    (B : BodyLoose p l y S cc maxL ret e s m args below meth c s₁) (h : (Cond.codeWith y bytes maxL' ret' hh).before args s = true) : c.exceptionTable.toList = tableOf hh := by
  obtain ⟨m9, meth9, c9, hn9, h1, h2, -, -, h6, -⟩ := Cond.codeWith_spec h
  cases Option.some.inj (hn9.symm.trans B.named)
  cases Option.some.inj (h1.symm.trans B.method)
  cases Option.some.inj (h2.symm.trans (Stand.of_body B).code)
  rw [← h6, table_eq]
end Bodies
end VXA
/-! ===== END ===== -/
/-! ===== BEGIN a static call of a method with an exception table ===== -/
section VXS
variable {p : Program} {l : Launch} {e : Env} {R : Room} {s : State} {m : MethodId} {args : Array Value} {below : List Frame} {meth : Method} {c : Code} {T : State} {H : Heap} {locs : List Loc} {cells slots : Nat}
abbrev vx_CSW (R : Room) (s : State) (args : Array Value) (own : String) (index : Nat) (y : MethodName) (bytes : ByteArray) (maxL : Nat) (ret : Option FieldType) (hh : List (Nat × Nat × Nat × Nat)) (ws : List Cond) (rm : Room) (mc ms n : Nat) : Prop :=
  (rm.cells = mc ∧ rm.slots = ms ∧ rm.frames + 1 ≤ R.frames ∧ 8 + (maxL + 11) + rm.locals ≤ R.locals ∧ (∀ w ∈ ws, ∀ (a' : Array Value) (U : State), s.WarmedH U.vm → w.before a' U = true) ∧ Cond.codeWith y bytes maxL ret hh ∈ ws) ∧
  (Cond.codeWith y bytes maxL ret hh).before args s = true ∧ (Cond.initialized y.cls).before args s = true ∧ (y.cls ≠ "java/lang/invoke/MethodHandle" ∧ y.cls ≠ "java/lang/invoke/VarHandle") ∧
  (∀ sig, parseMethodDescriptor y.desc = some sig → n = sig.parameters.length) ∧ (Cond.methodLink own index y).before args s = true ∧ (Cond.static y).before args s = true
theorem vx_cwSW {own : String} {index maxL mc ms : Nat} {y : MethodName} {bytes : ByteArray} {ret : Option FieldType} {hh : List (Nat × Nat × Nat × Nat)} {Ts ws ws' : List Cond} {rm : Room} (n : Nat) (ht : ∀ w ∈ Ts, w.before args s = true) (hT : GoodIn Ts (va_wsS own index y ws)) (hw : ws = Cond.codeWith y bytes maxL ret hh :: ws') (hrc : rm.cells = mc) (hrs : rm.slots = ms)
    (hd : y.cls ≠ "java/lang/invoke/MethodHandle" ∧ y.cls ≠ "java/lang/invoke/VarHandle" ∧ (parseMethodDescriptor y.desc).map (fun d => d.parameters.length) = some n) (hR : rm.frames + 1 ≤ R.frames ∧ 8 + (maxL + 11) + rm.locals ≤ R.locals) :
    vx_CSW R s args own index y bytes maxL ret hh ws rm mc ms n := by
  have ok : ∀ w ∈ va_wsS own index y ws, w.before args s = true := fun w h => ht w (hT w h).1
  have hG : GoodIn Ts ws := fun w h => hT w (by unfold va_wsS; exact List.mem_append_right _ h)
  have hc : Cond.codeWith y bytes maxL ret hh ∈ ws := by rw [hw]; exact List.mem_cons_self
  refine ⟨⟨hrc, hrs, hR.1, hR.2, pay_in ht hG, hc⟩, ht _ (hG _ hc).1, ok _ (by simp [va_wsS]), ⟨hd.1, hd.2.1⟩, fun sig h => ?_, ok _ (by simp [va_wsS]), ok _ (by simp [va_wsS])⟩
  have h2 := hd.2.2
  rw [h] at h2
  exact (Option.some.inj h2).symm
theorem vx_callSW (X : Stand p l e R s m args below meth c T locs cells slots) (hexec : p.tables.exec = Jvm.exec) {own : String} {index : Nat} {y : MethodName} {bytes : ByteArray} {maxL : Nat} {ret : Option FieldType} {hh : List (Nat × Nat × Nat × Nat)}
    (hown : s.vm.findClass own = some m.cls) (hlink : (Cond.methodLink own index y).before args s = true) (hstat : (Cond.static y).before args s = true) (hinit : (Cond.initialized y.cls).before args s = true)
    (hcode : (Cond.codeWith y bytes maxL ret hh).before args s = true) (hy : y.cls ≠ "java/lang/invoke/MethodHandle" ∧ y.cls ≠ "java/lang/invoke/VarHandle")
    {W9 : Nat} {Pre : Pt → Array Value → Prop} {Post : Pt → Array Value → Option Value → Pt → Prop} (hK : Back l R p e below s args y 3 W9 Pre Post)
    {g : JFrame} (hg : g.method = m) (hsize : g.locals.size = c.maxLocals) {argsL rest : List Value} (hlen : ∀ sig, parseMethodDescriptor y.desc = some sig → argsL.length = sig.parameters.length)
    (hstack : g.stack = argsL.reverse ++ rest) (hW : 2 * g.monitorRoom + (rest.map fun v => v.category).sum ≤ W9) (hdg : decode c.code g.pc = .ok (.invokestatic index, 3))
    (hpre : ∀ vm₁, s.WarmedH vm₁ → Pre ⟨T.setVm vm₁, locs, cells, slots⟩ argsL.toArray) :
    ∃ (v : Option Value) (vm₁ : Vm) (B : Pt), s.WarmedH vm₁ ∧ Stand p l e R s m args below meth c B.U B.locs B.cells B.slots ∧ Post ⟨T.setVm vm₁, locs, cells, slots⟩ argsL.toArray v B ∧
      ∀ target, Steps p.tables e below (B.U.setTop { g with pc := g.pc + 3, stack := v.toList ++ rest }) target → Steps p.tables e below (T.setTop g) target := by
  obtain ⟨mk, methM, cM, hnamed, hmethM, -, -, -, -, -, -, hsigM⟩ := Cond.codeWith_spec hcode
  have hstatic : methM.isStatic = true := Cond.static_spec hnamed hmethM hstat
  obtain ⟨kP, hkP, -⟩ := className_of_methodNamed hnamed
  have hinitP : kP.init = .initialized := Cond.initialized_spec (findClass_of_methodNamed hnamed) hkP hinit
  obtain ⟨vm₁, X₁, hstep₁⟩ := X.invokestatic hexec hown hlink hnamed hmethM hstatic hkP hinitP hy (g := g) hg (argsL := argsL) (rest := rest) (hlen _ hsigM) hstack hdg
  obtain ⟨v, B, X', hpost, hsteps⟩ := hK m meth c ⟨T.setVm vm₁, locs, cells, slots⟩ { g with stack := rest } (.invokestatic index) mk argsL.toArray X₁ hg hsize hdg hW (X₁.named hnamed) (hpre vm₁ X₁.warmed)
  exact ⟨v, vm₁, B, X₁.warmed, X', hpost, fun target h => hstep₁ _ fun acts => by rw [doInvoke_state]; exact hsteps.trans h⟩
theorem vx_runSW {y : MethodName} {bytes cc : ByteArray} {maxL nL mc ms n index : Nat} {ret : Option FieldType} {hh : List (Nat × Nat × Nat × Nat)} {ws : List Cond} {rm : Room} {Pc : Array Value → State → Prop} {Qc : Array Value → State → Outcome → State → Prop} {free : Addr → Prop} {Ts : List Cond} {own : String} {As rest : List Value} {g : JFrame}
    (S : CallFix p m c cc nL s args Ts own) (hM : Met l y ws rm Pc Qc mc ms free) (cw : vx_CSW R s args own index y bytes maxL ret hh ws rm mc ms n) (hp : PreS s H Pc As)
    (hg : g.method = m) (hn : As.length = n) (hsize : g.locals.size = nL) (hstack : g.stack = As.reverse ++ rest) (hW : 2 * g.monitorRoom + (rest.map fun v => v.category).sum ≤ 8) (hdg : decode cc g.pc = .ok (.invokestatic index, 3)) (hf : cells + mc ≤ R.cells ∧ slots + ms ≤ R.slots) :
    va_Run p l e R s m args below meth c H locs cells slots mc ms g rest (Qc As.toArray) (free) := by
  obtain ⟨⟨hrc, hrs, hfr, hlo, hws, hcw⟩, hcode, hini, hy, hlen, hl, hstt⟩ := cw
  have hK : Back l R p e below s args y 3 8 (PreOf R mc ms Pc) (PostOf Qc mc ms free) := va_backW (hh := hh) (bytes := bytes) (maxL := maxL) (ret := ret) hM hp.1 hrc hrs hfr hlo hws hcw (fun a' U hW => word_at hW (Or.inl (by first | rfl | simp [Cond.onTables, Cond.keeps, Cond.steady])) hini)
  obtain ⟨hx, hb, hml, ho, -⟩ := S
  intro T hT X
  obtain ⟨v, vm₁, ⟨U', l2, c2, s2⟩, hW₁, X', ⟨g', mk, t, L, e1, e2, hq, h1, hL, h2, h3⟩, st⟩ := vx_callSW X hx (hh := hh) (bytes := bytes) (maxL := maxL) (ret := ret) ho hl hstt hini hcode hy hK hg (hsize.trans hml.symm) (argsL := As) (rest := rest) (fun sig h => hn.trans (hlen sig h)) hstack hW (by rw [hb]; exact hdg)
    (fun vm₁ hW₁ => ⟨hf.1, hf.2, hp.2 (T.setVm vm₁) hT hW₁⟩)
  dsimp only [Pt.U, Pt.locs, Pt.cells, Pt.slots] at X' e1 e2 h1 h2 h3 st
  subst h1; subst h2; subst h3
  exact ⟨v, (T.setVm vm₁).calling g' mk As.toArray, t, U', L, hT, X', hL, e1, e2, hq, st⟩
/-- not caught here, past rows that name other classes: it goes on to the caller -/
theorem vx_outP {p : Program} {l : Launch} {e : Env} {R : Room} {s : State} {m : MethodId} {args : Array Value} {below : List Frame} {meth : Method} {c : Code} {H : Heap} {locs : List Loc} {cells slots : Nat} {free : Addr → Prop} {ls : Array Slot} {rest : List Value} {Qc : Array Value → State → Outcome → State → Prop} {XC : String → State → State → Prop}
    {pc : Nat} {own E : String} {ce : Cell} {q : Addr} {mc ms : Nat} (hown : s.vm.findClass own = some m.cls) (hlocks : meth.locks = false)
    (hpass : ∀ z ∈ c.exceptionTable.toList, covers z pc = false ∨ (z.catchType ≠ 0 ∧ ∃ nm : String, (Cond.classLink own z.catchType nm).before args s = true ∧ va_Nc E nm s)) (hcell : H[q]? = some ce) (hv : ce.vm = .none) (hcl : s.vm.findClass E = some ce.cls)
    (hx : ∀ t : State, t.heap = H → s.vm.Alike t.vm → XC E s t) (hf : ∀ z ∈ locs, free z.base) (hc : cells ≤ mc) (hs : slots ≤ ms) :
    vx_W p l e R s m args below meth c H locs cells slots (vx_MQ below Qc XC args s mc ms free) (F0 m pc ls rest) q := by
  intro T hT X
  have hpl : e.platform.magicAccessors = ({} : Platform).magicAccessors := by rw [X.admits.platform]
  obtain ⟨vm', hW', X', st⟩ := X.outThrough hlocks q (g := F0 m pc ls rest) rfl rfl rfl (cell := ce) (by rw [hT]; exact hcell) (by rw [hv]; rfl)
    (by obtain ⟨k9, h9, -⟩ := Vm.findClass_spec hcl; exact ⟨k9, h9⟩) (fun z hz => by
      rcases hpass z hz with h | ⟨hz0, nm, hl1, hn1⟩
      · exact Or.inl h
      · obtain ⟨c6, hc6, hcl6⟩ := Cond.classLink_spec hown hl1 e.platform hpl
        obtain ⟨a8, b8, h1, h2, h3⟩ := hn1
        cases Option.some.inj (h1.symm.trans hcl)
        cases Option.some.inj (h2.symm.trans hc6)
        exact Or.inr ⟨hz0, _, hcl6, h3⟩)
  obtain ⟨g₀, hfr⟩ := X'.frames_eq
  have hcell9 : ((T.setVm vm').setFrames (.throwing q :: below)).heap[q]? = some ce := by
    show T.heap[q]? = some ce
    rw [hT]; exact hcell
  have hend : Ended ((T.setVm vm').setFrames (.throwing q :: below)) below (.threw q) := State.frames_setFrames _ (State.cur_lt_of_frames hfr)
  refine ⟨(T.setVm vm').setFrames (.throwing q :: below), ?_, .threw q, X'.here.running, hend, Or.inr ⟨q, rfl, E, ce, locs, hx _ hT (X'.ends _).1.alike, hcell9, hv, hcl, (X'.ends _).1, (X'.ends _).2.mono hc hs, hf⟩⟩
  rw [X.pushThrowing_eq]
  exact st
/-- a thing of a world lies in the heap -/
theorem vx_lt {D : va_G} {cl : List vw_C} {ws : va_W} {H1 : Heap} (h : va_P D cl ws H1) {k : Nat} {q : Nat × va_E} (hk : ws[k]? = some q) : q.1 < H1.size := (h k q hk).lt
end VXS
/-! ===== END ===== -/
/-! ===== BEGIN methods with a table of their own: called by a name, returning or throwing ===== -/
section VXH
/-! vx_backW, vx_callVX, vx_callSX, vx_callVW, vx_runVW, vx_runVX, vx_runSX, vx_ofWH follow the same proofs as their sisters above (Free/Laws.lean, Shelf42/LK1.lean); vx_outP calls Shelf42/NT130.lean (outThrough). -/
section
variable {l : Launch} {R : Room} {p : Program} {e : Env} {below : List Frame} {s : State} {sargs : Array Value} {y : MethodName} {len W9 : Nat}
theorem vx_backW {ws : List Cond} {rm : Room} {Pc : Array Value → State → Prop} {Qc : Array Value → State → Outcome → State → Prop} {XC : String → State → State → Prop} {mc ms : Nat} {free : Addr → Prop} {bytes : ByteArray} {maxL : Nat} {ret : Option FieldType} {hh : List (Nat × Nat × Nat × Nat)}
    (hM : vx_Met l y ws rm Pc Qc XC mc ms free) (hblind : FrameBlind Pc) (hrc : rm.cells = mc) (hrs : rm.slots = ms)
    (hframes : rm.frames + 1 ≤ R.frames) (hlocals : W9 + (maxL + 11) + rm.locals ≤ R.locals)
    (hws : ∀ w ∈ ws, ∀ a' U, s.WarmedH U.vm → w.before a' U = true) (hcode : Cond.codeWith y bytes maxL ret hh ∈ ws) (hinit : ∀ a' U, s.WarmedH U.vm → (Cond.initialized y.cls).before a' U = true) :
    vx_Back l R p e below s sargs y len W9 (PreOf R mc ms Pc) (PostOf Qc mc ms free) (vx_Post XC mc ms free) := by
  intro m meth c A g ig mk a X hg hsize hdg hW hn hp
  have h1 : (headSpec ws rm).pre.before a A.U = true := atoms_intro fun w hw => hws w hw _ _ X.warmed
  have h2 : (Cond.codeWith y bytes maxL ret hh).before a A.U = true := hws _ hcode _ _ X.warmed
  have h3 : (Cond.initialized y.cls).before a A.U = true := hinit _ _ X.warmed
  have h4 : A.cells + (headSpec ws rm).room.cells ≤ R.cells := by rw [show (headSpec ws rm).room.cells = mc from hrc]; exact hp.1
  have h5 : A.slots + (headSpec ws rm).room.slots ≤ R.slots := by rw [show (headSpec ws rm).room.slots = ms from hrs]; exact hp.2.1
  have hPc : Pc a (A.U.calling g mk a) := hblind _ _ _ _ hp.2.2
  obtain ⟨U, Ls, c0, s0⟩ := A
  dsimp only [Pt.U, Pt.locs, Pt.cells, Pt.slots] at h1 h2 h3 h4 h5 X hn hPc ⊢
  obtain ⟨m9, methY, cY, hn9, hmY, hcY, -, hlY, -⟩ := Cond.codeWith_spec h2
  cases Option.some.inj (hn9.symm.trans hn)
  obtain ⟨kY, hkY, -⟩ := className_of_methodNamed hn
  have hinitY : kY.init = .initialized := Cond.initialized_spec (findClass_of_methodNamed hn) hkY h3
  have h : At U g.method c below := by rw [hg]; exact X.here
  have hlocals9 : W9 + (maxL + 11) + (headSpec ws rm).room.locals ≤ R.locals := hlocals
  have happ : (headSpec ws rm).appliesLoose y e.platform (U.calling g mk a) = true :=
    Spec.appliesLoose_calling (g := g) h hdg hn hkY hinitY
      (X.room_calling (g := g) (R' := (headSpec ws rm).room) hsize hmY hcY hframes (by rw [hlY]; omega) h4 h5) h1
  obtain ⟨mid, hmid⟩ := h.above
  have hfr : (U.setTop g).frames = (.java g :: mid) ++ below := by rw [State.frames_setTop' g h.top, hmid]; rfl
  obtain ⟨o, s₂, hsteps, -, hend, hq⟩ := Steps.callFree hM p X.admits X.cas X.clock (acts := []) hfr happ hPc trivial
  have hq' : vx_Q Qc XC mc ms free a (U.calling g mk a) o s₂ := hq
  rw [State.frames_setTop' g h.top] at hend
  obtain ⟨g₀, hg0⟩ := Option.isSome_iff_exists.mp h.top
  obtain ⟨r, hr⟩ := State.topJava?_eq_some.mp hg0
  have hr' : (({ U with heap := s₂.heap, slotsUsed := s₂.slotsUsed } : State).setVm s₂.vm).frames = .java g₀ :: r := hr
  rcases hq' with ⟨hqc, L, hfe, hL⟩ | ⟨q, rfl, E, ce, L, hx, hce, hcv, hcl, hW₂, hsm, hL⟩
  · obtain ⟨⟨v, rfl⟩, hW₂, e2, q2, q3, q4, q5, q6⟩ := id hfe
    have e3 : s₂ = ({ (U.calling g mk a).setFrames s₂.frames with heap := s₂.heap, slotsUsed := s₂.slotsUsed } : State).setVm s₂.vm := by
      have : s₂ = ({ s₂ with vm := (U.calling g mk a).vm } : State).setVm s₂.vm := rfl
      rw [e2] at this
      exact this
    obtain ⟨c₂, i₂, len₂, hc₂, hd₂, hf₂⟩ := hend
    have hW' : U.WarmedH s₂.vm := hW₂
    have hcc : c₂ = c := by
      have h1 : s₂.code? g.method = U.code? g.method := by
        rw [State.code?_eq, State.code?_eq, hW'.alike.method?]
      exact Option.some.inj (hc₂.symm.trans (h1.trans h.code))
    subst hcc
    have hlen : len₂ = len := by rw [hdg] at hd₂; cases hd₂; rfl
    subst hlen
    have hs₂ : s₂ = (({ U with heap := s₂.heap, slotsUsed := s₂.slotsUsed } : State).setVm s₂.vm).setTop { g with pc := g.pc + len₂, stack := v.toList ++ g.stack } := by
      refine e3.trans ?_
      rw [hf₂, State.calling_eq h.top, State.setFrames_setFrames, State.setTop_of_frames _ hr', hr]
      rfl
    have hsame : U.sameButNew ({ U with heap := s₂.heap, slotsUsed := s₂.slotsUsed } : State) L mc ms := by
      refine ⟨?_, q2, q3, q4, q5, q6⟩
      obtain ⟨t, ht, -⟩ := State.frames_cons hr
      show ({ U with heap := s₂.heap, slotsUsed := s₂.slotsUsed } : State) = { U.setFrames U.frames with heap := s₂.heap, slotsUsed := s₂.slotsUsed }
      rw [State.setFrames_self ht]
    subst hg
    refine Or.inl ⟨v, ⟨(({ U with heap := s₂.heap, slotsUsed := s₂.slotsUsed } : State).setVm s₂.vm), Ls ++ L, c0 + mc, s0 + ms⟩,
      ⟨X.admits, X.cas, X.clock, X.frames, X.room, X.hears, X.method, X.code, (X.here.setHeapUsed s₂.heap s₂.slotsUsed).setVm hW'.alike, X.tail, State.WarmedH.trans X.warmed hW', X.limits, X.bytes, X.same.trans (hsame.setVm s.vm)⟩,
      ⟨g, mk, s₂, L, rfl, rfl, hqc, rfl, hL, rfl, rfl⟩, ?_⟩
    show Steps p.tables e below _ ((({ U with heap := s₂.heap, slotsUsed := s₂.slotsUsed } : State).setVm s₂.vm).setTop { g with pc := g.pc + len₂, stack := v.toList ++ g.stack })
    rw [← hs₂]
    exact hsteps
  · obtain ⟨e2, q2, q3, q4, q5, q6⟩ := id hsm
    have e3 : s₂ = ({ (U.calling g mk a).setFrames s₂.frames with heap := s₂.heap, slotsUsed := s₂.slotsUsed } : State).setVm s₂.vm := by
      have : s₂ = ({ s₂ with vm := (U.calling g mk a).vm } : State).setVm s₂.vm := rfl
      rw [e2] at this
      exact this
    have hf₂ : s₂.frames = .throwing q :: .java g :: U.frames.tail := hend
    have hW' : U.WarmedH s₂.vm := hW₂
    have hs₂ : s₂ = ((({ U with heap := s₂.heap, slotsUsed := s₂.slotsUsed } : State).setVm s₂.vm).setTop g).pushFrame (.throwing q) := by
      refine e3.trans ?_
      rw [hf₂, State.calling_eq h.top, State.setFrames_setFrames, State.pushFrame, State.frames_setTop _ hr', State.setTop_of_frames _ hr', State.setFrames_setFrames, hr]
      rfl
    have hsame : U.sameButNew ({ U with heap := s₂.heap, slotsUsed := s₂.slotsUsed } : State) L mc ms := by
      refine ⟨?_, q2, q3, q4, q5, q6⟩
      obtain ⟨t, ht, -⟩ := State.frames_cons hr
      show ({ U with heap := s₂.heap, slotsUsed := s₂.slotsUsed } : State) = { U.setFrames U.frames with heap := s₂.heap, slotsUsed := s₂.slotsUsed }
      rw [State.setFrames_self ht]
    subst hg
    refine Or.inr ⟨q, ⟨(({ U with heap := s₂.heap, slotsUsed := s₂.slotsUsed } : State).setVm s₂.vm), Ls ++ L, c0 + mc, s0 + ms⟩,
      ⟨X.admits, X.cas, X.clock, X.frames, X.room, X.hears, X.method, X.code, (X.here.setHeapUsed s₂.heap s₂.slotsUsed).setVm hW'.alike, X.tail, State.WarmedH.trans X.warmed hW', X.limits, X.bytes, X.same.trans (hsame.setVm s.vm)⟩,
      ⟨g, mk, s₂, L, E, ce, rfl, rfl, hx, hce, hcv, hcl, rfl, hL, rfl, rfl⟩, ?_⟩
    show Steps p.tables e below _ (((({ U with heap := s₂.heap, slotsUsed := s₂.slotsUsed } : State).setVm s₂.vm).setTop g).pushFrame (.throwing q))
    rw [← hs₂]
    exact hsteps
end
variable {p : Program} {l : Launch} {e : Env} {R : Room} {s : State} {m : MethodId} {args : Array Value} {below : List Frame} {meth : Method} {c : Code} {T : State} {H : Heap} {locs : List Loc} {cells slots : Nat}
theorem vx_callVX (X : Stand p l e R s m args below meth c T locs cells slots) (hexec : p.tables.exec = Jvm.exec) {own C : String} {index : Nat} {y : MethodName} {bytes : ByteArray} {maxL : Nat} {ret : Option FieldType} {hh : List (Nat × Nat × Nat × Nat)}
    (hown : s.vm.findClass own = some m.cls) (hlink : (Cond.methodLink own index y).before args s = true) (hinst : (Cond.instanceMethod y).before args s = true) (hsel : (Cond.selects C y y).before args s = true)
    (hcode : (Cond.codeWith y bytes maxL ret hh).before args s = true) (hy : y.cls ≠ "java/lang/invoke/MethodHandle" ∧ y.cls ≠ "java/lang/invoke/VarHandle")
    {W9 : Nat} {Pre : Pt → Array Value → Prop} {Post : Pt → Array Value → Option Value → Pt → Prop} {PostX : Pt → Array Value → Addr → Pt → Prop} (hK : vx_Back l R p e below s args y 3 W9 Pre Post PostX)
    {b : Addr} {cellB : Cell} (hcell : T.heap[b]? = some cellB) (hobj : cellB.vm.isStatics = false) (hcls : s.vm.findClass C = some cellB.cls)
    {g : JFrame} (hg : g.method = m) (hsize : g.locals.size = c.maxLocals) {argsL rest : List Value} (hlen : ∀ sig, parseMethodDescriptor y.desc = some sig → argsL.length = sig.parameters.length)
    (hstack : g.stack = argsL.reverse ++ .ref b :: rest) (hW : 2 * g.monitorRoom + (rest.map fun v => v.category).sum ≤ W9) (hdg : decode c.code g.pc = .ok (.invokevirtual index, 3))
    (hpre : ∀ vm₁, s.WarmedH vm₁ → Pre ⟨T.setVm vm₁, locs, cells, slots⟩ (Value.ref b :: argsL).toArray) :
    (∃ (v : Option Value) (vm₁ : Vm) (B : Pt), s.WarmedH vm₁ ∧ Stand p l e R s m args below meth c B.U B.locs B.cells B.slots ∧ Post ⟨T.setVm vm₁, locs, cells, slots⟩ (Value.ref b :: argsL).toArray v B ∧
      ∀ target, Steps p.tables e below (B.U.setTop { g with pc := g.pc + 3, stack := v.toList ++ rest }) target → Steps p.tables e below (T.setTop g) target) ∨
    (∃ (q : Addr) (vm₁ : Vm) (B : Pt), s.WarmedH vm₁ ∧ Stand p l e R s m args below meth c B.U B.locs B.cells B.slots ∧ PostX ⟨T.setVm vm₁, locs, cells, slots⟩ (Value.ref b :: argsL).toArray q B ∧
      Steps p.tables e below (T.setTop g) ((B.U.setTop { g with stack := rest }).pushFrame (.throwing q))) := by
  obtain ⟨mk, methM, hnamed, hmethM, hstM, habM⟩ := Cond.instanceMethod_spec hinst
  obtain ⟨m8, methM', cM, hn8, hmethM', -, -, -, -, -, -, hsigM⟩ := Cond.codeWith_spec hcode
  cases Option.some.inj (hn8.symm.trans hnamed)
  cases hmethM.symm.trans hmethM'
  obtain ⟨c2, r2, m2, q1, q2, q3, q4, kP, hkP, hkPi⟩ := Cond.selects_spec hsel
  cases hcls.symm.trans q1
  cases (State.methodFound?_of_named hnamed hy).symm.trans q2
  cases hnamed.symm.trans q3
  have hselP : selectMethod e.platform s.vm cellB.cls mk = .method mk := by rw [Launch.admits_selectMethod X.admits]; exact q4
  obtain ⟨vm₁, X₁, hstep₁⟩ := X.invokevirtual hexec hown hlink hnamed hmethM hstM hkP hkPi hy (a := b) (cell := cellB) hcell
    (fun z h => by rw [h] at hobj; cases hobj) hselP hmethM habM hkP hkPi (g := g) hg (argsL := argsL) (rest := rest) (hlen _ hsigM) hstack hdg
  rcases hK m meth c ⟨T.setVm vm₁, locs, cells, slots⟩ { g with stack := rest } (.invokevirtual index) mk (Value.ref b :: argsL).toArray X₁ hg hsize hdg hW (X₁.named hnamed) (hpre vm₁ X₁.warmed) with ⟨v, B, X', hpost, hsteps⟩ | ⟨q, B, X', hpost, hsteps⟩
  · exact Or.inl ⟨v, vm₁, B, X₁.warmed, X', hpost, fun target h => hstep₁ _ fun acts => by rw [doInvoke_state]; exact hsteps.trans h⟩
  · exact Or.inr ⟨q, vm₁, B, X₁.warmed, X', hpost, hstep₁ _ fun acts => by rw [doInvoke_state]; exact hsteps⟩
theorem vx_callSX (X : Stand p l e R s m args below meth c T locs cells slots) (hexec : p.tables.exec = Jvm.exec) {own : String} {index : Nat} {y : MethodName} {bytes : ByteArray} {maxL : Nat} {ret : Option FieldType} {hh : List (Nat × Nat × Nat × Nat)}
    (hown : s.vm.findClass own = some m.cls) (hlink : (Cond.methodLink own index y).before args s = true) (hstat : (Cond.static y).before args s = true) (hinit : (Cond.initialized y.cls).before args s = true)
    (hcode : (Cond.codeWith y bytes maxL ret hh).before args s = true) (hy : y.cls ≠ "java/lang/invoke/MethodHandle" ∧ y.cls ≠ "java/lang/invoke/VarHandle")
    {W9 : Nat} {Pre : Pt → Array Value → Prop} {Post : Pt → Array Value → Option Value → Pt → Prop} {PostX : Pt → Array Value → Addr → Pt → Prop} (hK : vx_Back l R p e below s args y 3 W9 Pre Post PostX)
    {g : JFrame} (hg : g.method = m) (hsize : g.locals.size = c.maxLocals) {argsL rest : List Value} (hlen : ∀ sig, parseMethodDescriptor y.desc = some sig → argsL.length = sig.parameters.length)
    (hstack : g.stack = argsL.reverse ++ rest) (hW : 2 * g.monitorRoom + (rest.map fun v => v.category).sum ≤ W9) (hdg : decode c.code g.pc = .ok (.invokestatic index, 3))
    (hpre : ∀ vm₁, s.WarmedH vm₁ → Pre ⟨T.setVm vm₁, locs, cells, slots⟩ argsL.toArray) :
    (∃ (v : Option Value) (vm₁ : Vm) (B : Pt), s.WarmedH vm₁ ∧ Stand p l e R s m args below meth c B.U B.locs B.cells B.slots ∧ Post ⟨T.setVm vm₁, locs, cells, slots⟩ argsL.toArray v B ∧
      ∀ target, Steps p.tables e below (B.U.setTop { g with pc := g.pc + 3, stack := v.toList ++ rest }) target → Steps p.tables e below (T.setTop g) target) ∨
    (∃ (q : Addr) (vm₁ : Vm) (B : Pt), s.WarmedH vm₁ ∧ Stand p l e R s m args below meth c B.U B.locs B.cells B.slots ∧ PostX ⟨T.setVm vm₁, locs, cells, slots⟩ argsL.toArray q B ∧
      Steps p.tables e below (T.setTop g) ((B.U.setTop { g with stack := rest }).pushFrame (.throwing q))) := by
  obtain ⟨mk, methM, cM, hnamed, hmethM, -, -, -, -, -, -, hsigM⟩ := Cond.codeWith_spec hcode
  have hstatic : methM.isStatic = true := Cond.static_spec hnamed hmethM hstat
  obtain ⟨kP, hkP, -⟩ := className_of_methodNamed hnamed
  have hinitP : kP.init = .initialized := Cond.initialized_spec (findClass_of_methodNamed hnamed) hkP hinit
  obtain ⟨vm₁, X₁, hstep₁⟩ := X.invokestatic hexec hown hlink hnamed hmethM hstatic hkP hinitP hy (g := g) hg (argsL := argsL) (rest := rest) (hlen _ hsigM) hstack hdg
  rcases hK m meth c ⟨T.setVm vm₁, locs, cells, slots⟩ { g with stack := rest } (.invokestatic index) mk argsL.toArray X₁ hg hsize hdg hW (X₁.named hnamed) (hpre vm₁ X₁.warmed) with ⟨v, B, X', hpost, hsteps⟩ | ⟨q, B, X', hpost, hsteps⟩
  · exact Or.inl ⟨v, vm₁, B, X₁.warmed, X', hpost, fun target h => hstep₁ _ fun acts => by rw [doInvoke_state]; exact hsteps.trans h⟩
  · exact Or.inr ⟨q, vm₁, B, X₁.warmed, X', hpost, hstep₁ _ fun acts => by rw [doInvoke_state]; exact hsteps⟩
theorem vx_callVW (X : Stand p l e R s m args below meth c T locs cells slots) (hexec : p.tables.exec = Jvm.exec) {own C : String} {index : Nat} {y : MethodName} {bytes : ByteArray} {maxL : Nat} {ret : Option FieldType} {hh : List (Nat × Nat × Nat × Nat)}
    (hown : s.vm.findClass own = some m.cls) (hlink : (Cond.methodLink own index y).before args s = true) (hinst : (Cond.instanceMethod y).before args s = true) (hsel : (Cond.selects C y y).before args s = true)
    (hcode : (Cond.codeWith y bytes maxL ret hh).before args s = true) (hy : y.cls ≠ "java/lang/invoke/MethodHandle" ∧ y.cls ≠ "java/lang/invoke/VarHandle")
    {W9 : Nat} {Pre : Pt → Array Value → Prop} {Post : Pt → Array Value → Option Value → Pt → Prop} (hK : Back l R p e below s args y 3 W9 Pre Post)
    {b : Addr} {cellB : Cell} (hcell : T.heap[b]? = some cellB) (hobj : cellB.vm.isStatics = false) (hcls : s.vm.findClass C = some cellB.cls)
    {g : JFrame} (hg : g.method = m) (hsize : g.locals.size = c.maxLocals) {argsL rest : List Value} (hlen : ∀ sig, parseMethodDescriptor y.desc = some sig → argsL.length = sig.parameters.length)
    (hstack : g.stack = argsL.reverse ++ .ref b :: rest) (hW : 2 * g.monitorRoom + (rest.map fun v => v.category).sum ≤ W9) (hdg : decode c.code g.pc = .ok (.invokevirtual index, 3))
    (hpre : ∀ vm₁, s.WarmedH vm₁ → Pre ⟨T.setVm vm₁, locs, cells, slots⟩ (Value.ref b :: argsL).toArray) :
    ∃ (v : Option Value) (vm₁ : Vm) (B : Pt), s.WarmedH vm₁ ∧ Stand p l e R s m args below meth c B.U B.locs B.cells B.slots ∧ Post ⟨T.setVm vm₁, locs, cells, slots⟩ (Value.ref b :: argsL).toArray v B ∧
      ∀ target, Steps p.tables e below (B.U.setTop { g with pc := g.pc + 3, stack := v.toList ++ rest }) target → Steps p.tables e below (T.setTop g) target := by
  obtain ⟨mk, methM, hnamed, hmethM, hstM, habM⟩ := Cond.instanceMethod_spec hinst
  obtain ⟨m8, methM', cM, hn8, hmethM', -, -, -, -, -, -, hsigM⟩ := Cond.codeWith_spec hcode
  cases Option.some.inj (hn8.symm.trans hnamed)
  cases hmethM.symm.trans hmethM'
  obtain ⟨c2, r2, m2, q1, q2, q3, q4, kP, hkP, hkPi⟩ := Cond.selects_spec hsel
  cases hcls.symm.trans q1
  cases (State.methodFound?_of_named hnamed hy).symm.trans q2
  cases hnamed.symm.trans q3
  have hselP : selectMethod e.platform s.vm cellB.cls mk = .method mk := by rw [Launch.admits_selectMethod X.admits]; exact q4
  obtain ⟨vm₁, X₁, hstep₁⟩ := X.invokevirtual hexec hown hlink hnamed hmethM hstM hkP hkPi hy (a := b) (cell := cellB) hcell
    (fun z h => by rw [h] at hobj; cases hobj) hselP hmethM habM hkP hkPi (g := g) hg (argsL := argsL) (rest := rest) (hlen _ hsigM) hstack hdg
  obtain ⟨v, B, X', hpost, hsteps⟩ := hK m meth c ⟨T.setVm vm₁, locs, cells, slots⟩ { g with stack := rest } (.invokevirtual index) mk (Value.ref b :: argsL).toArray X₁ hg hsize hdg hW (X₁.named hnamed) (hpre vm₁ X₁.warmed)
  exact ⟨v, vm₁, B, X₁.warmed, X', hpost, fun target h => hstep₁ _ fun acts => by rw [doInvoke_state]; exact hsteps.trans h⟩
abbrev vx_CVW (R : Room) (s : State) (args : Array Value) (own C : String) (index : Nat) (y : MethodName) (bytes : ByteArray) (maxL : Nat) (ret : Option FieldType) (hh : List (Nat × Nat × Nat × Nat)) (ws : List Cond) (rm : Room) (mc ms n : Nat) : Prop :=
  (rm.cells = mc ∧ rm.slots = ms ∧ rm.frames + 1 ≤ R.frames ∧ 8 + (maxL + 11) + rm.locals ≤ R.locals ∧ (∀ w ∈ ws, ∀ (a' : Array Value) (U : State), s.WarmedH U.vm → w.before a' U = true) ∧ Cond.codeWith y bytes maxL ret hh ∈ ws) ∧
  (Cond.codeWith y bytes maxL ret hh).before args s = true ∧ (Cond.initialized y.cls).before args s = true ∧ (y.cls ≠ "java/lang/invoke/MethodHandle" ∧ y.cls ≠ "java/lang/invoke/VarHandle") ∧
  (∀ sig, parseMethodDescriptor y.desc = some sig → n = sig.parameters.length) ∧ (Cond.methodLink own index y).before args s = true ∧ (Cond.instanceMethod y).before args s = true ∧ (Cond.selects C y y).before args s = true
theorem vx_cwVW {own C : String} {index maxL mc ms : Nat} {y : MethodName} {bytes : ByteArray} {ret : Option FieldType} {hh : List (Nat × Nat × Nat × Nat)} {Ts ws ws' : List Cond} {rm : Room} (n : Nat) (ht : ∀ w ∈ Ts, w.before args s = true) (hT : GoodIn Ts (wsV own index C y ws)) (hw : ws = Cond.codeWith y bytes maxL ret hh :: ws') (hrc : rm.cells = mc) (hrs : rm.slots = ms)
    (hd : y.cls = C ∧ y.cls ≠ "java/lang/invoke/MethodHandle" ∧ y.cls ≠ "java/lang/invoke/VarHandle" ∧ (parseMethodDescriptor y.desc).map (fun d => d.parameters.length) = some n) (hR : rm.frames + 1 ≤ R.frames ∧ 8 + (maxL + 11) + rm.locals ≤ R.locals) :
    vx_CVW R s args own C index y bytes maxL ret hh ws rm mc ms n := by
  obtain ⟨hC, hd⟩ := hd
  subst hC
  have ok : ∀ w ∈ wsV own index y.cls y ws, w.before args s = true := fun w h => ht w (hT w h).1
  have hG : GoodIn Ts ws := fun w h => hT w (by unfold wsV; exact List.mem_append_right _ h)
  have hc : Cond.codeWith y bytes maxL ret hh ∈ ws := by rw [hw]; exact List.mem_cons_self
  refine ⟨⟨hrc, hrs, hR.1, hR.2, pay_in ht hG, hc⟩, ht _ (hG _ hc).1, ok _ (by simp [wsV]), ⟨hd.1, hd.2.1⟩, fun sig h => ?_, ok _ (by simp [wsV]), ok _ (by simp [wsV]), ok _ (by simp [wsV])⟩
  have h2 := hd.2.2
  rw [h] at h2
  exact (Option.some.inj h2).symm
theorem vx_runVW {y : MethodName} {bytes cc : ByteArray} {maxL nL mc ms n index : Nat} {ret : Option FieldType} {hh : List (Nat × Nat × Nat × Nat)} {ws : List Cond} {rm : Room} {Pc : Array Value → State → Prop} {Qc : Array Value → State → Outcome → State → Prop} {free : Addr → Prop} {Ts : List Cond} {own C : String} {b : Addr} {As rest : List Value} {g : JFrame}
    (S : CallFix p m c cc nL s args Ts own) (hM : Met l y ws rm Pc Qc mc ms free) (cw : vx_CVW R s args own C index y bytes maxL ret hh ws rm mc ms n) (hp : PreV s H C b Pc As)
    (hg : g.method = m) (hn : As.length = n) (hsize : g.locals.size = nL) (hstack : g.stack = As.reverse ++ .ref b :: rest) (hW : 2 * g.monitorRoom + (rest.map fun v => v.category).sum ≤ 8) (hdg : decode cc g.pc = .ok (.invokevirtual index, 3)) (hf : cells + mc ≤ R.cells ∧ slots + ms ≤ R.slots) :
    va_Run p l e R s m args below meth c H locs cells slots mc ms g rest (Qc (Value.ref b :: As).toArray) free := by
  obtain ⟨⟨hrc, hrs, hfr, hlo, hws, hcw⟩, hcode, hini, hy, hlen, hl, hin, hse⟩ := cw
  have hK : Back l R p e below s args y 3 8 (PreOf R mc ms Pc) (PostOf Qc mc ms free) := va_backW (hh := hh) (bytes := bytes) (maxL := maxL) (ret := ret) hM hp.1 hrc hrs hfr hlo hws hcw (fun a' U hW => word_at hW (Or.inl (by first | rfl | simp [Cond.onTables, Cond.keeps, Cond.steady])) hini)
  obtain ⟨hx, hb, hml, ho, -⟩ := S
  obtain ⟨-, ⟨cellB, hcB, hoB, hclB⟩, hPc⟩ := hp
  intro T hT X
  obtain ⟨v, vm₁, ⟨U', l2, c2, s2⟩, hW₁, X', ⟨g', mk, t, L, e1, e2, hq, h1, hL, h2, h3⟩, st⟩ := vx_callVW X hx (C := C) (hh := hh) (bytes := bytes) (maxL := maxL) (ret := ret) ho hl hin hse hcode hy hK (by rw [hT]; exact hcB) hoB hclB hg (hsize.trans hml.symm) (argsL := As) (rest := rest) (fun sig h => hn.trans (hlen sig h)) hstack hW (by rw [hb]; exact hdg)
    (fun vm₁ hW₁ => ⟨hf.1, hf.2, hPc (T.setVm vm₁) hT hW₁⟩)
  dsimp only [Pt.U, Pt.locs, Pt.cells, Pt.slots] at X' e1 e2 h1 h2 h3 st
  subst h1; subst h2; subst h3
  exact ⟨v, (T.setVm vm₁).calling g' mk (Value.ref b :: As).toArray, t, U', L, hT, X', hL, e1, e2, hq, st⟩
section
variable {y : MethodName} {bytes cc : ByteArray} {maxL nL mc ms n index : Nat} {ret : Option FieldType} {ws : List Cond} {rm : Room} {Pc : Array Value → State → Prop} {Qc : Array Value → State → Outcome → State → Prop} {XC : String → State → State → Prop} {free : Addr → Prop} {Ts : List Cond} {own C : String} {b : Addr} {As rest : List Value} {g : JFrame}
theorem vx_runVX {hh : List (Nat × Nat × Nat × Nat)} (S : CallFix p m c cc nL s args Ts own) (hM : vx_Met l y ws rm Pc Qc XC mc ms free) (cw : vx_CVW R s args own C index y bytes maxL ret hh ws rm mc ms n) (hp : PreV s H C b Pc As)
    (hg : g.method = m) (hn : As.length = n) (hsize : g.locals.size = nL) (hstack : g.stack = As.reverse ++ .ref b :: rest) (hW : 2 * g.monitorRoom + (rest.map fun v => v.category).sum ≤ 8) (hdg : decode cc g.pc = .ok (.invokevirtual index, 3)) (hf : cells + mc ≤ R.cells ∧ slots + ms ≤ R.slots) :
    vx_Run p l e R s m args below meth c H locs cells slots mc ms g rest (Qc (Value.ref b :: As).toArray) XC free := by
  obtain ⟨⟨hrc, hrs, hfr, hlo, hws, hcw⟩, hcode, hini, hy, hlen, hl, hin, hse⟩ := cw
  have hK : vx_Back l R p e below s args y 3 8 (PreOf R mc ms Pc) (PostOf Qc mc ms free) (vx_Post XC mc ms free) := vx_backW (hh := hh) (bytes := bytes) (maxL := maxL) (ret := ret) hM hp.1 hrc hrs hfr hlo hws hcw (fun a' U hW => word_at hW (Or.inl (by first | rfl | simp [Cond.onTables, Cond.keeps, Cond.steady])) hini)
  obtain ⟨hx, hb, hml, ho, -⟩ := S
  obtain ⟨-, ⟨cellB, hcB, hoB, hclB⟩, hPc⟩ := hp
  intro T hT X
  rcases vx_callVX X hx (C := C) (hh := hh) (bytes := bytes) (maxL := maxL) (ret := ret) ho hl hin hse hcode hy hK (by rw [hT]; exact hcB) hoB hclB hg (hsize.trans hml.symm) (argsL := As) (rest := rest) (fun sig h => hn.trans (hlen sig h)) hstack hW (by rw [hb]; exact hdg)
    (fun vm₁ hW₁ => ⟨hf.1, hf.2, hPc (T.setVm vm₁) hT hW₁⟩) with ⟨v, vm₁, ⟨U', l2, c2, s2⟩, hW₁, X', ⟨g', mk, t, L, e1, e2, hq, h1, hL, h2, h3⟩, st⟩ | ⟨q, vm₁, ⟨U', l2, c2, s2⟩, hW₁, X', ⟨g', mk, t, L, E, ce, e1, e2, hq, hce, hcv, hcl, h1, hL, h2, h3⟩, st⟩
  · dsimp only [Pt.U, Pt.locs, Pt.cells, Pt.slots] at X' e1 e2 h1 h2 h3 st
    subst h1; subst h2; subst h3
    exact Or.inl ⟨v, (T.setVm vm₁).calling g' mk (Value.ref b :: As).toArray, t, U', L, hT, X', hL, e1, e2, hq, st⟩
  · dsimp only [Pt.U, Pt.locs, Pt.cells, Pt.slots] at X' e1 e2 h1 h2 h3 st hcl
    subst h1; subst h2; subst h3
    exact Or.inr ⟨q, (T.setVm vm₁).calling g' mk (Value.ref b :: As).toArray, t, U', L, E, ce, hT, X', hL, e1, e2, hq, hce, hcv, vx_cls hW₁ hcl, st⟩
theorem vx_runSX {hh : List (Nat × Nat × Nat × Nat)} (S : CallFix p m c cc nL s args Ts own) (hM : vx_Met l y ws rm Pc Qc XC mc ms free) (cw : vx_CSW R s args own index y bytes maxL ret hh ws rm mc ms n) (hp : PreS s H Pc As)
    (hg : g.method = m) (hn : As.length = n) (hsize : g.locals.size = nL) (hstack : g.stack = As.reverse ++ rest) (hW : 2 * g.monitorRoom + (rest.map fun v => v.category).sum ≤ 8) (hdg : decode cc g.pc = .ok (.invokestatic index, 3)) (hf : cells + mc ≤ R.cells ∧ slots + ms ≤ R.slots) :
    vx_Run p l e R s m args below meth c H locs cells slots mc ms g rest (Qc As.toArray) XC free := by
  obtain ⟨⟨hrc, hrs, hfr, hlo, hws, hcw⟩, hcode, hini, hy, hlen, hl, hstt⟩ := cw
  have hK : vx_Back l R p e below s args y 3 8 (PreOf R mc ms Pc) (PostOf Qc mc ms free) (vx_Post XC mc ms free) := vx_backW (hh := hh) (bytes := bytes) (maxL := maxL) (ret := ret) hM hp.1 hrc hrs hfr hlo hws hcw (fun a' U hW => word_at hW (Or.inl (by first | rfl | simp [Cond.onTables, Cond.keeps, Cond.steady])) hini)
  obtain ⟨hx, hb, hml, ho, -⟩ := S
  intro T hT X
  rcases vx_callSX X hx (hh := hh) (bytes := bytes) (maxL := maxL) (ret := ret) ho hl hstt hini hcode hy hK hg (hsize.trans hml.symm) (argsL := As) (rest := rest) (fun sig h => hn.trans (hlen sig h)) hstack hW (by rw [hb]; exact hdg)
    (fun vm₁ hW₁ => ⟨hf.1, hf.2, hp.2 (T.setVm vm₁) hT hW₁⟩) with ⟨v, vm₁, ⟨U', l2, c2, s2⟩, hW₁, X', ⟨g', mk, t, L, e1, e2, hq, h1, hL, h2, h3⟩, st⟩ | ⟨q, vm₁, ⟨U', l2, c2, s2⟩, hW₁, X', ⟨g', mk, t, L, E, ce, e1, e2, hq, hce, hcv, hcl, h1, hL, h2, h3⟩, st⟩
  · dsimp only [Pt.U, Pt.locs, Pt.cells, Pt.slots] at X' e1 e2 h1 h2 h3 st
    subst h1; subst h2; subst h3
    exact Or.inl ⟨v, (T.setVm vm₁).calling g' mk As.toArray, t, U', L, hT, X', hL, e1, e2, hq, st⟩
  · dsimp only [Pt.U, Pt.locs, Pt.cells, Pt.slots] at X' e1 e2 h1 h2 h3 st hcl
    subst h1; subst h2; subst h3
    exact Or.inr ⟨q, (T.setVm vm₁).calling g' mk As.toArray, t, U', L, E, ce, hT, X', hL, e1, e2, hq, hce, hcv, vx_cls hW₁ hcl, st⟩
end
end VXH
theorem vx_ofWH {l : Launch} {y : MethodName} {ws ws' : List Cond} {rm : Room} {Pc : Array Value → State → Prop} {Qc : Array Value → State → Outcome → State → Prop} {XC : String → State → State → Prop} {mc ms : Nat} {free : Addr → Prop} {cc : ByteArray} {maxL : Nat} {ret : Option FieldType} {hh : List (Nat × Nat × Nat × Nat)}
    (hy : plainName y.cls = true) (hw : ws = Cond.codeWith y cc maxL ret hh :: ws')
    (body : ∀ p e s m args below meth c s₁, BodyLoose p l y (headSpec ws rm) cc maxL ret e s m args below meth c s₁ → c.maxLocals = maxL → Pc args s →
      W p l e (headSpec ws rm).room s m args below meth c s.heap [] 0 0 (vx_MQ below Qc XC args s mc ms free) (entryFrame m args maxL)) : vx_Met l y ws rm Pc Qc XC mc ms free := by
  refine MetFree.of_bodyS (code := cc) (maxLocals := maxL) (ret := ret) hy ?_ ?_
  · intro args s m h hn
    obtain ⟨m9, meth, c, hn9, h1, h2, h3, h4, -, h5, h6, -⟩ := Cond.codeWith_spec (atoms_spec (ws := ws) h _ (by rw [hw]; exact List.mem_cons_self))
    cases hn.symm.trans hn9
    exact ⟨meth, c, h1, h2, h3, h4, h5, h6⟩
  · intro p e s m args below meth c s₁ B hml hP _
    have hh0 : s₁.heap = s.heap := by rw [B.state]; rfl
    obtain ⟨t, a1, o, b1, b2, b3⟩ := body p e s m args below meth c s₁ B hml hP s₁ hh0 (Stand.of_body B)
    exact ⟨t, o, a1, b1, b2, b3⟩
/-! ===== END ===== -/
end
section
/-! names: classes, fields, methods; the words; the shapes of the cells (printed by wip/whole/gen.py) -/
abbrev RP : String := "PatternColumns"
def TP : u_T := fun k => match k with
  | 0 => ("PatternColumns", "slabs", "LPatternColumns$Slabs;", true)
  | 1 => ("PatternColumns", "dearest", "LPatternColumns$DearestPattern;", true)
  | 2 => ("PatternColumns", "designing", "LPatternColumns$Designing;", true)
  | _ => ("PatternColumns", "store", "LPatternColumns$Store;", true)
def tyP : Nat → FieldType := fun k => match k with
  | 0 => .object "PatternColumns$Slabs"
  | 1 => .object "PatternColumns$DearestPattern"
  | 2 => .object "PatternColumns$Designing"
  | _ => .object "PatternColumns$Store"
theorem nmP : ∀ a, a < 4 → ∀ b, b < 4 → a ≠ b → (TP a).2.1 ≠ (TP b).2.1 := by decide +kernel
theorem tyP_ok : ∀ k, k < 4 → parseFieldDescriptor (TP k).2.2.1 = some (tyP k) := by decide +kernel
abbrev RS : String := "PatternColumns$Slabs"
def TS : u_T := fun k => match k with
  | 0 => ("PatternColumns$Slabs", "sheetWidth", "I", false)
  | 1 => ("PatternColumns$Slabs", "count", "I", false)
  | 2 => ("PatternColumns$Slabs", "widths", "[I", true)
  | 3 => ("PatternColumns$Slabs", "numbers", "[I", true)
  | _ => ("PatternColumns$Slabs", "prices", "[I", true)
def tyS : Nat → FieldType := fun k => match k with
  | 0 => .int
  | 1 => .int
  | 2 => .array .int
  | 3 => .array .int
  | _ => .array .int
theorem nmS : ∀ a, a < 5 → ∀ b, b < 5 → a ≠ b → (TS a).2.1 ≠ (TS b).2.1 := by decide +kernel
theorem tyS_ok : ∀ k, k < 5 → parseFieldDescriptor (TS k).2.2.1 = some (tyS k) := by decide +kernel
abbrev RD : String := "PatternColumns$DearestPattern"
def TD : u_T := fun k => match k with
  | 0 => ("PatternColumns$DearestPattern", "slabs", "LPatternColumns$Slabs;", true)
  | 1 => ("PatternColumns$DearestPattern", "pattern", "[I", true)
  | 2 => ("PatternColumns$DearestPattern", "tried", "[I", true)
  | 3 => ("PatternColumns$DearestPattern", "sum", "I", false)
  | _ => ("PatternColumns$DearestPattern", "known", "Z", false)
def tyD : Nat → FieldType := fun k => match k with
  | 0 => .object "PatternColumns$Slabs"
  | 1 => .array .int
  | 2 => .array .int
  | 3 => .int
  | _ => .boolean
theorem nmD : ∀ a, a < 5 → ∀ b, b < 5 → a ≠ b → (TD a).2.1 ≠ (TD b).2.1 := by decide +kernel
theorem tyD_ok : ∀ k, k < 5 → parseFieldDescriptor (TD k).2.2.1 = some (tyD k) := by decide +kernel
abbrev RG : String := "PatternColumns$Designing"
def TG : u_T := fun k => match k with
  | 0 => ("PatternColumns$Designing", "slabs", "LPatternColumns$Slabs;", true)
  | 1 => ("PatternColumns$Designing", "left", "[I", true)
  | 2 => ("PatternColumns$Designing", "leftWidth", "I", false)
  | 3 => ("PatternColumns$Designing", "tried", "[[I", true)
  | 4 => ("PatternColumns$Designing", "best", "[[I", true)
  | 5 => ("PatternColumns$Designing", "bestSheets", "I", false)
  | 6 => ("PatternColumns$Designing", "hasRun", "Z", false)
  | 7 => ("PatternColumns$Designing", "spent", "Z", false)
  | _ => ("PatternColumns$Designing", "steps", "I", false)
def tyG : Nat → FieldType := fun k => match k with
  | 0 => .object "PatternColumns$Slabs"
  | 1 => .array .int
  | 2 => .int
  | 3 => .array (.array .int)
  | 4 => .array (.array .int)
  | 5 => .int
  | 6 => .boolean
  | 7 => .boolean
  | _ => .int
theorem nmG : ∀ a, a < 9 → ∀ b, b < 9 → a ≠ b → (TG a).2.1 ≠ (TG b).2.1 := by decide +kernel
theorem tyG_ok : ∀ k, k < 9 → parseFieldDescriptor (TG k).2.2.1 = some (tyG k) := by decide +kernel
abbrev RT : String := "PatternColumns$Store"
def TT : u_T := fun k => match k with
  | 0 => ("PatternColumns$Store", "count", "I", false)
  | 1 => ("PatternColumns$Store", "patterns", "[[I", true)
  | 2 => ("PatternColumns$Store", "times", "[I", true)
  | _ => ("PatternColumns$Store", "days", "[I", true)
def tyT : Nat → FieldType := fun k => match k with
  | 0 => .int
  | 1 => .array (.array .int)
  | 2 => .array .int
  | _ => .array .int
theorem nmT : ∀ a, a < 4 → ∀ b, b < 4 → a ≠ b → (TT a).2.1 ≠ (TT b).2.1 := by decide +kernel
theorem tyT_ok : ∀ k, k < 4 → parseFieldDescriptor (TT k).2.2.1 = some (tyT k) := by decide +kernel
abbrev RM : String := "PatternColumnsModel"
def TM : u_T := fun k => match k with
  | 0 => ("PatternColumnsModel", "thrown", "I", false)
  | 1 => ("PatternColumnsModel", "sheet", "I", false)
  | 2 => ("PatternColumnsModel", "orders", "I", false)
  | 3 => ("PatternColumnsModel", "width", "[I", true)
  | 4 => ("PatternColumnsModel", "pieces", "[I", true)
  | 5 => ("PatternColumnsModel", "price", "[I", true)
  | 6 => ("PatternColumnsModel", "left", "[I", true)
  | 7 => ("PatternColumnsModel", "now", "[I", true)
  | 8 => ("PatternColumnsModel", "sheets", "I", false)
  | 9 => ("PatternColumnsModel", "best", "[I", true)
  | 10 => ("PatternColumnsModel", "asked", "Z", false)
  | 11 => ("PatternColumnsModel", "spent", "Z", false)
  | 12 => ("PatternColumnsModel", "steps", "I", false)
  | 13 => ("PatternColumnsModel", "keptMany", "I", false)
  | _ => ("PatternColumnsModel", "kept", "[I", true)
def tyM : Nat → FieldType := fun k => match k with
  | 0 => .int
  | 1 => .int
  | 2 => .int
  | 3 => .array .int
  | 4 => .array .int
  | 5 => .array .int
  | 6 => .array .int
  | 7 => .array .int
  | 8 => .int
  | 9 => .array .int
  | 10 => .boolean
  | 11 => .boolean
  | 12 => .int
  | 13 => .int
  | _ => .array .int
theorem nmM : ∀ a, a < 15 → ∀ b, b < 15 → a ≠ b → (TM a).2.1 ≠ (TM b).2.1 := by decide +kernel
theorem tyM_ok : ∀ k, k < 15 → parseFieldDescriptor (TM k).2.2.1 = some (tyM k) := by decide +kernel
abbrev RL : String := "PatternColumnsLaw"
abbrev vwCl : List vw_C := [(RP, TP, 4), (RS, TS, 5), (RD, TD, 5), (RG, TG, 9), (RT, TT, 4), (RM, TM, 15)]
abbrev cP_init : ByteArray := prog_1_method_1_code
abbrev yP_init : MethodName := ⟨"PatternColumns", "<init>", "()V"⟩
abbrev cS_init : ByteArray := prog_4_method_1_code
abbrev yS_init : MethodName := ⟨"PatternColumns$Slabs", "<init>", "()V"⟩
abbrev cD_init : ByteArray := prog_2_method_1_code
abbrev yD_init : MethodName := ⟨"PatternColumns$DearestPattern", "<init>", "(LPatternColumns$Slabs;)V"⟩
abbrev cG_init : ByteArray := prog_3_method_1_code
abbrev yG_init : MethodName := ⟨"PatternColumns$Designing", "<init>", "(LPatternColumns$Slabs;)V"⟩
abbrev cT_init : ByteArray := prog_5_method_1_code
abbrev yT_init : MethodName := ⟨"PatternColumns$Store", "<init>", "()V"⟩
abbrev cP_column : ByteArray := prog_1_method_6_code
abbrev yP_column : MethodName := ⟨"PatternColumns", "column", "()I"⟩
abbrev cD_priceSum : ByteArray := prog_2_method_3_code
abbrev yD_priceSum : MethodName := ⟨"PatternColumns$DearestPattern", "priceSum", "()I"⟩
abbrev cD_seek : ByteArray := prog_2_method_5_code
abbrev yD_seek : MethodName := ⟨"PatternColumns$DearestPattern", "seek", "()V"⟩
abbrev cS_firstPattern : ByteArray := prog_4_method_11_code
abbrev yS_firstPattern : MethodName := ⟨"PatternColumns$Slabs", "firstPattern", "([I[I)V"⟩
abbrev cS_fillFrom : ByteArray := prog_4_method_13_code
abbrev yS_fillFrom : MethodName := ⟨"PatternColumns$Slabs", "fillFrom", "(I[I[I)V"⟩
abbrev cS_widthOfFirst : ByteArray := prog_4_method_14_code
abbrev yS_widthOfFirst : MethodName := ⟨"PatternColumns$Slabs", "widthOfFirst", "([II)I"⟩
abbrev cS_priceOf : ByteArray := prog_4_method_6_code
abbrev yS_priceOf : MethodName := ⟨"PatternColumns$Slabs", "priceOf", "([I)I"⟩
abbrev cD_take : ByteArray := prog_2_method_6_code
abbrev yD_take : MethodName := ⟨"PatternColumns$DearestPattern", "take", "(I)V"⟩
abbrev cS_nextPattern : ByteArray := prog_4_method_12_code
abbrev yS_nextPattern : MethodName := ⟨"PatternColumns$Slabs", "nextPattern", "([I[III)Z"⟩
abbrev cP_bound : ByteArray := prog_1_method_8_code
abbrev yP_bound : MethodName := ⟨"PatternColumns", "bound", "()I"⟩
abbrev cP_boundByPrices : ByteArray := prog_1_method_18_code
abbrev yP_boundByPrices : MethodName := ⟨"PatternColumns", "boundByPrices", "()I"⟩
abbrev cS_priceOfAll : ByteArray := prog_4_method_7_code
abbrev yS_priceOfAll : MethodName := ⟨"PatternColumns$Slabs", "priceOfAll", "()I"⟩
abbrev cP_roundedUp : ByteArray := prog_1_method_21_code
abbrev yP_roundedUp : MethodName := ⟨"PatternColumns", "roundedUp", "(II)I"⟩
abbrev cL_sheet : ByteArray := method_3_code
abbrev yL_sheet : MethodName := ⟨"PatternColumnsLaw", "sheet", "(LPatternColumns;I)I"⟩
abbrev cP_sheet : ByteArray := prog_1_method_2_code
abbrev yP_sheet : MethodName := ⟨"PatternColumns", "sheet", "(I)V"⟩
abbrev cP_forgetAnswers : ByteArray := prog_1_method_17_code
abbrev yP_forgetAnswers : MethodName := ⟨"PatternColumns", "forgetAnswers", "()V"⟩
abbrev cD_forget : ByteArray := prog_2_method_2_code
abbrev yD_forget : MethodName := ⟨"PatternColumns$DearestPattern", "forget", "()V"⟩
abbrev cG_forget : ByteArray := prog_3_method_2_code
abbrev yG_forget : MethodName := ⟨"PatternColumns$Designing", "forget", "()V"⟩
abbrev cL_order : ByteArray := method_4_code
abbrev yL_order : MethodName := ⟨"PatternColumnsLaw", "order", "(LPatternColumns;II[J)I"⟩
abbrev cP_order : ByteArray := prog_1_method_3_code
abbrev yP_order : MethodName := ⟨"PatternColumns", "order", "(II)I"⟩
abbrev cS_add : ByteArray := prog_4_method_3_code
abbrev yS_add : MethodName := ⟨"PatternColumns$Slabs", "add", "(II)I"⟩
abbrev cL_pieces : ByteArray := method_5_code
abbrev yL_pieces : MethodName := ⟨"PatternColumnsLaw", "pieces", "(LPatternColumns;II)I"⟩
abbrev cP_pieces : ByteArray := prog_1_method_4_code
abbrev yP_pieces : MethodName := ⟨"PatternColumns", "pieces", "(II)V"⟩
abbrev cS_has : ByteArray := prog_4_method_2_code
abbrev yS_has : MethodName := ⟨"PatternColumns$Slabs", "has", "(I)Z"⟩
abbrev cL_price : ByteArray := method_6_code
abbrev yL_price : MethodName := ⟨"PatternColumnsLaw", "price", "(LPatternColumns;II)I"⟩
abbrev cP_price : ByteArray := prog_1_method_5_code
abbrev yP_price : MethodName := ⟨"PatternColumns", "price", "(II)V"⟩
abbrev cL_columnOf : ByteArray := method_7_code
abbrev yL_columnOf : MethodName := ⟨"PatternColumnsLaw", "columnOf", "(LPatternColumns;I[J)I"⟩
abbrev cP_columnOf : ByteArray := prog_1_method_7_code
abbrev yP_columnOf : MethodName := ⟨"PatternColumns", "columnOf", "(I)I"⟩
abbrev cD_piecesOf : ByteArray := prog_2_method_4_code
abbrev yD_piecesOf : MethodName := ⟨"PatternColumns$DearestPattern", "piecesOf", "(I)I"⟩
abbrev cL_design : ByteArray := method_8_code
abbrev yL_design : MethodName := ⟨"PatternColumnsLaw", "design", "(LPatternColumns;I[J)I"⟩
abbrev cP_design : ByteArray := prog_1_method_9_code
abbrev yP_design : MethodName := ⟨"PatternColumns", "design", "(I)I"⟩
abbrev cS_somePieceIsTooWide : ByteArray := prog_4_method_9_code
abbrev yS_somePieceIsTooWide : MethodName := ⟨"PatternColumns$Slabs", "somePieceIsTooWide", "()Z"⟩
abbrev cG_run : ByteArray := prog_3_method_3_code
abbrev yG_run : MethodName := ⟨"PatternColumns$Designing", "run", "(I)V"⟩
abbrev cS_widthOfAll : ByteArray := prog_4_method_5_code
abbrev yS_widthOfAll : MethodName := ⟨"PatternColumns$Slabs", "widthOfAll", "()I"⟩
abbrev cG_opens : ByteArray := prog_3_method_4_code
abbrev yG_opens : MethodName := ⟨"PatternColumns$Designing", "opens", "(I)Z"⟩
abbrev cS_sheetsFor : ByteArray := prog_4_method_8_code
abbrev yS_sheetsFor : MethodName := ⟨"PatternColumns$Slabs", "sheetsFor", "(I)I"⟩
abbrev cG_takeAsBest : ByteArray := prog_3_method_9_code
abbrev yG_takeAsBest : MethodName := ⟨"PatternColumns$Designing", "takeAsBest", "(I)V"⟩
abbrev cG_lay : ByteArray := prog_3_method_7_code
abbrev yG_lay : MethodName := ⟨"PatternColumns$Designing", "lay", "([I)V"⟩
abbrev cS_widthOf : ByteArray := prog_4_method_4_code
abbrev yS_widthOf : MethodName := ⟨"PatternColumns$Slabs", "widthOf", "([I)I"⟩
abbrev cG_takeBack : ByteArray := prog_3_method_8_code
abbrev yG_takeBack : MethodName := ⟨"PatternColumns$Designing", "takeBack", "([I)V"⟩
abbrev cG_goesOn : ByteArray := prog_3_method_5_code
abbrev yG_goesOn : MethodName := ⟨"PatternColumns$Designing", "goesOn", "([I)Z"⟩
abbrev cG_lowestLeft : ByteArray := prog_3_method_6_code
abbrev yG_lowestLeft : MethodName := ⟨"PatternColumns$Designing", "lowestLeft", "()I"⟩
abbrev cL_designed : ByteArray := method_9_code
abbrev yL_designed : MethodName := ⟨"PatternColumnsLaw", "designed", "(LPatternColumns;I[J)I"⟩
abbrev cP_designed : ByteArray := prog_1_method_10_code
abbrev yP_designed : MethodName := ⟨"PatternColumns", "designed", "(I)I"⟩
abbrev cL_gap : ByteArray := method_10_code
abbrev yL_gap : MethodName := ⟨"PatternColumnsLaw", "gap", "(LPatternColumns;[J)I"⟩
abbrev cP_gap : ByteArray := prog_1_method_11_code
abbrev yP_gap : MethodName := ⟨"PatternColumns", "gap", "()I"⟩
abbrev cP_requireDesign : ByteArray := prog_1_method_19_code
abbrev yP_requireDesign : MethodName := ⟨"PatternColumns", "requireDesign", "()V"⟩
abbrev cL_cut : ByteArray := method_11_code
abbrev yL_cut : MethodName := ⟨"PatternColumnsLaw", "cut", "(LPatternColumns;II[J)I"⟩
abbrev cP_cut : ByteArray := prog_1_method_12_code
abbrev yP_cut : MethodName := ⟨"PatternColumns", "cut", "(II)I"⟩
abbrev cP_requireSheet : ByteArray := prog_1_method_20_code
abbrev yP_requireSheet : MethodName := ⟨"PatternColumns", "requireSheet", "(I)V"⟩
abbrev cL_over : ByteArray := method_12_code
abbrev yL_over : MethodName := ⟨"PatternColumnsLaw", "over", "(LPatternColumns;I[J)I"⟩
abbrev cP_over : ByteArray := prog_1_method_13_code
abbrev yP_over : MethodName := ⟨"PatternColumns", "over", "(I)I"⟩
abbrev cL_keep : ByteArray := method_13_code
abbrev yL_keep : MethodName := ⟨"PatternColumnsLaw", "keep", "(LPatternColumns;II[J)I"⟩
abbrev cP_keep : ByteArray := prog_1_method_14_code
abbrev yP_keep : MethodName := ⟨"PatternColumns", "keep", "(II)I"⟩
abbrev cT_find : ByteArray := prog_5_method_2_code
abbrev yT_find : MethodName := ⟨"PatternColumns$Store", "find", "([I)I"⟩
abbrev cT_same : ByteArray := prog_5_method_5_code
abbrev yT_same : MethodName := ⟨"PatternColumns$Store", "same", "([I[I)Z"⟩
abbrev cT_countAgain : ByteArray := prog_5_method_3_code
abbrev yT_countAgain : MethodName := ⟨"PatternColumns$Store", "countAgain", "(II)V"⟩
abbrev cT_add : ByteArray := prog_5_method_4_code
abbrev yT_add : MethodName := ⟨"PatternColumns$Store", "add", "([II)I"⟩
abbrev cL_kept : ByteArray := method_14_code
abbrev yL_kept : MethodName := ⟨"PatternColumnsLaw", "kept", "(LPatternColumns;II[J)I"⟩
abbrev cP_kept : ByteArray := prog_1_method_15_code
abbrev yP_kept : MethodName := ⟨"PatternColumns", "kept", "(II)I"⟩
abbrev cL_fitting : ByteArray := method_15_code
abbrev yL_fitting : MethodName := ⟨"PatternColumnsLaw", "fitting", "(LPatternColumns;I[J)I"⟩
abbrev cP_fitting : ByteArray := prog_1_method_16_code
abbrev yP_fitting : MethodName := ⟨"PatternColumns", "fitting", "(I)I"⟩
abbrev cS_isPattern : ByteArray := prog_4_method_10_code
abbrev yS_isPattern : MethodName := ⟨"PatternColumns$Slabs", "isPattern", "([I)Z"⟩
abbrev cM_init : ByteArray := prog_7_method_1_code
abbrev yM_init : MethodName := ⟨"PatternColumnsModel", "<init>", "()V"⟩
abbrev cM_thrown : ByteArray := prog_7_method_2_code
abbrev yM_thrown : MethodName := ⟨"PatternColumnsModel", "thrown", "()I"⟩
abbrev cM_sheet : ByteArray := prog_7_method_7_code
abbrev yM_sheet : MethodName := ⟨"PatternColumnsModel", "sheet", "(I)V"⟩
abbrev cM_in : ByteArray := prog_7_method_4_code
abbrev yM_in : MethodName := ⟨"PatternColumnsModel", "in", "(III)Z"⟩
abbrev cM_throwing : ByteArray := prog_7_method_3_code
abbrev yM_throwing : MethodName := ⟨"PatternColumnsModel", "throwing", "(ZZZZ)Z"⟩
abbrev cM_forget : ByteArray := prog_7_method_6_code
abbrev yM_forget : MethodName := ⟨"PatternColumnsModel", "forget", "()V"⟩
abbrev cM_order : ByteArray := prog_7_method_8_code
abbrev yM_order : MethodName := ⟨"PatternColumnsModel", "order", "(II)I"⟩
abbrev cM_pieces : ByteArray := prog_7_method_9_code
abbrev yM_pieces : MethodName := ⟨"PatternColumnsModel", "pieces", "(II)V"⟩
abbrev cM_isOrder : ByteArray := prog_7_method_5_code
abbrev yM_isOrder : MethodName := ⟨"PatternColumnsModel", "isOrder", "(I)Z"⟩
abbrev cM_price : ByteArray := prog_7_method_10_code
abbrev yM_price : MethodName := ⟨"PatternColumnsModel", "price", "(II)V"⟩
abbrev cM_column : ByteArray := prog_7_method_16_code
abbrev yM_column : MethodName := ⟨"PatternColumnsModel", "column", "()I"⟩
abbrev cM_findColumn : ByteArray := prog_7_method_15_code
abbrev yM_findColumn : MethodName := ⟨"PatternColumnsModel", "findColumn", "()I"⟩
abbrev cM_fill : ByteArray := prog_7_method_12_code
abbrev yM_fill : MethodName := ⟨"PatternColumnsModel", "fill", "(II)V"⟩
abbrev cM_roomAt : ByteArray := prog_7_method_11_code
abbrev yM_roomAt : MethodName := ⟨"PatternColumnsModel", "roomAt", "(II)I"⟩
abbrev cM_sumAt : ByteArray := prog_7_method_14_code
abbrev yM_sumAt : MethodName := ⟨"PatternColumnsModel", "sumAt", "(I)I"⟩
abbrev cM_goesDown : ByteArray := prog_7_method_13_code
abbrev yM_goesDown : MethodName := ⟨"PatternColumnsModel", "goesDown", "(I)Z"⟩
abbrev cM_columnOf : ByteArray := prog_7_method_17_code
abbrev yM_columnOf : MethodName := ⟨"PatternColumnsModel", "columnOf", "(I)I"⟩
abbrev cM_bound : ByteArray := prog_7_method_19_code
abbrev yM_bound : MethodName := ⟨"PatternColumnsModel", "bound", "()I"⟩
abbrev cM_boundNow : ByteArray := prog_7_method_18_code
abbrev yM_boundNow : MethodName := ⟨"PatternColumnsModel", "boundNow", "()I"⟩
abbrev cM_design : ByteArray := prog_7_method_25_code
abbrev yM_design : MethodName := ⟨"PatternColumnsModel", "design", "(I)I"⟩
abbrev cM_search : ByteArray := prog_7_method_24_code
abbrev yM_search : MethodName := ⟨"PatternColumnsModel", "search", "(I)V"⟩
abbrev cM_goesOn : ByteArray := prog_7_method_23_code
abbrev yM_goesOn : MethodName := ⟨"PatternColumnsModel", "goesOn", "(I)Z"⟩
abbrev cM_sheetsFor : ByteArray := prog_7_method_20_code
abbrev yM_sheetsFor : MethodName := ⟨"PatternColumnsModel", "sheetsFor", "(I)I"⟩
abbrev cM_isNothingLeft : ByteArray := prog_7_method_21_code
abbrev yM_isNothingLeft : MethodName := ⟨"PatternColumnsModel", "isNothingLeft", "(I)Z"⟩
abbrev cM_lowestLeft : ByteArray := prog_7_method_22_code
abbrev yM_lowestLeft : MethodName := ⟨"PatternColumnsModel", "lowestLeft", "(I)I"⟩
abbrev cM_designed : ByteArray := prog_7_method_26_code
abbrev yM_designed : MethodName := ⟨"PatternColumnsModel", "designed", "(I)I"⟩
abbrev cM_gap : ByteArray := prog_7_method_27_code
abbrev yM_gap : MethodName := ⟨"PatternColumnsModel", "gap", "()I"⟩
abbrev cM_cut : ByteArray := prog_7_method_29_code
abbrev yM_cut : MethodName := ⟨"PatternColumnsModel", "cut", "(II)I"⟩
abbrev cM_refuses : ByteArray := prog_7_method_28_code
abbrev yM_refuses : MethodName := ⟨"PatternColumnsModel", "refuses", "(IZ)Z"⟩
abbrev cM_over : ByteArray := prog_7_method_30_code
abbrev yM_over : MethodName := ⟨"PatternColumnsModel", "over", "(I)I"⟩
abbrev cM_keep : ByteArray := prog_7_method_32_code
abbrev yM_keep : MethodName := ⟨"PatternColumnsModel", "keep", "(II)I"⟩
abbrev cM_keptAs : ByteArray := prog_7_method_31_code
abbrev yM_keptAs : MethodName := ⟨"PatternColumnsModel", "keptAs", "(I)I"⟩
abbrev cM_kept : ByteArray := prog_7_method_33_code
abbrev yM_kept : MethodName := ⟨"PatternColumnsModel", "kept", "(II)I"⟩
abbrev cM_fitting : ByteArray := prog_7_method_34_code
abbrev yM_fitting : MethodName := ⟨"PatternColumnsModel", "fitting", "(I)I"⟩
abbrev cL_law : ByteArray := code
abbrev yL_law : MethodName := ⟨"PatternColumnsLaw", "law", "([I)Z"⟩
/-! the words -/
def pq_W : List Cond := lw_tbl.filter goodWord
theorem pq_in {w : Cond} (i : Nat) (h : tables_1[i]? = some w) (hg : goodWord w = true) : w ∈ pq_W := List.mem_filter.mpr ⟨List.mem_append_right _ (List.mem_of_getElem? h), hg⟩
theorem pq_sel {w : Cond} (i : Nat) (h : (k2_sels lw_privs)[i]? = some w) (hg : goodWord w = true) : w ∈ pq_W := List.mem_filter.mpr ⟨List.mem_append_left _ (List.mem_of_getElem? h), hg⟩
theorem pq_Wtbl {w : Cond} (h : w ∈ pq_W) : w ∈ lw_tbl := (List.mem_filter.mp h).1
theorem pq_Wgood {w : Cond} (h : w ∈ pq_W) : goodWord w = true := (List.mem_filter.mp h).2
theorem ws_0 : Cond.selects "PatternColumns$DearestPattern" ⟨"PatternColumns$DearestPattern", "seek", "()V"⟩ ⟨"PatternColumns$DearestPattern", "seek", "()V"⟩ ∈ pq_W := pq_sel 0 (by decide +kernel) (by decide +kernel)
theorem ws_1 : Cond.selects "PatternColumns$Slabs" ⟨"PatternColumns$Slabs", "fillFrom", "(I[I[I)V"⟩ ⟨"PatternColumns$Slabs", "fillFrom", "(I[I[I)V"⟩ ∈ pq_W := pq_sel 1 (by decide +kernel) (by decide +kernel)
theorem ws_2 : Cond.selects "PatternColumns$Slabs" ⟨"PatternColumns$Slabs", "widthOfFirst", "([II)I"⟩ ⟨"PatternColumns$Slabs", "widthOfFirst", "([II)I"⟩ ∈ pq_W := pq_sel 2 (by decide +kernel) (by decide +kernel)
theorem ws_3 : Cond.selects "PatternColumns$DearestPattern" ⟨"PatternColumns$DearestPattern", "take", "(I)V"⟩ ⟨"PatternColumns$DearestPattern", "take", "(I)V"⟩ ∈ pq_W := pq_sel 3 (by decide +kernel) (by decide +kernel)
theorem ws_4 : Cond.selects "PatternColumns" ⟨"PatternColumns", "boundByPrices", "()I"⟩ ⟨"PatternColumns", "boundByPrices", "()I"⟩ ∈ pq_W := pq_sel 4 (by decide +kernel) (by decide +kernel)
theorem ws_5 : Cond.selects "java/lang/Throwable" ⟨"java/lang/Throwable", "fillInStackTrace", "(I)Ljava/lang/Throwable;"⟩ ⟨"java/lang/Throwable", "fillInStackTrace", "(I)Ljava/lang/Throwable;"⟩ ∈ pq_W := pq_sel 5 (by decide +kernel) (by decide +kernel)
theorem ws_6 : Cond.selects "PatternColumns" ⟨"PatternColumns", "forgetAnswers", "()V"⟩ ⟨"PatternColumns", "forgetAnswers", "()V"⟩ ∈ pq_W := pq_sel 6 (by decide +kernel) (by decide +kernel)
theorem ws_7 : Cond.selects "PatternColumns$Designing" ⟨"PatternColumns$Designing", "opens", "(I)Z"⟩ ⟨"PatternColumns$Designing", "opens", "(I)Z"⟩ ∈ pq_W := pq_sel 7 (by decide +kernel) (by decide +kernel)
theorem ws_8 : Cond.selects "PatternColumns$Designing" ⟨"PatternColumns$Designing", "takeAsBest", "(I)V"⟩ ⟨"PatternColumns$Designing", "takeAsBest", "(I)V"⟩ ∈ pq_W := pq_sel 8 (by decide +kernel) (by decide +kernel)
theorem ws_9 : Cond.selects "PatternColumns$Designing" ⟨"PatternColumns$Designing", "lay", "([I)V"⟩ ⟨"PatternColumns$Designing", "lay", "([I)V"⟩ ∈ pq_W := pq_sel 9 (by decide +kernel) (by decide +kernel)
theorem ws_10 : Cond.selects "PatternColumns$Designing" ⟨"PatternColumns$Designing", "takeBack", "([I)V"⟩ ⟨"PatternColumns$Designing", "takeBack", "([I)V"⟩ ∈ pq_W := pq_sel 10 (by decide +kernel) (by decide +kernel)
theorem ws_11 : Cond.selects "PatternColumns$Designing" ⟨"PatternColumns$Designing", "goesOn", "([I)Z"⟩ ⟨"PatternColumns$Designing", "goesOn", "([I)Z"⟩ ∈ pq_W := pq_sel 11 (by decide +kernel) (by decide +kernel)
theorem ws_12 : Cond.selects "PatternColumns$Designing" ⟨"PatternColumns$Designing", "lowestLeft", "()I"⟩ ⟨"PatternColumns$Designing", "lowestLeft", "()I"⟩ ∈ pq_W := pq_sel 12 (by decide +kernel) (by decide +kernel)
theorem ws_13 : Cond.selects "PatternColumns" ⟨"PatternColumns", "requireDesign", "()V"⟩ ⟨"PatternColumns", "requireDesign", "()V"⟩ ∈ pq_W := pq_sel 13 (by decide +kernel) (by decide +kernel)
theorem ws_14 : Cond.selects "PatternColumns" ⟨"PatternColumns", "requireSheet", "(I)V"⟩ ⟨"PatternColumns", "requireSheet", "(I)V"⟩ ∈ pq_W := pq_sel 14 (by decide +kernel) (by decide +kernel)
theorem ws_15 : Cond.selects "PatternColumnsModel" ⟨"PatternColumnsModel", "throwing", "(ZZZZ)Z"⟩ ⟨"PatternColumnsModel", "throwing", "(ZZZZ)Z"⟩ ∈ pq_W := pq_sel 15 (by decide +kernel) (by decide +kernel)
theorem ws_16 : Cond.selects "PatternColumnsModel" ⟨"PatternColumnsModel", "forget", "()V"⟩ ⟨"PatternColumnsModel", "forget", "()V"⟩ ∈ pq_W := pq_sel 16 (by decide +kernel) (by decide +kernel)
theorem ws_17 : Cond.selects "PatternColumnsModel" ⟨"PatternColumnsModel", "isOrder", "(I)Z"⟩ ⟨"PatternColumnsModel", "isOrder", "(I)Z"⟩ ∈ pq_W := pq_sel 17 (by decide +kernel) (by decide +kernel)
theorem ws_18 : Cond.selects "PatternColumnsModel" ⟨"PatternColumnsModel", "findColumn", "()I"⟩ ⟨"PatternColumnsModel", "findColumn", "()I"⟩ ∈ pq_W := pq_sel 18 (by decide +kernel) (by decide +kernel)
theorem ws_19 : Cond.selects "PatternColumnsModel" ⟨"PatternColumnsModel", "fill", "(II)V"⟩ ⟨"PatternColumnsModel", "fill", "(II)V"⟩ ∈ pq_W := pq_sel 19 (by decide +kernel) (by decide +kernel)
theorem ws_20 : Cond.selects "PatternColumnsModel" ⟨"PatternColumnsModel", "roomAt", "(II)I"⟩ ⟨"PatternColumnsModel", "roomAt", "(II)I"⟩ ∈ pq_W := pq_sel 20 (by decide +kernel) (by decide +kernel)
theorem ws_21 : Cond.selects "PatternColumnsModel" ⟨"PatternColumnsModel", "sumAt", "(I)I"⟩ ⟨"PatternColumnsModel", "sumAt", "(I)I"⟩ ∈ pq_W := pq_sel 21 (by decide +kernel) (by decide +kernel)
theorem ws_22 : Cond.selects "PatternColumnsModel" ⟨"PatternColumnsModel", "goesDown", "(I)Z"⟩ ⟨"PatternColumnsModel", "goesDown", "(I)Z"⟩ ∈ pq_W := pq_sel 22 (by decide +kernel) (by decide +kernel)
theorem ws_23 : Cond.selects "PatternColumnsModel" ⟨"PatternColumnsModel", "boundNow", "()I"⟩ ⟨"PatternColumnsModel", "boundNow", "()I"⟩ ∈ pq_W := pq_sel 23 (by decide +kernel) (by decide +kernel)
theorem ws_24 : Cond.selects "PatternColumnsModel" ⟨"PatternColumnsModel", "search", "(I)V"⟩ ⟨"PatternColumnsModel", "search", "(I)V"⟩ ∈ pq_W := pq_sel 24 (by decide +kernel) (by decide +kernel)
theorem ws_25 : Cond.selects "PatternColumnsModel" ⟨"PatternColumnsModel", "goesOn", "(I)Z"⟩ ⟨"PatternColumnsModel", "goesOn", "(I)Z"⟩ ∈ pq_W := pq_sel 25 (by decide +kernel) (by decide +kernel)
theorem ws_26 : Cond.selects "PatternColumnsModel" ⟨"PatternColumnsModel", "sheetsFor", "(I)I"⟩ ⟨"PatternColumnsModel", "sheetsFor", "(I)I"⟩ ∈ pq_W := pq_sel 26 (by decide +kernel) (by decide +kernel)
theorem ws_27 : Cond.selects "PatternColumnsModel" ⟨"PatternColumnsModel", "isNothingLeft", "(I)Z"⟩ ⟨"PatternColumnsModel", "isNothingLeft", "(I)Z"⟩ ∈ pq_W := pq_sel 27 (by decide +kernel) (by decide +kernel)
theorem ws_28 : Cond.selects "PatternColumnsModel" ⟨"PatternColumnsModel", "lowestLeft", "(I)I"⟩ ⟨"PatternColumnsModel", "lowestLeft", "(I)I"⟩ ∈ pq_W := pq_sel 28 (by decide +kernel) (by decide +kernel)
theorem ws_29 : Cond.selects "PatternColumnsModel" ⟨"PatternColumnsModel", "refuses", "(IZ)Z"⟩ ⟨"PatternColumnsModel", "refuses", "(IZ)Z"⟩ ∈ pq_W := pq_sel 29 (by decide +kernel) (by decide +kernel)
theorem ws_30 : Cond.selects "PatternColumnsModel" ⟨"PatternColumnsModel", "keptAs", "(I)I"⟩ ⟨"PatternColumnsModel", "keptAs", "(I)I"⟩ ∈ pq_W := pq_sel 30 (by decide +kernel) (by decide +kernel)
theorem ww_0 : (Jvm.Cond.initialized "PatternColumnsLaw") ∈ pq_W := pq_in 0 (by decide +kernel) (by decide +kernel)
theorem ww_1 : (Jvm.Cond.initialized "PatternColumns") ∈ pq_W := pq_in 1 (by decide +kernel) (by decide +kernel)
theorem ww_2 : (Jvm.Cond.initialized "PatternColumns$Slabs") ∈ pq_W := pq_in 2 (by decide +kernel) (by decide +kernel)
theorem ww_3 : (Jvm.Cond.initialized "PatternColumns$DearestPattern") ∈ pq_W := pq_in 3 (by decide +kernel) (by decide +kernel)
theorem ww_4 : (Jvm.Cond.initialized "PatternColumns$Designing") ∈ pq_W := pq_in 4 (by decide +kernel) (by decide +kernel)
theorem ww_5 : (Jvm.Cond.initialized "PatternColumns$Store") ∈ pq_W := pq_in 5 (by decide +kernel) (by decide +kernel)
theorem ww_6 : (Jvm.Cond.initialized "PatternColumnsModel") ∈ pq_W := pq_in 6 (by decide +kernel) (by decide +kernel)
theorem ww_7 : (Jvm.Cond.initialized "java/lang/Throwable") ∈ pq_W := pq_in 7 (by decide +kernel) (by decide +kernel)
theorem ww_8 : (Jvm.Cond.initialized "java/lang/Exception") ∈ pq_W := pq_in 8 (by decide +kernel) (by decide +kernel)
theorem ww_9 : (Jvm.Cond.initialized "java/lang/RuntimeException") ∈ pq_W := pq_in 9 (by decide +kernel) (by decide +kernel)
theorem ww_10 : (Jvm.Cond.initialized "java/lang/IllegalArgumentException") ∈ pq_W := pq_in 10 (by decide +kernel) (by decide +kernel)
theorem ww_11 : (Jvm.Cond.initialized "java/lang/IllegalStateException") ∈ pq_W := pq_in 11 (by decide +kernel) (by decide +kernel)
theorem ww_12 : (Jvm.Cond.initialized "java/lang/IndexOutOfBoundsException") ∈ pq_W := pq_in 12 (by decide +kernel) (by decide +kernel)
theorem ww_13 : (Jvm.Cond.initialized "java/lang/Math") ∈ pq_W := pq_in 13 (by decide +kernel) (by decide +kernel)
theorem ww_14 : (Jvm.Cond.initialized "java/lang/System") ∈ pq_W := pq_in 14 (by decide +kernel) (by decide +kernel)
theorem ww_15 : (Jvm.Cond.initialized "java/lang/UnsupportedOperationException") ∈ pq_W := pq_in 15 (by decide +kernel) (by decide +kernel)
theorem ww_16 : (Jvm.Cond.classLink "PatternColumnsLaw" (8 : Nat) "PatternColumns") ∈ pq_W := pq_in 16 (by decide +kernel) (by decide +kernel)
theorem ww_17 : (Jvm.Cond.instantiable "PatternColumns" (4 : Nat)) ∈ pq_W := pq_in 17 (by decide +kernel) (by decide +kernel)
theorem ww_18 : (Jvm.Cond.methodLink "PatternColumnsLaw" (61 : Nat) ({ cls := "PatternColumns", name := "<init>", desc := "()V" } : Jvm.MethodName)) ∈ pq_W := pq_in 18 (by decide +kernel) (by decide +kernel)
theorem ww_19 : (Jvm.Cond.instanceMethod ({ cls := "PatternColumns", name := "<init>", desc := "()V" } : Jvm.MethodName)) ∈ pq_W := pq_in 19 (by decide +kernel) (by decide +kernel)
theorem ww_20 : (Jvm.Cond.code ({ cls := "PatternColumns", name := "<init>", desc := "()V" } : Jvm.MethodName) prog_1_method_1_code (1 : Nat) (Option.none : Option Jvm.ClassFile.FieldType)) ∈ pq_W := pq_in 20 (by decide +kernel) (by decide +kernel)
theorem ww_21 : (Jvm.Cond.methodLink "PatternColumns" (3 : Nat) ({ cls := "java/lang/Object", name := "<init>", desc := "()V" } : Jvm.MethodName)) ∈ pq_W := pq_in 21 (by decide +kernel) (by decide +kernel)
theorem ww_22 : (Jvm.Cond.instanceMethod ({ cls := "java/lang/Object", name := "<init>", desc := "()V" } : Jvm.MethodName)) ∈ pq_W := pq_in 22 (by decide +kernel) (by decide +kernel)
theorem ww_23 : (Jvm.Cond.code ({ cls := "java/lang/Object", name := "<init>", desc := "()V" } : Jvm.MethodName) object_method_1_code (1 : Nat) (Option.none : Option Jvm.ClassFile.FieldType)) ∈ pq_W := pq_in 23 (by decide +kernel) (by decide +kernel)
theorem ww_24 : (Jvm.Cond.classLink "PatternColumns" (9 : Nat) "PatternColumns$Slabs") ∈ pq_W := pq_in 24 (by decide +kernel) (by decide +kernel)
theorem ww_25 : (Jvm.Cond.instantiable "PatternColumns$Slabs" (5 : Nat)) ∈ pq_W := pq_in 25 (by decide +kernel) (by decide +kernel)
theorem ww_26 : (Jvm.Cond.methodLink "PatternColumns" (11 : Nat) ({ cls := "PatternColumns$Slabs", name := "<init>", desc := "()V" } : Jvm.MethodName)) ∈ pq_W := pq_in 26 (by decide +kernel) (by decide +kernel)
theorem ww_27 : (Jvm.Cond.instanceMethod ({ cls := "PatternColumns$Slabs", name := "<init>", desc := "()V" } : Jvm.MethodName)) ∈ pq_W := pq_in 27 (by decide +kernel) (by decide +kernel)
theorem ww_28 : (Jvm.Cond.code ({ cls := "PatternColumns$Slabs", name := "<init>", desc := "()V" } : Jvm.MethodName) prog_4_method_1_code (1 : Nat) (Option.none : Option Jvm.ClassFile.FieldType)) ∈ pq_W := pq_in 28 (by decide +kernel) (by decide +kernel)
theorem ww_29 : (Jvm.Cond.methodLink "PatternColumns$Slabs" (3 : Nat) ({ cls := "java/lang/Object", name := "<init>", desc := "()V" } : Jvm.MethodName)) ∈ pq_W := pq_in 29 (by decide +kernel) (by decide +kernel)
theorem ww_30 : (Jvm.Cond.fieldLink "PatternColumns$Slabs" (9 : Nat) "PatternColumns$Slabs" "sheetWidth" "I") ∈ pq_W := pq_in 30 (by decide +kernel) (by decide +kernel)
theorem ww_31 : (Jvm.Cond.fieldLink "PatternColumns" (46 : Nat) "PatternColumns$Slabs" "sheetWidth" "I") ∈ pq_W := pq_in 31 (by decide +kernel) (by decide +kernel)
theorem ww_32 : (Jvm.Cond.fieldLink "PatternColumns$Slabs" (25 : Nat) "PatternColumns$Slabs" "count" "I") ∈ pq_W := pq_in 32 (by decide +kernel) (by decide +kernel)
theorem ww_33 : (Jvm.Cond.fieldLink "PatternColumns" (53 : Nat) "PatternColumns$Slabs" "count" "I") ∈ pq_W := pq_in 33 (by decide +kernel) (by decide +kernel)
theorem ww_34 : (Jvm.Cond.fieldLink "PatternColumns$Designing" (90 : Nat) "PatternColumns$Slabs" "count" "I") ∈ pq_W := pq_in 34 (by decide +kernel) (by decide +kernel)
theorem ww_35 : (Jvm.Cond.fieldLink "PatternColumns$DearestPattern" (50 : Nat) "PatternColumns$Slabs" "count" "I") ∈ pq_W := pq_in 35 (by decide +kernel) (by decide +kernel)
theorem ww_36 : (Jvm.Cond.fieldLink "PatternColumns$Slabs" (15 : Nat) "PatternColumns$Slabs" "widths" "[I") ∈ pq_W := pq_in 36 (by decide +kernel) (by decide +kernel)
theorem ww_37 : (Jvm.Cond.fieldLink "PatternColumns$Slabs" (19 : Nat) "PatternColumns$Slabs" "numbers" "[I") ∈ pq_W := pq_in 37 (by decide +kernel) (by decide +kernel)
theorem ww_38 : (Jvm.Cond.fieldLink "PatternColumns$Designing" (44 : Nat) "PatternColumns$Slabs" "numbers" "[I") ∈ pq_W := pq_in 38 (by decide +kernel) (by decide +kernel)
theorem ww_39 : (Jvm.Cond.fieldLink "PatternColumns" (78 : Nat) "PatternColumns$Slabs" "numbers" "[I") ∈ pq_W := pq_in 39 (by decide +kernel) (by decide +kernel)
theorem ww_40 : (Jvm.Cond.fieldLink "PatternColumns$DearestPattern" (33 : Nat) "PatternColumns$Slabs" "numbers" "[I") ∈ pq_W := pq_in 40 (by decide +kernel) (by decide +kernel)
theorem ww_41 : (Jvm.Cond.fieldLink "PatternColumns$Slabs" (22 : Nat) "PatternColumns$Slabs" "prices" "[I") ∈ pq_W := pq_in 41 (by decide +kernel) (by decide +kernel)
theorem ww_42 : (Jvm.Cond.fieldLink "PatternColumns" (84 : Nat) "PatternColumns$Slabs" "prices" "[I") ∈ pq_W := pq_in 42 (by decide +kernel) (by decide +kernel)
theorem ww_43 : (Jvm.Cond.lays "PatternColumns$Slabs" "PatternColumns$Slabs" "sheetWidth" "I") ∈ pq_W := pq_in 43 (by decide +kernel) (by decide +kernel)
theorem ww_45 : (Jvm.Cond.lays "PatternColumns$Slabs" "PatternColumns$Slabs" "count" "I") ∈ pq_W := pq_in 45 (by decide +kernel) (by decide +kernel)
theorem ww_47 : (Jvm.Cond.laysFinal "PatternColumns$Slabs" "PatternColumns$Slabs" "widths" "[I") ∈ pq_W := pq_in 47 (by decide +kernel) (by decide +kernel)
theorem ww_49 : (Jvm.Cond.laysFinal "PatternColumns$Slabs" "PatternColumns$Slabs" "numbers" "[I") ∈ pq_W := pq_in 49 (by decide +kernel) (by decide +kernel)
theorem ww_51 : (Jvm.Cond.laysFinal "PatternColumns$Slabs" "PatternColumns$Slabs" "prices" "[I") ∈ pq_W := pq_in 51 (by decide +kernel) (by decide +kernel)
theorem ww_54 : (Jvm.Cond.arrayClass Jvm.ClassFile.FieldType.int) ∈ pq_W := pq_in 54 (by decide +kernel) (by decide +kernel)
theorem ww_55 : (Jvm.Cond.classLink "PatternColumns" (16 : Nat) "PatternColumns$DearestPattern") ∈ pq_W := pq_in 55 (by decide +kernel) (by decide +kernel)
theorem ww_56 : (Jvm.Cond.instantiable "PatternColumns$DearestPattern" (5 : Nat)) ∈ pq_W := pq_in 56 (by decide +kernel) (by decide +kernel)
theorem ww_57 : (Jvm.Cond.methodLink "PatternColumns" (18 : Nat) ({ cls := "PatternColumns$DearestPattern", name := "<init>", desc := "(LPatternColumns$Slabs;)V" } : Jvm.MethodName)) ∈ pq_W := pq_in 57 (by decide +kernel) (by decide +kernel)
theorem ww_58 : (Jvm.Cond.instanceMethod ({ cls := "PatternColumns$DearestPattern", name := "<init>", desc := "(LPatternColumns$Slabs;)V" } : Jvm.MethodName)) ∈ pq_W := pq_in 58 (by decide +kernel) (by decide +kernel)
theorem ww_59 : (Jvm.Cond.code ({ cls := "PatternColumns$DearestPattern", name := "<init>", desc := "(LPatternColumns$Slabs;)V" } : Jvm.MethodName) prog_2_method_1_code (2 : Nat) (Option.none : Option Jvm.ClassFile.FieldType)) ∈ pq_W := pq_in 59 (by decide +kernel) (by decide +kernel)
theorem ww_60 : (Jvm.Cond.methodLink "PatternColumns$DearestPattern" (3 : Nat) ({ cls := "java/lang/Object", name := "<init>", desc := "()V" } : Jvm.MethodName)) ∈ pq_W := pq_in 60 (by decide +kernel) (by decide +kernel)
theorem ww_61 : (Jvm.Cond.fieldLink "PatternColumns$DearestPattern" (9 : Nat) "PatternColumns$DearestPattern" "slabs" "LPatternColumns$Slabs;") ∈ pq_W := pq_in 61 (by decide +kernel) (by decide +kernel)
theorem ww_62 : (Jvm.Cond.fieldLink "PatternColumns$DearestPattern" (15 : Nat) "PatternColumns$DearestPattern" "pattern" "[I") ∈ pq_W := pq_in 62 (by decide +kernel) (by decide +kernel)
theorem ww_63 : (Jvm.Cond.fieldLink "PatternColumns$DearestPattern" (19 : Nat) "PatternColumns$DearestPattern" "tried" "[I") ∈ pq_W := pq_in 63 (by decide +kernel) (by decide +kernel)
theorem ww_64 : (Jvm.Cond.fieldLink "PatternColumns$DearestPattern" (29 : Nat) "PatternColumns$DearestPattern" "sum" "I") ∈ pq_W := pq_in 64 (by decide +kernel) (by decide +kernel)
theorem ww_65 : (Jvm.Cond.fieldLink "PatternColumns$DearestPattern" (22 : Nat) "PatternColumns$DearestPattern" "known" "Z") ∈ pq_W := pq_in 65 (by decide +kernel) (by decide +kernel)
theorem ww_66 : (Jvm.Cond.laysFinal "PatternColumns$DearestPattern" "PatternColumns$DearestPattern" "slabs" "LPatternColumns$Slabs;") ∈ pq_W := pq_in 66 (by decide +kernel) (by decide +kernel)
theorem ww_68 : (Jvm.Cond.laysFinal "PatternColumns$DearestPattern" "PatternColumns$DearestPattern" "pattern" "[I") ∈ pq_W := pq_in 68 (by decide +kernel) (by decide +kernel)
theorem ww_70 : (Jvm.Cond.laysFinal "PatternColumns$DearestPattern" "PatternColumns$DearestPattern" "tried" "[I") ∈ pq_W := pq_in 70 (by decide +kernel) (by decide +kernel)
theorem ww_72 : (Jvm.Cond.lays "PatternColumns$DearestPattern" "PatternColumns$DearestPattern" "sum" "I") ∈ pq_W := pq_in 72 (by decide +kernel) (by decide +kernel)
theorem ww_74 : (Jvm.Cond.lays "PatternColumns$DearestPattern" "PatternColumns$DearestPattern" "known" "Z") ∈ pq_W := pq_in 74 (by decide +kernel) (by decide +kernel)
theorem ww_77 : (Jvm.Cond.classLink "PatternColumns" (25 : Nat) "PatternColumns$Designing") ∈ pq_W := pq_in 77 (by decide +kernel) (by decide +kernel)
theorem ww_78 : (Jvm.Cond.instantiable "PatternColumns$Designing" (9 : Nat)) ∈ pq_W := pq_in 78 (by decide +kernel) (by decide +kernel)
theorem ww_79 : (Jvm.Cond.methodLink "PatternColumns" (27 : Nat) ({ cls := "PatternColumns$Designing", name := "<init>", desc := "(LPatternColumns$Slabs;)V" } : Jvm.MethodName)) ∈ pq_W := pq_in 79 (by decide +kernel) (by decide +kernel)
theorem ww_80 : (Jvm.Cond.instanceMethod ({ cls := "PatternColumns$Designing", name := "<init>", desc := "(LPatternColumns$Slabs;)V" } : Jvm.MethodName)) ∈ pq_W := pq_in 80 (by decide +kernel) (by decide +kernel)
theorem ww_81 : (Jvm.Cond.code ({ cls := "PatternColumns$Designing", name := "<init>", desc := "(LPatternColumns$Slabs;)V" } : Jvm.MethodName) prog_3_method_1_code (2 : Nat) (Option.none : Option Jvm.ClassFile.FieldType)) ∈ pq_W := pq_in 81 (by decide +kernel) (by decide +kernel)
theorem ww_82 : (Jvm.Cond.methodLink "PatternColumns$Designing" (3 : Nat) ({ cls := "java/lang/Object", name := "<init>", desc := "()V" } : Jvm.MethodName)) ∈ pq_W := pq_in 82 (by decide +kernel) (by decide +kernel)
theorem ww_83 : (Jvm.Cond.classLink "PatternColumns$Designing" (19 : Nat) "[[I") ∈ pq_W := pq_in 83 (by decide +kernel) (by decide +kernel)
theorem ww_85 : (Jvm.Cond.fieldLink "PatternColumns$Designing" (9 : Nat) "PatternColumns$Designing" "slabs" "LPatternColumns$Slabs;") ∈ pq_W := pq_in 85 (by decide +kernel) (by decide +kernel)
theorem ww_86 : (Jvm.Cond.fieldLink "PatternColumns$Designing" (15 : Nat) "PatternColumns$Designing" "left" "[I") ∈ pq_W := pq_in 86 (by decide +kernel) (by decide +kernel)
theorem ww_87 : (Jvm.Cond.fieldLink "PatternColumns$Designing" (59 : Nat) "PatternColumns$Designing" "leftWidth" "I") ∈ pq_W := pq_in 87 (by decide +kernel) (by decide +kernel)
theorem ww_88 : (Jvm.Cond.fieldLink "PatternColumns$Designing" (21 : Nat) "PatternColumns$Designing" "tried" "[[I") ∈ pq_W := pq_in 88 (by decide +kernel) (by decide +kernel)
theorem ww_89 : (Jvm.Cond.fieldLink "PatternColumns$Designing" (24 : Nat) "PatternColumns$Designing" "best" "[[I") ∈ pq_W := pq_in 89 (by decide +kernel) (by decide +kernel)
theorem ww_90 : (Jvm.Cond.fieldLink "PatternColumns" (151 : Nat) "PatternColumns$Designing" "best" "[[I") ∈ pq_W := pq_in 90 (by decide +kernel) (by decide +kernel)
theorem ww_91 : (Jvm.Cond.fieldLink "PatternColumns$Designing" (27 : Nat) "PatternColumns$Designing" "bestSheets" "I") ∈ pq_W := pq_in 91 (by decide +kernel) (by decide +kernel)
theorem ww_92 : (Jvm.Cond.fieldLink "PatternColumns" (117 : Nat) "PatternColumns$Designing" "bestSheets" "I") ∈ pq_W := pq_in 92 (by decide +kernel) (by decide +kernel)
theorem ww_93 : (Jvm.Cond.fieldLink "PatternColumns$Designing" (31 : Nat) "PatternColumns$Designing" "hasRun" "Z") ∈ pq_W := pq_in 93 (by decide +kernel) (by decide +kernel)
theorem ww_94 : (Jvm.Cond.fieldLink "PatternColumns" (122 : Nat) "PatternColumns$Designing" "hasRun" "Z") ∈ pq_W := pq_in 94 (by decide +kernel) (by decide +kernel)
theorem ww_95 : (Jvm.Cond.fieldLink "PatternColumns$Designing" (35 : Nat) "PatternColumns$Designing" "spent" "Z") ∈ pq_W := pq_in 95 (by decide +kernel) (by decide +kernel)
theorem ww_96 : (Jvm.Cond.fieldLink "PatternColumns" (128 : Nat) "PatternColumns$Designing" "spent" "Z") ∈ pq_W := pq_in 96 (by decide +kernel) (by decide +kernel)
theorem ww_97 : (Jvm.Cond.fieldLink "PatternColumns$Designing" (38 : Nat) "PatternColumns$Designing" "steps" "I") ∈ pq_W := pq_in 97 (by decide +kernel) (by decide +kernel)
theorem ww_98 : (Jvm.Cond.fieldLink "PatternColumns" (131 : Nat) "PatternColumns$Designing" "steps" "I") ∈ pq_W := pq_in 98 (by decide +kernel) (by decide +kernel)
theorem ww_99 : (Jvm.Cond.laysFinal "PatternColumns$Designing" "PatternColumns$Designing" "slabs" "LPatternColumns$Slabs;") ∈ pq_W := pq_in 99 (by decide +kernel) (by decide +kernel)
theorem ww_101 : (Jvm.Cond.laysFinal "PatternColumns$Designing" "PatternColumns$Designing" "left" "[I") ∈ pq_W := pq_in 101 (by decide +kernel) (by decide +kernel)
theorem ww_103 : (Jvm.Cond.lays "PatternColumns$Designing" "PatternColumns$Designing" "leftWidth" "I") ∈ pq_W := pq_in 103 (by decide +kernel) (by decide +kernel)
theorem ww_105 : (Jvm.Cond.laysFinal "PatternColumns$Designing" "PatternColumns$Designing" "tried" "[[I") ∈ pq_W := pq_in 105 (by decide +kernel) (by decide +kernel)
theorem ww_107 : (Jvm.Cond.laysFinal "PatternColumns$Designing" "PatternColumns$Designing" "best" "[[I") ∈ pq_W := pq_in 107 (by decide +kernel) (by decide +kernel)
theorem ww_109 : (Jvm.Cond.lays "PatternColumns$Designing" "PatternColumns$Designing" "bestSheets" "I") ∈ pq_W := pq_in 109 (by decide +kernel) (by decide +kernel)
theorem ww_111 : (Jvm.Cond.lays "PatternColumns$Designing" "PatternColumns$Designing" "hasRun" "Z") ∈ pq_W := pq_in 111 (by decide +kernel) (by decide +kernel)
theorem ww_113 : (Jvm.Cond.lays "PatternColumns$Designing" "PatternColumns$Designing" "spent" "Z") ∈ pq_W := pq_in 113 (by decide +kernel) (by decide +kernel)
theorem ww_115 : (Jvm.Cond.lays "PatternColumns$Designing" "PatternColumns$Designing" "steps" "I") ∈ pq_W := pq_in 115 (by decide +kernel) (by decide +kernel)
theorem ww_118 : (Jvm.Cond.classLink "PatternColumns" (32 : Nat) "PatternColumns$Store") ∈ pq_W := pq_in 118 (by decide +kernel) (by decide +kernel)
theorem ww_119 : (Jvm.Cond.instantiable "PatternColumns$Store" (4 : Nat)) ∈ pq_W := pq_in 119 (by decide +kernel) (by decide +kernel)
theorem ww_120 : (Jvm.Cond.methodLink "PatternColumns" (34 : Nat) ({ cls := "PatternColumns$Store", name := "<init>", desc := "()V" } : Jvm.MethodName)) ∈ pq_W := pq_in 120 (by decide +kernel) (by decide +kernel)
theorem ww_121 : (Jvm.Cond.instanceMethod ({ cls := "PatternColumns$Store", name := "<init>", desc := "()V" } : Jvm.MethodName)) ∈ pq_W := pq_in 121 (by decide +kernel) (by decide +kernel)
theorem ww_122 : (Jvm.Cond.code ({ cls := "PatternColumns$Store", name := "<init>", desc := "()V" } : Jvm.MethodName) prog_5_method_1_code (1 : Nat) (Option.none : Option Jvm.ClassFile.FieldType)) ∈ pq_W := pq_in 122 (by decide +kernel) (by decide +kernel)
theorem ww_123 : (Jvm.Cond.methodLink "PatternColumns$Store" (3 : Nat) ({ cls := "java/lang/Object", name := "<init>", desc := "()V" } : Jvm.MethodName)) ∈ pq_W := pq_in 123 (by decide +kernel) (by decide +kernel)
theorem ww_124 : (Jvm.Cond.classLink "PatternColumns$Store" (9 : Nat) "[[I") ∈ pq_W := pq_in 124 (by decide +kernel) (by decide +kernel)
theorem ww_125 : (Jvm.Cond.fieldLink "PatternColumns$Store" (23 : Nat) "PatternColumns$Store" "count" "I") ∈ pq_W := pq_in 125 (by decide +kernel) (by decide +kernel)
theorem ww_126 : (Jvm.Cond.fieldLink "PatternColumns" (168 : Nat) "PatternColumns$Store" "count" "I") ∈ pq_W := pq_in 126 (by decide +kernel) (by decide +kernel)
theorem ww_127 : (Jvm.Cond.fieldLink "PatternColumns$Store" (11 : Nat) "PatternColumns$Store" "patterns" "[[I") ∈ pq_W := pq_in 127 (by decide +kernel) (by decide +kernel)
theorem ww_128 : (Jvm.Cond.fieldLink "PatternColumns" (182 : Nat) "PatternColumns$Store" "patterns" "[[I") ∈ pq_W := pq_in 128 (by decide +kernel) (by decide +kernel)
theorem ww_129 : (Jvm.Cond.fieldLink "PatternColumns$Store" (16 : Nat) "PatternColumns$Store" "times" "[I") ∈ pq_W := pq_in 129 (by decide +kernel) (by decide +kernel)
theorem ww_130 : (Jvm.Cond.fieldLink "PatternColumns" (179 : Nat) "PatternColumns$Store" "times" "[I") ∈ pq_W := pq_in 130 (by decide +kernel) (by decide +kernel)
theorem ww_131 : (Jvm.Cond.fieldLink "PatternColumns$Store" (20 : Nat) "PatternColumns$Store" "days" "[I") ∈ pq_W := pq_in 131 (by decide +kernel) (by decide +kernel)
theorem ww_132 : (Jvm.Cond.fieldLink "PatternColumns" (176 : Nat) "PatternColumns$Store" "days" "[I") ∈ pq_W := pq_in 132 (by decide +kernel) (by decide +kernel)
theorem ww_133 : (Jvm.Cond.lays "PatternColumns$Store" "PatternColumns$Store" "count" "I") ∈ pq_W := pq_in 133 (by decide +kernel) (by decide +kernel)
theorem ww_135 : (Jvm.Cond.laysFinal "PatternColumns$Store" "PatternColumns$Store" "patterns" "[[I") ∈ pq_W := pq_in 135 (by decide +kernel) (by decide +kernel)
theorem ww_137 : (Jvm.Cond.laysFinal "PatternColumns$Store" "PatternColumns$Store" "times" "[I") ∈ pq_W := pq_in 137 (by decide +kernel) (by decide +kernel)
theorem ww_139 : (Jvm.Cond.laysFinal "PatternColumns$Store" "PatternColumns$Store" "days" "[I") ∈ pq_W := pq_in 139 (by decide +kernel) (by decide +kernel)
theorem ww_142 : (Jvm.Cond.fieldLink "PatternColumns" (12 : Nat) "PatternColumns" "slabs" "LPatternColumns$Slabs;") ∈ pq_W := pq_in 142 (by decide +kernel) (by decide +kernel)
theorem ww_143 : (Jvm.Cond.fieldLink "PatternColumns" (21 : Nat) "PatternColumns" "dearest" "LPatternColumns$DearestPattern;") ∈ pq_W := pq_in 143 (by decide +kernel) (by decide +kernel)
theorem ww_144 : (Jvm.Cond.fieldLink "PatternColumns" (28 : Nat) "PatternColumns" "designing" "LPatternColumns$Designing;") ∈ pq_W := pq_in 144 (by decide +kernel) (by decide +kernel)
theorem ww_145 : (Jvm.Cond.fieldLink "PatternColumns" (35 : Nat) "PatternColumns" "store" "LPatternColumns$Store;") ∈ pq_W := pq_in 145 (by decide +kernel) (by decide +kernel)
theorem ww_146 : (Jvm.Cond.laysFinal "PatternColumns" "PatternColumns" "slabs" "LPatternColumns$Slabs;") ∈ pq_W := pq_in 146 (by decide +kernel) (by decide +kernel)
theorem ww_148 : (Jvm.Cond.laysFinal "PatternColumns" "PatternColumns" "dearest" "LPatternColumns$DearestPattern;") ∈ pq_W := pq_in 148 (by decide +kernel) (by decide +kernel)
theorem ww_150 : (Jvm.Cond.laysFinal "PatternColumns" "PatternColumns" "designing" "LPatternColumns$Designing;") ∈ pq_W := pq_in 150 (by decide +kernel) (by decide +kernel)
theorem ww_152 : (Jvm.Cond.laysFinal "PatternColumns" "PatternColumns" "store" "LPatternColumns$Store;") ∈ pq_W := pq_in 152 (by decide +kernel) (by decide +kernel)
theorem ww_155 : (Jvm.Cond.methodLink "PatternColumnsLaw" (85 : Nat) ({ cls := "PatternColumns", name := "column", desc := "()I" } : Jvm.MethodName)) ∈ pq_W := pq_in 155 (by decide +kernel) (by decide +kernel)
theorem ww_156 : (Jvm.Cond.instanceMethod ({ cls := "PatternColumns", name := "column", desc := "()I" } : Jvm.MethodName)) ∈ pq_W := pq_in 156 (by decide +kernel) (by decide +kernel)
theorem ww_157 : (Jvm.Cond.selects "PatternColumns" ({ cls := "PatternColumns", name := "column", desc := "()I" } : Jvm.MethodName) ({ cls := "PatternColumns", name := "column", desc := "()I" } : Jvm.MethodName)) ∈ pq_W := pq_in 157 (by decide +kernel) (by decide +kernel)
theorem ww_158 : (Jvm.Cond.code ({ cls := "PatternColumns", name := "column", desc := "()I" } : Jvm.MethodName) prog_1_method_6_code (1 : Nat) (Option.some Jvm.ClassFile.FieldType.int)) ∈ pq_W := pq_in 158 (by decide +kernel) (by decide +kernel)
theorem ww_159 : (Jvm.Cond.methodLink "PatternColumns" (90 : Nat) ({ cls := "PatternColumns$DearestPattern", name := "priceSum", desc := "()I" } : Jvm.MethodName)) ∈ pq_W := pq_in 159 (by decide +kernel) (by decide +kernel)
theorem ww_160 : (Jvm.Cond.instanceMethod ({ cls := "PatternColumns$DearestPattern", name := "priceSum", desc := "()I" } : Jvm.MethodName)) ∈ pq_W := pq_in 160 (by decide +kernel) (by decide +kernel)
theorem ww_161 : (Jvm.Cond.selects "PatternColumns$DearestPattern" ({ cls := "PatternColumns$DearestPattern", name := "priceSum", desc := "()I" } : Jvm.MethodName) ({ cls := "PatternColumns$DearestPattern", name := "priceSum", desc := "()I" } : Jvm.MethodName)) ∈ pq_W := pq_in 161 (by decide +kernel) (by decide +kernel)
theorem ww_162 : (Jvm.Cond.code ({ cls := "PatternColumns$DearestPattern", name := "priceSum", desc := "()I" } : Jvm.MethodName) prog_2_method_3_code (1 : Nat) (Option.some Jvm.ClassFile.FieldType.int)) ∈ pq_W := pq_in 162 (by decide +kernel) (by decide +kernel)
theorem ww_163 : (Jvm.Cond.methodLink "PatternColumns$DearestPattern" (26 : Nat) ({ cls := "PatternColumns$DearestPattern", name := "seek", desc := "()V" } : Jvm.MethodName)) ∈ pq_W := pq_in 163 (by decide +kernel) (by decide +kernel)
theorem ww_165 : (Jvm.Cond.instanceMethod ({ cls := "PatternColumns$DearestPattern", name := "seek", desc := "()V" } : Jvm.MethodName)) ∈ pq_W := pq_in 165 (by decide +kernel) (by decide +kernel)
theorem ww_166 : (Jvm.Cond.code ({ cls := "PatternColumns$DearestPattern", name := "seek", desc := "()V" } : Jvm.MethodName) prog_2_method_5_code (5 : Nat) (Option.none : Option Jvm.ClassFile.FieldType)) ∈ pq_W := pq_in 166 (by decide +kernel) (by decide +kernel)
theorem ww_167 : (Jvm.Cond.methodLink "PatternColumns$DearestPattern" (38 : Nat) ({ cls := "PatternColumns$Slabs", name := "firstPattern", desc := "([I[I)V" } : Jvm.MethodName)) ∈ pq_W := pq_in 167 (by decide +kernel) (by decide +kernel)
theorem ww_168 : (Jvm.Cond.instanceMethod ({ cls := "PatternColumns$Slabs", name := "firstPattern", desc := "([I[I)V" } : Jvm.MethodName)) ∈ pq_W := pq_in 168 (by decide +kernel) (by decide +kernel)
theorem ww_169 : (Jvm.Cond.selects "PatternColumns$Slabs" ({ cls := "PatternColumns$Slabs", name := "firstPattern", desc := "([I[I)V" } : Jvm.MethodName) ({ cls := "PatternColumns$Slabs", name := "firstPattern", desc := "([I[I)V" } : Jvm.MethodName)) ∈ pq_W := pq_in 169 (by decide +kernel) (by decide +kernel)
theorem ww_170 : (Jvm.Cond.code ({ cls := "PatternColumns$Slabs", name := "firstPattern", desc := "([I[I)V" } : Jvm.MethodName) prog_4_method_11_code (3 : Nat) (Option.none : Option Jvm.ClassFile.FieldType)) ∈ pq_W := pq_in 170 (by decide +kernel) (by decide +kernel)
theorem ww_171 : (Jvm.Cond.methodLink "PatternColumns$Slabs" (43 : Nat) ({ cls := "PatternColumns$Slabs", name := "fillFrom", desc := "(I[I[I)V" } : Jvm.MethodName)) ∈ pq_W := pq_in 171 (by decide +kernel) (by decide +kernel)
theorem ww_173 : (Jvm.Cond.instanceMethod ({ cls := "PatternColumns$Slabs", name := "fillFrom", desc := "(I[I[I)V" } : Jvm.MethodName)) ∈ pq_W := pq_in 173 (by decide +kernel) (by decide +kernel)
theorem ww_174 : (Jvm.Cond.code ({ cls := "PatternColumns$Slabs", name := "fillFrom", desc := "(I[I[I)V" } : Jvm.MethodName) prog_4_method_13_code (8 : Nat) (Option.none : Option Jvm.ClassFile.FieldType)) ∈ pq_W := pq_in 174 (by decide +kernel) (by decide +kernel)
theorem ww_175 : (Jvm.Cond.methodLink "PatternColumns$Slabs" (28 : Nat) ({ cls := "PatternColumns$Slabs", name := "widthOfFirst", desc := "([II)I" } : Jvm.MethodName)) ∈ pq_W := pq_in 175 (by decide +kernel) (by decide +kernel)
theorem ww_177 : (Jvm.Cond.instanceMethod ({ cls := "PatternColumns$Slabs", name := "widthOfFirst", desc := "([II)I" } : Jvm.MethodName)) ∈ pq_W := pq_in 177 (by decide +kernel) (by decide +kernel)
theorem ww_178 : (Jvm.Cond.code ({ cls := "PatternColumns$Slabs", name := "widthOfFirst", desc := "([II)I" } : Jvm.MethodName) prog_4_method_14_code (5 : Nat) (Option.some Jvm.ClassFile.FieldType.int)) ∈ pq_W := pq_in 178 (by decide +kernel) (by decide +kernel)
theorem ww_179 : (Jvm.Cond.methodLink "PatternColumns$Slabs" (47 : Nat) ({ cls := "java/lang/Math", name := "min", desc := "(II)I" } : Jvm.MethodName)) ∈ pq_W := pq_in 179 (by decide +kernel) (by decide +kernel)
theorem ww_180 : (Jvm.Cond.static ({ cls := "java/lang/Math", name := "min", desc := "(II)I" } : Jvm.MethodName)) ∈ pq_W := pq_in 180 (by decide +kernel) (by decide +kernel)
theorem ww_181 : (Jvm.Cond.code ({ cls := "java/lang/Math", name := "min", desc := "(II)I" } : Jvm.MethodName) prog_12_method_69_code (2 : Nat) (Option.some Jvm.ClassFile.FieldType.int)) ∈ pq_W := pq_in 181 (by decide +kernel) (by decide +kernel)
theorem ww_182 : (Jvm.Cond.methodLink "PatternColumns$DearestPattern" (42 : Nat) ({ cls := "PatternColumns$Slabs", name := "priceOf", desc := "([I)I" } : Jvm.MethodName)) ∈ pq_W := pq_in 182 (by decide +kernel) (by decide +kernel)
theorem ww_183 : (Jvm.Cond.instanceMethod ({ cls := "PatternColumns$Slabs", name := "priceOf", desc := "([I)I" } : Jvm.MethodName)) ∈ pq_W := pq_in 183 (by decide +kernel) (by decide +kernel)
theorem ww_184 : (Jvm.Cond.selects "PatternColumns$Slabs" ({ cls := "PatternColumns$Slabs", name := "priceOf", desc := "([I)I" } : Jvm.MethodName) ({ cls := "PatternColumns$Slabs", name := "priceOf", desc := "([I)I" } : Jvm.MethodName)) ∈ pq_W := pq_in 184 (by decide +kernel) (by decide +kernel)
theorem ww_185 : (Jvm.Cond.code ({ cls := "PatternColumns$Slabs", name := "priceOf", desc := "([I)I" } : Jvm.MethodName) prog_4_method_6_code (4 : Nat) (Option.some Jvm.ClassFile.FieldType.int)) ∈ pq_W := pq_in 185 (by decide +kernel) (by decide +kernel)
theorem ww_186 : (Jvm.Cond.methodLink "PatternColumns$DearestPattern" (46 : Nat) ({ cls := "PatternColumns$DearestPattern", name := "take", desc := "(I)V" } : Jvm.MethodName)) ∈ pq_W := pq_in 186 (by decide +kernel) (by decide +kernel)
theorem ww_188 : (Jvm.Cond.instanceMethod ({ cls := "PatternColumns$DearestPattern", name := "take", desc := "(I)V" } : Jvm.MethodName)) ∈ pq_W := pq_in 188 (by decide +kernel) (by decide +kernel)
theorem ww_189 : (Jvm.Cond.code ({ cls := "PatternColumns$DearestPattern", name := "take", desc := "(I)V" } : Jvm.MethodName) prog_2_method_6_code (2 : Nat) (Option.none : Option Jvm.ClassFile.FieldType)) ∈ pq_W := pq_in 189 (by decide +kernel) (by decide +kernel)
theorem ww_190 : (Jvm.Cond.methodLink "PatternColumns$DearestPattern" (57 : Nat) ({ cls := "java/lang/System", name := "arraycopy", desc := "(Ljava/lang/Object;ILjava/lang/Object;II)V" } : Jvm.MethodName)) ∈ pq_W := pq_in 190 (by decide +kernel) (by decide +kernel)
theorem ww_191 : (Jvm.Cond.static ({ cls := "java/lang/System", name := "arraycopy", desc := "(Ljava/lang/Object;ILjava/lang/Object;II)V" } : Jvm.MethodName)) ∈ pq_W := pq_in 191 (by decide +kernel) (by decide +kernel)
theorem ww_192 : (Jvm.Cond.native ({ cls := "java/lang/System", name := "arraycopy", desc := "(Ljava/lang/Object;ILjava/lang/Object;II)V" } : Jvm.MethodName)) ∈ pq_W := pq_in 192 (by decide +kernel) (by decide +kernel)
theorem ww_193 : (Jvm.Cond.methodLink "PatternColumns$DearestPattern" (53 : Nat) ({ cls := "PatternColumns$Slabs", name := "nextPattern", desc := "([I[III)Z" } : Jvm.MethodName)) ∈ pq_W := pq_in 193 (by decide +kernel) (by decide +kernel)
theorem ww_194 : (Jvm.Cond.instanceMethod ({ cls := "PatternColumns$Slabs", name := "nextPattern", desc := "([I[III)Z" } : Jvm.MethodName)) ∈ pq_W := pq_in 194 (by decide +kernel) (by decide +kernel)
theorem ww_195 : (Jvm.Cond.selects "PatternColumns$Slabs" ({ cls := "PatternColumns$Slabs", name := "nextPattern", desc := "([I[III)Z" } : Jvm.MethodName) ({ cls := "PatternColumns$Slabs", name := "nextPattern", desc := "([I[III)Z" } : Jvm.MethodName)) ∈ pq_W := pq_in 195 (by decide +kernel) (by decide +kernel)
theorem ww_196 : (Jvm.Cond.code ({ cls := "PatternColumns$Slabs", name := "nextPattern", desc := "([I[III)Z" } : Jvm.MethodName) prog_4_method_12_code (7 : Nat) (Option.some Jvm.ClassFile.FieldType.boolean)) ∈ pq_W := pq_in 196 (by decide +kernel) (by decide +kernel)
theorem ww_197 : (Jvm.Cond.methodLink "PatternColumnsLaw" (93 : Nat) ({ cls := "PatternColumns", name := "bound", desc := "()I" } : Jvm.MethodName)) ∈ pq_W := pq_in 197 (by decide +kernel) (by decide +kernel)
theorem ww_198 : (Jvm.Cond.instanceMethod ({ cls := "PatternColumns", name := "bound", desc := "()I" } : Jvm.MethodName)) ∈ pq_W := pq_in 198 (by decide +kernel) (by decide +kernel)
theorem ww_199 : (Jvm.Cond.selects "PatternColumns" ({ cls := "PatternColumns", name := "bound", desc := "()I" } : Jvm.MethodName) ({ cls := "PatternColumns", name := "bound", desc := "()I" } : Jvm.MethodName)) ∈ pq_W := pq_in 199 (by decide +kernel) (by decide +kernel)
theorem ww_200 : (Jvm.Cond.code ({ cls := "PatternColumns", name := "bound", desc := "()I" } : Jvm.MethodName) prog_1_method_8_code (1 : Nat) (Option.some Jvm.ClassFile.FieldType.int)) ∈ pq_W := pq_in 200 (by decide +kernel) (by decide +kernel)
theorem ww_201 : (Jvm.Cond.methodLink "PatternColumns" (98 : Nat) ({ cls := "PatternColumns", name := "boundByPrices", desc := "()I" } : Jvm.MethodName)) ∈ pq_W := pq_in 201 (by decide +kernel) (by decide +kernel)
theorem ww_203 : (Jvm.Cond.instanceMethod ({ cls := "PatternColumns", name := "boundByPrices", desc := "()I" } : Jvm.MethodName)) ∈ pq_W := pq_in 203 (by decide +kernel) (by decide +kernel)
theorem ww_204 : (Jvm.Cond.code ({ cls := "PatternColumns", name := "boundByPrices", desc := "()I" } : Jvm.MethodName) prog_1_method_18_code (1 : Nat) (Option.some Jvm.ClassFile.FieldType.int)) ∈ pq_W := pq_in 204 (by decide +kernel) (by decide +kernel)
theorem ww_205 : (Jvm.Cond.methodLink "PatternColumns" (192 : Nat) ({ cls := "PatternColumns$Slabs", name := "priceOfAll", desc := "()I" } : Jvm.MethodName)) ∈ pq_W := pq_in 205 (by decide +kernel) (by decide +kernel)
theorem ww_206 : (Jvm.Cond.instanceMethod ({ cls := "PatternColumns$Slabs", name := "priceOfAll", desc := "()I" } : Jvm.MethodName)) ∈ pq_W := pq_in 206 (by decide +kernel) (by decide +kernel)
theorem ww_207 : (Jvm.Cond.selects "PatternColumns$Slabs" ({ cls := "PatternColumns$Slabs", name := "priceOfAll", desc := "()I" } : Jvm.MethodName) ({ cls := "PatternColumns$Slabs", name := "priceOfAll", desc := "()I" } : Jvm.MethodName)) ∈ pq_W := pq_in 207 (by decide +kernel) (by decide +kernel)
theorem ww_208 : (Jvm.Cond.code ({ cls := "PatternColumns$Slabs", name := "priceOfAll", desc := "()I" } : Jvm.MethodName) prog_4_method_7_code (1 : Nat) (Option.some Jvm.ClassFile.FieldType.int)) ∈ pq_W := pq_in 208 (by decide +kernel) (by decide +kernel)
theorem ww_209 : (Jvm.Cond.methodLink "PatternColumns$Slabs" (32 : Nat) ({ cls := "PatternColumns$Slabs", name := "priceOf", desc := "([I)I" } : Jvm.MethodName)) ∈ pq_W := pq_in 209 (by decide +kernel) (by decide +kernel)
theorem ww_210 : (Jvm.Cond.methodLink "PatternColumns" (195 : Nat) ({ cls := "PatternColumns", name := "roundedUp", desc := "(II)I" } : Jvm.MethodName)) ∈ pq_W := pq_in 210 (by decide +kernel) (by decide +kernel)
theorem ww_211 : (Jvm.Cond.static ({ cls := "PatternColumns", name := "roundedUp", desc := "(II)I" } : Jvm.MethodName)) ∈ pq_W := pq_in 211 (by decide +kernel) (by decide +kernel)
theorem ww_212 : (Jvm.Cond.code ({ cls := "PatternColumns", name := "roundedUp", desc := "(II)I" } : Jvm.MethodName) prog_1_method_21_code (2 : Nat) (Option.some Jvm.ClassFile.FieldType.int)) ∈ pq_W := pq_in 212 (by decide +kernel) (by decide +kernel)
theorem ww_213 : (Jvm.Cond.methodLink "PatternColumnsLaw" (65 : Nat) ({ cls := "PatternColumnsLaw", name := "sheet", desc := "(LPatternColumns;I)I" } : Jvm.MethodName)) ∈ pq_W := pq_in 213 (by decide +kernel) (by decide +kernel)
theorem ww_214 : (Jvm.Cond.static ({ cls := "PatternColumnsLaw", name := "sheet", desc := "(LPatternColumns;I)I" } : Jvm.MethodName)) ∈ pq_W := pq_in 214 (by decide +kernel) (by decide +kernel)
theorem ww_215 : (Jvm.Cond.codeWith ({ cls := "PatternColumnsLaw", name := "sheet", desc := "(LPatternColumns;I)I" } : Jvm.MethodName) method_3_code (3 : Nat) (Option.some Jvm.ClassFile.FieldType.int) [((0 : Nat), (5 : Nat), (8 : Nat), (13 : Nat))]) ∈ pq_W := pq_in 215 (by decide +kernel) (by decide +kernel)
theorem ww_216 : (Jvm.Cond.classLink "PatternColumnsLaw" (13 : Nat) "java/lang/IllegalArgumentException") ∈ pq_W := pq_in 216 (by decide +kernel) (by decide +kernel)
theorem ww_217 : (Jvm.Cond.methodLink "PatternColumnsLaw" (7 : Nat) ({ cls := "PatternColumns", name := "sheet", desc := "(I)V" } : Jvm.MethodName)) ∈ pq_W := pq_in 217 (by decide +kernel) (by decide +kernel)
theorem ww_218 : (Jvm.Cond.instanceMethod ({ cls := "PatternColumns", name := "sheet", desc := "(I)V" } : Jvm.MethodName)) ∈ pq_W := pq_in 218 (by decide +kernel) (by decide +kernel)
theorem ww_219 : (Jvm.Cond.selects "PatternColumns" ({ cls := "PatternColumns", name := "sheet", desc := "(I)V" } : Jvm.MethodName) ({ cls := "PatternColumns", name := "sheet", desc := "(I)V" } : Jvm.MethodName)) ∈ pq_W := pq_in 219 (by decide +kernel) (by decide +kernel)
theorem ww_220 : (Jvm.Cond.code ({ cls := "PatternColumns", name := "sheet", desc := "(I)V" } : Jvm.MethodName) prog_1_method_2_code (2 : Nat) (Option.none : Option Jvm.ClassFile.FieldType)) ∈ pq_W := pq_in 220 (by decide +kernel) (by decide +kernel)
theorem ww_221 : (Jvm.Cond.classLink "PatternColumns" (39 : Nat) "java/lang/IllegalArgumentException") ∈ pq_W := pq_in 221 (by decide +kernel) (by decide +kernel)
theorem ww_222 : (Jvm.Cond.instantiable "java/lang/IllegalArgumentException" (6 : Nat)) ∈ pq_W := pq_in 222 (by decide +kernel) (by decide +kernel)
theorem ww_230 : (Jvm.Cond.selects "java/lang/IllegalArgumentException" ({ cls := "java/lang/Throwable", name := "fillInStackTrace", desc := "(I)Ljava/lang/Throwable;" } : Jvm.MethodName) ({ cls := "java/lang/Throwable", name := "fillInStackTrace", desc := "(I)Ljava/lang/Throwable;" } : Jvm.MethodName)) ∈ pq_W := pq_in 230 (by decide +kernel) (by decide +kernel)
theorem ww_231 : (Jvm.Cond.selects "java/lang/IllegalArgumentException" ({ cls := "java/lang/Throwable", name := "fillInStackTrace", desc := "()Ljava/lang/Throwable;" } : Jvm.MethodName) ({ cls := "java/lang/Throwable", name := "fillInStackTrace", desc := "()Ljava/lang/Throwable;" } : Jvm.MethodName)) ∈ pq_W := pq_in 231 (by decide +kernel) (by decide +kernel)
theorem ww_232 : (Jvm.Cond.lays "java/lang/IllegalArgumentException" "java/lang/Throwable" "cause" "Ljava/lang/Throwable;") ∈ pq_W := pq_in 232 (by decide +kernel) (by decide +kernel)
theorem ww_233 : (Jvm.Cond.lays "java/lang/Throwable" "java/lang/Throwable" "cause" "Ljava/lang/Throwable;") ∈ pq_W := pq_in 233 (by decide +kernel) (by decide +kernel)
theorem ww_234 : (Jvm.Cond.lays "java/lang/IllegalArgumentException" "java/lang/Throwable" "stackTrace" "[Ljava/lang/StackTraceElement;") ∈ pq_W := pq_in 234 (by decide +kernel) (by decide +kernel)
theorem ww_235 : (Jvm.Cond.lays "java/lang/Throwable" "java/lang/Throwable" "stackTrace" "[Ljava/lang/StackTraceElement;") ∈ pq_W := pq_in 235 (by decide +kernel) (by decide +kernel)
theorem ww_236 : (Jvm.Cond.lays "java/lang/IllegalArgumentException" "java/lang/Throwable" "suppressedExceptions" "Ljava/util/List;") ∈ pq_W := pq_in 236 (by decide +kernel) (by decide +kernel)
theorem ww_237 : (Jvm.Cond.lays "java/lang/Throwable" "java/lang/Throwable" "suppressedExceptions" "Ljava/util/List;") ∈ pq_W := pq_in 237 (by decide +kernel) (by decide +kernel)
theorem ww_238 : (Jvm.Cond.lays "java/lang/IllegalArgumentException" "java/lang/Throwable" "detailMessage" "Ljava/lang/String;") ∈ pq_W := pq_in 238 (by decide +kernel) (by decide +kernel)
theorem ww_239 : (Jvm.Cond.lays "java/lang/Throwable" "java/lang/Throwable" "detailMessage" "Ljava/lang/String;") ∈ pq_W := pq_in 239 (by decide +kernel) (by decide +kernel)
theorem ww_240 : (Jvm.Cond.lays "java/lang/IllegalArgumentException" "java/lang/Throwable" "backtrace" "Ljava/lang/Object;") ∈ pq_W := pq_in 240 (by decide +kernel) (by decide +kernel)
theorem ww_241 : (Jvm.Cond.lays "java/lang/Throwable" "java/lang/Throwable" "backtrace" "Ljava/lang/Object;") ∈ pq_W := pq_in 241 (by decide +kernel) (by decide +kernel)
theorem ww_242 : (Jvm.Cond.fieldLink "java/lang/Throwable" (198 : Nat) "java/lang/Throwable" "backtrace" "Ljava/lang/Object;") ∈ pq_W := pq_in 242 (by decide +kernel) (by decide +kernel)
theorem ww_244 : (Jvm.Cond.instanceMethod ({ cls := "java/lang/Throwable", name := "<init>", desc := "()V" } : Jvm.MethodName)) ∈ pq_W := pq_in 244 (by decide +kernel) (by decide +kernel)
theorem ww_245 : (Jvm.Cond.code ({ cls := "java/lang/Throwable", name := "<init>", desc := "()V" } : Jvm.MethodName) prog_16_method_1_code (1 : Nat) (Option.none : Option Jvm.ClassFile.FieldType)) ∈ pq_W := pq_in 245 (by decide +kernel) (by decide +kernel)
theorem ww_246 : (Jvm.Cond.methodLink "java/lang/Throwable" (1 : Nat) ({ cls := "java/lang/Object", name := "<init>", desc := "()V" } : Jvm.MethodName)) ∈ pq_W := pq_in 246 (by decide +kernel) (by decide +kernel)
theorem ww_247 : (Jvm.Cond.fieldLink "java/lang/Throwable" (13 : Nat) "java/lang/Throwable" "UNASSIGNED_STACK" "[Ljava/lang/StackTraceElement;") ∈ pq_W := pq_in 247 (by decide +kernel) (by decide +kernel)
theorem ww_249 : (Jvm.Cond.fieldLink "java/lang/Throwable" (20 : Nat) "java/lang/Throwable" "SUPPRESSED_SENTINEL" "Ljava/util/List;") ∈ pq_W := pq_in 249 (by decide +kernel) (by decide +kernel)
theorem ww_251 : (Jvm.Cond.methodLink "java/lang/Throwable" (27 : Nat) ({ cls := "java/lang/Throwable", name := "fillInStackTrace", desc := "()Ljava/lang/Throwable;" } : Jvm.MethodName)) ∈ pq_W := pq_in 251 (by decide +kernel) (by decide +kernel)
theorem ww_252 : (Jvm.Cond.instanceMethod ({ cls := "java/lang/Throwable", name := "fillInStackTrace", desc := "()Ljava/lang/Throwable;" } : Jvm.MethodName)) ∈ pq_W := pq_in 252 (by decide +kernel) (by decide +kernel)
theorem ww_253 : (Jvm.Cond.sameMethod "java/lang/Throwable" "java/lang/Throwable" "fillInStackTrace" "()Ljava/lang/Throwable;") ∈ pq_W := pq_in 253 (by decide +kernel) (by decide +kernel)
theorem ww_254 : (Jvm.Cond.selects "java/lang/IllegalStateException" ({ cls := "java/lang/Throwable", name := "fillInStackTrace", desc := "()Ljava/lang/Throwable;" } : Jvm.MethodName) ({ cls := "java/lang/Throwable", name := "fillInStackTrace", desc := "()Ljava/lang/Throwable;" } : Jvm.MethodName)) ∈ pq_W := pq_in 254 (by decide +kernel) (by decide +kernel)
theorem ww_255 : (Jvm.Cond.selects "java/lang/IndexOutOfBoundsException" ({ cls := "java/lang/Throwable", name := "fillInStackTrace", desc := "()Ljava/lang/Throwable;" } : Jvm.MethodName) ({ cls := "java/lang/Throwable", name := "fillInStackTrace", desc := "()Ljava/lang/Throwable;" } : Jvm.MethodName)) ∈ pq_W := pq_in 255 (by decide +kernel) (by decide +kernel)
theorem ww_256 : (Jvm.Cond.selects "java/lang/UnsupportedOperationException" ({ cls := "java/lang/Throwable", name := "fillInStackTrace", desc := "()Ljava/lang/Throwable;" } : Jvm.MethodName) ({ cls := "java/lang/Throwable", name := "fillInStackTrace", desc := "()Ljava/lang/Throwable;" } : Jvm.MethodName)) ∈ pq_W := pq_in 256 (by decide +kernel) (by decide +kernel)
theorem ww_257 : (Jvm.Cond.codeSync ({ cls := "java/lang/Throwable", name := "fillInStackTrace", desc := "()Ljava/lang/Throwable;" } : Jvm.MethodName) prog_16_method_18_code (1 : Nat) (Option.some (Jvm.ClassFile.FieldType.object "java/lang/Throwable"))) ∈ pq_W := pq_in 257 (by decide +kernel) (by decide +kernel)
theorem ww_258 : (Jvm.Cond.methodLink "java/lang/Throwable" (202 : Nat) ({ cls := "java/lang/Throwable", name := "fillInStackTrace", desc := "(I)Ljava/lang/Throwable;" } : Jvm.MethodName)) ∈ pq_W := pq_in 258 (by decide +kernel) (by decide +kernel)
theorem ww_260 : (Jvm.Cond.instanceMethod ({ cls := "java/lang/Throwable", name := "fillInStackTrace", desc := "(I)Ljava/lang/Throwable;" } : Jvm.MethodName)) ∈ pq_W := pq_in 260 (by decide +kernel) (by decide +kernel)
theorem ww_261 : (Jvm.Cond.instantiable "java/lang/Throwable" (6 : Nat)) ∈ pq_W := pq_in 261 (by decide +kernel) (by decide +kernel)
theorem ww_262 : (Jvm.Cond.native ({ cls := "java/lang/Throwable", name := "fillInStackTrace", desc := "(I)Ljava/lang/Throwable;" } : Jvm.MethodName)) ∈ pq_W := pq_in 262 (by decide +kernel) (by decide +kernel)
theorem ww_264 : (Jvm.Cond.methodLink "PatternColumns" (43 : Nat) ({ cls := "java/lang/IllegalArgumentException", name := "<init>", desc := "(Ljava/lang/String;)V" } : Jvm.MethodName)) ∈ pq_W := pq_in 264 (by decide +kernel) (by decide +kernel)
theorem ww_265 : (Jvm.Cond.instanceMethod ({ cls := "java/lang/IllegalArgumentException", name := "<init>", desc := "(Ljava/lang/String;)V" } : Jvm.MethodName)) ∈ pq_W := pq_in 265 (by decide +kernel) (by decide +kernel)
theorem ww_266 : (Jvm.Cond.code ({ cls := "java/lang/IllegalArgumentException", name := "<init>", desc := "(Ljava/lang/String;)V" } : Jvm.MethodName) prog_9_method_2_code (2 : Nat) (Option.none : Option Jvm.ClassFile.FieldType)) ∈ pq_W := pq_in 266 (by decide +kernel) (by decide +kernel)
theorem ww_267 : (Jvm.Cond.methodLink "java/lang/IllegalArgumentException" (7 : Nat) ({ cls := "java/lang/RuntimeException", name := "<init>", desc := "(Ljava/lang/String;)V" } : Jvm.MethodName)) ∈ pq_W := pq_in 267 (by decide +kernel) (by decide +kernel)
theorem ww_268 : (Jvm.Cond.instanceMethod ({ cls := "java/lang/RuntimeException", name := "<init>", desc := "(Ljava/lang/String;)V" } : Jvm.MethodName)) ∈ pq_W := pq_in 268 (by decide +kernel) (by decide +kernel)
theorem ww_269 : (Jvm.Cond.code ({ cls := "java/lang/RuntimeException", name := "<init>", desc := "(Ljava/lang/String;)V" } : Jvm.MethodName) prog_13_method_2_code (2 : Nat) (Option.none : Option Jvm.ClassFile.FieldType)) ∈ pq_W := pq_in 269 (by decide +kernel) (by decide +kernel)
theorem ww_270 : (Jvm.Cond.methodLink "java/lang/RuntimeException" (7 : Nat) ({ cls := "java/lang/Exception", name := "<init>", desc := "(Ljava/lang/String;)V" } : Jvm.MethodName)) ∈ pq_W := pq_in 270 (by decide +kernel) (by decide +kernel)
theorem ww_271 : (Jvm.Cond.instanceMethod ({ cls := "java/lang/Exception", name := "<init>", desc := "(Ljava/lang/String;)V" } : Jvm.MethodName)) ∈ pq_W := pq_in 271 (by decide +kernel) (by decide +kernel)
theorem ww_272 : (Jvm.Cond.code ({ cls := "java/lang/Exception", name := "<init>", desc := "(Ljava/lang/String;)V" } : Jvm.MethodName) prog_8_method_2_code (2 : Nat) (Option.none : Option Jvm.ClassFile.FieldType)) ∈ pq_W := pq_in 272 (by decide +kernel) (by decide +kernel)
theorem ww_273 : (Jvm.Cond.methodLink "java/lang/Exception" (7 : Nat) ({ cls := "java/lang/Throwable", name := "<init>", desc := "(Ljava/lang/String;)V" } : Jvm.MethodName)) ∈ pq_W := pq_in 273 (by decide +kernel) (by decide +kernel)
theorem ww_274 : (Jvm.Cond.instanceMethod ({ cls := "java/lang/Throwable", name := "<init>", desc := "(Ljava/lang/String;)V" } : Jvm.MethodName)) ∈ pq_W := pq_in 274 (by decide +kernel) (by decide +kernel)
theorem ww_275 : (Jvm.Cond.code ({ cls := "java/lang/Throwable", name := "<init>", desc := "(Ljava/lang/String;)V" } : Jvm.MethodName) prog_16_method_2_code (2 : Nat) (Option.none : Option Jvm.ClassFile.FieldType)) ∈ pq_W := pq_in 275 (by decide +kernel) (by decide +kernel)
theorem ww_276 : (Jvm.Cond.fieldLink "java/lang/Throwable" (198 : Nat) "java/lang/Throwable" "backtrace" "Ljava/lang/Object;") ∈ pq_W := pq_in 276 (by decide +kernel) (by decide +kernel)
theorem ww_277 : (Jvm.Cond.fieldLink "java/lang/Throwable" (31 : Nat) "java/lang/Throwable" "detailMessage" "Ljava/lang/String;") ∈ pq_W := pq_in 277 (by decide +kernel) (by decide +kernel)
theorem ww_278 : (Jvm.Cond.fieldLink "java/lang/Throwable" (7 : Nat) "java/lang/Throwable" "cause" "Ljava/lang/Throwable;") ∈ pq_W := pq_in 278 (by decide +kernel) (by decide +kernel)
theorem ww_279 : (Jvm.Cond.fieldLink "java/lang/Throwable" (17 : Nat) "java/lang/Throwable" "stackTrace" "[Ljava/lang/StackTraceElement;") ∈ pq_W := pq_in 279 (by decide +kernel) (by decide +kernel)
theorem ww_280 : (Jvm.Cond.fieldLink "java/lang/Throwable" (24 : Nat) "java/lang/Throwable" "suppressedExceptions" "Ljava/util/List;") ∈ pq_W := pq_in 280 (by decide +kernel) (by decide +kernel)
theorem ww_285 : (Jvm.Cond.lays "java/lang/IllegalArgumentException" "java/lang/Throwable" "depth" "I") ∈ pq_W := pq_in 285 (by decide +kernel) (by decide +kernel)
theorem ww_289 : (Jvm.Cond.arrayClass Jvm.ClassFile.FieldType.byte) ∈ pq_W := pq_in 289 (by decide +kernel) (by decide +kernel)
theorem ww_290 : (Jvm.Cond.methodLink "PatternColumns" (50 : Nat) ({ cls := "PatternColumns", name := "forgetAnswers", desc := "()V" } : Jvm.MethodName)) ∈ pq_W := pq_in 290 (by decide +kernel) (by decide +kernel)
theorem ww_292 : (Jvm.Cond.instanceMethod ({ cls := "PatternColumns", name := "forgetAnswers", desc := "()V" } : Jvm.MethodName)) ∈ pq_W := pq_in 292 (by decide +kernel) (by decide +kernel)
theorem ww_293 : (Jvm.Cond.code ({ cls := "PatternColumns", name := "forgetAnswers", desc := "()V" } : Jvm.MethodName) prog_1_method_17_code (1 : Nat) (Option.none : Option Jvm.ClassFile.FieldType)) ∈ pq_W := pq_in 293 (by decide +kernel) (by decide +kernel)
theorem ww_294 : (Jvm.Cond.methodLink "PatternColumns" (87 : Nat) ({ cls := "PatternColumns$DearestPattern", name := "forget", desc := "()V" } : Jvm.MethodName)) ∈ pq_W := pq_in 294 (by decide +kernel) (by decide +kernel)
theorem ww_295 : (Jvm.Cond.instanceMethod ({ cls := "PatternColumns$DearestPattern", name := "forget", desc := "()V" } : Jvm.MethodName)) ∈ pq_W := pq_in 295 (by decide +kernel) (by decide +kernel)
theorem ww_296 : (Jvm.Cond.selects "PatternColumns$DearestPattern" ({ cls := "PatternColumns$DearestPattern", name := "forget", desc := "()V" } : Jvm.MethodName) ({ cls := "PatternColumns$DearestPattern", name := "forget", desc := "()V" } : Jvm.MethodName)) ∈ pq_W := pq_in 296 (by decide +kernel) (by decide +kernel)
theorem ww_297 : (Jvm.Cond.code ({ cls := "PatternColumns$DearestPattern", name := "forget", desc := "()V" } : Jvm.MethodName) prog_2_method_2_code (1 : Nat) (Option.none : Option Jvm.ClassFile.FieldType)) ∈ pq_W := pq_in 297 (by decide +kernel) (by decide +kernel)
theorem ww_298 : (Jvm.Cond.methodLink "PatternColumns" (191 : Nat) ({ cls := "PatternColumns$Designing", name := "forget", desc := "()V" } : Jvm.MethodName)) ∈ pq_W := pq_in 298 (by decide +kernel) (by decide +kernel)
theorem ww_299 : (Jvm.Cond.instanceMethod ({ cls := "PatternColumns$Designing", name := "forget", desc := "()V" } : Jvm.MethodName)) ∈ pq_W := pq_in 299 (by decide +kernel) (by decide +kernel)
theorem ww_300 : (Jvm.Cond.selects "PatternColumns$Designing" ({ cls := "PatternColumns$Designing", name := "forget", desc := "()V" } : Jvm.MethodName) ({ cls := "PatternColumns$Designing", name := "forget", desc := "()V" } : Jvm.MethodName)) ∈ pq_W := pq_in 300 (by decide +kernel) (by decide +kernel)
theorem ww_301 : (Jvm.Cond.code ({ cls := "PatternColumns$Designing", name := "forget", desc := "()V" } : Jvm.MethodName) prog_3_method_2_code (1 : Nat) (Option.none : Option Jvm.ClassFile.FieldType)) ∈ pq_W := pq_in 301 (by decide +kernel) (by decide +kernel)
theorem ww_302 : (Jvm.Cond.methodLink "PatternColumnsLaw" (74 : Nat) ({ cls := "PatternColumnsLaw", name := "order", desc := "(LPatternColumns;II[J)I" } : Jvm.MethodName)) ∈ pq_W := pq_in 302 (by decide +kernel) (by decide +kernel)
theorem ww_303 : (Jvm.Cond.static ({ cls := "PatternColumnsLaw", name := "order", desc := "(LPatternColumns;II[J)I" } : Jvm.MethodName)) ∈ pq_W := pq_in 303 (by decide +kernel) (by decide +kernel)
theorem ww_304 : (Jvm.Cond.codeWith ({ cls := "PatternColumnsLaw", name := "order", desc := "(LPatternColumns;II[J)I" } : Jvm.MethodName) method_4_code (5 : Nat) (Option.some Jvm.ClassFile.FieldType.int) [((0 : Nat), (10 : Nat), (13 : Nat), (19 : Nat)), ((0 : Nat), (10 : Nat), (17 : Nat), (13 : Nat))]) ∈ pq_W := pq_in 304 (by decide +kernel) (by decide +kernel)
theorem ww_305 : (Jvm.Cond.classLink "PatternColumnsLaw" (19 : Nat) "java/lang/IllegalStateException") ∈ pq_W := pq_in 305 (by decide +kernel) (by decide +kernel)
theorem ww_306 : (Jvm.Cond.methodLink "PatternColumnsLaw" (15 : Nat) ({ cls := "PatternColumns", name := "order", desc := "(II)I" } : Jvm.MethodName)) ∈ pq_W := pq_in 306 (by decide +kernel) (by decide +kernel)
theorem ww_307 : (Jvm.Cond.instanceMethod ({ cls := "PatternColumns", name := "order", desc := "(II)I" } : Jvm.MethodName)) ∈ pq_W := pq_in 307 (by decide +kernel) (by decide +kernel)
theorem ww_308 : (Jvm.Cond.selects "PatternColumns" ({ cls := "PatternColumns", name := "order", desc := "(II)I" } : Jvm.MethodName) ({ cls := "PatternColumns", name := "order", desc := "(II)I" } : Jvm.MethodName)) ∈ pq_W := pq_in 308 (by decide +kernel) (by decide +kernel)
theorem ww_309 : (Jvm.Cond.code ({ cls := "PatternColumns", name := "order", desc := "(II)I" } : Jvm.MethodName) prog_1_method_3_code (4 : Nat) (Option.some Jvm.ClassFile.FieldType.int)) ∈ pq_W := pq_in 309 (by decide +kernel) (by decide +kernel)
theorem ww_310 : (Jvm.Cond.classLink "PatternColumns" (56 : Nat) "java/lang/IllegalStateException") ∈ pq_W := pq_in 310 (by decide +kernel) (by decide +kernel)
theorem ww_311 : (Jvm.Cond.instantiable "java/lang/IllegalStateException" (6 : Nat)) ∈ pq_W := pq_in 311 (by decide +kernel) (by decide +kernel)
theorem ww_313 : (Jvm.Cond.selects "java/lang/IllegalStateException" ({ cls := "java/lang/Throwable", name := "fillInStackTrace", desc := "(I)Ljava/lang/Throwable;" } : Jvm.MethodName) ({ cls := "java/lang/Throwable", name := "fillInStackTrace", desc := "(I)Ljava/lang/Throwable;" } : Jvm.MethodName)) ∈ pq_W := pq_in 313 (by decide +kernel) (by decide +kernel)
theorem ww_314 : (Jvm.Cond.lays "java/lang/IllegalStateException" "java/lang/Throwable" "cause" "Ljava/lang/Throwable;") ∈ pq_W := pq_in 314 (by decide +kernel) (by decide +kernel)
theorem ww_315 : (Jvm.Cond.lays "java/lang/IllegalStateException" "java/lang/Throwable" "stackTrace" "[Ljava/lang/StackTraceElement;") ∈ pq_W := pq_in 315 (by decide +kernel) (by decide +kernel)
theorem ww_316 : (Jvm.Cond.lays "java/lang/IllegalStateException" "java/lang/Throwable" "suppressedExceptions" "Ljava/util/List;") ∈ pq_W := pq_in 316 (by decide +kernel) (by decide +kernel)
theorem ww_317 : (Jvm.Cond.lays "java/lang/IllegalStateException" "java/lang/Throwable" "detailMessage" "Ljava/lang/String;") ∈ pq_W := pq_in 317 (by decide +kernel) (by decide +kernel)
theorem ww_318 : (Jvm.Cond.lays "java/lang/IllegalStateException" "java/lang/Throwable" "backtrace" "Ljava/lang/Object;") ∈ pq_W := pq_in 318 (by decide +kernel) (by decide +kernel)
theorem ww_320 : (Jvm.Cond.methodLink "PatternColumns" (60 : Nat) ({ cls := "java/lang/IllegalStateException", name := "<init>", desc := "(Ljava/lang/String;)V" } : Jvm.MethodName)) ∈ pq_W := pq_in 320 (by decide +kernel) (by decide +kernel)
theorem ww_321 : (Jvm.Cond.instanceMethod ({ cls := "java/lang/IllegalStateException", name := "<init>", desc := "(Ljava/lang/String;)V" } : Jvm.MethodName)) ∈ pq_W := pq_in 321 (by decide +kernel) (by decide +kernel)
theorem ww_322 : (Jvm.Cond.code ({ cls := "java/lang/IllegalStateException", name := "<init>", desc := "(Ljava/lang/String;)V" } : Jvm.MethodName) prog_10_method_2_code (2 : Nat) (Option.none : Option Jvm.ClassFile.FieldType)) ∈ pq_W := pq_in 322 (by decide +kernel) (by decide +kernel)
theorem ww_323 : (Jvm.Cond.methodLink "java/lang/IllegalStateException" (7 : Nat) ({ cls := "java/lang/RuntimeException", name := "<init>", desc := "(Ljava/lang/String;)V" } : Jvm.MethodName)) ∈ pq_W := pq_in 323 (by decide +kernel) (by decide +kernel)
theorem ww_324 : (Jvm.Cond.lays "java/lang/IllegalStateException" "java/lang/Throwable" "depth" "I") ∈ pq_W := pq_in 324 (by decide +kernel) (by decide +kernel)
theorem ww_328 : (Jvm.Cond.methodLink "PatternColumns" (65 : Nat) ({ cls := "PatternColumns$Slabs", name := "add", desc := "(II)I" } : Jvm.MethodName)) ∈ pq_W := pq_in 328 (by decide +kernel) (by decide +kernel)
theorem ww_329 : (Jvm.Cond.instanceMethod ({ cls := "PatternColumns$Slabs", name := "add", desc := "(II)I" } : Jvm.MethodName)) ∈ pq_W := pq_in 329 (by decide +kernel) (by decide +kernel)
theorem ww_330 : (Jvm.Cond.selects "PatternColumns$Slabs" ({ cls := "PatternColumns$Slabs", name := "add", desc := "(II)I" } : Jvm.MethodName) ({ cls := "PatternColumns$Slabs", name := "add", desc := "(II)I" } : Jvm.MethodName)) ∈ pq_W := pq_in 330 (by decide +kernel) (by decide +kernel)
theorem ww_331 : (Jvm.Cond.code ({ cls := "PatternColumns$Slabs", name := "add", desc := "(II)I" } : Jvm.MethodName) prog_4_method_3_code (4 : Nat) (Option.some Jvm.ClassFile.FieldType.int)) ∈ pq_W := pq_in 331 (by decide +kernel) (by decide +kernel)
theorem ww_332 : (Jvm.Cond.methodLink "PatternColumnsLaw" (78 : Nat) ({ cls := "PatternColumnsLaw", name := "pieces", desc := "(LPatternColumns;II)I" } : Jvm.MethodName)) ∈ pq_W := pq_in 332 (by decide +kernel) (by decide +kernel)
theorem ww_333 : (Jvm.Cond.static ({ cls := "PatternColumnsLaw", name := "pieces", desc := "(LPatternColumns;II)I" } : Jvm.MethodName)) ∈ pq_W := pq_in 333 (by decide +kernel) (by decide +kernel)
theorem ww_334 : (Jvm.Cond.codeWith ({ cls := "PatternColumnsLaw", name := "pieces", desc := "(LPatternColumns;II)I" } : Jvm.MethodName) method_5_code (4 : Nat) (Option.some Jvm.ClassFile.FieldType.int) [((0 : Nat), (6 : Nat), (9 : Nat), (25 : Nat)), ((0 : Nat), (6 : Nat), (12 : Nat), (13 : Nat))]) ∈ pq_W := pq_in 334 (by decide +kernel) (by decide +kernel)
theorem ww_335 : (Jvm.Cond.classLink "PatternColumnsLaw" (25 : Nat) "java/lang/IndexOutOfBoundsException") ∈ pq_W := pq_in 335 (by decide +kernel) (by decide +kernel)
theorem ww_336 : (Jvm.Cond.methodLink "PatternColumnsLaw" (21 : Nat) ({ cls := "PatternColumns", name := "pieces", desc := "(II)V" } : Jvm.MethodName)) ∈ pq_W := pq_in 336 (by decide +kernel) (by decide +kernel)
theorem ww_337 : (Jvm.Cond.instanceMethod ({ cls := "PatternColumns", name := "pieces", desc := "(II)V" } : Jvm.MethodName)) ∈ pq_W := pq_in 337 (by decide +kernel) (by decide +kernel)
theorem ww_338 : (Jvm.Cond.selects "PatternColumns" ({ cls := "PatternColumns", name := "pieces", desc := "(II)V" } : Jvm.MethodName) ({ cls := "PatternColumns", name := "pieces", desc := "(II)V" } : Jvm.MethodName)) ∈ pq_W := pq_in 338 (by decide +kernel) (by decide +kernel)
theorem ww_339 : (Jvm.Cond.code ({ cls := "PatternColumns", name := "pieces", desc := "(II)V" } : Jvm.MethodName) prog_1_method_4_code (3 : Nat) (Option.none : Option Jvm.ClassFile.FieldType)) ∈ pq_W := pq_in 339 (by decide +kernel) (by decide +kernel)
theorem ww_340 : (Jvm.Cond.methodLink "PatternColumns" (69 : Nat) ({ cls := "PatternColumns$Slabs", name := "has", desc := "(I)Z" } : Jvm.MethodName)) ∈ pq_W := pq_in 340 (by decide +kernel) (by decide +kernel)
theorem ww_341 : (Jvm.Cond.instanceMethod ({ cls := "PatternColumns$Slabs", name := "has", desc := "(I)Z" } : Jvm.MethodName)) ∈ pq_W := pq_in 341 (by decide +kernel) (by decide +kernel)
theorem ww_342 : (Jvm.Cond.selects "PatternColumns$Slabs" ({ cls := "PatternColumns$Slabs", name := "has", desc := "(I)Z" } : Jvm.MethodName) ({ cls := "PatternColumns$Slabs", name := "has", desc := "(I)Z" } : Jvm.MethodName)) ∈ pq_W := pq_in 342 (by decide +kernel) (by decide +kernel)
theorem ww_343 : (Jvm.Cond.code ({ cls := "PatternColumns$Slabs", name := "has", desc := "(I)Z" } : Jvm.MethodName) prog_4_method_2_code (2 : Nat) (Option.some Jvm.ClassFile.FieldType.boolean)) ∈ pq_W := pq_in 343 (by decide +kernel) (by decide +kernel)
theorem ww_344 : (Jvm.Cond.classLink "PatternColumns" (73 : Nat) "java/lang/IndexOutOfBoundsException") ∈ pq_W := pq_in 344 (by decide +kernel) (by decide +kernel)
theorem ww_345 : (Jvm.Cond.instantiable "java/lang/IndexOutOfBoundsException" (6 : Nat)) ∈ pq_W := pq_in 345 (by decide +kernel) (by decide +kernel)
theorem ww_347 : (Jvm.Cond.selects "java/lang/IndexOutOfBoundsException" ({ cls := "java/lang/Throwable", name := "fillInStackTrace", desc := "(I)Ljava/lang/Throwable;" } : Jvm.MethodName) ({ cls := "java/lang/Throwable", name := "fillInStackTrace", desc := "(I)Ljava/lang/Throwable;" } : Jvm.MethodName)) ∈ pq_W := pq_in 347 (by decide +kernel) (by decide +kernel)
theorem ww_348 : (Jvm.Cond.lays "java/lang/IndexOutOfBoundsException" "java/lang/Throwable" "cause" "Ljava/lang/Throwable;") ∈ pq_W := pq_in 348 (by decide +kernel) (by decide +kernel)
theorem ww_349 : (Jvm.Cond.lays "java/lang/IndexOutOfBoundsException" "java/lang/Throwable" "stackTrace" "[Ljava/lang/StackTraceElement;") ∈ pq_W := pq_in 349 (by decide +kernel) (by decide +kernel)
theorem ww_350 : (Jvm.Cond.lays "java/lang/IndexOutOfBoundsException" "java/lang/Throwable" "suppressedExceptions" "Ljava/util/List;") ∈ pq_W := pq_in 350 (by decide +kernel) (by decide +kernel)
theorem ww_351 : (Jvm.Cond.lays "java/lang/IndexOutOfBoundsException" "java/lang/Throwable" "detailMessage" "Ljava/lang/String;") ∈ pq_W := pq_in 351 (by decide +kernel) (by decide +kernel)
theorem ww_352 : (Jvm.Cond.lays "java/lang/IndexOutOfBoundsException" "java/lang/Throwable" "backtrace" "Ljava/lang/Object;") ∈ pq_W := pq_in 352 (by decide +kernel) (by decide +kernel)
theorem ww_354 : (Jvm.Cond.methodLink "PatternColumns" (77 : Nat) ({ cls := "java/lang/IndexOutOfBoundsException", name := "<init>", desc := "(Ljava/lang/String;)V" } : Jvm.MethodName)) ∈ pq_W := pq_in 354 (by decide +kernel) (by decide +kernel)
theorem ww_355 : (Jvm.Cond.instanceMethod ({ cls := "java/lang/IndexOutOfBoundsException", name := "<init>", desc := "(Ljava/lang/String;)V" } : Jvm.MethodName)) ∈ pq_W := pq_in 355 (by decide +kernel) (by decide +kernel)
theorem ww_356 : (Jvm.Cond.code ({ cls := "java/lang/IndexOutOfBoundsException", name := "<init>", desc := "(Ljava/lang/String;)V" } : Jvm.MethodName) prog_11_method_2_code (2 : Nat) (Option.none : Option Jvm.ClassFile.FieldType)) ∈ pq_W := pq_in 356 (by decide +kernel) (by decide +kernel)
theorem ww_357 : (Jvm.Cond.methodLink "java/lang/IndexOutOfBoundsException" (7 : Nat) ({ cls := "java/lang/RuntimeException", name := "<init>", desc := "(Ljava/lang/String;)V" } : Jvm.MethodName)) ∈ pq_W := pq_in 357 (by decide +kernel) (by decide +kernel)
theorem ww_358 : (Jvm.Cond.lays "java/lang/IndexOutOfBoundsException" "java/lang/Throwable" "depth" "I") ∈ pq_W := pq_in 358 (by decide +kernel) (by decide +kernel)
theorem ww_360 : (Jvm.Cond.methodLink "PatternColumnsLaw" (82 : Nat) ({ cls := "PatternColumnsLaw", name := "price", desc := "(LPatternColumns;II)I" } : Jvm.MethodName)) ∈ pq_W := pq_in 360 (by decide +kernel) (by decide +kernel)
theorem ww_361 : (Jvm.Cond.static ({ cls := "PatternColumnsLaw", name := "price", desc := "(LPatternColumns;II)I" } : Jvm.MethodName)) ∈ pq_W := pq_in 361 (by decide +kernel) (by decide +kernel)
theorem ww_362 : (Jvm.Cond.codeWith ({ cls := "PatternColumnsLaw", name := "price", desc := "(LPatternColumns;II)I" } : Jvm.MethodName) method_6_code (4 : Nat) (Option.some Jvm.ClassFile.FieldType.int) [((0 : Nat), (6 : Nat), (9 : Nat), (25 : Nat)), ((0 : Nat), (6 : Nat), (12 : Nat), (13 : Nat))]) ∈ pq_W := pq_in 362 (by decide +kernel) (by decide +kernel)
theorem ww_363 : (Jvm.Cond.methodLink "PatternColumnsLaw" (27 : Nat) ({ cls := "PatternColumns", name := "price", desc := "(II)V" } : Jvm.MethodName)) ∈ pq_W := pq_in 363 (by decide +kernel) (by decide +kernel)
theorem ww_364 : (Jvm.Cond.instanceMethod ({ cls := "PatternColumns", name := "price", desc := "(II)V" } : Jvm.MethodName)) ∈ pq_W := pq_in 364 (by decide +kernel) (by decide +kernel)
theorem ww_365 : (Jvm.Cond.selects "PatternColumns" ({ cls := "PatternColumns", name := "price", desc := "(II)V" } : Jvm.MethodName) ({ cls := "PatternColumns", name := "price", desc := "(II)V" } : Jvm.MethodName)) ∈ pq_W := pq_in 365 (by decide +kernel) (by decide +kernel)
theorem ww_366 : (Jvm.Cond.code ({ cls := "PatternColumns", name := "price", desc := "(II)V" } : Jvm.MethodName) prog_1_method_5_code (3 : Nat) (Option.none : Option Jvm.ClassFile.FieldType)) ∈ pq_W := pq_in 366 (by decide +kernel) (by decide +kernel)
theorem ww_368 : (Jvm.Cond.methodLink "PatternColumnsLaw" (89 : Nat) ({ cls := "PatternColumnsLaw", name := "columnOf", desc := "(LPatternColumns;I[J)I" } : Jvm.MethodName)) ∈ pq_W := pq_in 368 (by decide +kernel) (by decide +kernel)
theorem ww_369 : (Jvm.Cond.static ({ cls := "PatternColumnsLaw", name := "columnOf", desc := "(LPatternColumns;I[J)I" } : Jvm.MethodName)) ∈ pq_W := pq_in 369 (by decide +kernel) (by decide +kernel)
theorem ww_370 : (Jvm.Cond.codeWith ({ cls := "PatternColumnsLaw", name := "columnOf", desc := "(LPatternColumns;I[J)I" } : Jvm.MethodName) method_7_code (4 : Nat) (Option.some Jvm.ClassFile.FieldType.int) [((0 : Nat), (9 : Nat), (12 : Nat), (25 : Nat))]) ∈ pq_W := pq_in 370 (by decide +kernel) (by decide +kernel)
theorem ww_371 : (Jvm.Cond.methodLink "PatternColumnsLaw" (30 : Nat) ({ cls := "PatternColumns", name := "columnOf", desc := "(I)I" } : Jvm.MethodName)) ∈ pq_W := pq_in 371 (by decide +kernel) (by decide +kernel)
theorem ww_372 : (Jvm.Cond.instanceMethod ({ cls := "PatternColumns", name := "columnOf", desc := "(I)I" } : Jvm.MethodName)) ∈ pq_W := pq_in 372 (by decide +kernel) (by decide +kernel)
theorem ww_373 : (Jvm.Cond.selects "PatternColumns" ({ cls := "PatternColumns", name := "columnOf", desc := "(I)I" } : Jvm.MethodName) ({ cls := "PatternColumns", name := "columnOf", desc := "(I)I" } : Jvm.MethodName)) ∈ pq_W := pq_in 373 (by decide +kernel) (by decide +kernel)
theorem ww_374 : (Jvm.Cond.code ({ cls := "PatternColumns", name := "columnOf", desc := "(I)I" } : Jvm.MethodName) prog_1_method_7_code (2 : Nat) (Option.some Jvm.ClassFile.FieldType.int)) ∈ pq_W := pq_in 374 (by decide +kernel) (by decide +kernel)
theorem ww_375 : (Jvm.Cond.methodLink "PatternColumns" (94 : Nat) ({ cls := "PatternColumns$DearestPattern", name := "piecesOf", desc := "(I)I" } : Jvm.MethodName)) ∈ pq_W := pq_in 375 (by decide +kernel) (by decide +kernel)
theorem ww_376 : (Jvm.Cond.instanceMethod ({ cls := "PatternColumns$DearestPattern", name := "piecesOf", desc := "(I)I" } : Jvm.MethodName)) ∈ pq_W := pq_in 376 (by decide +kernel) (by decide +kernel)
theorem ww_377 : (Jvm.Cond.selects "PatternColumns$DearestPattern" ({ cls := "PatternColumns$DearestPattern", name := "piecesOf", desc := "(I)I" } : Jvm.MethodName) ({ cls := "PatternColumns$DearestPattern", name := "piecesOf", desc := "(I)I" } : Jvm.MethodName)) ∈ pq_W := pq_in 377 (by decide +kernel) (by decide +kernel)
theorem ww_378 : (Jvm.Cond.code ({ cls := "PatternColumns$DearestPattern", name := "piecesOf", desc := "(I)I" } : Jvm.MethodName) prog_2_method_4_code (2 : Nat) (Option.some Jvm.ClassFile.FieldType.int)) ∈ pq_W := pq_in 378 (by decide +kernel) (by decide +kernel)
theorem ww_379 : (Jvm.Cond.methodLink "PatternColumnsLaw" (97 : Nat) ({ cls := "PatternColumnsLaw", name := "design", desc := "(LPatternColumns;I[J)I" } : Jvm.MethodName)) ∈ pq_W := pq_in 379 (by decide +kernel) (by decide +kernel)
theorem ww_380 : (Jvm.Cond.static ({ cls := "PatternColumnsLaw", name := "design", desc := "(LPatternColumns;I[J)I" } : Jvm.MethodName)) ∈ pq_W := pq_in 380 (by decide +kernel) (by decide +kernel)
theorem ww_381 : (Jvm.Cond.codeWith ({ cls := "PatternColumnsLaw", name := "design", desc := "(LPatternColumns;I[J)I" } : Jvm.MethodName) method_8_code (4 : Nat) (Option.some Jvm.ClassFile.FieldType.int) [((0 : Nat), (9 : Nat), (12 : Nat), (13 : Nat)), ((0 : Nat), (9 : Nat), (15 : Nat), (37 : Nat))]) ∈ pq_W := pq_in 381 (by decide +kernel) (by decide +kernel)
theorem ww_382 : (Jvm.Cond.classLink "PatternColumnsLaw" (37 : Nat) "java/lang/UnsupportedOperationException") ∈ pq_W := pq_in 382 (by decide +kernel) (by decide +kernel)
theorem ww_383 : (Jvm.Cond.methodLink "PatternColumnsLaw" (34 : Nat) ({ cls := "PatternColumns", name := "design", desc := "(I)I" } : Jvm.MethodName)) ∈ pq_W := pq_in 383 (by decide +kernel) (by decide +kernel)
theorem ww_384 : (Jvm.Cond.instanceMethod ({ cls := "PatternColumns", name := "design", desc := "(I)I" } : Jvm.MethodName)) ∈ pq_W := pq_in 384 (by decide +kernel) (by decide +kernel)
theorem ww_385 : (Jvm.Cond.selects "PatternColumns" ({ cls := "PatternColumns", name := "design", desc := "(I)I" } : Jvm.MethodName) ({ cls := "PatternColumns", name := "design", desc := "(I)I" } : Jvm.MethodName)) ∈ pq_W := pq_in 385 (by decide +kernel) (by decide +kernel)
theorem ww_386 : (Jvm.Cond.code ({ cls := "PatternColumns", name := "design", desc := "(I)I" } : Jvm.MethodName) prog_1_method_9_code (2 : Nat) (Option.some Jvm.ClassFile.FieldType.int)) ∈ pq_W := pq_in 386 (by decide +kernel) (by decide +kernel)
theorem ww_387 : (Jvm.Cond.constant "PatternColumns" (101 : Nat) (100000 : Int32)) ∈ pq_W := pq_in 387 (by decide +kernel) (by decide +kernel)
theorem ww_389 : (Jvm.Cond.methodLink "PatternColumns" (104 : Nat) ({ cls := "PatternColumns$Slabs", name := "somePieceIsTooWide", desc := "()Z" } : Jvm.MethodName)) ∈ pq_W := pq_in 389 (by decide +kernel) (by decide +kernel)
theorem ww_390 : (Jvm.Cond.instanceMethod ({ cls := "PatternColumns$Slabs", name := "somePieceIsTooWide", desc := "()Z" } : Jvm.MethodName)) ∈ pq_W := pq_in 390 (by decide +kernel) (by decide +kernel)
theorem ww_391 : (Jvm.Cond.selects "PatternColumns$Slabs" ({ cls := "PatternColumns$Slabs", name := "somePieceIsTooWide", desc := "()Z" } : Jvm.MethodName) ({ cls := "PatternColumns$Slabs", name := "somePieceIsTooWide", desc := "()Z" } : Jvm.MethodName)) ∈ pq_W := pq_in 391 (by decide +kernel) (by decide +kernel)
theorem ww_392 : (Jvm.Cond.code ({ cls := "PatternColumns$Slabs", name := "somePieceIsTooWide", desc := "()Z" } : Jvm.MethodName) prog_4_method_9_code (2 : Nat) (Option.some Jvm.ClassFile.FieldType.boolean)) ∈ pq_W := pq_in 392 (by decide +kernel) (by decide +kernel)
theorem ww_393 : (Jvm.Cond.classLink "PatternColumns" (108 : Nat) "java/lang/UnsupportedOperationException") ∈ pq_W := pq_in 393 (by decide +kernel) (by decide +kernel)
theorem ww_394 : (Jvm.Cond.instantiable "java/lang/UnsupportedOperationException" (6 : Nat)) ∈ pq_W := pq_in 394 (by decide +kernel) (by decide +kernel)
theorem ww_396 : (Jvm.Cond.selects "java/lang/UnsupportedOperationException" ({ cls := "java/lang/Throwable", name := "fillInStackTrace", desc := "(I)Ljava/lang/Throwable;" } : Jvm.MethodName) ({ cls := "java/lang/Throwable", name := "fillInStackTrace", desc := "(I)Ljava/lang/Throwable;" } : Jvm.MethodName)) ∈ pq_W := pq_in 396 (by decide +kernel) (by decide +kernel)
theorem ww_397 : (Jvm.Cond.lays "java/lang/UnsupportedOperationException" "java/lang/Throwable" "cause" "Ljava/lang/Throwable;") ∈ pq_W := pq_in 397 (by decide +kernel) (by decide +kernel)
theorem ww_398 : (Jvm.Cond.lays "java/lang/UnsupportedOperationException" "java/lang/Throwable" "stackTrace" "[Ljava/lang/StackTraceElement;") ∈ pq_W := pq_in 398 (by decide +kernel) (by decide +kernel)
theorem ww_399 : (Jvm.Cond.lays "java/lang/UnsupportedOperationException" "java/lang/Throwable" "suppressedExceptions" "Ljava/util/List;") ∈ pq_W := pq_in 399 (by decide +kernel) (by decide +kernel)
theorem ww_400 : (Jvm.Cond.lays "java/lang/UnsupportedOperationException" "java/lang/Throwable" "detailMessage" "Ljava/lang/String;") ∈ pq_W := pq_in 400 (by decide +kernel) (by decide +kernel)
theorem ww_401 : (Jvm.Cond.lays "java/lang/UnsupportedOperationException" "java/lang/Throwable" "backtrace" "Ljava/lang/Object;") ∈ pq_W := pq_in 401 (by decide +kernel) (by decide +kernel)
theorem ww_403 : (Jvm.Cond.methodLink "PatternColumns" (112 : Nat) ({ cls := "java/lang/UnsupportedOperationException", name := "<init>", desc := "(Ljava/lang/String;)V" } : Jvm.MethodName)) ∈ pq_W := pq_in 403 (by decide +kernel) (by decide +kernel)
theorem ww_404 : (Jvm.Cond.instanceMethod ({ cls := "java/lang/UnsupportedOperationException", name := "<init>", desc := "(Ljava/lang/String;)V" } : Jvm.MethodName)) ∈ pq_W := pq_in 404 (by decide +kernel) (by decide +kernel)
theorem ww_405 : (Jvm.Cond.code ({ cls := "java/lang/UnsupportedOperationException", name := "<init>", desc := "(Ljava/lang/String;)V" } : Jvm.MethodName) prog_17_method_2_code (2 : Nat) (Option.none : Option Jvm.ClassFile.FieldType)) ∈ pq_W := pq_in 405 (by decide +kernel) (by decide +kernel)
theorem ww_406 : (Jvm.Cond.methodLink "java/lang/UnsupportedOperationException" (7 : Nat) ({ cls := "java/lang/RuntimeException", name := "<init>", desc := "(Ljava/lang/String;)V" } : Jvm.MethodName)) ∈ pq_W := pq_in 406 (by decide +kernel) (by decide +kernel)
theorem ww_407 : (Jvm.Cond.lays "java/lang/UnsupportedOperationException" "java/lang/Throwable" "depth" "I") ∈ pq_W := pq_in 407 (by decide +kernel) (by decide +kernel)
theorem ww_409 : (Jvm.Cond.methodLink "PatternColumns" (113 : Nat) ({ cls := "PatternColumns$Designing", name := "run", desc := "(I)V" } : Jvm.MethodName)) ∈ pq_W := pq_in 409 (by decide +kernel) (by decide +kernel)
theorem ww_410 : (Jvm.Cond.instanceMethod ({ cls := "PatternColumns$Designing", name := "run", desc := "(I)V" } : Jvm.MethodName)) ∈ pq_W := pq_in 410 (by decide +kernel) (by decide +kernel)
theorem ww_411 : (Jvm.Cond.selects "PatternColumns$Designing" ({ cls := "PatternColumns$Designing", name := "run", desc := "(I)V" } : Jvm.MethodName) ({ cls := "PatternColumns$Designing", name := "run", desc := "(I)V" } : Jvm.MethodName)) ∈ pq_W := pq_in 411 (by decide +kernel) (by decide +kernel)
theorem ww_412 : (Jvm.Cond.code ({ cls := "PatternColumns$Designing", name := "run", desc := "(I)V" } : Jvm.MethodName) prog_3_method_3_code (5 : Nat) (Option.none : Option Jvm.ClassFile.FieldType)) ∈ pq_W := pq_in 412 (by decide +kernel) (by decide +kernel)
theorem ww_413 : (Jvm.Cond.methodLink "PatternColumns$Designing" (41 : Nat) ({ cls := "PatternColumns$Designing", name := "forget", desc := "()V" } : Jvm.MethodName)) ∈ pq_W := pq_in 413 (by decide +kernel) (by decide +kernel)
theorem ww_414 : (Jvm.Cond.methodLink "PatternColumns$Designing" (49 : Nat) ({ cls := "java/lang/System", name := "arraycopy", desc := "(Ljava/lang/Object;ILjava/lang/Object;II)V" } : Jvm.MethodName)) ∈ pq_W := pq_in 414 (by decide +kernel) (by decide +kernel)
theorem ww_415 : (Jvm.Cond.methodLink "PatternColumns$Designing" (55 : Nat) ({ cls := "PatternColumns$Slabs", name := "widthOfAll", desc := "()I" } : Jvm.MethodName)) ∈ pq_W := pq_in 415 (by decide +kernel) (by decide +kernel)
theorem ww_416 : (Jvm.Cond.instanceMethod ({ cls := "PatternColumns$Slabs", name := "widthOfAll", desc := "()I" } : Jvm.MethodName)) ∈ pq_W := pq_in 416 (by decide +kernel) (by decide +kernel)
theorem ww_417 : (Jvm.Cond.selects "PatternColumns$Slabs" ({ cls := "PatternColumns$Slabs", name := "widthOfAll", desc := "()I" } : Jvm.MethodName) ({ cls := "PatternColumns$Slabs", name := "widthOfAll", desc := "()I" } : Jvm.MethodName)) ∈ pq_W := pq_in 417 (by decide +kernel) (by decide +kernel)
theorem ww_418 : (Jvm.Cond.code ({ cls := "PatternColumns$Slabs", name := "widthOfAll", desc := "()I" } : Jvm.MethodName) prog_4_method_5_code (1 : Nat) (Option.some Jvm.ClassFile.FieldType.int)) ∈ pq_W := pq_in 418 (by decide +kernel) (by decide +kernel)
theorem ww_419 : (Jvm.Cond.methodLink "PatternColumns$Designing" (62 : Nat) ({ cls := "PatternColumns$Designing", name := "opens", desc := "(I)Z" } : Jvm.MethodName)) ∈ pq_W := pq_in 419 (by decide +kernel) (by decide +kernel)
theorem ww_421 : (Jvm.Cond.instanceMethod ({ cls := "PatternColumns$Designing", name := "opens", desc := "(I)Z" } : Jvm.MethodName)) ∈ pq_W := pq_in 421 (by decide +kernel) (by decide +kernel)
theorem ww_422 : (Jvm.Cond.code ({ cls := "PatternColumns$Designing", name := "opens", desc := "(I)Z" } : Jvm.MethodName) prog_3_method_4_code (2 : Nat) (Option.some Jvm.ClassFile.FieldType.boolean)) ∈ pq_W := pq_in 422 (by decide +kernel) (by decide +kernel)
theorem ww_423 : (Jvm.Cond.methodLink "PatternColumns$Designing" (78 : Nat) ({ cls := "PatternColumns$Slabs", name := "sheetsFor", desc := "(I)I" } : Jvm.MethodName)) ∈ pq_W := pq_in 423 (by decide +kernel) (by decide +kernel)
theorem ww_424 : (Jvm.Cond.instanceMethod ({ cls := "PatternColumns$Slabs", name := "sheetsFor", desc := "(I)I" } : Jvm.MethodName)) ∈ pq_W := pq_in 424 (by decide +kernel) (by decide +kernel)
theorem ww_425 : (Jvm.Cond.selects "PatternColumns$Slabs" ({ cls := "PatternColumns$Slabs", name := "sheetsFor", desc := "(I)I" } : Jvm.MethodName) ({ cls := "PatternColumns$Slabs", name := "sheetsFor", desc := "(I)I" } : Jvm.MethodName)) ∈ pq_W := pq_in 425 (by decide +kernel) (by decide +kernel)
theorem ww_426 : (Jvm.Cond.code ({ cls := "PatternColumns$Slabs", name := "sheetsFor", desc := "(I)I" } : Jvm.MethodName) prog_4_method_8_code (2 : Nat) (Option.some Jvm.ClassFile.FieldType.int)) ∈ pq_W := pq_in 426 (by decide +kernel) (by decide +kernel)
theorem ww_428 : (Jvm.Cond.methodLink "PatternColumns$Designing" (82 : Nat) ({ cls := "PatternColumns$Designing", name := "takeAsBest", desc := "(I)V" } : Jvm.MethodName)) ∈ pq_W := pq_in 428 (by decide +kernel) (by decide +kernel)
theorem ww_430 : (Jvm.Cond.instanceMethod ({ cls := "PatternColumns$Designing", name := "takeAsBest", desc := "(I)V" } : Jvm.MethodName)) ∈ pq_W := pq_in 430 (by decide +kernel) (by decide +kernel)
theorem ww_431 : (Jvm.Cond.code ({ cls := "PatternColumns$Designing", name := "takeAsBest", desc := "(I)V" } : Jvm.MethodName) prog_3_method_9_code (3 : Nat) (Option.none : Option Jvm.ClassFile.FieldType)) ∈ pq_W := pq_in 431 (by decide +kernel) (by decide +kernel)
theorem ww_432 : (Jvm.Cond.methodLink "PatternColumns$Designing" (86 : Nat) ({ cls := "PatternColumns$Slabs", name := "firstPattern", desc := "([I[I)V" } : Jvm.MethodName)) ∈ pq_W := pq_in 432 (by decide +kernel) (by decide +kernel)
theorem ww_433 : (Jvm.Cond.constant "PatternColumns$Designing" (66 : Nat) (200002 : Int32)) ∈ pq_W := pq_in 433 (by decide +kernel) (by decide +kernel)
theorem ww_434 : (Jvm.Cond.methodLink "PatternColumns$Designing" (67 : Nat) ({ cls := "PatternColumns$Designing", name := "lay", desc := "([I)V" } : Jvm.MethodName)) ∈ pq_W := pq_in 434 (by decide +kernel) (by decide +kernel)
theorem ww_436 : (Jvm.Cond.instanceMethod ({ cls := "PatternColumns$Designing", name := "lay", desc := "([I)V" } : Jvm.MethodName)) ∈ pq_W := pq_in 436 (by decide +kernel) (by decide +kernel)
theorem ww_437 : (Jvm.Cond.code ({ cls := "PatternColumns$Designing", name := "lay", desc := "([I)V" } : Jvm.MethodName) prog_3_method_7_code (3 : Nat) (Option.none : Option Jvm.ClassFile.FieldType)) ∈ pq_W := pq_in 437 (by decide +kernel) (by decide +kernel)
theorem ww_438 : (Jvm.Cond.methodLink "PatternColumns$Designing" (100 : Nat) ({ cls := "PatternColumns$Slabs", name := "widthOf", desc := "([I)I" } : Jvm.MethodName)) ∈ pq_W := pq_in 438 (by decide +kernel) (by decide +kernel)
theorem ww_439 : (Jvm.Cond.instanceMethod ({ cls := "PatternColumns$Slabs", name := "widthOf", desc := "([I)I" } : Jvm.MethodName)) ∈ pq_W := pq_in 439 (by decide +kernel) (by decide +kernel)
theorem ww_440 : (Jvm.Cond.selects "PatternColumns$Slabs" ({ cls := "PatternColumns$Slabs", name := "widthOf", desc := "([I)I" } : Jvm.MethodName) ({ cls := "PatternColumns$Slabs", name := "widthOf", desc := "([I)I" } : Jvm.MethodName)) ∈ pq_W := pq_in 440 (by decide +kernel) (by decide +kernel)
theorem ww_441 : (Jvm.Cond.code ({ cls := "PatternColumns$Slabs", name := "widthOf", desc := "([I)I" } : Jvm.MethodName) prog_4_method_4_code (2 : Nat) (Option.some Jvm.ClassFile.FieldType.int)) ∈ pq_W := pq_in 441 (by decide +kernel) (by decide +kernel)
theorem ww_442 : (Jvm.Cond.methodLink "PatternColumns$Designing" (71 : Nat) ({ cls := "PatternColumns$Designing", name := "takeBack", desc := "([I)V" } : Jvm.MethodName)) ∈ pq_W := pq_in 442 (by decide +kernel) (by decide +kernel)
theorem ww_444 : (Jvm.Cond.instanceMethod ({ cls := "PatternColumns$Designing", name := "takeBack", desc := "([I)V" } : Jvm.MethodName)) ∈ pq_W := pq_in 444 (by decide +kernel) (by decide +kernel)
theorem ww_445 : (Jvm.Cond.code ({ cls := "PatternColumns$Designing", name := "takeBack", desc := "([I)V" } : Jvm.MethodName) prog_3_method_8_code (3 : Nat) (Option.none : Option Jvm.ClassFile.FieldType)) ∈ pq_W := pq_in 445 (by decide +kernel) (by decide +kernel)
theorem ww_446 : (Jvm.Cond.methodLink "PatternColumns$Designing" (74 : Nat) ({ cls := "PatternColumns$Designing", name := "goesOn", desc := "([I)Z" } : Jvm.MethodName)) ∈ pq_W := pq_in 446 (by decide +kernel) (by decide +kernel)
theorem ww_448 : (Jvm.Cond.instanceMethod ({ cls := "PatternColumns$Designing", name := "goesOn", desc := "([I)Z" } : Jvm.MethodName)) ∈ pq_W := pq_in 448 (by decide +kernel) (by decide +kernel)
theorem ww_449 : (Jvm.Cond.code ({ cls := "PatternColumns$Designing", name := "goesOn", desc := "([I)Z" } : Jvm.MethodName) prog_3_method_5_code (2 : Nat) (Option.some Jvm.ClassFile.FieldType.boolean)) ∈ pq_W := pq_in 449 (by decide +kernel) (by decide +kernel)
theorem ww_450 : (Jvm.Cond.methodLink "PatternColumns$Designing" (93 : Nat) ({ cls := "PatternColumns$Designing", name := "lowestLeft", desc := "()I" } : Jvm.MethodName)) ∈ pq_W := pq_in 450 (by decide +kernel) (by decide +kernel)
theorem ww_452 : (Jvm.Cond.instanceMethod ({ cls := "PatternColumns$Designing", name := "lowestLeft", desc := "()I" } : Jvm.MethodName)) ∈ pq_W := pq_in 452 (by decide +kernel) (by decide +kernel)
theorem ww_453 : (Jvm.Cond.code ({ cls := "PatternColumns$Designing", name := "lowestLeft", desc := "()I" } : Jvm.MethodName) prog_3_method_6_code (2 : Nat) (Option.some Jvm.ClassFile.FieldType.int)) ∈ pq_W := pq_in 453 (by decide +kernel) (by decide +kernel)
theorem ww_454 : (Jvm.Cond.methodLink "PatternColumns$Designing" (96 : Nat) ({ cls := "PatternColumns$Slabs", name := "nextPattern", desc := "([I[III)Z" } : Jvm.MethodName)) ∈ pq_W := pq_in 454 (by decide +kernel) (by decide +kernel)
theorem ww_455 : (Jvm.Cond.methodLink "PatternColumnsLaw" (100 : Nat) ({ cls := "PatternColumnsLaw", name := "designed", desc := "(LPatternColumns;I[J)I" } : Jvm.MethodName)) ∈ pq_W := pq_in 455 (by decide +kernel) (by decide +kernel)
theorem ww_456 : (Jvm.Cond.static ({ cls := "PatternColumnsLaw", name := "designed", desc := "(LPatternColumns;I[J)I" } : Jvm.MethodName)) ∈ pq_W := pq_in 456 (by decide +kernel) (by decide +kernel)
theorem ww_457 : (Jvm.Cond.codeWith ({ cls := "PatternColumnsLaw", name := "designed", desc := "(LPatternColumns;I[J)I" } : Jvm.MethodName) method_9_code (4 : Nat) (Option.some Jvm.ClassFile.FieldType.int) [((0 : Nat), (9 : Nat), (12 : Nat), (25 : Nat)), ((0 : Nat), (9 : Nat), (15 : Nat), (19 : Nat))]) ∈ pq_W := pq_in 457 (by decide +kernel) (by decide +kernel)
theorem ww_458 : (Jvm.Cond.methodLink "PatternColumnsLaw" (39 : Nat) ({ cls := "PatternColumns", name := "designed", desc := "(I)I" } : Jvm.MethodName)) ∈ pq_W := pq_in 458 (by decide +kernel) (by decide +kernel)
theorem ww_459 : (Jvm.Cond.instanceMethod ({ cls := "PatternColumns", name := "designed", desc := "(I)I" } : Jvm.MethodName)) ∈ pq_W := pq_in 459 (by decide +kernel) (by decide +kernel)
theorem ww_460 : (Jvm.Cond.selects "PatternColumns" ({ cls := "PatternColumns", name := "designed", desc := "(I)I" } : Jvm.MethodName) ({ cls := "PatternColumns", name := "designed", desc := "(I)I" } : Jvm.MethodName)) ∈ pq_W := pq_in 460 (by decide +kernel) (by decide +kernel)
theorem ww_461 : (Jvm.Cond.code ({ cls := "PatternColumns", name := "designed", desc := "(I)I" } : Jvm.MethodName) prog_1_method_10_code (2 : Nat) (Option.some Jvm.ClassFile.FieldType.int)) ∈ pq_W := pq_in 461 (by decide +kernel) (by decide +kernel)
theorem ww_464 : (Jvm.Cond.methodLink "PatternColumnsLaw" (103 : Nat) ({ cls := "PatternColumnsLaw", name := "gap", desc := "(LPatternColumns;[J)I" } : Jvm.MethodName)) ∈ pq_W := pq_in 464 (by decide +kernel) (by decide +kernel)
theorem ww_465 : (Jvm.Cond.static ({ cls := "PatternColumnsLaw", name := "gap", desc := "(LPatternColumns;[J)I" } : Jvm.MethodName)) ∈ pq_W := pq_in 465 (by decide +kernel) (by decide +kernel)
theorem ww_466 : (Jvm.Cond.codeWith ({ cls := "PatternColumnsLaw", name := "gap", desc := "(LPatternColumns;[J)I" } : Jvm.MethodName) method_10_code (3 : Nat) (Option.some Jvm.ClassFile.FieldType.int) [((0 : Nat), (8 : Nat), (11 : Nat), (19 : Nat))]) ∈ pq_W := pq_in 466 (by decide +kernel) (by decide +kernel)
theorem ww_467 : (Jvm.Cond.methodLink "PatternColumnsLaw" (42 : Nat) ({ cls := "PatternColumns", name := "gap", desc := "()I" } : Jvm.MethodName)) ∈ pq_W := pq_in 467 (by decide +kernel) (by decide +kernel)
theorem ww_468 : (Jvm.Cond.instanceMethod ({ cls := "PatternColumns", name := "gap", desc := "()I" } : Jvm.MethodName)) ∈ pq_W := pq_in 468 (by decide +kernel) (by decide +kernel)
theorem ww_469 : (Jvm.Cond.selects "PatternColumns" ({ cls := "PatternColumns", name := "gap", desc := "()I" } : Jvm.MethodName) ({ cls := "PatternColumns", name := "gap", desc := "()I" } : Jvm.MethodName)) ∈ pq_W := pq_in 469 (by decide +kernel) (by decide +kernel)
theorem ww_470 : (Jvm.Cond.code ({ cls := "PatternColumns", name := "gap", desc := "()I" } : Jvm.MethodName) prog_1_method_11_code (2 : Nat) (Option.some Jvm.ClassFile.FieldType.int)) ∈ pq_W := pq_in 470 (by decide +kernel) (by decide +kernel)
theorem ww_471 : (Jvm.Cond.methodLink "PatternColumns" (134 : Nat) ({ cls := "PatternColumns", name := "requireDesign", desc := "()V" } : Jvm.MethodName)) ∈ pq_W := pq_in 471 (by decide +kernel) (by decide +kernel)
theorem ww_473 : (Jvm.Cond.instanceMethod ({ cls := "PatternColumns", name := "requireDesign", desc := "()V" } : Jvm.MethodName)) ∈ pq_W := pq_in 473 (by decide +kernel) (by decide +kernel)
theorem ww_474 : (Jvm.Cond.code ({ cls := "PatternColumns", name := "requireDesign", desc := "()V" } : Jvm.MethodName) prog_1_method_19_code (1 : Nat) (Option.none : Option Jvm.ClassFile.FieldType)) ∈ pq_W := pq_in 474 (by decide +kernel) (by decide +kernel)
theorem ww_476 : (Jvm.Cond.methodLink "PatternColumns" (137 : Nat) ({ cls := "PatternColumns$Slabs", name := "widthOfAll", desc := "()I" } : Jvm.MethodName)) ∈ pq_W := pq_in 476 (by decide +kernel) (by decide +kernel)
theorem ww_477 : (Jvm.Cond.methodLink "PatternColumns" (140 : Nat) ({ cls := "PatternColumns$Slabs", name := "sheetsFor", desc := "(I)I" } : Jvm.MethodName)) ∈ pq_W := pq_in 477 (by decide +kernel) (by decide +kernel)
theorem ww_478 : (Jvm.Cond.methodLink "PatternColumns" (143 : Nat) ({ cls := "java/lang/Math", name := "max", desc := "(II)I" } : Jvm.MethodName)) ∈ pq_W := pq_in 478 (by decide +kernel) (by decide +kernel)
theorem ww_479 : (Jvm.Cond.static ({ cls := "java/lang/Math", name := "max", desc := "(II)I" } : Jvm.MethodName)) ∈ pq_W := pq_in 479 (by decide +kernel) (by decide +kernel)
theorem ww_480 : (Jvm.Cond.code ({ cls := "java/lang/Math", name := "max", desc := "(II)I" } : Jvm.MethodName) prog_12_method_65_code (2 : Nat) (Option.some Jvm.ClassFile.FieldType.int)) ∈ pq_W := pq_in 480 (by decide +kernel) (by decide +kernel)
theorem ww_481 : (Jvm.Cond.methodLink "PatternColumnsLaw" (107 : Nat) ({ cls := "PatternColumnsLaw", name := "cut", desc := "(LPatternColumns;II[J)I" } : Jvm.MethodName)) ∈ pq_W := pq_in 481 (by decide +kernel) (by decide +kernel)
theorem ww_482 : (Jvm.Cond.static ({ cls := "PatternColumnsLaw", name := "cut", desc := "(LPatternColumns;II[J)I" } : Jvm.MethodName)) ∈ pq_W := pq_in 482 (by decide +kernel) (by decide +kernel)
theorem ww_483 : (Jvm.Cond.codeWith ({ cls := "PatternColumnsLaw", name := "cut", desc := "(LPatternColumns;II[J)I" } : Jvm.MethodName) method_11_code (5 : Nat) (Option.some Jvm.ClassFile.FieldType.int) [((0 : Nat), (10 : Nat), (13 : Nat), (25 : Nat)), ((0 : Nat), (10 : Nat), (17 : Nat), (19 : Nat))]) ∈ pq_W := pq_in 483 (by decide +kernel) (by decide +kernel)
theorem ww_484 : (Jvm.Cond.methodLink "PatternColumnsLaw" (46 : Nat) ({ cls := "PatternColumns", name := "cut", desc := "(II)I" } : Jvm.MethodName)) ∈ pq_W := pq_in 484 (by decide +kernel) (by decide +kernel)
theorem ww_485 : (Jvm.Cond.instanceMethod ({ cls := "PatternColumns", name := "cut", desc := "(II)I" } : Jvm.MethodName)) ∈ pq_W := pq_in 485 (by decide +kernel) (by decide +kernel)
theorem ww_486 : (Jvm.Cond.selects "PatternColumns" ({ cls := "PatternColumns", name := "cut", desc := "(II)I" } : Jvm.MethodName) ({ cls := "PatternColumns", name := "cut", desc := "(II)I" } : Jvm.MethodName)) ∈ pq_W := pq_in 486 (by decide +kernel) (by decide +kernel)
theorem ww_487 : (Jvm.Cond.code ({ cls := "PatternColumns", name := "cut", desc := "(II)I" } : Jvm.MethodName) prog_1_method_12_code (3 : Nat) (Option.some Jvm.ClassFile.FieldType.int)) ∈ pq_W := pq_in 487 (by decide +kernel) (by decide +kernel)
theorem ww_488 : (Jvm.Cond.methodLink "PatternColumns" (148 : Nat) ({ cls := "PatternColumns", name := "requireSheet", desc := "(I)V" } : Jvm.MethodName)) ∈ pq_W := pq_in 488 (by decide +kernel) (by decide +kernel)
theorem ww_490 : (Jvm.Cond.instanceMethod ({ cls := "PatternColumns", name := "requireSheet", desc := "(I)V" } : Jvm.MethodName)) ∈ pq_W := pq_in 490 (by decide +kernel) (by decide +kernel)
theorem ww_491 : (Jvm.Cond.code ({ cls := "PatternColumns", name := "requireSheet", desc := "(I)V" } : Jvm.MethodName) prog_1_method_20_code (2 : Nat) (Option.none : Option Jvm.ClassFile.FieldType)) ∈ pq_W := pq_in 491 (by decide +kernel) (by decide +kernel)
theorem ww_493 : (Jvm.Cond.methodLink "PatternColumnsLaw" (110 : Nat) ({ cls := "PatternColumnsLaw", name := "over", desc := "(LPatternColumns;I[J)I" } : Jvm.MethodName)) ∈ pq_W := pq_in 493 (by decide +kernel) (by decide +kernel)
theorem ww_494 : (Jvm.Cond.static ({ cls := "PatternColumnsLaw", name := "over", desc := "(LPatternColumns;I[J)I" } : Jvm.MethodName)) ∈ pq_W := pq_in 494 (by decide +kernel) (by decide +kernel)
theorem ww_495 : (Jvm.Cond.codeWith ({ cls := "PatternColumnsLaw", name := "over", desc := "(LPatternColumns;I[J)I" } : Jvm.MethodName) method_12_code (4 : Nat) (Option.some Jvm.ClassFile.FieldType.int) [((0 : Nat), (9 : Nat), (12 : Nat), (25 : Nat)), ((0 : Nat), (9 : Nat), (15 : Nat), (19 : Nat))]) ∈ pq_W := pq_in 495 (by decide +kernel) (by decide +kernel)
theorem ww_496 : (Jvm.Cond.methodLink "PatternColumnsLaw" (49 : Nat) ({ cls := "PatternColumns", name := "over", desc := "(I)I" } : Jvm.MethodName)) ∈ pq_W := pq_in 496 (by decide +kernel) (by decide +kernel)
theorem ww_497 : (Jvm.Cond.instanceMethod ({ cls := "PatternColumns", name := "over", desc := "(I)I" } : Jvm.MethodName)) ∈ pq_W := pq_in 497 (by decide +kernel) (by decide +kernel)
theorem ww_498 : (Jvm.Cond.selects "PatternColumns" ({ cls := "PatternColumns", name := "over", desc := "(I)I" } : Jvm.MethodName) ({ cls := "PatternColumns", name := "over", desc := "(I)I" } : Jvm.MethodName)) ∈ pq_W := pq_in 498 (by decide +kernel) (by decide +kernel)
theorem ww_499 : (Jvm.Cond.code ({ cls := "PatternColumns", name := "over", desc := "(I)I" } : Jvm.MethodName) prog_1_method_13_code (2 : Nat) (Option.some Jvm.ClassFile.FieldType.int)) ∈ pq_W := pq_in 499 (by decide +kernel) (by decide +kernel)
theorem ww_500 : (Jvm.Cond.methodLink "PatternColumns" (155 : Nat) ({ cls := "PatternColumns$Slabs", name := "widthOf", desc := "([I)I" } : Jvm.MethodName)) ∈ pq_W := pq_in 500 (by decide +kernel) (by decide +kernel)
theorem ww_501 : (Jvm.Cond.methodLink "PatternColumnsLaw" (113 : Nat) ({ cls := "PatternColumnsLaw", name := "keep", desc := "(LPatternColumns;II[J)I" } : Jvm.MethodName)) ∈ pq_W := pq_in 501 (by decide +kernel) (by decide +kernel)
theorem ww_502 : (Jvm.Cond.static ({ cls := "PatternColumnsLaw", name := "keep", desc := "(LPatternColumns;II[J)I" } : Jvm.MethodName)) ∈ pq_W := pq_in 502 (by decide +kernel) (by decide +kernel)
theorem ww_503 : (Jvm.Cond.codeWith ({ cls := "PatternColumnsLaw", name := "keep", desc := "(LPatternColumns;II[J)I" } : Jvm.MethodName) method_13_code (5 : Nat) (Option.some Jvm.ClassFile.FieldType.int) [((0 : Nat), (10 : Nat), (13 : Nat), (25 : Nat)), ((0 : Nat), (10 : Nat), (17 : Nat), (19 : Nat)), ((0 : Nat), (10 : Nat), (21 : Nat), (13 : Nat)), ((0 : Nat), (10 : Nat), (25 : Nat), (37 : Nat))]) ∈ pq_W := pq_in 503 (by decide +kernel) (by decide +kernel)
theorem ww_504 : (Jvm.Cond.methodLink "PatternColumnsLaw" (52 : Nat) ({ cls := "PatternColumns", name := "keep", desc := "(II)I" } : Jvm.MethodName)) ∈ pq_W := pq_in 504 (by decide +kernel) (by decide +kernel)
theorem ww_505 : (Jvm.Cond.instanceMethod ({ cls := "PatternColumns", name := "keep", desc := "(II)I" } : Jvm.MethodName)) ∈ pq_W := pq_in 505 (by decide +kernel) (by decide +kernel)
theorem ww_506 : (Jvm.Cond.selects "PatternColumns" ({ cls := "PatternColumns", name := "keep", desc := "(II)I" } : Jvm.MethodName) ({ cls := "PatternColumns", name := "keep", desc := "(II)I" } : Jvm.MethodName)) ∈ pq_W := pq_in 506 (by decide +kernel) (by decide +kernel)
theorem ww_507 : (Jvm.Cond.code ({ cls := "PatternColumns", name := "keep", desc := "(II)I" } : Jvm.MethodName) prog_1_method_14_code (5 : Nat) (Option.some Jvm.ClassFile.FieldType.int)) ∈ pq_W := pq_in 507 (by decide +kernel) (by decide +kernel)
theorem ww_509 : (Jvm.Cond.methodLink "PatternColumns" (161 : Nat) ({ cls := "PatternColumns$Store", name := "find", desc := "([I)I" } : Jvm.MethodName)) ∈ pq_W := pq_in 509 (by decide +kernel) (by decide +kernel)
theorem ww_510 : (Jvm.Cond.instanceMethod ({ cls := "PatternColumns$Store", name := "find", desc := "([I)I" } : Jvm.MethodName)) ∈ pq_W := pq_in 510 (by decide +kernel) (by decide +kernel)
theorem ww_511 : (Jvm.Cond.selects "PatternColumns$Store" ({ cls := "PatternColumns$Store", name := "find", desc := "([I)I" } : Jvm.MethodName) ({ cls := "PatternColumns$Store", name := "find", desc := "([I)I" } : Jvm.MethodName)) ∈ pq_W := pq_in 511 (by decide +kernel) (by decide +kernel)
theorem ww_512 : (Jvm.Cond.code ({ cls := "PatternColumns$Store", name := "find", desc := "([I)I" } : Jvm.MethodName) prog_5_method_2_code (3 : Nat) (Option.some Jvm.ClassFile.FieldType.int)) ∈ pq_W := pq_in 512 (by decide +kernel) (by decide +kernel)
theorem ww_513 : (Jvm.Cond.methodLink "PatternColumns$Store" (27 : Nat) ({ cls := "PatternColumns$Store", name := "same", desc := "([I[I)Z" } : Jvm.MethodName)) ∈ pq_W := pq_in 513 (by decide +kernel) (by decide +kernel)
theorem ww_514 : (Jvm.Cond.static ({ cls := "PatternColumns$Store", name := "same", desc := "([I[I)Z" } : Jvm.MethodName)) ∈ pq_W := pq_in 514 (by decide +kernel) (by decide +kernel)
theorem ww_515 : (Jvm.Cond.code ({ cls := "PatternColumns$Store", name := "same", desc := "([I[I)Z" } : Jvm.MethodName) prog_5_method_5_code (3 : Nat) (Option.some Jvm.ClassFile.FieldType.boolean)) ∈ pq_W := pq_in 515 (by decide +kernel) (by decide +kernel)
theorem ww_516 : (Jvm.Cond.methodLink "PatternColumns" (164 : Nat) ({ cls := "PatternColumns$Store", name := "countAgain", desc := "(II)V" } : Jvm.MethodName)) ∈ pq_W := pq_in 516 (by decide +kernel) (by decide +kernel)
theorem ww_517 : (Jvm.Cond.instanceMethod ({ cls := "PatternColumns$Store", name := "countAgain", desc := "(II)V" } : Jvm.MethodName)) ∈ pq_W := pq_in 517 (by decide +kernel) (by decide +kernel)
theorem ww_518 : (Jvm.Cond.selects "PatternColumns$Store" ({ cls := "PatternColumns$Store", name := "countAgain", desc := "(II)V" } : Jvm.MethodName) ({ cls := "PatternColumns$Store", name := "countAgain", desc := "(II)V" } : Jvm.MethodName)) ∈ pq_W := pq_in 518 (by decide +kernel) (by decide +kernel)
theorem ww_519 : (Jvm.Cond.code ({ cls := "PatternColumns$Store", name := "countAgain", desc := "(II)V" } : Jvm.MethodName) prog_5_method_3_code (3 : Nat) (Option.none : Option Jvm.ClassFile.FieldType)) ∈ pq_W := pq_in 519 (by decide +kernel) (by decide +kernel)
theorem ww_520 : (Jvm.Cond.methodLink "PatternColumns$Store" (31 : Nat) ({ cls := "java/lang/Math", name := "max", desc := "(II)I" } : Jvm.MethodName)) ∈ pq_W := pq_in 520 (by decide +kernel) (by decide +kernel)
theorem ww_522 : (Jvm.Cond.methodLink "PatternColumns" (171 : Nat) ({ cls := "PatternColumns$Store", name := "add", desc := "([II)I" } : Jvm.MethodName)) ∈ pq_W := pq_in 522 (by decide +kernel) (by decide +kernel)
theorem ww_523 : (Jvm.Cond.instanceMethod ({ cls := "PatternColumns$Store", name := "add", desc := "([II)I" } : Jvm.MethodName)) ∈ pq_W := pq_in 523 (by decide +kernel) (by decide +kernel)
theorem ww_524 : (Jvm.Cond.selects "PatternColumns$Store" ({ cls := "PatternColumns$Store", name := "add", desc := "([II)I" } : Jvm.MethodName) ({ cls := "PatternColumns$Store", name := "add", desc := "([II)I" } : Jvm.MethodName)) ∈ pq_W := pq_in 524 (by decide +kernel) (by decide +kernel)
theorem ww_525 : (Jvm.Cond.code ({ cls := "PatternColumns$Store", name := "add", desc := "([II)I" } : Jvm.MethodName) prog_5_method_4_code (4 : Nat) (Option.some Jvm.ClassFile.FieldType.int)) ∈ pq_W := pq_in 525 (by decide +kernel) (by decide +kernel)
theorem ww_526 : (Jvm.Cond.methodLink "PatternColumns$Store" (37 : Nat) ({ cls := "java/lang/System", name := "arraycopy", desc := "(Ljava/lang/Object;ILjava/lang/Object;II)V" } : Jvm.MethodName)) ∈ pq_W := pq_in 526 (by decide +kernel) (by decide +kernel)
theorem ww_527 : (Jvm.Cond.methodLink "PatternColumnsLaw" (116 : Nat) ({ cls := "PatternColumnsLaw", name := "kept", desc := "(LPatternColumns;II[J)I" } : Jvm.MethodName)) ∈ pq_W := pq_in 527 (by decide +kernel) (by decide +kernel)
theorem ww_528 : (Jvm.Cond.static ({ cls := "PatternColumnsLaw", name := "kept", desc := "(LPatternColumns;II[J)I" } : Jvm.MethodName)) ∈ pq_W := pq_in 528 (by decide +kernel) (by decide +kernel)
theorem ww_529 : (Jvm.Cond.codeWith ({ cls := "PatternColumnsLaw", name := "kept", desc := "(LPatternColumns;II[J)I" } : Jvm.MethodName) method_14_code (5 : Nat) (Option.some Jvm.ClassFile.FieldType.int) [((0 : Nat), (10 : Nat), (13 : Nat), (25 : Nat))]) ∈ pq_W := pq_in 529 (by decide +kernel) (by decide +kernel)
theorem ww_530 : (Jvm.Cond.methodLink "PatternColumnsLaw" (55 : Nat) ({ cls := "PatternColumns", name := "kept", desc := "(II)I" } : Jvm.MethodName)) ∈ pq_W := pq_in 530 (by decide +kernel) (by decide +kernel)
theorem ww_531 : (Jvm.Cond.instanceMethod ({ cls := "PatternColumns", name := "kept", desc := "(II)I" } : Jvm.MethodName)) ∈ pq_W := pq_in 531 (by decide +kernel) (by decide +kernel)
theorem ww_532 : (Jvm.Cond.selects "PatternColumns" ({ cls := "PatternColumns", name := "kept", desc := "(II)I" } : Jvm.MethodName) ({ cls := "PatternColumns", name := "kept", desc := "(II)I" } : Jvm.MethodName)) ∈ pq_W := pq_in 532 (by decide +kernel) (by decide +kernel)
theorem ww_533 : (Jvm.Cond.code ({ cls := "PatternColumns", name := "kept", desc := "(II)I" } : Jvm.MethodName) prog_1_method_15_code (3 : Nat) (Option.some Jvm.ClassFile.FieldType.int)) ∈ pq_W := pq_in 533 (by decide +kernel) (by decide +kernel)
theorem ww_535 : (Jvm.Cond.methodLink "PatternColumnsLaw" (119 : Nat) ({ cls := "PatternColumnsLaw", name := "fitting", desc := "(LPatternColumns;I[J)I" } : Jvm.MethodName)) ∈ pq_W := pq_in 535 (by decide +kernel) (by decide +kernel)
theorem ww_536 : (Jvm.Cond.static ({ cls := "PatternColumnsLaw", name := "fitting", desc := "(LPatternColumns;I[J)I" } : Jvm.MethodName)) ∈ pq_W := pq_in 536 (by decide +kernel) (by decide +kernel)
theorem ww_537 : (Jvm.Cond.codeWith ({ cls := "PatternColumnsLaw", name := "fitting", desc := "(LPatternColumns;I[J)I" } : Jvm.MethodName) method_15_code (4 : Nat) (Option.some Jvm.ClassFile.FieldType.int) [((0 : Nat), (9 : Nat), (12 : Nat), (25 : Nat))]) ∈ pq_W := pq_in 537 (by decide +kernel) (by decide +kernel)
theorem ww_538 : (Jvm.Cond.methodLink "PatternColumnsLaw" (58 : Nat) ({ cls := "PatternColumns", name := "fitting", desc := "(I)I" } : Jvm.MethodName)) ∈ pq_W := pq_in 538 (by decide +kernel) (by decide +kernel)
theorem ww_539 : (Jvm.Cond.instanceMethod ({ cls := "PatternColumns", name := "fitting", desc := "(I)I" } : Jvm.MethodName)) ∈ pq_W := pq_in 539 (by decide +kernel) (by decide +kernel)
theorem ww_540 : (Jvm.Cond.selects "PatternColumns" ({ cls := "PatternColumns", name := "fitting", desc := "(I)I" } : Jvm.MethodName) ({ cls := "PatternColumns", name := "fitting", desc := "(I)I" } : Jvm.MethodName)) ∈ pq_W := pq_in 540 (by decide +kernel) (by decide +kernel)
theorem ww_541 : (Jvm.Cond.code ({ cls := "PatternColumns", name := "fitting", desc := "(I)I" } : Jvm.MethodName) prog_1_method_16_code (4 : Nat) (Option.some Jvm.ClassFile.FieldType.int)) ∈ pq_W := pq_in 541 (by decide +kernel) (by decide +kernel)
theorem ww_543 : (Jvm.Cond.methodLink "PatternColumns" (187 : Nat) ({ cls := "PatternColumns$Slabs", name := "isPattern", desc := "([I)Z" } : Jvm.MethodName)) ∈ pq_W := pq_in 543 (by decide +kernel) (by decide +kernel)
theorem ww_544 : (Jvm.Cond.instanceMethod ({ cls := "PatternColumns$Slabs", name := "isPattern", desc := "([I)Z" } : Jvm.MethodName)) ∈ pq_W := pq_in 544 (by decide +kernel) (by decide +kernel)
theorem ww_545 : (Jvm.Cond.selects "PatternColumns$Slabs" ({ cls := "PatternColumns$Slabs", name := "isPattern", desc := "([I)Z" } : Jvm.MethodName) ({ cls := "PatternColumns$Slabs", name := "isPattern", desc := "([I)Z" } : Jvm.MethodName)) ∈ pq_W := pq_in 545 (by decide +kernel) (by decide +kernel)
theorem ww_546 : (Jvm.Cond.code ({ cls := "PatternColumns$Slabs", name := "isPattern", desc := "([I)Z" } : Jvm.MethodName) prog_4_method_10_code (3 : Nat) (Option.some Jvm.ClassFile.FieldType.boolean)) ∈ pq_W := pq_in 546 (by decide +kernel) (by decide +kernel)
theorem ww_547 : (Jvm.Cond.methodLink "PatternColumns$Slabs" (40 : Nat) ({ cls := "PatternColumns$Slabs", name := "widthOf", desc := "([I)I" } : Jvm.MethodName)) ∈ pq_W := pq_in 547 (by decide +kernel) (by decide +kernel)
theorem ww_548 : (Jvm.Cond.classLink "PatternColumnsLaw" (62 : Nat) "PatternColumnsModel") ∈ pq_W := pq_in 548 (by decide +kernel) (by decide +kernel)
theorem ww_549 : (Jvm.Cond.instantiable "PatternColumnsModel" (15 : Nat)) ∈ pq_W := pq_in 549 (by decide +kernel) (by decide +kernel)
theorem ww_550 : (Jvm.Cond.methodLink "PatternColumnsLaw" (64 : Nat) ({ cls := "PatternColumnsModel", name := "<init>", desc := "()V" } : Jvm.MethodName)) ∈ pq_W := pq_in 550 (by decide +kernel) (by decide +kernel)
theorem ww_551 : (Jvm.Cond.instanceMethod ({ cls := "PatternColumnsModel", name := "<init>", desc := "()V" } : Jvm.MethodName)) ∈ pq_W := pq_in 551 (by decide +kernel) (by decide +kernel)
theorem ww_552 : (Jvm.Cond.code ({ cls := "PatternColumnsModel", name := "<init>", desc := "()V" } : Jvm.MethodName) prog_7_method_1_code (1 : Nat) (Option.none : Option Jvm.ClassFile.FieldType)) ∈ pq_W := pq_in 552 (by decide +kernel) (by decide +kernel)
theorem ww_553 : (Jvm.Cond.methodLink "PatternColumnsModel" (1 : Nat) ({ cls := "java/lang/Object", name := "<init>", desc := "()V" } : Jvm.MethodName)) ∈ pq_W := pq_in 553 (by decide +kernel) (by decide +kernel)
theorem ww_554 : (Jvm.Cond.fieldLink "PatternColumnsModel" (38 : Nat) "PatternColumnsModel" "thrown" "I") ∈ pq_W := pq_in 554 (by decide +kernel) (by decide +kernel)
theorem ww_555 : (Jvm.Cond.fieldLink "PatternColumnsModel" (7 : Nat) "PatternColumnsModel" "sheet" "I") ∈ pq_W := pq_in 555 (by decide +kernel) (by decide +kernel)
theorem ww_556 : (Jvm.Cond.fieldLink "PatternColumnsModel" (41 : Nat) "PatternColumnsModel" "orders" "I") ∈ pq_W := pq_in 556 (by decide +kernel) (by decide +kernel)
theorem ww_557 : (Jvm.Cond.fieldLink "PatternColumnsModel" (13 : Nat) "PatternColumnsModel" "width" "[I") ∈ pq_W := pq_in 557 (by decide +kernel) (by decide +kernel)
theorem ww_558 : (Jvm.Cond.fieldLink "PatternColumnsModel" (17 : Nat) "PatternColumnsModel" "pieces" "[I") ∈ pq_W := pq_in 558 (by decide +kernel) (by decide +kernel)
theorem ww_559 : (Jvm.Cond.fieldLink "PatternColumnsModel" (20 : Nat) "PatternColumnsModel" "price" "[I") ∈ pq_W := pq_in 559 (by decide +kernel) (by decide +kernel)
theorem ww_560 : (Jvm.Cond.fieldLink "PatternColumnsModel" (23 : Nat) "PatternColumnsModel" "left" "[I") ∈ pq_W := pq_in 560 (by decide +kernel) (by decide +kernel)
theorem ww_561 : (Jvm.Cond.fieldLink "PatternColumnsModel" (26 : Nat) "PatternColumnsModel" "now" "[I") ∈ pq_W := pq_in 561 (by decide +kernel) (by decide +kernel)
theorem ww_562 : (Jvm.Cond.fieldLink "PatternColumnsModel" (29 : Nat) "PatternColumnsModel" "sheets" "I") ∈ pq_W := pq_in 562 (by decide +kernel) (by decide +kernel)
theorem ww_563 : (Jvm.Cond.fieldLink "PatternColumnsModel" (32 : Nat) "PatternColumnsModel" "best" "[I") ∈ pq_W := pq_in 563 (by decide +kernel) (by decide +kernel)
theorem ww_564 : (Jvm.Cond.fieldLink "PatternColumnsModel" (48 : Nat) "PatternColumnsModel" "asked" "Z") ∈ pq_W := pq_in 564 (by decide +kernel) (by decide +kernel)
theorem ww_565 : (Jvm.Cond.fieldLink "PatternColumnsModel" (100 : Nat) "PatternColumnsModel" "spent" "Z") ∈ pq_W := pq_in 565 (by decide +kernel) (by decide +kernel)
theorem ww_566 : (Jvm.Cond.fieldLink "PatternColumnsModel" (97 : Nat) "PatternColumnsModel" "steps" "I") ∈ pq_W := pq_in 566 (by decide +kernel) (by decide +kernel)
theorem ww_567 : (Jvm.Cond.fieldLink "PatternColumnsModel" (112 : Nat) "PatternColumnsModel" "keptMany" "I") ∈ pq_W := pq_in 567 (by decide +kernel) (by decide +kernel)
theorem ww_568 : (Jvm.Cond.fieldLink "PatternColumnsModel" (35 : Nat) "PatternColumnsModel" "kept" "[I") ∈ pq_W := pq_in 568 (by decide +kernel) (by decide +kernel)
theorem ww_569 : (Jvm.Cond.lays "PatternColumnsModel" "PatternColumnsModel" "thrown" "I") ∈ pq_W := pq_in 569 (by decide +kernel) (by decide +kernel)
theorem ww_571 : (Jvm.Cond.lays "PatternColumnsModel" "PatternColumnsModel" "sheet" "I") ∈ pq_W := pq_in 571 (by decide +kernel) (by decide +kernel)
theorem ww_573 : (Jvm.Cond.lays "PatternColumnsModel" "PatternColumnsModel" "orders" "I") ∈ pq_W := pq_in 573 (by decide +kernel) (by decide +kernel)
theorem ww_575 : (Jvm.Cond.laysFinal "PatternColumnsModel" "PatternColumnsModel" "width" "[I") ∈ pq_W := pq_in 575 (by decide +kernel) (by decide +kernel)
theorem ww_577 : (Jvm.Cond.laysFinal "PatternColumnsModel" "PatternColumnsModel" "pieces" "[I") ∈ pq_W := pq_in 577 (by decide +kernel) (by decide +kernel)
theorem ww_579 : (Jvm.Cond.laysFinal "PatternColumnsModel" "PatternColumnsModel" "price" "[I") ∈ pq_W := pq_in 579 (by decide +kernel) (by decide +kernel)
theorem ww_581 : (Jvm.Cond.laysFinal "PatternColumnsModel" "PatternColumnsModel" "left" "[I") ∈ pq_W := pq_in 581 (by decide +kernel) (by decide +kernel)
theorem ww_583 : (Jvm.Cond.laysFinal "PatternColumnsModel" "PatternColumnsModel" "now" "[I") ∈ pq_W := pq_in 583 (by decide +kernel) (by decide +kernel)
theorem ww_585 : (Jvm.Cond.lays "PatternColumnsModel" "PatternColumnsModel" "sheets" "I") ∈ pq_W := pq_in 585 (by decide +kernel) (by decide +kernel)
theorem ww_587 : (Jvm.Cond.laysFinal "PatternColumnsModel" "PatternColumnsModel" "best" "[I") ∈ pq_W := pq_in 587 (by decide +kernel) (by decide +kernel)
theorem ww_589 : (Jvm.Cond.lays "PatternColumnsModel" "PatternColumnsModel" "asked" "Z") ∈ pq_W := pq_in 589 (by decide +kernel) (by decide +kernel)
theorem ww_591 : (Jvm.Cond.lays "PatternColumnsModel" "PatternColumnsModel" "spent" "Z") ∈ pq_W := pq_in 591 (by decide +kernel) (by decide +kernel)
theorem ww_593 : (Jvm.Cond.lays "PatternColumnsModel" "PatternColumnsModel" "steps" "I") ∈ pq_W := pq_in 593 (by decide +kernel) (by decide +kernel)
theorem ww_595 : (Jvm.Cond.lays "PatternColumnsModel" "PatternColumnsModel" "keptMany" "I") ∈ pq_W := pq_in 595 (by decide +kernel) (by decide +kernel)
theorem ww_597 : (Jvm.Cond.laysFinal "PatternColumnsModel" "PatternColumnsModel" "kept" "[I") ∈ pq_W := pq_in 597 (by decide +kernel) (by decide +kernel)
theorem ww_600 : (Jvm.Cond.methodLink "PatternColumnsLaw" (71 : Nat) ({ cls := "PatternColumnsModel", name := "thrown", desc := "()I" } : Jvm.MethodName)) ∈ pq_W := pq_in 600 (by decide +kernel) (by decide +kernel)
theorem ww_601 : (Jvm.Cond.instanceMethod ({ cls := "PatternColumnsModel", name := "thrown", desc := "()I" } : Jvm.MethodName)) ∈ pq_W := pq_in 601 (by decide +kernel) (by decide +kernel)
theorem ww_602 : (Jvm.Cond.selects "PatternColumnsModel" ({ cls := "PatternColumnsModel", name := "thrown", desc := "()I" } : Jvm.MethodName) ({ cls := "PatternColumnsModel", name := "thrown", desc := "()I" } : Jvm.MethodName)) ∈ pq_W := pq_in 602 (by decide +kernel) (by decide +kernel)
theorem ww_603 : (Jvm.Cond.code ({ cls := "PatternColumnsModel", name := "thrown", desc := "()I" } : Jvm.MethodName) prog_7_method_2_code (1 : Nat) (Option.some Jvm.ClassFile.FieldType.int)) ∈ pq_W := pq_in 603 (by decide +kernel) (by decide +kernel)
theorem ww_604 : (Jvm.Cond.methodLink "PatternColumnsLaw" (70 : Nat) ({ cls := "PatternColumnsModel", name := "sheet", desc := "(I)V" } : Jvm.MethodName)) ∈ pq_W := pq_in 604 (by decide +kernel) (by decide +kernel)
theorem ww_605 : (Jvm.Cond.instanceMethod ({ cls := "PatternColumnsModel", name := "sheet", desc := "(I)V" } : Jvm.MethodName)) ∈ pq_W := pq_in 605 (by decide +kernel) (by decide +kernel)
theorem ww_606 : (Jvm.Cond.selects "PatternColumnsModel" ({ cls := "PatternColumnsModel", name := "sheet", desc := "(I)V" } : Jvm.MethodName) ({ cls := "PatternColumnsModel", name := "sheet", desc := "(I)V" } : Jvm.MethodName)) ∈ pq_W := pq_in 606 (by decide +kernel) (by decide +kernel)
theorem ww_607 : (Jvm.Cond.code ({ cls := "PatternColumnsModel", name := "sheet", desc := "(I)V" } : Jvm.MethodName) prog_7_method_7_code (2 : Nat) (Option.none : Option Jvm.ClassFile.FieldType)) ∈ pq_W := pq_in 607 (by decide +kernel) (by decide +kernel)
theorem ww_608 : (Jvm.Cond.methodLink "PatternColumnsModel" (44 : Nat) ({ cls := "PatternColumnsModel", name := "in", desc := "(III)Z" } : Jvm.MethodName)) ∈ pq_W := pq_in 608 (by decide +kernel) (by decide +kernel)
theorem ww_609 : (Jvm.Cond.static ({ cls := "PatternColumnsModel", name := "in", desc := "(III)Z" } : Jvm.MethodName)) ∈ pq_W := pq_in 609 (by decide +kernel) (by decide +kernel)
theorem ww_610 : (Jvm.Cond.code ({ cls := "PatternColumnsModel", name := "in", desc := "(III)Z" } : Jvm.MethodName) prog_7_method_4_code (3 : Nat) (Option.some Jvm.ClassFile.FieldType.boolean)) ∈ pq_W := pq_in 610 (by decide +kernel) (by decide +kernel)
theorem ww_611 : (Jvm.Cond.methodLink "PatternColumnsModel" (52 : Nat) ({ cls := "PatternColumnsModel", name := "throwing", desc := "(ZZZZ)Z" } : Jvm.MethodName)) ∈ pq_W := pq_in 611 (by decide +kernel) (by decide +kernel)
theorem ww_613 : (Jvm.Cond.instanceMethod ({ cls := "PatternColumnsModel", name := "throwing", desc := "(ZZZZ)Z" } : Jvm.MethodName)) ∈ pq_W := pq_in 613 (by decide +kernel) (by decide +kernel)
theorem ww_614 : (Jvm.Cond.code ({ cls := "PatternColumnsModel", name := "throwing", desc := "(ZZZZ)Z" } : Jvm.MethodName) prog_7_method_3_code (5 : Nat) (Option.some Jvm.ClassFile.FieldType.boolean)) ∈ pq_W := pq_in 614 (by decide +kernel) (by decide +kernel)
theorem ww_615 : (Jvm.Cond.methodLink "PatternColumnsModel" (56 : Nat) ({ cls := "PatternColumnsModel", name := "forget", desc := "()V" } : Jvm.MethodName)) ∈ pq_W := pq_in 615 (by decide +kernel) (by decide +kernel)
theorem ww_617 : (Jvm.Cond.instanceMethod ({ cls := "PatternColumnsModel", name := "forget", desc := "()V" } : Jvm.MethodName)) ∈ pq_W := pq_in 617 (by decide +kernel) (by decide +kernel)
theorem ww_618 : (Jvm.Cond.code ({ cls := "PatternColumnsModel", name := "forget", desc := "()V" } : Jvm.MethodName) prog_7_method_6_code (1 : Nat) (Option.none : Option Jvm.ClassFile.FieldType)) ∈ pq_W := pq_in 618 (by decide +kernel) (by decide +kernel)
theorem ww_619 : (Jvm.Cond.methodLink "PatternColumnsLaw" (77 : Nat) ({ cls := "PatternColumnsModel", name := "order", desc := "(II)I" } : Jvm.MethodName)) ∈ pq_W := pq_in 619 (by decide +kernel) (by decide +kernel)
theorem ww_620 : (Jvm.Cond.instanceMethod ({ cls := "PatternColumnsModel", name := "order", desc := "(II)I" } : Jvm.MethodName)) ∈ pq_W := pq_in 620 (by decide +kernel) (by decide +kernel)
theorem ww_621 : (Jvm.Cond.selects "PatternColumnsModel" ({ cls := "PatternColumnsModel", name := "order", desc := "(II)I" } : Jvm.MethodName) ({ cls := "PatternColumnsModel", name := "order", desc := "(II)I" } : Jvm.MethodName)) ∈ pq_W := pq_in 621 (by decide +kernel) (by decide +kernel)
theorem ww_622 : (Jvm.Cond.code ({ cls := "PatternColumnsModel", name := "order", desc := "(II)I" } : Jvm.MethodName) prog_7_method_8_code (3 : Nat) (Option.some Jvm.ClassFile.FieldType.int)) ∈ pq_W := pq_in 622 (by decide +kernel) (by decide +kernel)
theorem ww_623 : (Jvm.Cond.methodLink "PatternColumnsLaw" (81 : Nat) ({ cls := "PatternColumnsModel", name := "pieces", desc := "(II)V" } : Jvm.MethodName)) ∈ pq_W := pq_in 623 (by decide +kernel) (by decide +kernel)
theorem ww_624 : (Jvm.Cond.instanceMethod ({ cls := "PatternColumnsModel", name := "pieces", desc := "(II)V" } : Jvm.MethodName)) ∈ pq_W := pq_in 624 (by decide +kernel) (by decide +kernel)
theorem ww_625 : (Jvm.Cond.selects "PatternColumnsModel" ({ cls := "PatternColumnsModel", name := "pieces", desc := "(II)V" } : Jvm.MethodName) ({ cls := "PatternColumnsModel", name := "pieces", desc := "(II)V" } : Jvm.MethodName)) ∈ pq_W := pq_in 625 (by decide +kernel) (by decide +kernel)
theorem ww_626 : (Jvm.Cond.code ({ cls := "PatternColumnsModel", name := "pieces", desc := "(II)V" } : Jvm.MethodName) prog_7_method_9_code (3 : Nat) (Option.none : Option Jvm.ClassFile.FieldType)) ∈ pq_W := pq_in 626 (by decide +kernel) (by decide +kernel)
theorem ww_627 : (Jvm.Cond.methodLink "PatternColumnsModel" (59 : Nat) ({ cls := "PatternColumnsModel", name := "isOrder", desc := "(I)Z" } : Jvm.MethodName)) ∈ pq_W := pq_in 627 (by decide +kernel) (by decide +kernel)
theorem ww_629 : (Jvm.Cond.instanceMethod ({ cls := "PatternColumnsModel", name := "isOrder", desc := "(I)Z" } : Jvm.MethodName)) ∈ pq_W := pq_in 629 (by decide +kernel) (by decide +kernel)
theorem ww_630 : (Jvm.Cond.code ({ cls := "PatternColumnsModel", name := "isOrder", desc := "(I)Z" } : Jvm.MethodName) prog_7_method_5_code (2 : Nat) (Option.some Jvm.ClassFile.FieldType.boolean)) ∈ pq_W := pq_in 630 (by decide +kernel) (by decide +kernel)
theorem ww_631 : (Jvm.Cond.methodLink "PatternColumnsLaw" (84 : Nat) ({ cls := "PatternColumnsModel", name := "price", desc := "(II)V" } : Jvm.MethodName)) ∈ pq_W := pq_in 631 (by decide +kernel) (by decide +kernel)
theorem ww_632 : (Jvm.Cond.instanceMethod ({ cls := "PatternColumnsModel", name := "price", desc := "(II)V" } : Jvm.MethodName)) ∈ pq_W := pq_in 632 (by decide +kernel) (by decide +kernel)
theorem ww_633 : (Jvm.Cond.selects "PatternColumnsModel" ({ cls := "PatternColumnsModel", name := "price", desc := "(II)V" } : Jvm.MethodName) ({ cls := "PatternColumnsModel", name := "price", desc := "(II)V" } : Jvm.MethodName)) ∈ pq_W := pq_in 633 (by decide +kernel) (by decide +kernel)
theorem ww_634 : (Jvm.Cond.code ({ cls := "PatternColumnsModel", name := "price", desc := "(II)V" } : Jvm.MethodName) prog_7_method_10_code (3 : Nat) (Option.none : Option Jvm.ClassFile.FieldType)) ∈ pq_W := pq_in 634 (by decide +kernel) (by decide +kernel)
theorem ww_635 : (Jvm.Cond.methodLink "PatternColumnsLaw" (88 : Nat) ({ cls := "PatternColumnsModel", name := "column", desc := "()I" } : Jvm.MethodName)) ∈ pq_W := pq_in 635 (by decide +kernel) (by decide +kernel)
theorem ww_636 : (Jvm.Cond.instanceMethod ({ cls := "PatternColumnsModel", name := "column", desc := "()I" } : Jvm.MethodName)) ∈ pq_W := pq_in 636 (by decide +kernel) (by decide +kernel)
theorem ww_637 : (Jvm.Cond.selects "PatternColumnsModel" ({ cls := "PatternColumnsModel", name := "column", desc := "()I" } : Jvm.MethodName) ({ cls := "PatternColumnsModel", name := "column", desc := "()I" } : Jvm.MethodName)) ∈ pq_W := pq_in 637 (by decide +kernel) (by decide +kernel)
theorem ww_638 : (Jvm.Cond.code ({ cls := "PatternColumnsModel", name := "column", desc := "()I" } : Jvm.MethodName) prog_7_method_16_code (1 : Nat) (Option.some Jvm.ClassFile.FieldType.int)) ∈ pq_W := pq_in 638 (by decide +kernel) (by decide +kernel)
theorem ww_639 : (Jvm.Cond.methodLink "PatternColumnsModel" (78 : Nat) ({ cls := "PatternColumnsModel", name := "findColumn", desc := "()I" } : Jvm.MethodName)) ∈ pq_W := pq_in 639 (by decide +kernel) (by decide +kernel)
theorem ww_641 : (Jvm.Cond.instanceMethod ({ cls := "PatternColumnsModel", name := "findColumn", desc := "()I" } : Jvm.MethodName)) ∈ pq_W := pq_in 641 (by decide +kernel) (by decide +kernel)
theorem ww_642 : (Jvm.Cond.code ({ cls := "PatternColumnsModel", name := "findColumn", desc := "()I" } : Jvm.MethodName) prog_7_method_15_code (5 : Nat) (Option.some Jvm.ClassFile.FieldType.int)) ∈ pq_W := pq_in 642 (by decide +kernel) (by decide +kernel)
theorem ww_643 : (Jvm.Cond.methodLink "PatternColumnsModel" (67 : Nat) ({ cls := "PatternColumnsModel", name := "fill", desc := "(II)V" } : Jvm.MethodName)) ∈ pq_W := pq_in 643 (by decide +kernel) (by decide +kernel)
theorem ww_645 : (Jvm.Cond.instanceMethod ({ cls := "PatternColumnsModel", name := "fill", desc := "(II)V" } : Jvm.MethodName)) ∈ pq_W := pq_in 645 (by decide +kernel) (by decide +kernel)
theorem ww_646 : (Jvm.Cond.code ({ cls := "PatternColumnsModel", name := "fill", desc := "(II)V" } : Jvm.MethodName) prog_7_method_12_code (5 : Nat) (Option.none : Option Jvm.ClassFile.FieldType)) ∈ pq_W := pq_in 646 (by decide +kernel) (by decide +kernel)
theorem ww_647 : (Jvm.Cond.methodLink "PatternColumnsModel" (63 : Nat) ({ cls := "PatternColumnsModel", name := "roomAt", desc := "(II)I" } : Jvm.MethodName)) ∈ pq_W := pq_in 647 (by decide +kernel) (by decide +kernel)
theorem ww_649 : (Jvm.Cond.instanceMethod ({ cls := "PatternColumnsModel", name := "roomAt", desc := "(II)I" } : Jvm.MethodName)) ∈ pq_W := pq_in 649 (by decide +kernel) (by decide +kernel)
theorem ww_650 : (Jvm.Cond.code ({ cls := "PatternColumnsModel", name := "roomAt", desc := "(II)I" } : Jvm.MethodName) prog_7_method_11_code (5 : Nat) (Option.some Jvm.ClassFile.FieldType.int)) ∈ pq_W := pq_in 650 (by decide +kernel) (by decide +kernel)
theorem ww_651 : (Jvm.Cond.methodLink "PatternColumnsModel" (71 : Nat) ({ cls := "PatternColumnsModel", name := "sumAt", desc := "(I)I" } : Jvm.MethodName)) ∈ pq_W := pq_in 651 (by decide +kernel) (by decide +kernel)
theorem ww_653 : (Jvm.Cond.instanceMethod ({ cls := "PatternColumnsModel", name := "sumAt", desc := "(I)I" } : Jvm.MethodName)) ∈ pq_W := pq_in 653 (by decide +kernel) (by decide +kernel)
theorem ww_654 : (Jvm.Cond.code ({ cls := "PatternColumnsModel", name := "sumAt", desc := "(I)I" } : Jvm.MethodName) prog_7_method_14_code (4 : Nat) (Option.some Jvm.ClassFile.FieldType.int)) ∈ pq_W := pq_in 654 (by decide +kernel) (by decide +kernel)
theorem ww_655 : (Jvm.Cond.methodLink "PatternColumnsModel" (75 : Nat) ({ cls := "PatternColumnsModel", name := "goesDown", desc := "(I)Z" } : Jvm.MethodName)) ∈ pq_W := pq_in 655 (by decide +kernel) (by decide +kernel)
theorem ww_657 : (Jvm.Cond.instanceMethod ({ cls := "PatternColumnsModel", name := "goesDown", desc := "(I)Z" } : Jvm.MethodName)) ∈ pq_W := pq_in 657 (by decide +kernel) (by decide +kernel)
theorem ww_658 : (Jvm.Cond.code ({ cls := "PatternColumnsModel", name := "goesDown", desc := "(I)Z" } : Jvm.MethodName) prog_7_method_13_code (3 : Nat) (Option.some Jvm.ClassFile.FieldType.boolean)) ∈ pq_W := pq_in 658 (by decide +kernel) (by decide +kernel)
theorem ww_659 : (Jvm.Cond.methodLink "PatternColumnsLaw" (92 : Nat) ({ cls := "PatternColumnsModel", name := "columnOf", desc := "(I)I" } : Jvm.MethodName)) ∈ pq_W := pq_in 659 (by decide +kernel) (by decide +kernel)
theorem ww_660 : (Jvm.Cond.instanceMethod ({ cls := "PatternColumnsModel", name := "columnOf", desc := "(I)I" } : Jvm.MethodName)) ∈ pq_W := pq_in 660 (by decide +kernel) (by decide +kernel)
theorem ww_661 : (Jvm.Cond.selects "PatternColumnsModel" ({ cls := "PatternColumnsModel", name := "columnOf", desc := "(I)I" } : Jvm.MethodName) ({ cls := "PatternColumnsModel", name := "columnOf", desc := "(I)I" } : Jvm.MethodName)) ∈ pq_W := pq_in 661 (by decide +kernel) (by decide +kernel)
theorem ww_662 : (Jvm.Cond.code ({ cls := "PatternColumnsModel", name := "columnOf", desc := "(I)I" } : Jvm.MethodName) prog_7_method_17_code (2 : Nat) (Option.some Jvm.ClassFile.FieldType.int)) ∈ pq_W := pq_in 662 (by decide +kernel) (by decide +kernel)
theorem ww_663 : (Jvm.Cond.methodLink "PatternColumnsLaw" (96 : Nat) ({ cls := "PatternColumnsModel", name := "bound", desc := "()I" } : Jvm.MethodName)) ∈ pq_W := pq_in 663 (by decide +kernel) (by decide +kernel)
theorem ww_664 : (Jvm.Cond.instanceMethod ({ cls := "PatternColumnsModel", name := "bound", desc := "()I" } : Jvm.MethodName)) ∈ pq_W := pq_in 664 (by decide +kernel) (by decide +kernel)
theorem ww_665 : (Jvm.Cond.selects "PatternColumnsModel" ({ cls := "PatternColumnsModel", name := "bound", desc := "()I" } : Jvm.MethodName) ({ cls := "PatternColumnsModel", name := "bound", desc := "()I" } : Jvm.MethodName)) ∈ pq_W := pq_in 665 (by decide +kernel) (by decide +kernel)
theorem ww_666 : (Jvm.Cond.code ({ cls := "PatternColumnsModel", name := "bound", desc := "()I" } : Jvm.MethodName) prog_7_method_19_code (1 : Nat) (Option.some Jvm.ClassFile.FieldType.int)) ∈ pq_W := pq_in 666 (by decide +kernel) (by decide +kernel)
theorem ww_667 : (Jvm.Cond.methodLink "PatternColumnsModel" (82 : Nat) ({ cls := "PatternColumnsModel", name := "boundNow", desc := "()I" } : Jvm.MethodName)) ∈ pq_W := pq_in 667 (by decide +kernel) (by decide +kernel)
theorem ww_669 : (Jvm.Cond.instanceMethod ({ cls := "PatternColumnsModel", name := "boundNow", desc := "()I" } : Jvm.MethodName)) ∈ pq_W := pq_in 669 (by decide +kernel) (by decide +kernel)
theorem ww_670 : (Jvm.Cond.code ({ cls := "PatternColumnsModel", name := "boundNow", desc := "()I" } : Jvm.MethodName) prog_7_method_18_code (4 : Nat) (Option.some Jvm.ClassFile.FieldType.int)) ∈ pq_W := pq_in 670 (by decide +kernel) (by decide +kernel)
theorem ww_671 : (Jvm.Cond.methodLink "PatternColumnsLaw" (99 : Nat) ({ cls := "PatternColumnsModel", name := "design", desc := "(I)I" } : Jvm.MethodName)) ∈ pq_W := pq_in 671 (by decide +kernel) (by decide +kernel)
theorem ww_672 : (Jvm.Cond.instanceMethod ({ cls := "PatternColumnsModel", name := "design", desc := "(I)I" } : Jvm.MethodName)) ∈ pq_W := pq_in 672 (by decide +kernel) (by decide +kernel)
theorem ww_673 : (Jvm.Cond.selects "PatternColumnsModel" ({ cls := "PatternColumnsModel", name := "design", desc := "(I)I" } : Jvm.MethodName) ({ cls := "PatternColumnsModel", name := "design", desc := "(I)I" } : Jvm.MethodName)) ∈ pq_W := pq_in 673 (by decide +kernel) (by decide +kernel)
theorem ww_674 : (Jvm.Cond.code ({ cls := "PatternColumnsModel", name := "design", desc := "(I)I" } : Jvm.MethodName) prog_7_method_25_code (4 : Nat) (Option.some Jvm.ClassFile.FieldType.int)) ∈ pq_W := pq_in 674 (by decide +kernel) (by decide +kernel)
theorem ww_675 : (Jvm.Cond.constant "PatternColumnsModel" (103 : Nat) (100000 : Int32)) ∈ pq_W := pq_in 675 (by decide +kernel) (by decide +kernel)
theorem ww_676 : (Jvm.Cond.methodLink "PatternColumnsModel" (104 : Nat) ({ cls := "PatternColumnsModel", name := "search", desc := "(I)V" } : Jvm.MethodName)) ∈ pq_W := pq_in 676 (by decide +kernel) (by decide +kernel)
theorem ww_678 : (Jvm.Cond.instanceMethod ({ cls := "PatternColumnsModel", name := "search", desc := "(I)V" } : Jvm.MethodName)) ∈ pq_W := pq_in 678 (by decide +kernel) (by decide +kernel)
theorem ww_679 : (Jvm.Cond.code ({ cls := "PatternColumnsModel", name := "search", desc := "(I)V" } : Jvm.MethodName) prog_7_method_24_code (7 : Nat) (Option.none : Option Jvm.ClassFile.FieldType)) ∈ pq_W := pq_in 679 (by decide +kernel) (by decide +kernel)
theorem ww_680 : (Jvm.Cond.methodLink "PatternColumnsModel" (91 : Nat) ({ cls := "PatternColumnsModel", name := "goesOn", desc := "(I)Z" } : Jvm.MethodName)) ∈ pq_W := pq_in 680 (by decide +kernel) (by decide +kernel)
theorem ww_682 : (Jvm.Cond.instanceMethod ({ cls := "PatternColumnsModel", name := "goesOn", desc := "(I)Z" } : Jvm.MethodName)) ∈ pq_W := pq_in 682 (by decide +kernel) (by decide +kernel)
theorem ww_683 : (Jvm.Cond.code ({ cls := "PatternColumnsModel", name := "goesOn", desc := "(I)Z" } : Jvm.MethodName) prog_7_method_23_code (3 : Nat) (Option.some Jvm.ClassFile.FieldType.boolean)) ∈ pq_W := pq_in 683 (by decide +kernel) (by decide +kernel)
theorem ww_684 : (Jvm.Cond.methodLink "PatternColumnsModel" (85 : Nat) ({ cls := "PatternColumnsModel", name := "sheetsFor", desc := "(I)I" } : Jvm.MethodName)) ∈ pq_W := pq_in 684 (by decide +kernel) (by decide +kernel)
theorem ww_686 : (Jvm.Cond.instanceMethod ({ cls := "PatternColumnsModel", name := "sheetsFor", desc := "(I)I" } : Jvm.MethodName)) ∈ pq_W := pq_in 686 (by decide +kernel) (by decide +kernel)
theorem ww_687 : (Jvm.Cond.code ({ cls := "PatternColumnsModel", name := "sheetsFor", desc := "(I)I" } : Jvm.MethodName) prog_7_method_20_code (4 : Nat) (Option.some Jvm.ClassFile.FieldType.int)) ∈ pq_W := pq_in 687 (by decide +kernel) (by decide +kernel)
theorem ww_688 : (Jvm.Cond.methodLink "PatternColumnsModel" (88 : Nat) ({ cls := "PatternColumnsModel", name := "isNothingLeft", desc := "(I)Z" } : Jvm.MethodName)) ∈ pq_W := pq_in 688 (by decide +kernel) (by decide +kernel)
theorem ww_690 : (Jvm.Cond.instanceMethod ({ cls := "PatternColumnsModel", name := "isNothingLeft", desc := "(I)Z" } : Jvm.MethodName)) ∈ pq_W := pq_in 690 (by decide +kernel) (by decide +kernel)
theorem ww_691 : (Jvm.Cond.code ({ cls := "PatternColumnsModel", name := "isNothingLeft", desc := "(I)Z" } : Jvm.MethodName) prog_7_method_21_code (4 : Nat) (Option.some Jvm.ClassFile.FieldType.boolean)) ∈ pq_W := pq_in 691 (by decide +kernel) (by decide +kernel)
theorem ww_692 : (Jvm.Cond.methodLink "PatternColumnsModel" (94 : Nat) ({ cls := "PatternColumnsModel", name := "lowestLeft", desc := "(I)I" } : Jvm.MethodName)) ∈ pq_W := pq_in 692 (by decide +kernel) (by decide +kernel)
theorem ww_694 : (Jvm.Cond.instanceMethod ({ cls := "PatternColumnsModel", name := "lowestLeft", desc := "(I)I" } : Jvm.MethodName)) ∈ pq_W := pq_in 694 (by decide +kernel) (by decide +kernel)
theorem ww_695 : (Jvm.Cond.code ({ cls := "PatternColumnsModel", name := "lowestLeft", desc := "(I)I" } : Jvm.MethodName) prog_7_method_22_code (3 : Nat) (Option.some Jvm.ClassFile.FieldType.int)) ∈ pq_W := pq_in 695 (by decide +kernel) (by decide +kernel)
theorem ww_696 : (Jvm.Cond.methodLink "PatternColumnsLaw" (102 : Nat) ({ cls := "PatternColumnsModel", name := "designed", desc := "(I)I" } : Jvm.MethodName)) ∈ pq_W := pq_in 696 (by decide +kernel) (by decide +kernel)
theorem ww_697 : (Jvm.Cond.instanceMethod ({ cls := "PatternColumnsModel", name := "designed", desc := "(I)I" } : Jvm.MethodName)) ∈ pq_W := pq_in 697 (by decide +kernel) (by decide +kernel)
theorem ww_698 : (Jvm.Cond.selects "PatternColumnsModel" ({ cls := "PatternColumnsModel", name := "designed", desc := "(I)I" } : Jvm.MethodName) ({ cls := "PatternColumnsModel", name := "designed", desc := "(I)I" } : Jvm.MethodName)) ∈ pq_W := pq_in 698 (by decide +kernel) (by decide +kernel)
theorem ww_699 : (Jvm.Cond.code ({ cls := "PatternColumnsModel", name := "designed", desc := "(I)I" } : Jvm.MethodName) prog_7_method_26_code (2 : Nat) (Option.some Jvm.ClassFile.FieldType.int)) ∈ pq_W := pq_in 699 (by decide +kernel) (by decide +kernel)
theorem ww_700 : (Jvm.Cond.methodLink "PatternColumnsLaw" (106 : Nat) ({ cls := "PatternColumnsModel", name := "gap", desc := "()I" } : Jvm.MethodName)) ∈ pq_W := pq_in 700 (by decide +kernel) (by decide +kernel)
theorem ww_701 : (Jvm.Cond.instanceMethod ({ cls := "PatternColumnsModel", name := "gap", desc := "()I" } : Jvm.MethodName)) ∈ pq_W := pq_in 701 (by decide +kernel) (by decide +kernel)
theorem ww_702 : (Jvm.Cond.selects "PatternColumnsModel" ({ cls := "PatternColumnsModel", name := "gap", desc := "()I" } : Jvm.MethodName) ({ cls := "PatternColumnsModel", name := "gap", desc := "()I" } : Jvm.MethodName)) ∈ pq_W := pq_in 702 (by decide +kernel) (by decide +kernel)
theorem ww_703 : (Jvm.Cond.code ({ cls := "PatternColumnsModel", name := "gap", desc := "()I" } : Jvm.MethodName) prog_7_method_27_code (4 : Nat) (Option.some Jvm.ClassFile.FieldType.int)) ∈ pq_W := pq_in 703 (by decide +kernel) (by decide +kernel)
theorem ww_704 : (Jvm.Cond.methodLink "PatternColumnsLaw" (109 : Nat) ({ cls := "PatternColumnsModel", name := "cut", desc := "(II)I" } : Jvm.MethodName)) ∈ pq_W := pq_in 704 (by decide +kernel) (by decide +kernel)
theorem ww_705 : (Jvm.Cond.instanceMethod ({ cls := "PatternColumnsModel", name := "cut", desc := "(II)I" } : Jvm.MethodName)) ∈ pq_W := pq_in 705 (by decide +kernel) (by decide +kernel)
theorem ww_706 : (Jvm.Cond.selects "PatternColumnsModel" ({ cls := "PatternColumnsModel", name := "cut", desc := "(II)I" } : Jvm.MethodName) ({ cls := "PatternColumnsModel", name := "cut", desc := "(II)I" } : Jvm.MethodName)) ∈ pq_W := pq_in 706 (by decide +kernel) (by decide +kernel)
theorem ww_707 : (Jvm.Cond.code ({ cls := "PatternColumnsModel", name := "cut", desc := "(II)I" } : Jvm.MethodName) prog_7_method_29_code (3 : Nat) (Option.some Jvm.ClassFile.FieldType.int)) ∈ pq_W := pq_in 707 (by decide +kernel) (by decide +kernel)
theorem ww_708 : (Jvm.Cond.methodLink "PatternColumnsModel" (108 : Nat) ({ cls := "PatternColumnsModel", name := "refuses", desc := "(IZ)Z" } : Jvm.MethodName)) ∈ pq_W := pq_in 708 (by decide +kernel) (by decide +kernel)
theorem ww_710 : (Jvm.Cond.instanceMethod ({ cls := "PatternColumnsModel", name := "refuses", desc := "(IZ)Z" } : Jvm.MethodName)) ∈ pq_W := pq_in 710 (by decide +kernel) (by decide +kernel)
theorem ww_711 : (Jvm.Cond.code ({ cls := "PatternColumnsModel", name := "refuses", desc := "(IZ)Z" } : Jvm.MethodName) prog_7_method_28_code (3 : Nat) (Option.some Jvm.ClassFile.FieldType.boolean)) ∈ pq_W := pq_in 711 (by decide +kernel) (by decide +kernel)
theorem ww_712 : (Jvm.Cond.methodLink "PatternColumnsLaw" (112 : Nat) ({ cls := "PatternColumnsModel", name := "over", desc := "(I)I" } : Jvm.MethodName)) ∈ pq_W := pq_in 712 (by decide +kernel) (by decide +kernel)
theorem ww_713 : (Jvm.Cond.instanceMethod ({ cls := "PatternColumnsModel", name := "over", desc := "(I)I" } : Jvm.MethodName)) ∈ pq_W := pq_in 713 (by decide +kernel) (by decide +kernel)
theorem ww_714 : (Jvm.Cond.selects "PatternColumnsModel" ({ cls := "PatternColumnsModel", name := "over", desc := "(I)I" } : Jvm.MethodName) ({ cls := "PatternColumnsModel", name := "over", desc := "(I)I" } : Jvm.MethodName)) ∈ pq_W := pq_in 714 (by decide +kernel) (by decide +kernel)
theorem ww_715 : (Jvm.Cond.code ({ cls := "PatternColumnsModel", name := "over", desc := "(I)I" } : Jvm.MethodName) prog_7_method_30_code (4 : Nat) (Option.some Jvm.ClassFile.FieldType.int)) ∈ pq_W := pq_in 715 (by decide +kernel) (by decide +kernel)
theorem ww_716 : (Jvm.Cond.methodLink "PatternColumnsLaw" (115 : Nat) ({ cls := "PatternColumnsModel", name := "keep", desc := "(II)I" } : Jvm.MethodName)) ∈ pq_W := pq_in 716 (by decide +kernel) (by decide +kernel)
theorem ww_717 : (Jvm.Cond.instanceMethod ({ cls := "PatternColumnsModel", name := "keep", desc := "(II)I" } : Jvm.MethodName)) ∈ pq_W := pq_in 717 (by decide +kernel) (by decide +kernel)
theorem ww_718 : (Jvm.Cond.selects "PatternColumnsModel" ({ cls := "PatternColumnsModel", name := "keep", desc := "(II)I" } : Jvm.MethodName) ({ cls := "PatternColumnsModel", name := "keep", desc := "(II)I" } : Jvm.MethodName)) ∈ pq_W := pq_in 718 (by decide +kernel) (by decide +kernel)
theorem ww_719 : (Jvm.Cond.code ({ cls := "PatternColumnsModel", name := "keep", desc := "(II)I" } : Jvm.MethodName) prog_7_method_32_code (5 : Nat) (Option.some Jvm.ClassFile.FieldType.int)) ∈ pq_W := pq_in 719 (by decide +kernel) (by decide +kernel)
theorem ww_720 : (Jvm.Cond.methodLink "PatternColumnsModel" (115 : Nat) ({ cls := "PatternColumnsModel", name := "keptAs", desc := "(I)I" } : Jvm.MethodName)) ∈ pq_W := pq_in 720 (by decide +kernel) (by decide +kernel)
theorem ww_722 : (Jvm.Cond.instanceMethod ({ cls := "PatternColumnsModel", name := "keptAs", desc := "(I)I" } : Jvm.MethodName)) ∈ pq_W := pq_in 722 (by decide +kernel) (by decide +kernel)
theorem ww_723 : (Jvm.Cond.code ({ cls := "PatternColumnsModel", name := "keptAs", desc := "(I)I" } : Jvm.MethodName) prog_7_method_31_code (5 : Nat) (Option.some Jvm.ClassFile.FieldType.int)) ∈ pq_W := pq_in 723 (by decide +kernel) (by decide +kernel)
theorem ww_724 : (Jvm.Cond.methodLink "PatternColumnsLaw" (118 : Nat) ({ cls := "PatternColumnsModel", name := "kept", desc := "(II)I" } : Jvm.MethodName)) ∈ pq_W := pq_in 724 (by decide +kernel) (by decide +kernel)
theorem ww_725 : (Jvm.Cond.instanceMethod ({ cls := "PatternColumnsModel", name := "kept", desc := "(II)I" } : Jvm.MethodName)) ∈ pq_W := pq_in 725 (by decide +kernel) (by decide +kernel)
theorem ww_726 : (Jvm.Cond.selects "PatternColumnsModel" ({ cls := "PatternColumnsModel", name := "kept", desc := "(II)I" } : Jvm.MethodName) ({ cls := "PatternColumnsModel", name := "kept", desc := "(II)I" } : Jvm.MethodName)) ∈ pq_W := pq_in 726 (by decide +kernel) (by decide +kernel)
theorem ww_727 : (Jvm.Cond.code ({ cls := "PatternColumnsModel", name := "kept", desc := "(II)I" } : Jvm.MethodName) prog_7_method_33_code (3 : Nat) (Option.some Jvm.ClassFile.FieldType.int)) ∈ pq_W := pq_in 727 (by decide +kernel) (by decide +kernel)
theorem ww_728 : (Jvm.Cond.methodLink "PatternColumnsLaw" (121 : Nat) ({ cls := "PatternColumnsModel", name := "fitting", desc := "(I)I" } : Jvm.MethodName)) ∈ pq_W := pq_in 728 (by decide +kernel) (by decide +kernel)
theorem ww_729 : (Jvm.Cond.instanceMethod ({ cls := "PatternColumnsModel", name := "fitting", desc := "(I)I" } : Jvm.MethodName)) ∈ pq_W := pq_in 729 (by decide +kernel) (by decide +kernel)
theorem ww_730 : (Jvm.Cond.selects "PatternColumnsModel" ({ cls := "PatternColumnsModel", name := "fitting", desc := "(I)I" } : Jvm.MethodName) ({ cls := "PatternColumnsModel", name := "fitting", desc := "(I)I" } : Jvm.MethodName)) ∈ pq_W := pq_in 730 (by decide +kernel) (by decide +kernel)
theorem ww_731 : (Jvm.Cond.code ({ cls := "PatternColumnsModel", name := "fitting", desc := "(I)I" } : Jvm.MethodName) prog_7_method_34_code (8 : Nat) (Option.some Jvm.ClassFile.FieldType.int)) ∈ pq_W := pq_in 731 (by decide +kernel) (by decide +kernel)
theorem ww_732 : (Jvm.Cond.arrayClass Jvm.ClassFile.FieldType.long) ∈ pq_W := pq_in 732 (by decide +kernel) (by decide +kernel)
theorem ww_733 : (Jvm.Cond.sameMethod "java/lang/Throwable" "java/lang/Throwable" "fillInStackTrace" "(I)Ljava/lang/Throwable;") ∈ pq_W := pq_in 733 (by decide +kernel) (by decide +kernel)
/-! the shapes of the cells: object (class, fields: none an int, some r the cell r), ints, longs, rows of ints -/
abbrev pq_S : Type := (Nat × List (Option Nat)) ⊕ (Nat ⊕ (Nat ⊕ (Nat × (Nat → Nat))))
def pq_sh : Nat → pq_S := fun k =>
  if k < 16 then (match k with
    | 0 => .inl (0, [some 1, some 2, some 3, some 4])
    | 1 => .inl (1, [none, none, some 8, some 9, some 10])
    | 2 => .inl (2, [some 1, some 11, some 12, none, none])
    | 3 => .inl (3, [some 1, some 13, none, some 5, some 6, none, none, none, none])
    | 4 => .inl (4, [none, some 7, some 14, some 15])
    | 5 => .inr (.inr (.inr (30, fun j => 16 + j)))
    | 6 => .inr (.inr (.inr (30, fun j => 46 + j)))
    | 7 => .inr (.inr (.inr (40, fun j => 76 + j)))
    | 14 => .inr (.inl 40)
    | 15 => .inr (.inl 40)
    | _ => .inr (.inl 5))
  else if k < 116 then .inr (.inl 5)
  else (match k - 116 with
    | 0 => .inl (5, [none, none, none, some 117, some 118, some 119, some 120, some 121, none, some 122, none, none, none, none, some 123])
    | 1 => .inr (.inl 5)
    | 2 => .inr (.inl 5)
    | 3 => .inr (.inl 5)
    | 4 => .inr (.inl 160)
    | 5 => .inr (.inl 160)
    | 6 => .inr (.inl 155)
    | 7 => .inr (.inl 280)
    | _ => .inr (.inr (.inl 1)))
abbrev pq_N : Nat := 125
/-- words of the tables that a callee gets by its precondition -/
def pq_Wn : List Cond := [(Jvm.Cond.castable "java/lang/IllegalArgumentException" "java/lang/IllegalArgumentException"), (Jvm.Cond.declares ({ cls := "java/lang/RuntimeException", name := "<init>", desc := "()V" } : Jvm.MethodName)), (Jvm.Cond.declares ({ cls := "java/lang/RuntimeException", name := "<init>", desc := "(Ljava/lang/String;)V" } : Jvm.MethodName)), (Jvm.Cond.declares ({ cls := "java/lang/Exception", name := "<init>", desc := "()V" } : Jvm.MethodName)), (Jvm.Cond.declares ({ cls := "java/lang/Exception", name := "<init>", desc := "(Ljava/lang/String;)V" } : Jvm.MethodName)), (Jvm.Cond.declares ({ cls := "java/lang/Throwable", name := "<init>", desc := "()V" } : Jvm.MethodName)), (Jvm.Cond.declares ({ cls := "java/lang/Throwable", name := "<init>", desc := "(Ljava/lang/String;)V" } : Jvm.MethodName)), (Jvm.Cond.castable "java/lang/IllegalStateException" "java/lang/IllegalStateException"), (Jvm.Cond.castable "java/lang/IndexOutOfBoundsException" "java/lang/IndexOutOfBoundsException"), (Jvm.Cond.castable "java/lang/UnsupportedOperationException" "java/lang/UnsupportedOperationException"), (Jvm.Cond.methodLinkNest "PatternColumns$Slabs" (36 : Nat) ({ cls := "PatternColumns", name := "roundedUp", desc := "(II)I" } : Jvm.MethodName) "PatternColumns")]
theorem pq_Wn_in : ∀ w ∈ pq_Wn, w ∈ lw_tbl := by decide +kernel
def pq_nk : Cond → Bool | .declares _ => true | .castable _ _ => true | .methodLinkNest _ _ _ _ => true | _ => false
theorem pq_Wn_nk : ∀ w ∈ pq_Wn, pq_nk w = true := by decide +kernel
def pq_strs : List (String × Nat × String) := [("PatternColumns", 41, "no such width of sheets"), ("PatternColumns", 58, "there are five orders"), ("PatternColumns", 61, "no such width of pieces"), ("PatternColumns", 63, "no such number of pieces"), ("PatternColumns", 75, "no such order"), ("PatternColumns", 82, "no such price"), ("PatternColumns", 102, "no such number of steps"), ("PatternColumns", 110, "a piece is wider than a sheet"), ("PatternColumns", 120, "no such what"), ("PatternColumns", 126, "nothing was designed"), ("PatternColumns", 198, "there is no design"), ("PatternColumns", 200, "no such sheet of the design"), ("PatternColumns", 159, "no such day"), ("PatternColumns", 169, "forty others are kept"), ("PatternColumns", 174, "no such kept pattern"), ("PatternColumns", 185, "below the first one")]
end
section
theorem dP_init_0 : decode cP_init 0 = .ok (.aload_n 0, 1) := by decide +kernel
theorem dP_init_1 : decode cP_init 1 = .ok (.invokespecial 3, 3) := by decide +kernel
theorem dP_init_4 : decode cP_init 4 = .ok (.aload_n 0, 1) := by decide +kernel
theorem dP_init_5 : decode cP_init 5 = .ok (.new 9, 3) := by decide +kernel
theorem dP_init_8 : decode cP_init 8 = .ok (.dup, 1) := by decide +kernel
theorem dP_init_9 : decode cP_init 9 = .ok (.invokespecial 11, 3) := by decide +kernel
theorem dP_init_12 : decode cP_init 12 = .ok (.putfield 12, 3) := by decide +kernel
theorem dP_init_15 : decode cP_init 15 = .ok (.aload_n 0, 1) := by decide +kernel
theorem dP_init_16 : decode cP_init 16 = .ok (.new 16, 3) := by decide +kernel
theorem dP_init_19 : decode cP_init 19 = .ok (.dup, 1) := by decide +kernel
theorem dP_init_20 : decode cP_init 20 = .ok (.aload_n 0, 1) := by decide +kernel
theorem dP_init_21 : decode cP_init 21 = .ok (.getfield 12, 3) := by decide +kernel
theorem dP_init_24 : decode cP_init 24 = .ok (.invokespecial 18, 3) := by decide +kernel
theorem dP_init_27 : decode cP_init 27 = .ok (.putfield 21, 3) := by decide +kernel
theorem dP_init_30 : decode cP_init 30 = .ok (.aload_n 0, 1) := by decide +kernel
theorem dP_init_31 : decode cP_init 31 = .ok (.new 25, 3) := by decide +kernel
theorem dP_init_34 : decode cP_init 34 = .ok (.dup, 1) := by decide +kernel
theorem dP_init_35 : decode cP_init 35 = .ok (.aload_n 0, 1) := by decide +kernel
theorem dP_init_36 : decode cP_init 36 = .ok (.getfield 12, 3) := by decide +kernel
theorem dP_init_39 : decode cP_init 39 = .ok (.invokespecial 27, 3) := by decide +kernel
theorem dP_init_42 : decode cP_init 42 = .ok (.putfield 28, 3) := by decide +kernel
theorem dP_init_45 : decode cP_init 45 = .ok (.aload_n 0, 1) := by decide +kernel
theorem dP_init_46 : decode cP_init 46 = .ok (.new 32, 3) := by decide +kernel
theorem dP_init_49 : decode cP_init 49 = .ok (.dup, 1) := by decide +kernel
theorem dP_init_50 : decode cP_init 50 = .ok (.invokespecial 34, 3) := by decide +kernel
theorem dP_init_53 : decode cP_init 53 = .ok (.putfield 35, 3) := by decide +kernel
theorem dP_init_56 : decode cP_init 56 = .ok (.return_, 1) := by decide +kernel
theorem dS_init_0 : decode cS_init 0 = .ok (.aload_n 0, 1) := by decide +kernel
theorem dS_init_1 : decode cS_init 1 = .ok (.invokespecial 3, 3) := by decide +kernel
theorem dS_init_4 : decode cS_init 4 = .ok (.aload_n 0, 1) := by decide +kernel
theorem dS_init_5 : decode cS_init 5 = .ok (.bipush 100, 2) := by decide +kernel
theorem dS_init_7 : decode cS_init 7 = .ok (.putfield 9, 3) := by decide +kernel
theorem dS_init_10 : decode cS_init 10 = .ok (.aload_n 0, 1) := by decide +kernel
theorem dS_init_11 : decode cS_init 11 = .ok (.iconst 5, 1) := by decide +kernel
theorem dS_init_12 : decode cS_init 12 = .ok (.newarray .int, 2) := by decide +kernel
theorem dS_init_14 : decode cS_init 14 = .ok (.putfield 15, 3) := by decide +kernel
theorem dS_init_17 : decode cS_init 17 = .ok (.aload_n 0, 1) := by decide +kernel
theorem dS_init_18 : decode cS_init 18 = .ok (.iconst 5, 1) := by decide +kernel
theorem dS_init_19 : decode cS_init 19 = .ok (.newarray .int, 2) := by decide +kernel
theorem dS_init_21 : decode cS_init 21 = .ok (.putfield 19, 3) := by decide +kernel
theorem dS_init_24 : decode cS_init 24 = .ok (.aload_n 0, 1) := by decide +kernel
theorem dS_init_25 : decode cS_init 25 = .ok (.iconst 5, 1) := by decide +kernel
theorem dS_init_26 : decode cS_init 26 = .ok (.newarray .int, 2) := by decide +kernel
theorem dS_init_28 : decode cS_init 28 = .ok (.putfield 22, 3) := by decide +kernel
theorem dS_init_31 : decode cS_init 31 = .ok (.return_, 1) := by decide +kernel
theorem dD_init_0 : decode cD_init 0 = .ok (.aload_n 0, 1) := by decide +kernel
theorem dD_init_1 : decode cD_init 1 = .ok (.invokespecial 3, 3) := by decide +kernel
theorem dD_init_4 : decode cD_init 4 = .ok (.aload_n 0, 1) := by decide +kernel
theorem dD_init_5 : decode cD_init 5 = .ok (.aload_n 1, 1) := by decide +kernel
theorem dD_init_6 : decode cD_init 6 = .ok (.putfield 9, 3) := by decide +kernel
theorem dD_init_9 : decode cD_init 9 = .ok (.aload_n 0, 1) := by decide +kernel
theorem dD_init_10 : decode cD_init 10 = .ok (.iconst 5, 1) := by decide +kernel
theorem dD_init_11 : decode cD_init 11 = .ok (.newarray .int, 2) := by decide +kernel
theorem dD_init_13 : decode cD_init 13 = .ok (.putfield 15, 3) := by decide +kernel
theorem dD_init_16 : decode cD_init 16 = .ok (.aload_n 0, 1) := by decide +kernel
theorem dD_init_17 : decode cD_init 17 = .ok (.iconst 5, 1) := by decide +kernel
theorem dD_init_18 : decode cD_init 18 = .ok (.newarray .int, 2) := by decide +kernel
theorem dD_init_20 : decode cD_init 20 = .ok (.putfield 19, 3) := by decide +kernel
theorem dD_init_23 : decode cD_init 23 = .ok (.return_, 1) := by decide +kernel
theorem dG_init_0 : decode cG_init 0 = .ok (.aload_n 0, 1) := by decide +kernel
theorem dG_init_1 : decode cG_init 1 = .ok (.invokespecial 3, 3) := by decide +kernel
theorem dG_init_4 : decode cG_init 4 = .ok (.aload_n 0, 1) := by decide +kernel
theorem dG_init_5 : decode cG_init 5 = .ok (.aload_n 1, 1) := by decide +kernel
theorem dG_init_6 : decode cG_init 6 = .ok (.putfield 9, 3) := by decide +kernel
theorem dG_init_9 : decode cG_init 9 = .ok (.aload_n 0, 1) := by decide +kernel
theorem dG_init_10 : decode cG_init 10 = .ok (.iconst 5, 1) := by decide +kernel
theorem dG_init_11 : decode cG_init 11 = .ok (.newarray .int, 2) := by decide +kernel
theorem dG_init_13 : decode cG_init 13 = .ok (.putfield 15, 3) := by decide +kernel
theorem dG_init_16 : decode cG_init 16 = .ok (.aload_n 0, 1) := by decide +kernel
theorem dG_init_17 : decode cG_init 17 = .ok (.bipush 30, 2) := by decide +kernel
theorem dG_init_19 : decode cG_init 19 = .ok (.iconst 5, 1) := by decide +kernel
theorem dG_init_20 : decode cG_init 20 = .ok (.multianewarray 19 2, 4) := by decide +kernel
theorem dG_init_24 : decode cG_init 24 = .ok (.putfield 21, 3) := by decide +kernel
theorem dG_init_27 : decode cG_init 27 = .ok (.aload_n 0, 1) := by decide +kernel
theorem dG_init_28 : decode cG_init 28 = .ok (.bipush 30, 2) := by decide +kernel
theorem dG_init_30 : decode cG_init 30 = .ok (.iconst 5, 1) := by decide +kernel
theorem dG_init_31 : decode cG_init 31 = .ok (.multianewarray 19 2, 4) := by decide +kernel
theorem dG_init_35 : decode cG_init 35 = .ok (.putfield 24, 3) := by decide +kernel
theorem dG_init_38 : decode cG_init 38 = .ok (.aload_n 0, 1) := by decide +kernel
theorem dG_init_39 : decode cG_init 39 = .ok (.iconst (-1), 1) := by decide +kernel
theorem dG_init_40 : decode cG_init 40 = .ok (.putfield 27, 3) := by decide +kernel
theorem dG_init_43 : decode cG_init 43 = .ok (.return_, 1) := by decide +kernel
theorem dT_init_0 : decode cT_init 0 = .ok (.aload_n 0, 1) := by decide +kernel
theorem dT_init_1 : decode cT_init 1 = .ok (.invokespecial 3, 3) := by decide +kernel
theorem dT_init_4 : decode cT_init 4 = .ok (.aload_n 0, 1) := by decide +kernel
theorem dT_init_5 : decode cT_init 5 = .ok (.bipush 40, 2) := by decide +kernel
theorem dT_init_7 : decode cT_init 7 = .ok (.iconst 5, 1) := by decide +kernel
theorem dT_init_8 : decode cT_init 8 = .ok (.multianewarray 9 2, 4) := by decide +kernel
theorem dT_init_12 : decode cT_init 12 = .ok (.putfield 11, 3) := by decide +kernel
theorem dT_init_15 : decode cT_init 15 = .ok (.aload_n 0, 1) := by decide +kernel
theorem dT_init_16 : decode cT_init 16 = .ok (.bipush 40, 2) := by decide +kernel
theorem dT_init_18 : decode cT_init 18 = .ok (.newarray .int, 2) := by decide +kernel
theorem dT_init_20 : decode cT_init 20 = .ok (.putfield 16, 3) := by decide +kernel
theorem dT_init_23 : decode cT_init 23 = .ok (.aload_n 0, 1) := by decide +kernel
theorem dT_init_24 : decode cT_init 24 = .ok (.bipush 40, 2) := by decide +kernel
theorem dT_init_26 : decode cT_init 26 = .ok (.newarray .int, 2) := by decide +kernel
theorem dT_init_28 : decode cT_init 28 = .ok (.putfield 20, 3) := by decide +kernel
theorem dT_init_31 : decode cT_init 31 = .ok (.return_, 1) := by decide +kernel
theorem dP_column_0 : decode cP_column 0 = .ok (.aload_n 0, 1) := by decide +kernel
theorem dP_column_1 : decode cP_column 1 = .ok (.getfield 21, 3) := by decide +kernel
theorem dP_column_4 : decode cP_column 4 = .ok (.invokevirtual 90, 3) := by decide +kernel
theorem dP_column_7 : decode cP_column 7 = .ok (.ireturn, 1) := by decide +kernel
theorem dD_priceSum_0 : decode cD_priceSum 0 = .ok (.aload_n 0, 1) := by decide +kernel
theorem dD_priceSum_1 : decode cD_priceSum 1 = .ok (.invokevirtual 26, 3) := by decide +kernel
theorem dD_priceSum_4 : decode cD_priceSum 4 = .ok (.aload_n 0, 1) := by decide +kernel
theorem dD_priceSum_5 : decode cD_priceSum 5 = .ok (.getfield 29, 3) := by decide +kernel
theorem dD_priceSum_8 : decode cD_priceSum 8 = .ok (.ireturn, 1) := by decide +kernel
theorem dD_seek_0 : decode cD_seek 0 = .ok (.aload_n 0, 1) := by decide +kernel
theorem dD_seek_1 : decode cD_seek 1 = .ok (.getfield 22, 3) := by decide +kernel
theorem dD_seek_4 : decode cD_seek 4 = .ok (.ifCond .eq 4, 3) := by decide +kernel
theorem dD_seek_7 : decode cD_seek 7 = .ok (.return_, 1) := by decide +kernel
theorem dD_seek_8 : decode cD_seek 8 = .ok (.aload_n 0, 1) := by decide +kernel
theorem dD_seek_9 : decode cD_seek 9 = .ok (.getfield 9, 3) := by decide +kernel
theorem dD_seek_12 : decode cD_seek 12 = .ok (.aload_n 0, 1) := by decide +kernel
theorem dD_seek_13 : decode cD_seek 13 = .ok (.getfield 19, 3) := by decide +kernel
theorem dD_seek_16 : decode cD_seek 16 = .ok (.aload_n 0, 1) := by decide +kernel
theorem dD_seek_17 : decode cD_seek 17 = .ok (.getfield 9, 3) := by decide +kernel
theorem dD_seek_20 : decode cD_seek 20 = .ok (.getfield 33, 3) := by decide +kernel
theorem dD_seek_23 : decode cD_seek 23 = .ok (.invokevirtual 38, 3) := by decide +kernel
theorem dD_seek_26 : decode cD_seek 26 = .ok (.aload_n 0, 1) := by decide +kernel
theorem dD_seek_27 : decode cD_seek 27 = .ok (.aload_n 0, 1) := by decide +kernel
theorem dD_seek_28 : decode cD_seek 28 = .ok (.getfield 9, 3) := by decide +kernel
theorem dD_seek_31 : decode cD_seek 31 = .ok (.aload_n 0, 1) := by decide +kernel
theorem dD_seek_32 : decode cD_seek 32 = .ok (.getfield 19, 3) := by decide +kernel
theorem dD_seek_35 : decode cD_seek 35 = .ok (.invokevirtual 42, 3) := by decide +kernel
theorem dD_seek_38 : decode cD_seek 38 = .ok (.invokevirtual 46, 3) := by decide +kernel
theorem dD_seek_41 : decode cD_seek 41 = .ok (.aload_n 0, 1) := by decide +kernel
theorem dD_seek_42 : decode cD_seek 42 = .ok (.getfield 9, 3) := by decide +kernel
theorem dD_seek_45 : decode cD_seek 45 = .ok (.getfield 50, 3) := by decide +kernel
theorem dD_seek_48 : decode cD_seek 48 = .ok (.iconst 2, 1) := by decide +kernel
theorem dD_seek_49 : decode cD_seek 49 = .ok (.isub, 1) := by decide +kernel
theorem dD_seek_50 : decode cD_seek 50 = .ok (.istore_n 1, 1) := by decide +kernel
theorem dD_seek_51 : decode cD_seek 51 = .ok (.aload_n 0, 1) := by decide +kernel
theorem dD_seek_52 : decode cD_seek 52 = .ok (.getfield 9, 3) := by decide +kernel
theorem dD_seek_55 : decode cD_seek 55 = .ok (.aload_n 0, 1) := by decide +kernel
theorem dD_seek_56 : decode cD_seek 56 = .ok (.getfield 19, 3) := by decide +kernel
theorem dD_seek_59 : decode cD_seek 59 = .ok (.aload_n 0, 1) := by decide +kernel
theorem dD_seek_60 : decode cD_seek 60 = .ok (.getfield 9, 3) := by decide +kernel
theorem dD_seek_63 : decode cD_seek 63 = .ok (.getfield 33, 3) := by decide +kernel
theorem dD_seek_66 : decode cD_seek 66 = .ok (.iload_n 1, 1) := by decide +kernel
theorem dD_seek_67 : decode cD_seek 67 = .ok (.iconst (-1), 1) := by decide +kernel
theorem dD_seek_68 : decode cD_seek 68 = .ok (.invokevirtual 53, 3) := by decide +kernel
theorem dD_seek_71 : decode cD_seek 71 = .ok (.istore_n 2, 1) := by decide +kernel
theorem dD_seek_72 : decode cD_seek 72 = .ok (.iconst 0, 1) := by decide +kernel
theorem dD_seek_73 : decode cD_seek 73 = .ok (.istore_n 3, 1) := by decide +kernel
theorem dD_seek_74 : decode cD_seek 74 = .ok (.iload_n 3, 1) := by decide +kernel
theorem dD_seek_75 : decode cD_seek 75 = .ok (.sipush 16807, 3) := by decide +kernel
theorem dD_seek_78 : decode cD_seek 78 = .ok (.if_icmp .ge 62, 3) := by decide +kernel
theorem dD_seek_81 : decode cD_seek 81 = .ok (.iload_n 2, 1) := by decide +kernel
theorem dD_seek_82 : decode cD_seek 82 = .ok (.ifCond .eq 58, 3) := by decide +kernel
theorem dD_seek_85 : decode cD_seek 85 = .ok (.aload_n 0, 1) := by decide +kernel
theorem dD_seek_86 : decode cD_seek 86 = .ok (.getfield 9, 3) := by decide +kernel
theorem dD_seek_89 : decode cD_seek 89 = .ok (.aload_n 0, 1) := by decide +kernel
theorem dD_seek_90 : decode cD_seek 90 = .ok (.getfield 19, 3) := by decide +kernel
theorem dD_seek_93 : decode cD_seek 93 = .ok (.invokevirtual 42, 3) := by decide +kernel
theorem dD_seek_96 : decode cD_seek 96 = .ok (.istore 4, 2) := by decide +kernel
theorem dD_seek_98 : decode cD_seek 98 = .ok (.iload 4, 2) := by decide +kernel
theorem dD_seek_100 : decode cD_seek 100 = .ok (.aload_n 0, 1) := by decide +kernel
theorem dD_seek_101 : decode cD_seek 101 = .ok (.getfield 29, 3) := by decide +kernel
theorem dD_seek_104 : decode cD_seek 104 = .ok (.if_icmp .le 9, 3) := by decide +kernel
theorem dD_seek_107 : decode cD_seek 107 = .ok (.aload_n 0, 1) := by decide +kernel
theorem dD_seek_108 : decode cD_seek 108 = .ok (.iload 4, 2) := by decide +kernel
theorem dD_seek_110 : decode cD_seek 110 = .ok (.invokevirtual 46, 3) := by decide +kernel
theorem dD_seek_113 : decode cD_seek 113 = .ok (.aload_n 0, 1) := by decide +kernel
theorem dD_seek_114 : decode cD_seek 114 = .ok (.getfield 9, 3) := by decide +kernel
theorem dD_seek_117 : decode cD_seek 117 = .ok (.aload_n 0, 1) := by decide +kernel
theorem dD_seek_118 : decode cD_seek 118 = .ok (.getfield 19, 3) := by decide +kernel
theorem dD_seek_121 : decode cD_seek 121 = .ok (.aload_n 0, 1) := by decide +kernel
theorem dD_seek_122 : decode cD_seek 122 = .ok (.getfield 9, 3) := by decide +kernel
theorem dD_seek_125 : decode cD_seek 125 = .ok (.getfield 33, 3) := by decide +kernel
theorem dD_seek_128 : decode cD_seek 128 = .ok (.iload_n 1, 1) := by decide +kernel
theorem dD_seek_129 : decode cD_seek 129 = .ok (.iconst (-1), 1) := by decide +kernel
theorem dD_seek_130 : decode cD_seek 130 = .ok (.invokevirtual 53, 3) := by decide +kernel
theorem dD_seek_133 : decode cD_seek 133 = .ok (.istore_n 2, 1) := by decide +kernel
theorem dD_seek_134 : decode cD_seek 134 = .ok (.iinc 3 1, 3) := by decide +kernel
theorem dD_seek_137 : decode cD_seek 137 = .ok (.goto (-63), 3) := by decide +kernel
theorem dD_seek_140 : decode cD_seek 140 = .ok (.aload_n 0, 1) := by decide +kernel
theorem dD_seek_141 : decode cD_seek 141 = .ok (.iconst 1, 1) := by decide +kernel
theorem dD_seek_142 : decode cD_seek 142 = .ok (.putfield 22, 3) := by decide +kernel
theorem dD_seek_145 : decode cD_seek 145 = .ok (.return_, 1) := by decide +kernel
theorem dS_firstPattern_0 : decode cS_firstPattern 0 = .ok (.aload_n 0, 1) := by decide +kernel
theorem dS_firstPattern_1 : decode cS_firstPattern 1 = .ok (.iconst 0, 1) := by decide +kernel
theorem dS_firstPattern_2 : decode cS_firstPattern 2 = .ok (.aload_n 1, 1) := by decide +kernel
theorem dS_firstPattern_3 : decode cS_firstPattern 3 = .ok (.aload_n 2, 1) := by decide +kernel
theorem dS_firstPattern_4 : decode cS_firstPattern 4 = .ok (.invokevirtual 43, 3) := by decide +kernel
theorem dS_firstPattern_7 : decode cS_firstPattern 7 = .ok (.return_, 1) := by decide +kernel
theorem dS_fillFrom_0 : decode cS_fillFrom 0 = .ok (.aload_n 0, 1) := by decide +kernel
theorem dS_fillFrom_1 : decode cS_fillFrom 1 = .ok (.getfield 9, 3) := by decide +kernel
theorem dS_fillFrom_4 : decode cS_fillFrom 4 = .ok (.aload_n 0, 1) := by decide +kernel
theorem dS_fillFrom_5 : decode cS_fillFrom 5 = .ok (.aload_n 2, 1) := by decide +kernel
theorem dS_fillFrom_6 : decode cS_fillFrom 6 = .ok (.iload_n 1, 1) := by decide +kernel
theorem dS_fillFrom_7 : decode cS_fillFrom 7 = .ok (.invokevirtual 28, 3) := by decide +kernel
theorem dS_fillFrom_10 : decode cS_fillFrom 10 = .ok (.isub, 1) := by decide +kernel
theorem dS_fillFrom_11 : decode cS_fillFrom 11 = .ok (.istore 4, 2) := by decide +kernel
theorem dS_fillFrom_13 : decode cS_fillFrom 13 = .ok (.iload_n 1, 1) := by decide +kernel
theorem dS_fillFrom_14 : decode cS_fillFrom 14 = .ok (.istore 5, 2) := by decide +kernel
theorem dS_fillFrom_16 : decode cS_fillFrom 16 = .ok (.iload 5, 2) := by decide +kernel
theorem dS_fillFrom_18 : decode cS_fillFrom 18 = .ok (.aload_n 0, 1) := by decide +kernel
theorem dS_fillFrom_19 : decode cS_fillFrom 19 = .ok (.getfield 25, 3) := by decide +kernel
theorem dS_fillFrom_22 : decode cS_fillFrom 22 = .ok (.if_icmp .ge 59, 3) := by decide +kernel
theorem dS_fillFrom_25 : decode cS_fillFrom 25 = .ok (.aload_n 0, 1) := by decide +kernel
theorem dS_fillFrom_26 : decode cS_fillFrom 26 = .ok (.getfield 15, 3) := by decide +kernel
theorem dS_fillFrom_29 : decode cS_fillFrom 29 = .ok (.iload 5, 2) := by decide +kernel
theorem dS_fillFrom_31 : decode cS_fillFrom 31 = .ok (.iaload, 1) := by decide +kernel
theorem dS_fillFrom_32 : decode cS_fillFrom 32 = .ok (.istore 6, 2) := by decide +kernel
theorem dS_fillFrom_34 : decode cS_fillFrom 34 = .ok (.iload 6, 2) := by decide +kernel
theorem dS_fillFrom_36 : decode cS_fillFrom 36 = .ok (.ifCond .gt 7, 3) := by decide +kernel
theorem dS_fillFrom_39 : decode cS_fillFrom 39 = .ok (.iconst 0, 1) := by decide +kernel
theorem dS_fillFrom_40 : decode cS_fillFrom 40 = .ok (.goto 8, 3) := by decide +kernel
theorem dS_fillFrom_43 : decode cS_fillFrom 43 = .ok (.iload 4, 2) := by decide +kernel
theorem dS_fillFrom_45 : decode cS_fillFrom 45 = .ok (.iload 6, 2) := by decide +kernel
theorem dS_fillFrom_47 : decode cS_fillFrom 47 = .ok (.idiv, 1) := by decide +kernel
theorem dS_fillFrom_48 : decode cS_fillFrom 48 = .ok (.istore 7, 2) := by decide +kernel
theorem dS_fillFrom_50 : decode cS_fillFrom 50 = .ok (.aload_n 2, 1) := by decide +kernel
theorem dS_fillFrom_51 : decode cS_fillFrom 51 = .ok (.iload 5, 2) := by decide +kernel
theorem dS_fillFrom_53 : decode cS_fillFrom 53 = .ok (.aload_n 3, 1) := by decide +kernel
theorem dS_fillFrom_54 : decode cS_fillFrom 54 = .ok (.iload 5, 2) := by decide +kernel
theorem dS_fillFrom_56 : decode cS_fillFrom 56 = .ok (.iaload, 1) := by decide +kernel
theorem dS_fillFrom_57 : decode cS_fillFrom 57 = .ok (.iload 7, 2) := by decide +kernel
theorem dS_fillFrom_59 : decode cS_fillFrom 59 = .ok (.invokestatic 47, 3) := by decide +kernel
theorem dS_fillFrom_62 : decode cS_fillFrom 62 = .ok (.iastore, 1) := by decide +kernel
theorem dS_fillFrom_63 : decode cS_fillFrom 63 = .ok (.iload 4, 2) := by decide +kernel
theorem dS_fillFrom_65 : decode cS_fillFrom 65 = .ok (.aload_n 2, 1) := by decide +kernel
theorem dS_fillFrom_66 : decode cS_fillFrom 66 = .ok (.iload 5, 2) := by decide +kernel
theorem dS_fillFrom_68 : decode cS_fillFrom 68 = .ok (.iaload, 1) := by decide +kernel
theorem dS_fillFrom_69 : decode cS_fillFrom 69 = .ok (.iload 6, 2) := by decide +kernel
theorem dS_fillFrom_71 : decode cS_fillFrom 71 = .ok (.imul, 1) := by decide +kernel
theorem dS_fillFrom_72 : decode cS_fillFrom 72 = .ok (.isub, 1) := by decide +kernel
theorem dS_fillFrom_73 : decode cS_fillFrom 73 = .ok (.istore 4, 2) := by decide +kernel
theorem dS_fillFrom_75 : decode cS_fillFrom 75 = .ok (.iinc 5 1, 3) := by decide +kernel
theorem dS_fillFrom_78 : decode cS_fillFrom 78 = .ok (.goto (-62), 3) := by decide +kernel
theorem dS_fillFrom_81 : decode cS_fillFrom 81 = .ok (.return_, 1) := by decide +kernel
theorem dS_widthOfFirst_0 : decode cS_widthOfFirst 0 = .ok (.iconst 0, 1) := by decide +kernel
theorem dS_widthOfFirst_1 : decode cS_widthOfFirst 1 = .ok (.istore_n 3, 1) := by decide +kernel
theorem dS_widthOfFirst_2 : decode cS_widthOfFirst 2 = .ok (.iconst 0, 1) := by decide +kernel
theorem dS_widthOfFirst_3 : decode cS_widthOfFirst 3 = .ok (.istore 4, 2) := by decide +kernel
theorem dS_widthOfFirst_5 : decode cS_widthOfFirst 5 = .ok (.iload 4, 2) := by decide +kernel
theorem dS_widthOfFirst_7 : decode cS_widthOfFirst 7 = .ok (.iload_n 2, 1) := by decide +kernel
theorem dS_widthOfFirst_8 : decode cS_widthOfFirst 8 = .ok (.if_icmp .ge 24, 3) := by decide +kernel
theorem dS_widthOfFirst_11 : decode cS_widthOfFirst 11 = .ok (.iload_n 3, 1) := by decide +kernel
theorem dS_widthOfFirst_12 : decode cS_widthOfFirst 12 = .ok (.aload_n 1, 1) := by decide +kernel
theorem dS_widthOfFirst_13 : decode cS_widthOfFirst 13 = .ok (.iload 4, 2) := by decide +kernel
theorem dS_widthOfFirst_15 : decode cS_widthOfFirst 15 = .ok (.iaload, 1) := by decide +kernel
theorem dS_widthOfFirst_16 : decode cS_widthOfFirst 16 = .ok (.aload_n 0, 1) := by decide +kernel
theorem dS_widthOfFirst_17 : decode cS_widthOfFirst 17 = .ok (.getfield 15, 3) := by decide +kernel
theorem dS_widthOfFirst_20 : decode cS_widthOfFirst 20 = .ok (.iload 4, 2) := by decide +kernel
theorem dS_widthOfFirst_22 : decode cS_widthOfFirst 22 = .ok (.iaload, 1) := by decide +kernel
theorem dS_widthOfFirst_23 : decode cS_widthOfFirst 23 = .ok (.imul, 1) := by decide +kernel
theorem dS_widthOfFirst_24 : decode cS_widthOfFirst 24 = .ok (.iadd, 1) := by decide +kernel
theorem dS_widthOfFirst_25 : decode cS_widthOfFirst 25 = .ok (.istore_n 3, 1) := by decide +kernel
theorem dS_widthOfFirst_26 : decode cS_widthOfFirst 26 = .ok (.iinc 4 1, 3) := by decide +kernel
theorem dS_widthOfFirst_29 : decode cS_widthOfFirst 29 = .ok (.goto (-24), 3) := by decide +kernel
theorem dS_widthOfFirst_32 : decode cS_widthOfFirst 32 = .ok (.iload_n 3, 1) := by decide +kernel
theorem dS_widthOfFirst_33 : decode cS_widthOfFirst 33 = .ok (.ireturn, 1) := by decide +kernel
theorem dS_priceOf_0 : decode cS_priceOf 0 = .ok (.iconst 0, 1) := by decide +kernel
theorem dS_priceOf_1 : decode cS_priceOf 1 = .ok (.istore_n 2, 1) := by decide +kernel
theorem dS_priceOf_2 : decode cS_priceOf 2 = .ok (.iconst 0, 1) := by decide +kernel
theorem dS_priceOf_3 : decode cS_priceOf 3 = .ok (.istore_n 3, 1) := by decide +kernel
theorem dS_priceOf_4 : decode cS_priceOf 4 = .ok (.iload_n 3, 1) := by decide +kernel
theorem dS_priceOf_5 : decode cS_priceOf 5 = .ok (.aload_n 0, 1) := by decide +kernel
theorem dS_priceOf_6 : decode cS_priceOf 6 = .ok (.getfield 25, 3) := by decide +kernel
theorem dS_priceOf_9 : decode cS_priceOf 9 = .ok (.if_icmp .ge 22, 3) := by decide +kernel
theorem dS_priceOf_12 : decode cS_priceOf 12 = .ok (.iload_n 2, 1) := by decide +kernel
theorem dS_priceOf_13 : decode cS_priceOf 13 = .ok (.aload_n 1, 1) := by decide +kernel
theorem dS_priceOf_14 : decode cS_priceOf 14 = .ok (.iload_n 3, 1) := by decide +kernel
theorem dS_priceOf_15 : decode cS_priceOf 15 = .ok (.iaload, 1) := by decide +kernel
theorem dS_priceOf_16 : decode cS_priceOf 16 = .ok (.aload_n 0, 1) := by decide +kernel
theorem dS_priceOf_17 : decode cS_priceOf 17 = .ok (.getfield 22, 3) := by decide +kernel
theorem dS_priceOf_20 : decode cS_priceOf 20 = .ok (.iload_n 3, 1) := by decide +kernel
theorem dS_priceOf_21 : decode cS_priceOf 21 = .ok (.iaload, 1) := by decide +kernel
theorem dS_priceOf_22 : decode cS_priceOf 22 = .ok (.imul, 1) := by decide +kernel
theorem dS_priceOf_23 : decode cS_priceOf 23 = .ok (.iadd, 1) := by decide +kernel
theorem dS_priceOf_24 : decode cS_priceOf 24 = .ok (.istore_n 2, 1) := by decide +kernel
theorem dS_priceOf_25 : decode cS_priceOf 25 = .ok (.iinc 3 1, 3) := by decide +kernel
theorem dS_priceOf_28 : decode cS_priceOf 28 = .ok (.goto (-24), 3) := by decide +kernel
theorem dS_priceOf_31 : decode cS_priceOf 31 = .ok (.iload_n 2, 1) := by decide +kernel
theorem dS_priceOf_32 : decode cS_priceOf 32 = .ok (.ireturn, 1) := by decide +kernel
theorem dD_take_0 : decode cD_take 0 = .ok (.aload_n 0, 1) := by decide +kernel
theorem dD_take_1 : decode cD_take 1 = .ok (.iload_n 1, 1) := by decide +kernel
theorem dD_take_2 : decode cD_take 2 = .ok (.putfield 29, 3) := by decide +kernel
theorem dD_take_5 : decode cD_take 5 = .ok (.aload_n 0, 1) := by decide +kernel
theorem dD_take_6 : decode cD_take 6 = .ok (.getfield 19, 3) := by decide +kernel
theorem dD_take_9 : decode cD_take 9 = .ok (.iconst 0, 1) := by decide +kernel
theorem dD_take_10 : decode cD_take 10 = .ok (.aload_n 0, 1) := by decide +kernel
theorem dD_take_11 : decode cD_take 11 = .ok (.getfield 15, 3) := by decide +kernel
theorem dD_take_14 : decode cD_take 14 = .ok (.iconst 0, 1) := by decide +kernel
theorem dD_take_15 : decode cD_take 15 = .ok (.iconst 5, 1) := by decide +kernel
theorem dD_take_16 : decode cD_take 16 = .ok (.invokestatic 57, 3) := by decide +kernel
theorem dD_take_19 : decode cD_take 19 = .ok (.return_, 1) := by decide +kernel
theorem dS_nextPattern_0 : decode cS_nextPattern 0 = .ok (.iload_n 3, 1) := by decide +kernel
theorem dS_nextPattern_1 : decode cS_nextPattern 1 = .ok (.aload_n 0, 1) := by decide +kernel
theorem dS_nextPattern_2 : decode cS_nextPattern 2 = .ok (.getfield 25, 3) := by decide +kernel
theorem dS_nextPattern_5 : decode cS_nextPattern 5 = .ok (.iconst 1, 1) := by decide +kernel
theorem dS_nextPattern_6 : decode cS_nextPattern 6 = .ok (.isub, 1) := by decide +kernel
theorem dS_nextPattern_7 : decode cS_nextPattern 7 = .ok (.invokestatic 47, 3) := by decide +kernel
theorem dS_nextPattern_10 : decode cS_nextPattern 10 = .ok (.istore 5, 2) := by decide +kernel
theorem dS_nextPattern_12 : decode cS_nextPattern 12 = .ok (.iload 5, 2) := by decide +kernel
theorem dS_nextPattern_14 : decode cS_nextPattern 14 = .ok (.ifCond .lt 52, 3) := by decide +kernel
theorem dS_nextPattern_17 : decode cS_nextPattern 17 = .ok (.iload 5, 2) := by decide +kernel
theorem dS_nextPattern_19 : decode cS_nextPattern 19 = .ok (.iload 4, 2) := by decide +kernel
theorem dS_nextPattern_21 : decode cS_nextPattern 21 = .ok (.if_icmp .ne 7, 3) := by decide +kernel
theorem dS_nextPattern_24 : decode cS_nextPattern 24 = .ok (.iconst 1, 1) := by decide +kernel
theorem dS_nextPattern_25 : decode cS_nextPattern 25 = .ok (.goto 4, 3) := by decide +kernel
theorem dS_nextPattern_28 : decode cS_nextPattern 28 = .ok (.iconst 0, 1) := by decide +kernel
theorem dS_nextPattern_29 : decode cS_nextPattern 29 = .ok (.istore 6, 2) := by decide +kernel
theorem dS_nextPattern_31 : decode cS_nextPattern 31 = .ok (.aload_n 1, 1) := by decide +kernel
theorem dS_nextPattern_32 : decode cS_nextPattern 32 = .ok (.iload 5, 2) := by decide +kernel
theorem dS_nextPattern_34 : decode cS_nextPattern 34 = .ok (.iaload, 1) := by decide +kernel
theorem dS_nextPattern_35 : decode cS_nextPattern 35 = .ok (.iload 6, 2) := by decide +kernel
theorem dS_nextPattern_37 : decode cS_nextPattern 37 = .ok (.if_icmp .le 23, 3) := by decide +kernel
theorem dS_nextPattern_40 : decode cS_nextPattern 40 = .ok (.aload_n 1, 1) := by decide +kernel
theorem dS_nextPattern_41 : decode cS_nextPattern 41 = .ok (.iload 5, 2) := by decide +kernel
theorem dS_nextPattern_43 : decode cS_nextPattern 43 = .ok (.dup2, 1) := by decide +kernel
theorem dS_nextPattern_44 : decode cS_nextPattern 44 = .ok (.iaload, 1) := by decide +kernel
theorem dS_nextPattern_45 : decode cS_nextPattern 45 = .ok (.iconst 1, 1) := by decide +kernel
theorem dS_nextPattern_46 : decode cS_nextPattern 46 = .ok (.isub, 1) := by decide +kernel
theorem dS_nextPattern_47 : decode cS_nextPattern 47 = .ok (.iastore, 1) := by decide +kernel
theorem dS_nextPattern_48 : decode cS_nextPattern 48 = .ok (.aload_n 0, 1) := by decide +kernel
theorem dS_nextPattern_49 : decode cS_nextPattern 49 = .ok (.iload 5, 2) := by decide +kernel
theorem dS_nextPattern_51 : decode cS_nextPattern 51 = .ok (.iconst 1, 1) := by decide +kernel
theorem dS_nextPattern_52 : decode cS_nextPattern 52 = .ok (.iadd, 1) := by decide +kernel
theorem dS_nextPattern_53 : decode cS_nextPattern 53 = .ok (.aload_n 1, 1) := by decide +kernel
theorem dS_nextPattern_54 : decode cS_nextPattern 54 = .ok (.aload_n 2, 1) := by decide +kernel
theorem dS_nextPattern_55 : decode cS_nextPattern 55 = .ok (.invokevirtual 43, 3) := by decide +kernel
theorem dS_nextPattern_58 : decode cS_nextPattern 58 = .ok (.iconst 1, 1) := by decide +kernel
theorem dS_nextPattern_59 : decode cS_nextPattern 59 = .ok (.ireturn, 1) := by decide +kernel
theorem dS_nextPattern_60 : decode cS_nextPattern 60 = .ok (.iinc 5 (-1), 3) := by decide +kernel
theorem dS_nextPattern_63 : decode cS_nextPattern 63 = .ok (.goto (-51), 3) := by decide +kernel
theorem dS_nextPattern_66 : decode cS_nextPattern 66 = .ok (.iconst 0, 1) := by decide +kernel
theorem dS_nextPattern_67 : decode cS_nextPattern 67 = .ok (.ireturn, 1) := by decide +kernel
theorem dP_bound_0 : decode cP_bound 0 = .ok (.aload_n 0, 1) := by decide +kernel
theorem dP_bound_1 : decode cP_bound 1 = .ok (.invokevirtual 98, 3) := by decide +kernel
theorem dP_bound_4 : decode cP_bound 4 = .ok (.ireturn, 1) := by decide +kernel
theorem dP_boundByPrices_0 : decode cP_boundByPrices 0 = .ok (.aload_n 0, 1) := by decide +kernel
theorem dP_boundByPrices_1 : decode cP_boundByPrices 1 = .ok (.getfield 12, 3) := by decide +kernel
theorem dP_boundByPrices_4 : decode cP_boundByPrices 4 = .ok (.invokevirtual 192, 3) := by decide +kernel
theorem dP_boundByPrices_7 : decode cP_boundByPrices 7 = .ok (.aload_n 0, 1) := by decide +kernel
theorem dP_boundByPrices_8 : decode cP_boundByPrices 8 = .ok (.getfield 21, 3) := by decide +kernel
theorem dP_boundByPrices_11 : decode cP_boundByPrices 11 = .ok (.invokevirtual 90, 3) := by decide +kernel
theorem dP_boundByPrices_14 : decode cP_boundByPrices 14 = .ok (.invokestatic 195, 3) := by decide +kernel
theorem dP_boundByPrices_17 : decode cP_boundByPrices 17 = .ok (.ireturn, 1) := by decide +kernel
theorem dS_priceOfAll_0 : decode cS_priceOfAll 0 = .ok (.aload_n 0, 1) := by decide +kernel
theorem dS_priceOfAll_1 : decode cS_priceOfAll 1 = .ok (.aload_n 0, 1) := by decide +kernel
theorem dS_priceOfAll_2 : decode cS_priceOfAll 2 = .ok (.getfield 19, 3) := by decide +kernel
theorem dS_priceOfAll_5 : decode cS_priceOfAll 5 = .ok (.invokevirtual 32, 3) := by decide +kernel
theorem dS_priceOfAll_8 : decode cS_priceOfAll 8 = .ok (.ireturn, 1) := by decide +kernel
theorem dP_roundedUp_0 : decode cP_roundedUp 0 = .ok (.iload_n 1, 1) := by decide +kernel
theorem dP_roundedUp_1 : decode cP_roundedUp 1 = .ok (.ifCond .gt 7, 3) := by decide +kernel
theorem dP_roundedUp_4 : decode cP_roundedUp 4 = .ok (.iconst 0, 1) := by decide +kernel
theorem dP_roundedUp_5 : decode cP_roundedUp 5 = .ok (.goto 10, 3) := by decide +kernel
theorem dP_roundedUp_8 : decode cP_roundedUp 8 = .ok (.iload_n 0, 1) := by decide +kernel
theorem dP_roundedUp_9 : decode cP_roundedUp 9 = .ok (.iload_n 1, 1) := by decide +kernel
theorem dP_roundedUp_10 : decode cP_roundedUp 10 = .ok (.iadd, 1) := by decide +kernel
theorem dP_roundedUp_11 : decode cP_roundedUp 11 = .ok (.iconst 1, 1) := by decide +kernel
theorem dP_roundedUp_12 : decode cP_roundedUp 12 = .ok (.isub, 1) := by decide +kernel
theorem dP_roundedUp_13 : decode cP_roundedUp 13 = .ok (.iload_n 1, 1) := by decide +kernel
theorem dP_roundedUp_14 : decode cP_roundedUp 14 = .ok (.idiv, 1) := by decide +kernel
theorem dP_roundedUp_15 : decode cP_roundedUp 15 = .ok (.ireturn, 1) := by decide +kernel
theorem dL_sheet_0 : decode cL_sheet 0 = .ok (.aload_n 0, 1) := by decide +kernel
theorem dL_sheet_1 : decode cL_sheet 1 = .ok (.iload_n 1, 1) := by decide +kernel
theorem dL_sheet_2 : decode cL_sheet 2 = .ok (.invokevirtual 7, 3) := by decide +kernel
theorem dL_sheet_5 : decode cL_sheet 5 = .ok (.goto 6, 3) := by decide +kernel
theorem dL_sheet_8 : decode cL_sheet 8 = .ok (.astore_n 2, 1) := by decide +kernel
theorem dL_sheet_9 : decode cL_sheet 9 = .ok (.iconst 1, 1) := by decide +kernel
theorem dL_sheet_10 : decode cL_sheet 10 = .ok (.ireturn, 1) := by decide +kernel
theorem dL_sheet_11 : decode cL_sheet 11 = .ok (.iconst 0, 1) := by decide +kernel
theorem dL_sheet_12 : decode cL_sheet 12 = .ok (.ireturn, 1) := by decide +kernel
theorem dP_sheet_0 : decode cP_sheet 0 = .ok (.iload_n 1, 1) := by decide +kernel
theorem dP_sheet_1 : decode cP_sheet 1 = .ok (.iconst 1, 1) := by decide +kernel
theorem dP_sheet_2 : decode cP_sheet 2 = .ok (.if_icmp .lt 10, 3) := by decide +kernel
theorem dP_sheet_5 : decode cP_sheet 5 = .ok (.iload_n 1, 1) := by decide +kernel
theorem dP_sheet_6 : decode cP_sheet 6 = .ok (.sipush 1000, 3) := by decide +kernel
theorem dP_sheet_9 : decode cP_sheet 9 = .ok (.if_icmp .le 13, 3) := by decide +kernel
theorem dP_sheet_12 : decode cP_sheet 12 = .ok (.new 39, 3) := by decide +kernel
theorem dP_sheet_15 : decode cP_sheet 15 = .ok (.dup, 1) := by decide +kernel
theorem dP_sheet_16 : decode cP_sheet 16 = .ok (.ldc 41, 2) := by decide +kernel
theorem dP_sheet_18 : decode cP_sheet 18 = .ok (.invokespecial 43, 3) := by decide +kernel
theorem dP_sheet_21 : decode cP_sheet 21 = .ok (.athrow, 1) := by decide +kernel
theorem dP_sheet_22 : decode cP_sheet 22 = .ok (.aload_n 0, 1) := by decide +kernel
theorem dP_sheet_23 : decode cP_sheet 23 = .ok (.getfield 12, 3) := by decide +kernel
theorem dP_sheet_26 : decode cP_sheet 26 = .ok (.iload_n 1, 1) := by decide +kernel
theorem dP_sheet_27 : decode cP_sheet 27 = .ok (.putfield 46, 3) := by decide +kernel
theorem dP_sheet_30 : decode cP_sheet 30 = .ok (.aload_n 0, 1) := by decide +kernel
theorem dP_sheet_31 : decode cP_sheet 31 = .ok (.invokevirtual 50, 3) := by decide +kernel
theorem dP_sheet_34 : decode cP_sheet 34 = .ok (.return_, 1) := by decide +kernel
theorem dP_forgetAnswers_0 : decode cP_forgetAnswers 0 = .ok (.aload_n 0, 1) := by decide +kernel
theorem dP_forgetAnswers_1 : decode cP_forgetAnswers 1 = .ok (.getfield 21, 3) := by decide +kernel
theorem dP_forgetAnswers_4 : decode cP_forgetAnswers 4 = .ok (.invokevirtual 87, 3) := by decide +kernel
theorem dP_forgetAnswers_7 : decode cP_forgetAnswers 7 = .ok (.aload_n 0, 1) := by decide +kernel
theorem dP_forgetAnswers_8 : decode cP_forgetAnswers 8 = .ok (.getfield 28, 3) := by decide +kernel
theorem dP_forgetAnswers_11 : decode cP_forgetAnswers 11 = .ok (.invokevirtual 191, 3) := by decide +kernel
theorem dP_forgetAnswers_14 : decode cP_forgetAnswers 14 = .ok (.return_, 1) := by decide +kernel
theorem dD_forget_0 : decode cD_forget 0 = .ok (.aload_n 0, 1) := by decide +kernel
theorem dD_forget_1 : decode cD_forget 1 = .ok (.iconst 0, 1) := by decide +kernel
theorem dD_forget_2 : decode cD_forget 2 = .ok (.putfield 22, 3) := by decide +kernel
theorem dD_forget_5 : decode cD_forget 5 = .ok (.return_, 1) := by decide +kernel
theorem dG_forget_0 : decode cG_forget 0 = .ok (.aload_n 0, 1) := by decide +kernel
theorem dG_forget_1 : decode cG_forget 1 = .ok (.iconst (-1), 1) := by decide +kernel
theorem dG_forget_2 : decode cG_forget 2 = .ok (.putfield 27, 3) := by decide +kernel
theorem dG_forget_5 : decode cG_forget 5 = .ok (.aload_n 0, 1) := by decide +kernel
theorem dG_forget_6 : decode cG_forget 6 = .ok (.iconst 0, 1) := by decide +kernel
theorem dG_forget_7 : decode cG_forget 7 = .ok (.putfield 31, 3) := by decide +kernel
theorem dG_forget_10 : decode cG_forget 10 = .ok (.aload_n 0, 1) := by decide +kernel
theorem dG_forget_11 : decode cG_forget 11 = .ok (.iconst 0, 1) := by decide +kernel
theorem dG_forget_12 : decode cG_forget 12 = .ok (.putfield 35, 3) := by decide +kernel
theorem dG_forget_15 : decode cG_forget 15 = .ok (.aload_n 0, 1) := by decide +kernel
theorem dG_forget_16 : decode cG_forget 16 = .ok (.iconst 0, 1) := by decide +kernel
theorem dG_forget_17 : decode cG_forget 17 = .ok (.putfield 38, 3) := by decide +kernel
theorem dG_forget_20 : decode cG_forget 20 = .ok (.return_, 1) := by decide +kernel
theorem dL_order_0 : decode cL_order 0 = .ok (.aload_n 3, 1) := by decide +kernel
theorem dL_order_1 : decode cL_order 1 = .ok (.iconst 0, 1) := by decide +kernel
theorem dL_order_2 : decode cL_order 2 = .ok (.aload_n 0, 1) := by decide +kernel
theorem dL_order_3 : decode cL_order 3 = .ok (.iload_n 1, 1) := by decide +kernel
theorem dL_order_4 : decode cL_order 4 = .ok (.iload_n 2, 1) := by decide +kernel
theorem dL_order_5 : decode cL_order 5 = .ok (.invokevirtual 15, 3) := by decide +kernel
theorem dL_order_8 : decode cL_order 8 = .ok (.i2l, 1) := by decide +kernel
theorem dL_order_9 : decode cL_order 9 = .ok (.lastore, 1) := by decide +kernel
theorem dL_order_10 : decode cL_order 10 = .ok (.goto 11, 3) := by decide +kernel
theorem dL_order_13 : decode cL_order 13 = .ok (.astore 4, 2) := by decide +kernel
theorem dL_order_15 : decode cL_order 15 = .ok (.iconst 1, 1) := by decide +kernel
theorem dL_order_16 : decode cL_order 16 = .ok (.ireturn, 1) := by decide +kernel
theorem dL_order_17 : decode cL_order 17 = .ok (.astore 4, 2) := by decide +kernel
theorem dL_order_19 : decode cL_order 19 = .ok (.iconst 2, 1) := by decide +kernel
theorem dL_order_20 : decode cL_order 20 = .ok (.ireturn, 1) := by decide +kernel
theorem dL_order_21 : decode cL_order 21 = .ok (.iconst 0, 1) := by decide +kernel
theorem dL_order_22 : decode cL_order 22 = .ok (.ireturn, 1) := by decide +kernel
theorem dP_order_0 : decode cP_order 0 = .ok (.aload_n 0, 1) := by decide +kernel
theorem dP_order_1 : decode cP_order 1 = .ok (.getfield 12, 3) := by decide +kernel
theorem dP_order_4 : decode cP_order 4 = .ok (.getfield 53, 3) := by decide +kernel
theorem dP_order_7 : decode cP_order 7 = .ok (.iconst 5, 1) := by decide +kernel
theorem dP_order_8 : decode cP_order 8 = .ok (.if_icmp .lt 13, 3) := by decide +kernel
theorem dP_order_11 : decode cP_order 11 = .ok (.new 56, 3) := by decide +kernel
theorem dP_order_14 : decode cP_order 14 = .ok (.dup, 1) := by decide +kernel
theorem dP_order_15 : decode cP_order 15 = .ok (.ldc 58, 2) := by decide +kernel
theorem dP_order_17 : decode cP_order 17 = .ok (.invokespecial 60, 3) := by decide +kernel
theorem dP_order_20 : decode cP_order 20 = .ok (.athrow, 1) := by decide +kernel
theorem dP_order_21 : decode cP_order 21 = .ok (.iload_n 1, 1) := by decide +kernel
theorem dP_order_22 : decode cP_order 22 = .ok (.iconst 1, 1) := by decide +kernel
theorem dP_order_23 : decode cP_order 23 = .ok (.if_icmp .lt 10, 3) := by decide +kernel
theorem dP_order_26 : decode cP_order 26 = .ok (.iload_n 1, 1) := by decide +kernel
theorem dP_order_27 : decode cP_order 27 = .ok (.sipush 1000, 3) := by decide +kernel
theorem dP_order_30 : decode cP_order 30 = .ok (.if_icmp .le 13, 3) := by decide +kernel
theorem dP_order_33 : decode cP_order 33 = .ok (.new 39, 3) := by decide +kernel
theorem dP_order_36 : decode cP_order 36 = .ok (.dup, 1) := by decide +kernel
theorem dP_order_37 : decode cP_order 37 = .ok (.ldc 61, 2) := by decide +kernel
theorem dP_order_39 : decode cP_order 39 = .ok (.invokespecial 43, 3) := by decide +kernel
theorem dP_order_42 : decode cP_order 42 = .ok (.athrow, 1) := by decide +kernel
theorem dP_order_43 : decode cP_order 43 = .ok (.iload_n 2, 1) := by decide +kernel
theorem dP_order_44 : decode cP_order 44 = .ok (.ifCond .lt 9, 3) := by decide +kernel
theorem dP_order_47 : decode cP_order 47 = .ok (.iload_n 2, 1) := by decide +kernel
theorem dP_order_48 : decode cP_order 48 = .ok (.bipush 6, 2) := by decide +kernel
theorem dP_order_50 : decode cP_order 50 = .ok (.if_icmp .le 13, 3) := by decide +kernel
theorem dP_order_53 : decode cP_order 53 = .ok (.new 39, 3) := by decide +kernel
theorem dP_order_56 : decode cP_order 56 = .ok (.dup, 1) := by decide +kernel
theorem dP_order_57 : decode cP_order 57 = .ok (.ldc 63, 2) := by decide +kernel
theorem dP_order_59 : decode cP_order 59 = .ok (.invokespecial 43, 3) := by decide +kernel
theorem dP_order_62 : decode cP_order 62 = .ok (.athrow, 1) := by decide +kernel
theorem dP_order_63 : decode cP_order 63 = .ok (.aload_n 0, 1) := by decide +kernel
theorem dP_order_64 : decode cP_order 64 = .ok (.getfield 12, 3) := by decide +kernel
theorem dP_order_67 : decode cP_order 67 = .ok (.iload_n 1, 1) := by decide +kernel
theorem dP_order_68 : decode cP_order 68 = .ok (.iload_n 2, 1) := by decide +kernel
theorem dP_order_69 : decode cP_order 69 = .ok (.invokevirtual 65, 3) := by decide +kernel
theorem dP_order_72 : decode cP_order 72 = .ok (.istore_n 3, 1) := by decide +kernel
theorem dP_order_73 : decode cP_order 73 = .ok (.aload_n 0, 1) := by decide +kernel
theorem dP_order_74 : decode cP_order 74 = .ok (.invokevirtual 50, 3) := by decide +kernel
theorem dP_order_77 : decode cP_order 77 = .ok (.iload_n 3, 1) := by decide +kernel
theorem dP_order_78 : decode cP_order 78 = .ok (.ireturn, 1) := by decide +kernel
theorem dS_add_0 : decode cS_add 0 = .ok (.aload_n 0, 1) := by decide +kernel
theorem dS_add_1 : decode cS_add 1 = .ok (.getfield 25, 3) := by decide +kernel
theorem dS_add_4 : decode cS_add 4 = .ok (.istore_n 3, 1) := by decide +kernel
theorem dS_add_5 : decode cS_add 5 = .ok (.aload_n 0, 1) := by decide +kernel
theorem dS_add_6 : decode cS_add 6 = .ok (.getfield 15, 3) := by decide +kernel
theorem dS_add_9 : decode cS_add 9 = .ok (.iload_n 3, 1) := by decide +kernel
theorem dS_add_10 : decode cS_add 10 = .ok (.iload_n 1, 1) := by decide +kernel
theorem dS_add_11 : decode cS_add 11 = .ok (.iastore, 1) := by decide +kernel
theorem dS_add_12 : decode cS_add 12 = .ok (.aload_n 0, 1) := by decide +kernel
theorem dS_add_13 : decode cS_add 13 = .ok (.getfield 19, 3) := by decide +kernel
theorem dS_add_16 : decode cS_add 16 = .ok (.iload_n 3, 1) := by decide +kernel
theorem dS_add_17 : decode cS_add 17 = .ok (.iload_n 2, 1) := by decide +kernel
theorem dS_add_18 : decode cS_add 18 = .ok (.iastore, 1) := by decide +kernel
theorem dS_add_19 : decode cS_add 19 = .ok (.aload_n 0, 1) := by decide +kernel
theorem dS_add_20 : decode cS_add 20 = .ok (.getfield 22, 3) := by decide +kernel
theorem dS_add_23 : decode cS_add 23 = .ok (.iload_n 3, 1) := by decide +kernel
theorem dS_add_24 : decode cS_add 24 = .ok (.iconst 0, 1) := by decide +kernel
theorem dS_add_25 : decode cS_add 25 = .ok (.iastore, 1) := by decide +kernel
theorem dS_add_26 : decode cS_add 26 = .ok (.aload_n 0, 1) := by decide +kernel
theorem dS_add_27 : decode cS_add 27 = .ok (.iload_n 3, 1) := by decide +kernel
theorem dS_add_28 : decode cS_add 28 = .ok (.iconst 1, 1) := by decide +kernel
theorem dS_add_29 : decode cS_add 29 = .ok (.iadd, 1) := by decide +kernel
theorem dS_add_30 : decode cS_add 30 = .ok (.putfield 25, 3) := by decide +kernel
theorem dS_add_33 : decode cS_add 33 = .ok (.iload_n 3, 1) := by decide +kernel
theorem dS_add_34 : decode cS_add 34 = .ok (.ireturn, 1) := by decide +kernel
theorem dL_pieces_0 : decode cL_pieces 0 = .ok (.aload_n 0, 1) := by decide +kernel
theorem dL_pieces_1 : decode cL_pieces 1 = .ok (.iload_n 1, 1) := by decide +kernel
theorem dL_pieces_2 : decode cL_pieces 2 = .ok (.iload_n 2, 1) := by decide +kernel
theorem dL_pieces_3 : decode cL_pieces 3 = .ok (.invokevirtual 21, 3) := by decide +kernel
theorem dL_pieces_6 : decode cL_pieces 6 = .ok (.goto 9, 3) := by decide +kernel
theorem dL_pieces_9 : decode cL_pieces 9 = .ok (.astore_n 3, 1) := by decide +kernel
theorem dL_pieces_10 : decode cL_pieces 10 = .ok (.iconst 1, 1) := by decide +kernel
theorem dL_pieces_11 : decode cL_pieces 11 = .ok (.ireturn, 1) := by decide +kernel
theorem dL_pieces_12 : decode cL_pieces 12 = .ok (.astore_n 3, 1) := by decide +kernel
theorem dL_pieces_13 : decode cL_pieces 13 = .ok (.iconst 2, 1) := by decide +kernel
theorem dL_pieces_14 : decode cL_pieces 14 = .ok (.ireturn, 1) := by decide +kernel
theorem dL_pieces_15 : decode cL_pieces 15 = .ok (.iconst 0, 1) := by decide +kernel
theorem dL_pieces_16 : decode cL_pieces 16 = .ok (.ireturn, 1) := by decide +kernel
theorem dP_pieces_0 : decode cP_pieces 0 = .ok (.aload_n 0, 1) := by decide +kernel
theorem dP_pieces_1 : decode cP_pieces 1 = .ok (.getfield 12, 3) := by decide +kernel
theorem dP_pieces_4 : decode cP_pieces 4 = .ok (.iload_n 1, 1) := by decide +kernel
theorem dP_pieces_5 : decode cP_pieces 5 = .ok (.invokevirtual 69, 3) := by decide +kernel
theorem dP_pieces_8 : decode cP_pieces 8 = .ok (.ifCond .ne 13, 3) := by decide +kernel
theorem dP_pieces_11 : decode cP_pieces 11 = .ok (.new 73, 3) := by decide +kernel
theorem dP_pieces_14 : decode cP_pieces 14 = .ok (.dup, 1) := by decide +kernel
theorem dP_pieces_15 : decode cP_pieces 15 = .ok (.ldc 75, 2) := by decide +kernel
theorem dP_pieces_17 : decode cP_pieces 17 = .ok (.invokespecial 77, 3) := by decide +kernel
theorem dP_pieces_20 : decode cP_pieces 20 = .ok (.athrow, 1) := by decide +kernel
theorem dP_pieces_21 : decode cP_pieces 21 = .ok (.iload_n 2, 1) := by decide +kernel
theorem dP_pieces_22 : decode cP_pieces 22 = .ok (.ifCond .lt 9, 3) := by decide +kernel
theorem dP_pieces_25 : decode cP_pieces 25 = .ok (.iload_n 2, 1) := by decide +kernel
theorem dP_pieces_26 : decode cP_pieces 26 = .ok (.bipush 6, 2) := by decide +kernel
theorem dP_pieces_28 : decode cP_pieces 28 = .ok (.if_icmp .le 13, 3) := by decide +kernel
theorem dP_pieces_31 : decode cP_pieces 31 = .ok (.new 39, 3) := by decide +kernel
theorem dP_pieces_34 : decode cP_pieces 34 = .ok (.dup, 1) := by decide +kernel
theorem dP_pieces_35 : decode cP_pieces 35 = .ok (.ldc 63, 2) := by decide +kernel
theorem dP_pieces_37 : decode cP_pieces 37 = .ok (.invokespecial 43, 3) := by decide +kernel
theorem dP_pieces_40 : decode cP_pieces 40 = .ok (.athrow, 1) := by decide +kernel
theorem dP_pieces_41 : decode cP_pieces 41 = .ok (.aload_n 0, 1) := by decide +kernel
theorem dP_pieces_42 : decode cP_pieces 42 = .ok (.getfield 12, 3) := by decide +kernel
theorem dP_pieces_45 : decode cP_pieces 45 = .ok (.getfield 78, 3) := by decide +kernel
theorem dP_pieces_48 : decode cP_pieces 48 = .ok (.iload_n 1, 1) := by decide +kernel
theorem dP_pieces_49 : decode cP_pieces 49 = .ok (.iload_n 2, 1) := by decide +kernel
theorem dP_pieces_50 : decode cP_pieces 50 = .ok (.iastore, 1) := by decide +kernel
theorem dP_pieces_51 : decode cP_pieces 51 = .ok (.aload_n 0, 1) := by decide +kernel
theorem dP_pieces_52 : decode cP_pieces 52 = .ok (.invokevirtual 50, 3) := by decide +kernel
theorem dP_pieces_55 : decode cP_pieces 55 = .ok (.return_, 1) := by decide +kernel
theorem dS_has_0 : decode cS_has 0 = .ok (.iload_n 1, 1) := by decide +kernel
theorem dS_has_1 : decode cS_has 1 = .ok (.ifCond .lt 15, 3) := by decide +kernel
theorem dS_has_4 : decode cS_has 4 = .ok (.iload_n 1, 1) := by decide +kernel
theorem dS_has_5 : decode cS_has 5 = .ok (.aload_n 0, 1) := by decide +kernel
theorem dS_has_6 : decode cS_has 6 = .ok (.getfield 25, 3) := by decide +kernel
theorem dS_has_9 : decode cS_has 9 = .ok (.if_icmp .ge 7, 3) := by decide +kernel
theorem dS_has_12 : decode cS_has 12 = .ok (.iconst 1, 1) := by decide +kernel
theorem dS_has_13 : decode cS_has 13 = .ok (.goto 4, 3) := by decide +kernel
theorem dS_has_16 : decode cS_has 16 = .ok (.iconst 0, 1) := by decide +kernel
theorem dS_has_17 : decode cS_has 17 = .ok (.ireturn, 1) := by decide +kernel
theorem dL_price_0 : decode cL_price 0 = .ok (.aload_n 0, 1) := by decide +kernel
theorem dL_price_1 : decode cL_price 1 = .ok (.iload_n 1, 1) := by decide +kernel
theorem dL_price_2 : decode cL_price 2 = .ok (.iload_n 2, 1) := by decide +kernel
theorem dL_price_3 : decode cL_price 3 = .ok (.invokevirtual 27, 3) := by decide +kernel
theorem dL_price_6 : decode cL_price 6 = .ok (.goto 9, 3) := by decide +kernel
theorem dL_price_9 : decode cL_price 9 = .ok (.astore_n 3, 1) := by decide +kernel
theorem dL_price_10 : decode cL_price 10 = .ok (.iconst 1, 1) := by decide +kernel
theorem dL_price_11 : decode cL_price 11 = .ok (.ireturn, 1) := by decide +kernel
theorem dL_price_12 : decode cL_price 12 = .ok (.astore_n 3, 1) := by decide +kernel
theorem dL_price_13 : decode cL_price 13 = .ok (.iconst 2, 1) := by decide +kernel
theorem dL_price_14 : decode cL_price 14 = .ok (.ireturn, 1) := by decide +kernel
theorem dL_price_15 : decode cL_price 15 = .ok (.iconst 0, 1) := by decide +kernel
theorem dL_price_16 : decode cL_price 16 = .ok (.ireturn, 1) := by decide +kernel
theorem dP_price_0 : decode cP_price 0 = .ok (.aload_n 0, 1) := by decide +kernel
theorem dP_price_1 : decode cP_price 1 = .ok (.getfield 12, 3) := by decide +kernel
theorem dP_price_4 : decode cP_price 4 = .ok (.iload_n 1, 1) := by decide +kernel
theorem dP_price_5 : decode cP_price 5 = .ok (.invokevirtual 69, 3) := by decide +kernel
theorem dP_price_8 : decode cP_price 8 = .ok (.ifCond .ne 13, 3) := by decide +kernel
theorem dP_price_11 : decode cP_price 11 = .ok (.new 73, 3) := by decide +kernel
theorem dP_price_14 : decode cP_price 14 = .ok (.dup, 1) := by decide +kernel
theorem dP_price_15 : decode cP_price 15 = .ok (.ldc 75, 2) := by decide +kernel
theorem dP_price_17 : decode cP_price 17 = .ok (.invokespecial 77, 3) := by decide +kernel
theorem dP_price_20 : decode cP_price 20 = .ok (.athrow, 1) := by decide +kernel
theorem dP_price_21 : decode cP_price 21 = .ok (.iload_n 2, 1) := by decide +kernel
theorem dP_price_22 : decode cP_price 22 = .ok (.ifCond .lt 10, 3) := by decide +kernel
theorem dP_price_25 : decode cP_price 25 = .ok (.iload_n 2, 1) := by decide +kernel
theorem dP_price_26 : decode cP_price 26 = .ok (.sipush 1000, 3) := by decide +kernel
theorem dP_price_29 : decode cP_price 29 = .ok (.if_icmp .le 13, 3) := by decide +kernel
theorem dP_price_32 : decode cP_price 32 = .ok (.new 39, 3) := by decide +kernel
theorem dP_price_35 : decode cP_price 35 = .ok (.dup, 1) := by decide +kernel
theorem dP_price_36 : decode cP_price 36 = .ok (.ldc 82, 2) := by decide +kernel
theorem dP_price_38 : decode cP_price 38 = .ok (.invokespecial 43, 3) := by decide +kernel
theorem dP_price_41 : decode cP_price 41 = .ok (.athrow, 1) := by decide +kernel
theorem dP_price_42 : decode cP_price 42 = .ok (.aload_n 0, 1) := by decide +kernel
theorem dP_price_43 : decode cP_price 43 = .ok (.getfield 12, 3) := by decide +kernel
theorem dP_price_46 : decode cP_price 46 = .ok (.getfield 84, 3) := by decide +kernel
theorem dP_price_49 : decode cP_price 49 = .ok (.iload_n 1, 1) := by decide +kernel
theorem dP_price_50 : decode cP_price 50 = .ok (.iload_n 2, 1) := by decide +kernel
theorem dP_price_51 : decode cP_price 51 = .ok (.iastore, 1) := by decide +kernel
theorem dP_price_52 : decode cP_price 52 = .ok (.aload_n 0, 1) := by decide +kernel
theorem dP_price_53 : decode cP_price 53 = .ok (.getfield 21, 3) := by decide +kernel
theorem dP_price_56 : decode cP_price 56 = .ok (.invokevirtual 87, 3) := by decide +kernel
theorem dP_price_59 : decode cP_price 59 = .ok (.return_, 1) := by decide +kernel
theorem dL_columnOf_0 : decode cL_columnOf 0 = .ok (.aload_n 2, 1) := by decide +kernel
theorem dL_columnOf_1 : decode cL_columnOf 1 = .ok (.iconst 0, 1) := by decide +kernel
theorem dL_columnOf_2 : decode cL_columnOf 2 = .ok (.aload_n 0, 1) := by decide +kernel
theorem dL_columnOf_3 : decode cL_columnOf 3 = .ok (.iload_n 1, 1) := by decide +kernel
theorem dL_columnOf_4 : decode cL_columnOf 4 = .ok (.invokevirtual 30, 3) := by decide +kernel
theorem dL_columnOf_7 : decode cL_columnOf 7 = .ok (.i2l, 1) := by decide +kernel
theorem dL_columnOf_8 : decode cL_columnOf 8 = .ok (.lastore, 1) := by decide +kernel
theorem dL_columnOf_9 : decode cL_columnOf 9 = .ok (.goto 6, 3) := by decide +kernel
theorem dL_columnOf_12 : decode cL_columnOf 12 = .ok (.astore_n 3, 1) := by decide +kernel
theorem dL_columnOf_13 : decode cL_columnOf 13 = .ok (.iconst 1, 1) := by decide +kernel
theorem dL_columnOf_14 : decode cL_columnOf 14 = .ok (.ireturn, 1) := by decide +kernel
theorem dL_columnOf_15 : decode cL_columnOf 15 = .ok (.iconst 0, 1) := by decide +kernel
theorem dL_columnOf_16 : decode cL_columnOf 16 = .ok (.ireturn, 1) := by decide +kernel
theorem dP_columnOf_0 : decode cP_columnOf 0 = .ok (.aload_n 0, 1) := by decide +kernel
theorem dP_columnOf_1 : decode cP_columnOf 1 = .ok (.getfield 12, 3) := by decide +kernel
theorem dP_columnOf_4 : decode cP_columnOf 4 = .ok (.iload_n 1, 1) := by decide +kernel
theorem dP_columnOf_5 : decode cP_columnOf 5 = .ok (.invokevirtual 69, 3) := by decide +kernel
theorem dP_columnOf_8 : decode cP_columnOf 8 = .ok (.ifCond .ne 13, 3) := by decide +kernel
theorem dP_columnOf_11 : decode cP_columnOf 11 = .ok (.new 73, 3) := by decide +kernel
theorem dP_columnOf_14 : decode cP_columnOf 14 = .ok (.dup, 1) := by decide +kernel
theorem dP_columnOf_15 : decode cP_columnOf 15 = .ok (.ldc 75, 2) := by decide +kernel
theorem dP_columnOf_17 : decode cP_columnOf 17 = .ok (.invokespecial 77, 3) := by decide +kernel
theorem dP_columnOf_20 : decode cP_columnOf 20 = .ok (.athrow, 1) := by decide +kernel
theorem dP_columnOf_21 : decode cP_columnOf 21 = .ok (.aload_n 0, 1) := by decide +kernel
theorem dP_columnOf_22 : decode cP_columnOf 22 = .ok (.getfield 21, 3) := by decide +kernel
theorem dP_columnOf_25 : decode cP_columnOf 25 = .ok (.iload_n 1, 1) := by decide +kernel
theorem dP_columnOf_26 : decode cP_columnOf 26 = .ok (.invokevirtual 94, 3) := by decide +kernel
theorem dP_columnOf_29 : decode cP_columnOf 29 = .ok (.ireturn, 1) := by decide +kernel
theorem dD_piecesOf_0 : decode cD_piecesOf 0 = .ok (.aload_n 0, 1) := by decide +kernel
theorem dD_piecesOf_1 : decode cD_piecesOf 1 = .ok (.invokevirtual 26, 3) := by decide +kernel
theorem dD_piecesOf_4 : decode cD_piecesOf 4 = .ok (.aload_n 0, 1) := by decide +kernel
theorem dD_piecesOf_5 : decode cD_piecesOf 5 = .ok (.getfield 15, 3) := by decide +kernel
theorem dD_piecesOf_8 : decode cD_piecesOf 8 = .ok (.iload_n 1, 1) := by decide +kernel
theorem dD_piecesOf_9 : decode cD_piecesOf 9 = .ok (.iaload, 1) := by decide +kernel
theorem dD_piecesOf_10 : decode cD_piecesOf 10 = .ok (.ireturn, 1) := by decide +kernel
theorem dL_design_0 : decode cL_design 0 = .ok (.aload_n 2, 1) := by decide +kernel
theorem dL_design_1 : decode cL_design 1 = .ok (.iconst 0, 1) := by decide +kernel
theorem dL_design_2 : decode cL_design 2 = .ok (.aload_n 0, 1) := by decide +kernel
theorem dL_design_3 : decode cL_design 3 = .ok (.iload_n 1, 1) := by decide +kernel
theorem dL_design_4 : decode cL_design 4 = .ok (.invokevirtual 34, 3) := by decide +kernel
theorem dL_design_7 : decode cL_design 7 = .ok (.i2l, 1) := by decide +kernel
theorem dL_design_8 : decode cL_design 8 = .ok (.lastore, 1) := by decide +kernel
theorem dL_design_9 : decode cL_design 9 = .ok (.goto 9, 3) := by decide +kernel
theorem dL_design_12 : decode cL_design 12 = .ok (.astore_n 3, 1) := by decide +kernel
theorem dL_design_13 : decode cL_design 13 = .ok (.iconst 1, 1) := by decide +kernel
theorem dL_design_14 : decode cL_design 14 = .ok (.ireturn, 1) := by decide +kernel
theorem dL_design_15 : decode cL_design 15 = .ok (.astore_n 3, 1) := by decide +kernel
theorem dL_design_16 : decode cL_design 16 = .ok (.iconst 2, 1) := by decide +kernel
theorem dL_design_17 : decode cL_design 17 = .ok (.ireturn, 1) := by decide +kernel
theorem dL_design_18 : decode cL_design 18 = .ok (.iconst 0, 1) := by decide +kernel
theorem dL_design_19 : decode cL_design 19 = .ok (.ireturn, 1) := by decide +kernel
theorem dP_design_0 : decode cP_design 0 = .ok (.iload_n 1, 1) := by decide +kernel
theorem dP_design_1 : decode cP_design 1 = .ok (.ifCond .lt 9, 3) := by decide +kernel
theorem dP_design_4 : decode cP_design 4 = .ok (.iload_n 1, 1) := by decide +kernel
theorem dP_design_5 : decode cP_design 5 = .ok (.ldc 101, 2) := by decide +kernel
theorem dP_design_7 : decode cP_design 7 = .ok (.if_icmp .le 13, 3) := by decide +kernel
theorem dP_design_10 : decode cP_design 10 = .ok (.new 39, 3) := by decide +kernel
theorem dP_design_13 : decode cP_design 13 = .ok (.dup, 1) := by decide +kernel
theorem dP_design_14 : decode cP_design 14 = .ok (.ldc 102, 2) := by decide +kernel
theorem dP_design_16 : decode cP_design 16 = .ok (.invokespecial 43, 3) := by decide +kernel
theorem dP_design_19 : decode cP_design 19 = .ok (.athrow, 1) := by decide +kernel
theorem dP_design_20 : decode cP_design 20 = .ok (.aload_n 0, 1) := by decide +kernel
theorem dP_design_21 : decode cP_design 21 = .ok (.getfield 12, 3) := by decide +kernel
theorem dP_design_24 : decode cP_design 24 = .ok (.invokevirtual 104, 3) := by decide +kernel
theorem dP_design_27 : decode cP_design 27 = .ok (.ifCond .eq 13, 3) := by decide +kernel
theorem dP_design_30 : decode cP_design 30 = .ok (.new 108, 3) := by decide +kernel
theorem dP_design_33 : decode cP_design 33 = .ok (.dup, 1) := by decide +kernel
theorem dP_design_34 : decode cP_design 34 = .ok (.ldc 110, 2) := by decide +kernel
theorem dP_design_36 : decode cP_design 36 = .ok (.invokespecial 112, 3) := by decide +kernel
theorem dP_design_39 : decode cP_design 39 = .ok (.athrow, 1) := by decide +kernel
theorem dP_design_40 : decode cP_design 40 = .ok (.aload_n 0, 1) := by decide +kernel
theorem dP_design_41 : decode cP_design 41 = .ok (.getfield 28, 3) := by decide +kernel
theorem dP_design_44 : decode cP_design 44 = .ok (.iload_n 1, 1) := by decide +kernel
theorem dP_design_45 : decode cP_design 45 = .ok (.invokevirtual 113, 3) := by decide +kernel
theorem dP_design_48 : decode cP_design 48 = .ok (.aload_n 0, 1) := by decide +kernel
theorem dP_design_49 : decode cP_design 49 = .ok (.getfield 28, 3) := by decide +kernel
theorem dP_design_52 : decode cP_design 52 = .ok (.getfield 117, 3) := by decide +kernel
theorem dP_design_55 : decode cP_design 55 = .ok (.ireturn, 1) := by decide +kernel
theorem dS_somePieceIsTooWide_0 : decode cS_somePieceIsTooWide 0 = .ok (.iconst 0, 1) := by decide +kernel
theorem dS_somePieceIsTooWide_1 : decode cS_somePieceIsTooWide 1 = .ok (.istore_n 1, 1) := by decide +kernel
theorem dS_somePieceIsTooWide_2 : decode cS_somePieceIsTooWide 2 = .ok (.iload_n 1, 1) := by decide +kernel
theorem dS_somePieceIsTooWide_3 : decode cS_somePieceIsTooWide 3 = .ok (.aload_n 0, 1) := by decide +kernel
theorem dS_somePieceIsTooWide_4 : decode cS_somePieceIsTooWide 4 = .ok (.getfield 25, 3) := by decide +kernel
theorem dS_somePieceIsTooWide_7 : decode cS_somePieceIsTooWide 7 = .ok (.if_icmp .ge 33, 3) := by decide +kernel
theorem dS_somePieceIsTooWide_10 : decode cS_somePieceIsTooWide 10 = .ok (.aload_n 0, 1) := by decide +kernel
theorem dS_somePieceIsTooWide_11 : decode cS_somePieceIsTooWide 11 = .ok (.getfield 19, 3) := by decide +kernel
theorem dS_somePieceIsTooWide_14 : decode cS_somePieceIsTooWide 14 = .ok (.iload_n 1, 1) := by decide +kernel
theorem dS_somePieceIsTooWide_15 : decode cS_somePieceIsTooWide 15 = .ok (.iaload, 1) := by decide +kernel
theorem dS_somePieceIsTooWide_16 : decode cS_somePieceIsTooWide 16 = .ok (.ifCond .le 18, 3) := by decide +kernel
theorem dS_somePieceIsTooWide_19 : decode cS_somePieceIsTooWide 19 = .ok (.aload_n 0, 1) := by decide +kernel
theorem dS_somePieceIsTooWide_20 : decode cS_somePieceIsTooWide 20 = .ok (.getfield 15, 3) := by decide +kernel
theorem dS_somePieceIsTooWide_23 : decode cS_somePieceIsTooWide 23 = .ok (.iload_n 1, 1) := by decide +kernel
theorem dS_somePieceIsTooWide_24 : decode cS_somePieceIsTooWide 24 = .ok (.iaload, 1) := by decide +kernel
theorem dS_somePieceIsTooWide_25 : decode cS_somePieceIsTooWide 25 = .ok (.aload_n 0, 1) := by decide +kernel
theorem dS_somePieceIsTooWide_26 : decode cS_somePieceIsTooWide 26 = .ok (.getfield 9, 3) := by decide +kernel
theorem dS_somePieceIsTooWide_29 : decode cS_somePieceIsTooWide 29 = .ok (.if_icmp .le 5, 3) := by decide +kernel
theorem dS_somePieceIsTooWide_32 : decode cS_somePieceIsTooWide 32 = .ok (.iconst 1, 1) := by decide +kernel
theorem dS_somePieceIsTooWide_33 : decode cS_somePieceIsTooWide 33 = .ok (.ireturn, 1) := by decide +kernel
theorem dS_somePieceIsTooWide_34 : decode cS_somePieceIsTooWide 34 = .ok (.iinc 1 1, 3) := by decide +kernel
theorem dS_somePieceIsTooWide_37 : decode cS_somePieceIsTooWide 37 = .ok (.goto (-35), 3) := by decide +kernel
theorem dS_somePieceIsTooWide_40 : decode cS_somePieceIsTooWide 40 = .ok (.iconst 0, 1) := by decide +kernel
theorem dS_somePieceIsTooWide_41 : decode cS_somePieceIsTooWide 41 = .ok (.ireturn, 1) := by decide +kernel
theorem dG_run_0 : decode cG_run 0 = .ok (.aload_n 0, 1) := by decide +kernel
theorem dG_run_1 : decode cG_run 1 = .ok (.invokevirtual 41, 3) := by decide +kernel
theorem dG_run_4 : decode cG_run 4 = .ok (.aload_n 0, 1) := by decide +kernel
theorem dG_run_5 : decode cG_run 5 = .ok (.iconst 1, 1) := by decide +kernel
theorem dG_run_6 : decode cG_run 6 = .ok (.putfield 31, 3) := by decide +kernel
theorem dG_run_9 : decode cG_run 9 = .ok (.aload_n 0, 1) := by decide +kernel
theorem dG_run_10 : decode cG_run 10 = .ok (.getfield 9, 3) := by decide +kernel
theorem dG_run_13 : decode cG_run 13 = .ok (.getfield 44, 3) := by decide +kernel
theorem dG_run_16 : decode cG_run 16 = .ok (.iconst 0, 1) := by decide +kernel
theorem dG_run_17 : decode cG_run 17 = .ok (.aload_n 0, 1) := by decide +kernel
theorem dG_run_18 : decode cG_run 18 = .ok (.getfield 15, 3) := by decide +kernel
theorem dG_run_21 : decode cG_run 21 = .ok (.iconst 0, 1) := by decide +kernel
theorem dG_run_22 : decode cG_run 22 = .ok (.iconst 5, 1) := by decide +kernel
theorem dG_run_23 : decode cG_run 23 = .ok (.invokestatic 49, 3) := by decide +kernel
theorem dG_run_26 : decode cG_run 26 = .ok (.aload_n 0, 1) := by decide +kernel
theorem dG_run_27 : decode cG_run 27 = .ok (.aload_n 0, 1) := by decide +kernel
theorem dG_run_28 : decode cG_run 28 = .ok (.getfield 9, 3) := by decide +kernel
theorem dG_run_31 : decode cG_run 31 = .ok (.invokevirtual 55, 3) := by decide +kernel
theorem dG_run_34 : decode cG_run 34 = .ok (.putfield 59, 3) := by decide +kernel
theorem dG_run_37 : decode cG_run 37 = .ok (.iconst 0, 1) := by decide +kernel
theorem dG_run_38 : decode cG_run 38 = .ok (.istore_n 2, 1) := by decide +kernel
theorem dG_run_39 : decode cG_run 39 = .ok (.aload_n 0, 1) := by decide +kernel
theorem dG_run_40 : decode cG_run 40 = .ok (.iload_n 2, 1) := by decide +kernel
theorem dG_run_41 : decode cG_run 41 = .ok (.invokevirtual 62, 3) := by decide +kernel
theorem dG_run_44 : decode cG_run 44 = .ok (.istore_n 3, 1) := by decide +kernel
theorem dG_run_45 : decode cG_run 45 = .ok (.iconst 0, 1) := by decide +kernel
theorem dG_run_46 : decode cG_run 46 = .ok (.istore 4, 2) := by decide +kernel
theorem dG_run_48 : decode cG_run 48 = .ok (.iload 4, 2) := by decide +kernel
theorem dG_run_50 : decode cG_run 50 = .ok (.ldc 66, 2) := by decide +kernel
theorem dG_run_52 : decode cG_run 52 = .ok (.if_icmp .ge 88, 3) := by decide +kernel
theorem dG_run_55 : decode cG_run 55 = .ok (.iload_n 3, 1) := by decide +kernel
theorem dG_run_56 : decode cG_run 56 = .ok (.ifCond .eq 49, 3) := by decide +kernel
theorem dG_run_59 : decode cG_run 59 = .ok (.aload_n 0, 1) := by decide +kernel
theorem dG_run_60 : decode cG_run 60 = .ok (.getfield 38, 3) := by decide +kernel
theorem dG_run_63 : decode cG_run 63 = .ok (.iload_n 1, 1) := by decide +kernel
theorem dG_run_64 : decode cG_run 64 = .ok (.if_icmp .lt 9, 3) := by decide +kernel
theorem dG_run_67 : decode cG_run 67 = .ok (.aload_n 0, 1) := by decide +kernel
theorem dG_run_68 : decode cG_run 68 = .ok (.iconst 1, 1) := by decide +kernel
theorem dG_run_69 : decode cG_run 69 = .ok (.putfield 35, 3) := by decide +kernel
theorem dG_run_72 : decode cG_run 72 = .ok (.return_, 1) := by decide +kernel
theorem dG_run_73 : decode cG_run 73 = .ok (.aload_n 0, 1) := by decide +kernel
theorem dG_run_74 : decode cG_run 74 = .ok (.dup, 1) := by decide +kernel
theorem dG_run_75 : decode cG_run 75 = .ok (.getfield 38, 3) := by decide +kernel
theorem dG_run_78 : decode cG_run 78 = .ok (.iconst 1, 1) := by decide +kernel
theorem dG_run_79 : decode cG_run 79 = .ok (.iadd, 1) := by decide +kernel
theorem dG_run_80 : decode cG_run 80 = .ok (.putfield 38, 3) := by decide +kernel
theorem dG_run_83 : decode cG_run 83 = .ok (.aload_n 0, 1) := by decide +kernel
theorem dG_run_84 : decode cG_run 84 = .ok (.aload_n 0, 1) := by decide +kernel
theorem dG_run_85 : decode cG_run 85 = .ok (.getfield 21, 3) := by decide +kernel
theorem dG_run_88 : decode cG_run 88 = .ok (.iload_n 2, 1) := by decide +kernel
theorem dG_run_89 : decode cG_run 89 = .ok (.aaload, 1) := by decide +kernel
theorem dG_run_90 : decode cG_run 90 = .ok (.invokevirtual 67, 3) := by decide +kernel
theorem dG_run_93 : decode cG_run 93 = .ok (.iinc 2 1, 3) := by decide +kernel
theorem dG_run_96 : decode cG_run 96 = .ok (.aload_n 0, 1) := by decide +kernel
theorem dG_run_97 : decode cG_run 97 = .ok (.iload_n 2, 1) := by decide +kernel
theorem dG_run_98 : decode cG_run 98 = .ok (.invokevirtual 62, 3) := by decide +kernel
theorem dG_run_101 : decode cG_run 101 = .ok (.istore_n 3, 1) := by decide +kernel
theorem dG_run_102 : decode cG_run 102 = .ok (.goto 32, 3) := by decide +kernel
theorem dG_run_105 : decode cG_run 105 = .ok (.iload_n 2, 1) := by decide +kernel
theorem dG_run_106 : decode cG_run 106 = .ok (.ifCond .gt 4, 3) := by decide +kernel
theorem dG_run_109 : decode cG_run 109 = .ok (.return_, 1) := by decide +kernel
theorem dG_run_110 : decode cG_run 110 = .ok (.iinc 2 (-1), 3) := by decide +kernel
theorem dG_run_113 : decode cG_run 113 = .ok (.aload_n 0, 1) := by decide +kernel
theorem dG_run_114 : decode cG_run 114 = .ok (.aload_n 0, 1) := by decide +kernel
theorem dG_run_115 : decode cG_run 115 = .ok (.getfield 21, 3) := by decide +kernel
theorem dG_run_118 : decode cG_run 118 = .ok (.iload_n 2, 1) := by decide +kernel
theorem dG_run_119 : decode cG_run 119 = .ok (.aaload, 1) := by decide +kernel
theorem dG_run_120 : decode cG_run 120 = .ok (.invokevirtual 71, 3) := by decide +kernel
theorem dG_run_123 : decode cG_run 123 = .ok (.aload_n 0, 1) := by decide +kernel
theorem dG_run_124 : decode cG_run 124 = .ok (.aload_n 0, 1) := by decide +kernel
theorem dG_run_125 : decode cG_run 125 = .ok (.getfield 21, 3) := by decide +kernel
theorem dG_run_128 : decode cG_run 128 = .ok (.iload_n 2, 1) := by decide +kernel
theorem dG_run_129 : decode cG_run 129 = .ok (.aaload, 1) := by decide +kernel
theorem dG_run_130 : decode cG_run 130 = .ok (.invokevirtual 74, 3) := by decide +kernel
theorem dG_run_133 : decode cG_run 133 = .ok (.istore_n 3, 1) := by decide +kernel
theorem dG_run_134 : decode cG_run 134 = .ok (.iinc 4 1, 3) := by decide +kernel
theorem dG_run_137 : decode cG_run 137 = .ok (.goto (-89), 3) := by decide +kernel
theorem dG_run_140 : decode cG_run 140 = .ok (.return_, 1) := by decide +kernel
theorem dS_widthOfAll_0 : decode cS_widthOfAll 0 = .ok (.aload_n 0, 1) := by decide +kernel
theorem dS_widthOfAll_1 : decode cS_widthOfAll 1 = .ok (.aload_n 0, 1) := by decide +kernel
theorem dS_widthOfAll_2 : decode cS_widthOfAll 2 = .ok (.getfield 19, 3) := by decide +kernel
theorem dS_widthOfAll_5 : decode cS_widthOfAll 5 = .ok (.aload_n 0, 1) := by decide +kernel
theorem dS_widthOfAll_6 : decode cS_widthOfAll 6 = .ok (.getfield 25, 3) := by decide +kernel
theorem dS_widthOfAll_9 : decode cS_widthOfAll 9 = .ok (.invokevirtual 28, 3) := by decide +kernel
theorem dS_widthOfAll_12 : decode cS_widthOfAll 12 = .ok (.ireturn, 1) := by decide +kernel
theorem dG_opens_0 : decode cG_opens 0 = .ok (.aload_n 0, 1) := by decide +kernel
theorem dG_opens_1 : decode cG_opens 1 = .ok (.getfield 27, 3) := by decide +kernel
theorem dG_opens_4 : decode cG_opens 4 = .ok (.iconst (-1), 1) := by decide +kernel
theorem dG_opens_5 : decode cG_opens 5 = .ok (.if_icmp .eq 25, 3) := by decide +kernel
theorem dG_opens_8 : decode cG_opens 8 = .ok (.iload_n 1, 1) := by decide +kernel
theorem dG_opens_9 : decode cG_opens 9 = .ok (.aload_n 0, 1) := by decide +kernel
theorem dG_opens_10 : decode cG_opens 10 = .ok (.getfield 9, 3) := by decide +kernel
theorem dG_opens_13 : decode cG_opens 13 = .ok (.aload_n 0, 1) := by decide +kernel
theorem dG_opens_14 : decode cG_opens 14 = .ok (.getfield 59, 3) := by decide +kernel
theorem dG_opens_17 : decode cG_opens 17 = .ok (.invokevirtual 78, 3) := by decide +kernel
theorem dG_opens_20 : decode cG_opens 20 = .ok (.iadd, 1) := by decide +kernel
theorem dG_opens_21 : decode cG_opens 21 = .ok (.aload_n 0, 1) := by decide +kernel
theorem dG_opens_22 : decode cG_opens 22 = .ok (.getfield 27, 3) := by decide +kernel
theorem dG_opens_25 : decode cG_opens 25 = .ok (.if_icmp .lt 5, 3) := by decide +kernel
theorem dG_opens_28 : decode cG_opens 28 = .ok (.iconst 0, 1) := by decide +kernel
theorem dG_opens_29 : decode cG_opens 29 = .ok (.ireturn, 1) := by decide +kernel
theorem dG_opens_30 : decode cG_opens 30 = .ok (.aload_n 0, 1) := by decide +kernel
theorem dG_opens_31 : decode cG_opens 31 = .ok (.getfield 59, 3) := by decide +kernel
theorem dG_opens_34 : decode cG_opens 34 = .ok (.ifCond .ne 10, 3) := by decide +kernel
theorem dG_opens_37 : decode cG_opens 37 = .ok (.aload_n 0, 1) := by decide +kernel
theorem dG_opens_38 : decode cG_opens 38 = .ok (.iload_n 1, 1) := by decide +kernel
theorem dG_opens_39 : decode cG_opens 39 = .ok (.invokevirtual 82, 3) := by decide +kernel
theorem dG_opens_42 : decode cG_opens 42 = .ok (.iconst 0, 1) := by decide +kernel
theorem dG_opens_43 : decode cG_opens 43 = .ok (.ireturn, 1) := by decide +kernel
theorem dG_opens_44 : decode cG_opens 44 = .ok (.iload_n 1, 1) := by decide +kernel
theorem dG_opens_45 : decode cG_opens 45 = .ok (.bipush 30, 2) := by decide +kernel
theorem dG_opens_47 : decode cG_opens 47 = .ok (.if_icmp .lt 5, 3) := by decide +kernel
theorem dG_opens_50 : decode cG_opens 50 = .ok (.iconst 0, 1) := by decide +kernel
theorem dG_opens_51 : decode cG_opens 51 = .ok (.ireturn, 1) := by decide +kernel
theorem dG_opens_52 : decode cG_opens 52 = .ok (.aload_n 0, 1) := by decide +kernel
theorem dG_opens_53 : decode cG_opens 53 = .ok (.getfield 9, 3) := by decide +kernel
theorem dG_opens_56 : decode cG_opens 56 = .ok (.aload_n 0, 1) := by decide +kernel
theorem dG_opens_57 : decode cG_opens 57 = .ok (.getfield 21, 3) := by decide +kernel
theorem dG_opens_60 : decode cG_opens 60 = .ok (.iload_n 1, 1) := by decide +kernel
theorem dG_opens_61 : decode cG_opens 61 = .ok (.aaload, 1) := by decide +kernel
theorem dG_opens_62 : decode cG_opens 62 = .ok (.aload_n 0, 1) := by decide +kernel
theorem dG_opens_63 : decode cG_opens 63 = .ok (.getfield 15, 3) := by decide +kernel
theorem dG_opens_66 : decode cG_opens 66 = .ok (.invokevirtual 86, 3) := by decide +kernel
theorem dG_opens_69 : decode cG_opens 69 = .ok (.iconst 1, 1) := by decide +kernel
theorem dG_opens_70 : decode cG_opens 70 = .ok (.ireturn, 1) := by decide +kernel
theorem dS_sheetsFor_0 : decode cS_sheetsFor 0 = .ok (.iload_n 1, 1) := by decide +kernel
theorem dS_sheetsFor_1 : decode cS_sheetsFor 1 = .ok (.aload_n 0, 1) := by decide +kernel
theorem dS_sheetsFor_2 : decode cS_sheetsFor 2 = .ok (.getfield 9, 3) := by decide +kernel
theorem dS_sheetsFor_5 : decode cS_sheetsFor 5 = .ok (.invokestatic 36, 3) := by decide +kernel
theorem dS_sheetsFor_8 : decode cS_sheetsFor 8 = .ok (.ireturn, 1) := by decide +kernel
theorem dG_takeAsBest_0 : decode cG_takeAsBest 0 = .ok (.iconst 0, 1) := by decide +kernel
theorem dG_takeAsBest_1 : decode cG_takeAsBest 1 = .ok (.istore_n 2, 1) := by decide +kernel
theorem dG_takeAsBest_2 : decode cG_takeAsBest 2 = .ok (.iload_n 2, 1) := by decide +kernel
theorem dG_takeAsBest_3 : decode cG_takeAsBest 3 = .ok (.iload_n 1, 1) := by decide +kernel
theorem dG_takeAsBest_4 : decode cG_takeAsBest 4 = .ok (.if_icmp .ge 33, 3) := by decide +kernel
theorem dG_takeAsBest_7 : decode cG_takeAsBest 7 = .ok (.iload_n 2, 1) := by decide +kernel
theorem dG_takeAsBest_8 : decode cG_takeAsBest 8 = .ok (.bipush 30, 2) := by decide +kernel
theorem dG_takeAsBest_10 : decode cG_takeAsBest 10 = .ok (.if_icmp .ge 27, 3) := by decide +kernel
theorem dG_takeAsBest_13 : decode cG_takeAsBest 13 = .ok (.aload_n 0, 1) := by decide +kernel
theorem dG_takeAsBest_14 : decode cG_takeAsBest 14 = .ok (.getfield 21, 3) := by decide +kernel
theorem dG_takeAsBest_17 : decode cG_takeAsBest 17 = .ok (.iload_n 2, 1) := by decide +kernel
theorem dG_takeAsBest_18 : decode cG_takeAsBest 18 = .ok (.aaload, 1) := by decide +kernel
theorem dG_takeAsBest_19 : decode cG_takeAsBest 19 = .ok (.iconst 0, 1) := by decide +kernel
theorem dG_takeAsBest_20 : decode cG_takeAsBest 20 = .ok (.aload_n 0, 1) := by decide +kernel
theorem dG_takeAsBest_21 : decode cG_takeAsBest 21 = .ok (.getfield 24, 3) := by decide +kernel
theorem dG_takeAsBest_24 : decode cG_takeAsBest 24 = .ok (.iload_n 2, 1) := by decide +kernel
theorem dG_takeAsBest_25 : decode cG_takeAsBest 25 = .ok (.aaload, 1) := by decide +kernel
theorem dG_takeAsBest_26 : decode cG_takeAsBest 26 = .ok (.iconst 0, 1) := by decide +kernel
theorem dG_takeAsBest_27 : decode cG_takeAsBest 27 = .ok (.iconst 5, 1) := by decide +kernel
theorem dG_takeAsBest_28 : decode cG_takeAsBest 28 = .ok (.invokestatic 49, 3) := by decide +kernel
theorem dG_takeAsBest_31 : decode cG_takeAsBest 31 = .ok (.iinc 2 1, 3) := by decide +kernel
theorem dG_takeAsBest_34 : decode cG_takeAsBest 34 = .ok (.goto (-32), 3) := by decide +kernel
theorem dG_takeAsBest_37 : decode cG_takeAsBest 37 = .ok (.aload_n 0, 1) := by decide +kernel
theorem dG_takeAsBest_38 : decode cG_takeAsBest 38 = .ok (.iload_n 1, 1) := by decide +kernel
theorem dG_takeAsBest_39 : decode cG_takeAsBest 39 = .ok (.putfield 27, 3) := by decide +kernel
theorem dG_takeAsBest_42 : decode cG_takeAsBest 42 = .ok (.return_, 1) := by decide +kernel
theorem dG_lay_0 : decode cG_lay 0 = .ok (.iconst 0, 1) := by decide +kernel
theorem dG_lay_1 : decode cG_lay 1 = .ok (.istore_n 2, 1) := by decide +kernel
theorem dG_lay_2 : decode cG_lay 2 = .ok (.iload_n 2, 1) := by decide +kernel
theorem dG_lay_3 : decode cG_lay 3 = .ok (.aload_n 0, 1) := by decide +kernel
theorem dG_lay_4 : decode cG_lay 4 = .ok (.getfield 9, 3) := by decide +kernel
theorem dG_lay_7 : decode cG_lay 7 = .ok (.getfield 90, 3) := by decide +kernel
theorem dG_lay_10 : decode cG_lay 10 = .ok (.if_icmp .ge 21, 3) := by decide +kernel
theorem dG_lay_13 : decode cG_lay 13 = .ok (.aload_n 0, 1) := by decide +kernel
theorem dG_lay_14 : decode cG_lay 14 = .ok (.getfield 15, 3) := by decide +kernel
theorem dG_lay_17 : decode cG_lay 17 = .ok (.iload_n 2, 1) := by decide +kernel
theorem dG_lay_18 : decode cG_lay 18 = .ok (.dup2, 1) := by decide +kernel
theorem dG_lay_19 : decode cG_lay 19 = .ok (.iaload, 1) := by decide +kernel
theorem dG_lay_20 : decode cG_lay 20 = .ok (.aload_n 1, 1) := by decide +kernel
theorem dG_lay_21 : decode cG_lay 21 = .ok (.iload_n 2, 1) := by decide +kernel
theorem dG_lay_22 : decode cG_lay 22 = .ok (.iaload, 1) := by decide +kernel
theorem dG_lay_23 : decode cG_lay 23 = .ok (.isub, 1) := by decide +kernel
theorem dG_lay_24 : decode cG_lay 24 = .ok (.iastore, 1) := by decide +kernel
theorem dG_lay_25 : decode cG_lay 25 = .ok (.iinc 2 1, 3) := by decide +kernel
theorem dG_lay_28 : decode cG_lay 28 = .ok (.goto (-26), 3) := by decide +kernel
theorem dG_lay_31 : decode cG_lay 31 = .ok (.aload_n 0, 1) := by decide +kernel
theorem dG_lay_32 : decode cG_lay 32 = .ok (.dup, 1) := by decide +kernel
theorem dG_lay_33 : decode cG_lay 33 = .ok (.getfield 59, 3) := by decide +kernel
theorem dG_lay_36 : decode cG_lay 36 = .ok (.aload_n 0, 1) := by decide +kernel
theorem dG_lay_37 : decode cG_lay 37 = .ok (.getfield 9, 3) := by decide +kernel
theorem dG_lay_40 : decode cG_lay 40 = .ok (.aload_n 1, 1) := by decide +kernel
theorem dG_lay_41 : decode cG_lay 41 = .ok (.invokevirtual 100, 3) := by decide +kernel
theorem dG_lay_44 : decode cG_lay 44 = .ok (.isub, 1) := by decide +kernel
theorem dG_lay_45 : decode cG_lay 45 = .ok (.putfield 59, 3) := by decide +kernel
theorem dG_lay_48 : decode cG_lay 48 = .ok (.return_, 1) := by decide +kernel
theorem dS_widthOf_0 : decode cS_widthOf 0 = .ok (.aload_n 0, 1) := by decide +kernel
theorem dS_widthOf_1 : decode cS_widthOf 1 = .ok (.aload_n 1, 1) := by decide +kernel
theorem dS_widthOf_2 : decode cS_widthOf 2 = .ok (.aload_n 0, 1) := by decide +kernel
theorem dS_widthOf_3 : decode cS_widthOf 3 = .ok (.getfield 25, 3) := by decide +kernel
theorem dS_widthOf_6 : decode cS_widthOf 6 = .ok (.invokevirtual 28, 3) := by decide +kernel
theorem dS_widthOf_9 : decode cS_widthOf 9 = .ok (.ireturn, 1) := by decide +kernel
end
section
theorem dG_takeBack_0 : decode cG_takeBack 0 = .ok (.iconst 0, 1) := by decide +kernel
theorem dG_takeBack_1 : decode cG_takeBack 1 = .ok (.istore_n 2, 1) := by decide +kernel
theorem dG_takeBack_2 : decode cG_takeBack 2 = .ok (.iload_n 2, 1) := by decide +kernel
theorem dG_takeBack_3 : decode cG_takeBack 3 = .ok (.aload_n 0, 1) := by decide +kernel
theorem dG_takeBack_4 : decode cG_takeBack 4 = .ok (.getfield 9, 3) := by decide +kernel
theorem dG_takeBack_7 : decode cG_takeBack 7 = .ok (.getfield 90, 3) := by decide +kernel
theorem dG_takeBack_10 : decode cG_takeBack 10 = .ok (.if_icmp .ge 21, 3) := by decide +kernel
theorem dG_takeBack_13 : decode cG_takeBack 13 = .ok (.aload_n 0, 1) := by decide +kernel
theorem dG_takeBack_14 : decode cG_takeBack 14 = .ok (.getfield 15, 3) := by decide +kernel
theorem dG_takeBack_17 : decode cG_takeBack 17 = .ok (.iload_n 2, 1) := by decide +kernel
theorem dG_takeBack_18 : decode cG_takeBack 18 = .ok (.dup2, 1) := by decide +kernel
theorem dG_takeBack_19 : decode cG_takeBack 19 = .ok (.iaload, 1) := by decide +kernel
theorem dG_takeBack_20 : decode cG_takeBack 20 = .ok (.aload_n 1, 1) := by decide +kernel
theorem dG_takeBack_21 : decode cG_takeBack 21 = .ok (.iload_n 2, 1) := by decide +kernel
theorem dG_takeBack_22 : decode cG_takeBack 22 = .ok (.iaload, 1) := by decide +kernel
theorem dG_takeBack_23 : decode cG_takeBack 23 = .ok (.iadd, 1) := by decide +kernel
theorem dG_takeBack_24 : decode cG_takeBack 24 = .ok (.iastore, 1) := by decide +kernel
theorem dG_takeBack_25 : decode cG_takeBack 25 = .ok (.iinc 2 1, 3) := by decide +kernel
theorem dG_takeBack_28 : decode cG_takeBack 28 = .ok (.goto (-26), 3) := by decide +kernel
theorem dG_takeBack_31 : decode cG_takeBack 31 = .ok (.aload_n 0, 1) := by decide +kernel
theorem dG_takeBack_32 : decode cG_takeBack 32 = .ok (.dup, 1) := by decide +kernel
theorem dG_takeBack_33 : decode cG_takeBack 33 = .ok (.getfield 59, 3) := by decide +kernel
theorem dG_takeBack_36 : decode cG_takeBack 36 = .ok (.aload_n 0, 1) := by decide +kernel
theorem dG_takeBack_37 : decode cG_takeBack 37 = .ok (.getfield 9, 3) := by decide +kernel
theorem dG_takeBack_40 : decode cG_takeBack 40 = .ok (.aload_n 1, 1) := by decide +kernel
theorem dG_takeBack_41 : decode cG_takeBack 41 = .ok (.invokevirtual 100, 3) := by decide +kernel
theorem dG_takeBack_44 : decode cG_takeBack 44 = .ok (.iadd, 1) := by decide +kernel
theorem dG_takeBack_45 : decode cG_takeBack 45 = .ok (.putfield 59, 3) := by decide +kernel
theorem dG_takeBack_48 : decode cG_takeBack 48 = .ok (.return_, 1) := by decide +kernel
theorem dG_goesOn_0 : decode cG_goesOn 0 = .ok (.aload_n 0, 1) := by decide +kernel
theorem dG_goesOn_1 : decode cG_goesOn 1 = .ok (.getfield 9, 3) := by decide +kernel
theorem dG_goesOn_4 : decode cG_goesOn 4 = .ok (.aload_n 1, 1) := by decide +kernel
theorem dG_goesOn_5 : decode cG_goesOn 5 = .ok (.aload_n 0, 1) := by decide +kernel
theorem dG_goesOn_6 : decode cG_goesOn 6 = .ok (.getfield 15, 3) := by decide +kernel
theorem dG_goesOn_9 : decode cG_goesOn 9 = .ok (.aload_n 0, 1) := by decide +kernel
theorem dG_goesOn_10 : decode cG_goesOn 10 = .ok (.getfield 9, 3) := by decide +kernel
theorem dG_goesOn_13 : decode cG_goesOn 13 = .ok (.getfield 90, 3) := by decide +kernel
theorem dG_goesOn_16 : decode cG_goesOn 16 = .ok (.iconst 1, 1) := by decide +kernel
theorem dG_goesOn_17 : decode cG_goesOn 17 = .ok (.isub, 1) := by decide +kernel
theorem dG_goesOn_18 : decode cG_goesOn 18 = .ok (.aload_n 0, 1) := by decide +kernel
theorem dG_goesOn_19 : decode cG_goesOn 19 = .ok (.invokevirtual 93, 3) := by decide +kernel
theorem dG_goesOn_22 : decode cG_goesOn 22 = .ok (.invokevirtual 96, 3) := by decide +kernel
theorem dG_goesOn_25 : decode cG_goesOn 25 = .ok (.ireturn, 1) := by decide +kernel
theorem dG_lowestLeft_0 : decode cG_lowestLeft 0 = .ok (.iconst 0, 1) := by decide +kernel
theorem dG_lowestLeft_1 : decode cG_lowestLeft 1 = .ok (.istore_n 1, 1) := by decide +kernel
theorem dG_lowestLeft_2 : decode cG_lowestLeft 2 = .ok (.iload_n 1, 1) := by decide +kernel
theorem dG_lowestLeft_3 : decode cG_lowestLeft 3 = .ok (.aload_n 0, 1) := by decide +kernel
theorem dG_lowestLeft_4 : decode cG_lowestLeft 4 = .ok (.getfield 9, 3) := by decide +kernel
theorem dG_lowestLeft_7 : decode cG_lowestLeft 7 = .ok (.getfield 90, 3) := by decide +kernel
theorem dG_lowestLeft_10 : decode cG_lowestLeft 10 = .ok (.if_icmp .ge 20, 3) := by decide +kernel
theorem dG_lowestLeft_13 : decode cG_lowestLeft 13 = .ok (.aload_n 0, 1) := by decide +kernel
theorem dG_lowestLeft_14 : decode cG_lowestLeft 14 = .ok (.getfield 15, 3) := by decide +kernel
theorem dG_lowestLeft_17 : decode cG_lowestLeft 17 = .ok (.iload_n 1, 1) := by decide +kernel
theorem dG_lowestLeft_18 : decode cG_lowestLeft 18 = .ok (.iaload, 1) := by decide +kernel
theorem dG_lowestLeft_19 : decode cG_lowestLeft 19 = .ok (.ifCond .le 5, 3) := by decide +kernel
theorem dG_lowestLeft_22 : decode cG_lowestLeft 22 = .ok (.iload_n 1, 1) := by decide +kernel
theorem dG_lowestLeft_23 : decode cG_lowestLeft 23 = .ok (.ireturn, 1) := by decide +kernel
theorem dG_lowestLeft_24 : decode cG_lowestLeft 24 = .ok (.iinc 1 1, 3) := by decide +kernel
theorem dG_lowestLeft_27 : decode cG_lowestLeft 27 = .ok (.goto (-25), 3) := by decide +kernel
theorem dG_lowestLeft_30 : decode cG_lowestLeft 30 = .ok (.iconst (-1), 1) := by decide +kernel
theorem dG_lowestLeft_31 : decode cG_lowestLeft 31 = .ok (.ireturn, 1) := by decide +kernel
theorem dL_designed_0 : decode cL_designed 0 = .ok (.aload_n 2, 1) := by decide +kernel
theorem dL_designed_1 : decode cL_designed 1 = .ok (.iconst 0, 1) := by decide +kernel
theorem dL_designed_2 : decode cL_designed 2 = .ok (.aload_n 0, 1) := by decide +kernel
theorem dL_designed_3 : decode cL_designed 3 = .ok (.iload_n 1, 1) := by decide +kernel
theorem dL_designed_4 : decode cL_designed 4 = .ok (.invokevirtual 39, 3) := by decide +kernel
theorem dL_designed_7 : decode cL_designed 7 = .ok (.i2l, 1) := by decide +kernel
theorem dL_designed_8 : decode cL_designed 8 = .ok (.lastore, 1) := by decide +kernel
theorem dL_designed_9 : decode cL_designed 9 = .ok (.goto 9, 3) := by decide +kernel
theorem dL_designed_12 : decode cL_designed 12 = .ok (.astore_n 3, 1) := by decide +kernel
theorem dL_designed_13 : decode cL_designed 13 = .ok (.iconst 1, 1) := by decide +kernel
theorem dL_designed_14 : decode cL_designed 14 = .ok (.ireturn, 1) := by decide +kernel
theorem dL_designed_15 : decode cL_designed 15 = .ok (.astore_n 3, 1) := by decide +kernel
theorem dL_designed_16 : decode cL_designed 16 = .ok (.iconst 2, 1) := by decide +kernel
theorem dL_designed_17 : decode cL_designed 17 = .ok (.ireturn, 1) := by decide +kernel
theorem dL_designed_18 : decode cL_designed 18 = .ok (.iconst 0, 1) := by decide +kernel
theorem dL_designed_19 : decode cL_designed 19 = .ok (.ireturn, 1) := by decide +kernel
theorem dP_designed_0 : decode cP_designed 0 = .ok (.iload_n 1, 1) := by decide +kernel
theorem dP_designed_1 : decode cP_designed 1 = .ok (.ifCond .lt 8, 3) := by decide +kernel
theorem dP_designed_4 : decode cP_designed 4 = .ok (.iload_n 1, 1) := by decide +kernel
theorem dP_designed_5 : decode cP_designed 5 = .ok (.iconst 1, 1) := by decide +kernel
theorem dP_designed_6 : decode cP_designed 6 = .ok (.if_icmp .le 13, 3) := by decide +kernel
theorem dP_designed_9 : decode cP_designed 9 = .ok (.new 73, 3) := by decide +kernel
theorem dP_designed_12 : decode cP_designed 12 = .ok (.dup, 1) := by decide +kernel
theorem dP_designed_13 : decode cP_designed 13 = .ok (.ldc 120, 2) := by decide +kernel
theorem dP_designed_15 : decode cP_designed 15 = .ok (.invokespecial 77, 3) := by decide +kernel
theorem dP_designed_18 : decode cP_designed 18 = .ok (.athrow, 1) := by decide +kernel
theorem dP_designed_19 : decode cP_designed 19 = .ok (.aload_n 0, 1) := by decide +kernel
theorem dP_designed_20 : decode cP_designed 20 = .ok (.getfield 28, 3) := by decide +kernel
theorem dP_designed_23 : decode cP_designed 23 = .ok (.getfield 122, 3) := by decide +kernel
theorem dP_designed_26 : decode cP_designed 26 = .ok (.ifCond .ne 13, 3) := by decide +kernel
theorem dP_designed_29 : decode cP_designed 29 = .ok (.new 56, 3) := by decide +kernel
theorem dP_designed_32 : decode cP_designed 32 = .ok (.dup, 1) := by decide +kernel
theorem dP_designed_33 : decode cP_designed 33 = .ok (.ldc 126, 2) := by decide +kernel
theorem dP_designed_35 : decode cP_designed 35 = .ok (.invokespecial 60, 3) := by decide +kernel
theorem dP_designed_38 : decode cP_designed 38 = .ok (.athrow, 1) := by decide +kernel
theorem dP_designed_39 : decode cP_designed 39 = .ok (.iload_n 1, 1) := by decide +kernel
theorem dP_designed_40 : decode cP_designed 40 = .ok (.ifCond .ne 19, 3) := by decide +kernel
theorem dP_designed_43 : decode cP_designed 43 = .ok (.aload_n 0, 1) := by decide +kernel
theorem dP_designed_44 : decode cP_designed 44 = .ok (.getfield 28, 3) := by decide +kernel
theorem dP_designed_47 : decode cP_designed 47 = .ok (.getfield 128, 3) := by decide +kernel
theorem dP_designed_50 : decode cP_designed 50 = .ok (.ifCond .eq 7, 3) := by decide +kernel
theorem dP_designed_53 : decode cP_designed 53 = .ok (.iconst 1, 1) := by decide +kernel
theorem dP_designed_54 : decode cP_designed 54 = .ok (.goto 4, 3) := by decide +kernel
theorem dP_designed_57 : decode cP_designed 57 = .ok (.iconst 0, 1) := by decide +kernel
theorem dP_designed_58 : decode cP_designed 58 = .ok (.ireturn, 1) := by decide +kernel
theorem dP_designed_59 : decode cP_designed 59 = .ok (.aload_n 0, 1) := by decide +kernel
theorem dP_designed_60 : decode cP_designed 60 = .ok (.getfield 28, 3) := by decide +kernel
theorem dP_designed_63 : decode cP_designed 63 = .ok (.getfield 131, 3) := by decide +kernel
theorem dP_designed_66 : decode cP_designed 66 = .ok (.ireturn, 1) := by decide +kernel
theorem dL_gap_0 : decode cL_gap 0 = .ok (.aload_n 1, 1) := by decide +kernel
theorem dL_gap_1 : decode cL_gap 1 = .ok (.iconst 0, 1) := by decide +kernel
theorem dL_gap_2 : decode cL_gap 2 = .ok (.aload_n 0, 1) := by decide +kernel
theorem dL_gap_3 : decode cL_gap 3 = .ok (.invokevirtual 42, 3) := by decide +kernel
theorem dL_gap_6 : decode cL_gap 6 = .ok (.i2l, 1) := by decide +kernel
theorem dL_gap_7 : decode cL_gap 7 = .ok (.lastore, 1) := by decide +kernel
theorem dL_gap_8 : decode cL_gap 8 = .ok (.goto 6, 3) := by decide +kernel
theorem dL_gap_11 : decode cL_gap 11 = .ok (.astore_n 2, 1) := by decide +kernel
theorem dL_gap_12 : decode cL_gap 12 = .ok (.iconst 1, 1) := by decide +kernel
theorem dL_gap_13 : decode cL_gap 13 = .ok (.ireturn, 1) := by decide +kernel
theorem dL_gap_14 : decode cL_gap 14 = .ok (.iconst 0, 1) := by decide +kernel
theorem dL_gap_15 : decode cL_gap 15 = .ok (.ireturn, 1) := by decide +kernel
theorem dP_gap_0 : decode cP_gap 0 = .ok (.aload_n 0, 1) := by decide +kernel
theorem dP_gap_1 : decode cP_gap 1 = .ok (.invokevirtual 134, 3) := by decide +kernel
theorem dP_gap_4 : decode cP_gap 4 = .ok (.aload_n 0, 1) := by decide +kernel
theorem dP_gap_5 : decode cP_gap 5 = .ok (.getfield 12, 3) := by decide +kernel
theorem dP_gap_8 : decode cP_gap 8 = .ok (.aload_n 0, 1) := by decide +kernel
theorem dP_gap_9 : decode cP_gap 9 = .ok (.getfield 12, 3) := by decide +kernel
theorem dP_gap_12 : decode cP_gap 12 = .ok (.invokevirtual 137, 3) := by decide +kernel
theorem dP_gap_15 : decode cP_gap 15 = .ok (.invokevirtual 140, 3) := by decide +kernel
theorem dP_gap_18 : decode cP_gap 18 = .ok (.istore_n 1, 1) := by decide +kernel
theorem dP_gap_19 : decode cP_gap 19 = .ok (.aload_n 0, 1) := by decide +kernel
theorem dP_gap_20 : decode cP_gap 20 = .ok (.getfield 28, 3) := by decide +kernel
theorem dP_gap_23 : decode cP_gap 23 = .ok (.getfield 117, 3) := by decide +kernel
theorem dP_gap_26 : decode cP_gap 26 = .ok (.iload_n 1, 1) := by decide +kernel
theorem dP_gap_27 : decode cP_gap 27 = .ok (.aload_n 0, 1) := by decide +kernel
theorem dP_gap_28 : decode cP_gap 28 = .ok (.invokevirtual 98, 3) := by decide +kernel
theorem dP_gap_31 : decode cP_gap 31 = .ok (.invokestatic 143, 3) := by decide +kernel
theorem dP_gap_34 : decode cP_gap 34 = .ok (.isub, 1) := by decide +kernel
theorem dP_gap_35 : decode cP_gap 35 = .ok (.ireturn, 1) := by decide +kernel
theorem dP_requireDesign_0 : decode cP_requireDesign 0 = .ok (.aload_n 0, 1) := by decide +kernel
theorem dP_requireDesign_1 : decode cP_requireDesign 1 = .ok (.getfield 28, 3) := by decide +kernel
theorem dP_requireDesign_4 : decode cP_requireDesign 4 = .ok (.getfield 117, 3) := by decide +kernel
theorem dP_requireDesign_7 : decode cP_requireDesign 7 = .ok (.iconst (-1), 1) := by decide +kernel
theorem dP_requireDesign_8 : decode cP_requireDesign 8 = .ok (.if_icmp .ne 13, 3) := by decide +kernel
theorem dP_requireDesign_11 : decode cP_requireDesign 11 = .ok (.new 56, 3) := by decide +kernel
theorem dP_requireDesign_14 : decode cP_requireDesign 14 = .ok (.dup, 1) := by decide +kernel
theorem dP_requireDesign_15 : decode cP_requireDesign 15 = .ok (.ldc 198, 2) := by decide +kernel
theorem dP_requireDesign_17 : decode cP_requireDesign 17 = .ok (.invokespecial 60, 3) := by decide +kernel
theorem dP_requireDesign_20 : decode cP_requireDesign 20 = .ok (.athrow, 1) := by decide +kernel
theorem dP_requireDesign_21 : decode cP_requireDesign 21 = .ok (.return_, 1) := by decide +kernel
theorem dL_cut_0 : decode cL_cut 0 = .ok (.aload_n 3, 1) := by decide +kernel
theorem dL_cut_1 : decode cL_cut 1 = .ok (.iconst 0, 1) := by decide +kernel
theorem dL_cut_2 : decode cL_cut 2 = .ok (.aload_n 0, 1) := by decide +kernel
theorem dL_cut_3 : decode cL_cut 3 = .ok (.iload_n 1, 1) := by decide +kernel
theorem dL_cut_4 : decode cL_cut 4 = .ok (.iload_n 2, 1) := by decide +kernel
theorem dL_cut_5 : decode cL_cut 5 = .ok (.invokevirtual 46, 3) := by decide +kernel
theorem dL_cut_8 : decode cL_cut 8 = .ok (.i2l, 1) := by decide +kernel
theorem dL_cut_9 : decode cL_cut 9 = .ok (.lastore, 1) := by decide +kernel
theorem dL_cut_10 : decode cL_cut 10 = .ok (.goto 11, 3) := by decide +kernel
theorem dL_cut_13 : decode cL_cut 13 = .ok (.astore 4, 2) := by decide +kernel
theorem dL_cut_15 : decode cL_cut 15 = .ok (.iconst 1, 1) := by decide +kernel
theorem dL_cut_16 : decode cL_cut 16 = .ok (.ireturn, 1) := by decide +kernel
theorem dL_cut_17 : decode cL_cut 17 = .ok (.astore 4, 2) := by decide +kernel
theorem dL_cut_19 : decode cL_cut 19 = .ok (.iconst 2, 1) := by decide +kernel
theorem dL_cut_20 : decode cL_cut 20 = .ok (.ireturn, 1) := by decide +kernel
theorem dL_cut_21 : decode cL_cut 21 = .ok (.iconst 0, 1) := by decide +kernel
theorem dL_cut_22 : decode cL_cut 22 = .ok (.ireturn, 1) := by decide +kernel
theorem dP_cut_0 : decode cP_cut 0 = .ok (.aload_n 0, 1) := by decide +kernel
theorem dP_cut_1 : decode cP_cut 1 = .ok (.invokevirtual 134, 3) := by decide +kernel
theorem dP_cut_4 : decode cP_cut 4 = .ok (.aload_n 0, 1) := by decide +kernel
theorem dP_cut_5 : decode cP_cut 5 = .ok (.iload_n 1, 1) := by decide +kernel
theorem dP_cut_6 : decode cP_cut 6 = .ok (.invokevirtual 148, 3) := by decide +kernel
theorem dP_cut_9 : decode cP_cut 9 = .ok (.aload_n 0, 1) := by decide +kernel
theorem dP_cut_10 : decode cP_cut 10 = .ok (.getfield 12, 3) := by decide +kernel
theorem dP_cut_13 : decode cP_cut 13 = .ok (.iload_n 2, 1) := by decide +kernel
theorem dP_cut_14 : decode cP_cut 14 = .ok (.invokevirtual 69, 3) := by decide +kernel
theorem dP_cut_17 : decode cP_cut 17 = .ok (.ifCond .ne 13, 3) := by decide +kernel
theorem dP_cut_20 : decode cP_cut 20 = .ok (.new 73, 3) := by decide +kernel
theorem dP_cut_23 : decode cP_cut 23 = .ok (.dup, 1) := by decide +kernel
theorem dP_cut_24 : decode cP_cut 24 = .ok (.ldc 75, 2) := by decide +kernel
theorem dP_cut_26 : decode cP_cut 26 = .ok (.invokespecial 77, 3) := by decide +kernel
theorem dP_cut_29 : decode cP_cut 29 = .ok (.athrow, 1) := by decide +kernel
theorem dP_cut_30 : decode cP_cut 30 = .ok (.aload_n 0, 1) := by decide +kernel
theorem dP_cut_31 : decode cP_cut 31 = .ok (.getfield 28, 3) := by decide +kernel
theorem dP_cut_34 : decode cP_cut 34 = .ok (.getfield 151, 3) := by decide +kernel
theorem dP_cut_37 : decode cP_cut 37 = .ok (.iload_n 1, 1) := by decide +kernel
theorem dP_cut_38 : decode cP_cut 38 = .ok (.aaload, 1) := by decide +kernel
theorem dP_cut_39 : decode cP_cut 39 = .ok (.iload_n 2, 1) := by decide +kernel
theorem dP_cut_40 : decode cP_cut 40 = .ok (.iaload, 1) := by decide +kernel
theorem dP_cut_41 : decode cP_cut 41 = .ok (.ireturn, 1) := by decide +kernel
theorem dP_requireSheet_0 : decode cP_requireSheet 0 = .ok (.iload_n 1, 1) := by decide +kernel
theorem dP_requireSheet_1 : decode cP_requireSheet 1 = .ok (.ifCond .lt 14, 3) := by decide +kernel
theorem dP_requireSheet_4 : decode cP_requireSheet 4 = .ok (.iload_n 1, 1) := by decide +kernel
theorem dP_requireSheet_5 : decode cP_requireSheet 5 = .ok (.aload_n 0, 1) := by decide +kernel
theorem dP_requireSheet_6 : decode cP_requireSheet 6 = .ok (.getfield 28, 3) := by decide +kernel
theorem dP_requireSheet_9 : decode cP_requireSheet 9 = .ok (.getfield 117, 3) := by decide +kernel
theorem dP_requireSheet_12 : decode cP_requireSheet 12 = .ok (.if_icmp .lt 13, 3) := by decide +kernel
theorem dP_requireSheet_15 : decode cP_requireSheet 15 = .ok (.new 73, 3) := by decide +kernel
theorem dP_requireSheet_18 : decode cP_requireSheet 18 = .ok (.dup, 1) := by decide +kernel
theorem dP_requireSheet_19 : decode cP_requireSheet 19 = .ok (.ldc 200, 2) := by decide +kernel
theorem dP_requireSheet_21 : decode cP_requireSheet 21 = .ok (.invokespecial 77, 3) := by decide +kernel
theorem dP_requireSheet_24 : decode cP_requireSheet 24 = .ok (.athrow, 1) := by decide +kernel
theorem dP_requireSheet_25 : decode cP_requireSheet 25 = .ok (.return_, 1) := by decide +kernel
theorem dL_over_0 : decode cL_over 0 = .ok (.aload_n 2, 1) := by decide +kernel
theorem dL_over_1 : decode cL_over 1 = .ok (.iconst 0, 1) := by decide +kernel
theorem dL_over_2 : decode cL_over 2 = .ok (.aload_n 0, 1) := by decide +kernel
theorem dL_over_3 : decode cL_over 3 = .ok (.iload_n 1, 1) := by decide +kernel
theorem dL_over_4 : decode cL_over 4 = .ok (.invokevirtual 49, 3) := by decide +kernel
theorem dL_over_7 : decode cL_over 7 = .ok (.i2l, 1) := by decide +kernel
theorem dL_over_8 : decode cL_over 8 = .ok (.lastore, 1) := by decide +kernel
theorem dL_over_9 : decode cL_over 9 = .ok (.goto 9, 3) := by decide +kernel
theorem dL_over_12 : decode cL_over 12 = .ok (.astore_n 3, 1) := by decide +kernel
theorem dL_over_13 : decode cL_over 13 = .ok (.iconst 1, 1) := by decide +kernel
theorem dL_over_14 : decode cL_over 14 = .ok (.ireturn, 1) := by decide +kernel
theorem dL_over_15 : decode cL_over 15 = .ok (.astore_n 3, 1) := by decide +kernel
theorem dL_over_16 : decode cL_over 16 = .ok (.iconst 2, 1) := by decide +kernel
theorem dL_over_17 : decode cL_over 17 = .ok (.ireturn, 1) := by decide +kernel
theorem dL_over_18 : decode cL_over 18 = .ok (.iconst 0, 1) := by decide +kernel
theorem dL_over_19 : decode cL_over 19 = .ok (.ireturn, 1) := by decide +kernel
theorem dP_over_0 : decode cP_over 0 = .ok (.aload_n 0, 1) := by decide +kernel
theorem dP_over_1 : decode cP_over 1 = .ok (.invokevirtual 134, 3) := by decide +kernel
theorem dP_over_4 : decode cP_over 4 = .ok (.aload_n 0, 1) := by decide +kernel
theorem dP_over_5 : decode cP_over 5 = .ok (.iload_n 1, 1) := by decide +kernel
theorem dP_over_6 : decode cP_over 6 = .ok (.invokevirtual 148, 3) := by decide +kernel
theorem dP_over_9 : decode cP_over 9 = .ok (.aload_n 0, 1) := by decide +kernel
theorem dP_over_10 : decode cP_over 10 = .ok (.getfield 12, 3) := by decide +kernel
theorem dP_over_13 : decode cP_over 13 = .ok (.getfield 46, 3) := by decide +kernel
theorem dP_over_16 : decode cP_over 16 = .ok (.aload_n 0, 1) := by decide +kernel
theorem dP_over_17 : decode cP_over 17 = .ok (.getfield 12, 3) := by decide +kernel
theorem dP_over_20 : decode cP_over 20 = .ok (.aload_n 0, 1) := by decide +kernel
theorem dP_over_21 : decode cP_over 21 = .ok (.getfield 28, 3) := by decide +kernel
theorem dP_over_24 : decode cP_over 24 = .ok (.getfield 151, 3) := by decide +kernel
theorem dP_over_27 : decode cP_over 27 = .ok (.iload_n 1, 1) := by decide +kernel
theorem dP_over_28 : decode cP_over 28 = .ok (.aaload, 1) := by decide +kernel
theorem dP_over_29 : decode cP_over 29 = .ok (.invokevirtual 155, 3) := by decide +kernel
theorem dP_over_32 : decode cP_over 32 = .ok (.isub, 1) := by decide +kernel
theorem dP_over_33 : decode cP_over 33 = .ok (.ireturn, 1) := by decide +kernel
theorem dL_keep_0 : decode cL_keep 0 = .ok (.aload_n 3, 1) := by decide +kernel
theorem dL_keep_1 : decode cL_keep 1 = .ok (.iconst 0, 1) := by decide +kernel
theorem dL_keep_2 : decode cL_keep 2 = .ok (.aload_n 0, 1) := by decide +kernel
theorem dL_keep_3 : decode cL_keep 3 = .ok (.iload_n 1, 1) := by decide +kernel
theorem dL_keep_4 : decode cL_keep 4 = .ok (.iload_n 2, 1) := by decide +kernel
theorem dL_keep_5 : decode cL_keep 5 = .ok (.invokevirtual 52, 3) := by decide +kernel
theorem dL_keep_8 : decode cL_keep 8 = .ok (.i2l, 1) := by decide +kernel
theorem dL_keep_9 : decode cL_keep 9 = .ok (.lastore, 1) := by decide +kernel
theorem dL_keep_10 : decode cL_keep 10 = .ok (.goto 19, 3) := by decide +kernel
theorem dL_keep_13 : decode cL_keep 13 = .ok (.astore 4, 2) := by decide +kernel
theorem dL_keep_15 : decode cL_keep 15 = .ok (.iconst 1, 1) := by decide +kernel
theorem dL_keep_16 : decode cL_keep 16 = .ok (.ireturn, 1) := by decide +kernel
theorem dL_keep_17 : decode cL_keep 17 = .ok (.astore 4, 2) := by decide +kernel
theorem dL_keep_19 : decode cL_keep 19 = .ok (.iconst 2, 1) := by decide +kernel
theorem dL_keep_20 : decode cL_keep 20 = .ok (.ireturn, 1) := by decide +kernel
theorem dL_keep_21 : decode cL_keep 21 = .ok (.astore 4, 2) := by decide +kernel
theorem dL_keep_23 : decode cL_keep 23 = .ok (.iconst 3, 1) := by decide +kernel
theorem dL_keep_24 : decode cL_keep 24 = .ok (.ireturn, 1) := by decide +kernel
theorem dL_keep_25 : decode cL_keep 25 = .ok (.astore 4, 2) := by decide +kernel
theorem dL_keep_27 : decode cL_keep 27 = .ok (.iconst 4, 1) := by decide +kernel
theorem dL_keep_28 : decode cL_keep 28 = .ok (.ireturn, 1) := by decide +kernel
theorem dL_keep_29 : decode cL_keep 29 = .ok (.iconst 0, 1) := by decide +kernel
theorem dL_keep_30 : decode cL_keep 30 = .ok (.ireturn, 1) := by decide +kernel
theorem dP_keep_0 : decode cP_keep 0 = .ok (.aload_n 0, 1) := by decide +kernel
theorem dP_keep_1 : decode cP_keep 1 = .ok (.invokevirtual 134, 3) := by decide +kernel
theorem dP_keep_4 : decode cP_keep 4 = .ok (.aload_n 0, 1) := by decide +kernel
theorem dP_keep_5 : decode cP_keep 5 = .ok (.iload_n 1, 1) := by decide +kernel
theorem dP_keep_6 : decode cP_keep 6 = .ok (.invokevirtual 148, 3) := by decide +kernel
theorem dP_keep_9 : decode cP_keep 9 = .ok (.iload_n 2, 1) := by decide +kernel
theorem dP_keep_10 : decode cP_keep 10 = .ok (.ifCond .lt 10, 3) := by decide +kernel
theorem dP_keep_13 : decode cP_keep 13 = .ok (.iload_n 2, 1) := by decide +kernel
theorem dP_keep_14 : decode cP_keep 14 = .ok (.sipush 9999, 3) := by decide +kernel
theorem dP_keep_17 : decode cP_keep 17 = .ok (.if_icmp .le 13, 3) := by decide +kernel
theorem dP_keep_20 : decode cP_keep 20 = .ok (.new 39, 3) := by decide +kernel
theorem dP_keep_23 : decode cP_keep 23 = .ok (.dup, 1) := by decide +kernel
theorem dP_keep_24 : decode cP_keep 24 = .ok (.ldc 159, 2) := by decide +kernel
theorem dP_keep_26 : decode cP_keep 26 = .ok (.invokespecial 43, 3) := by decide +kernel
theorem dP_keep_29 : decode cP_keep 29 = .ok (.athrow, 1) := by decide +kernel
theorem dP_keep_30 : decode cP_keep 30 = .ok (.aload_n 0, 1) := by decide +kernel
theorem dP_keep_31 : decode cP_keep 31 = .ok (.getfield 28, 3) := by decide +kernel
theorem dP_keep_34 : decode cP_keep 34 = .ok (.getfield 151, 3) := by decide +kernel
theorem dP_keep_37 : decode cP_keep 37 = .ok (.iload_n 1, 1) := by decide +kernel
theorem dP_keep_38 : decode cP_keep 38 = .ok (.aaload, 1) := by decide +kernel
theorem dP_keep_39 : decode cP_keep 39 = .ok (.astore_n 3, 1) := by decide +kernel
theorem dP_keep_40 : decode cP_keep 40 = .ok (.aload_n 0, 1) := by decide +kernel
theorem dP_keep_41 : decode cP_keep 41 = .ok (.getfield 35, 3) := by decide +kernel
theorem dP_keep_44 : decode cP_keep 44 = .ok (.aload_n 3, 1) := by decide +kernel
theorem dP_keep_45 : decode cP_keep 45 = .ok (.invokevirtual 161, 3) := by decide +kernel
theorem dP_keep_48 : decode cP_keep 48 = .ok (.istore 4, 2) := by decide +kernel
theorem dP_keep_50 : decode cP_keep 50 = .ok (.iload 4, 2) := by decide +kernel
theorem dP_keep_52 : decode cP_keep 52 = .ok (.iconst (-1), 1) := by decide +kernel
theorem dP_keep_53 : decode cP_keep 53 = .ok (.if_icmp .eq 16, 3) := by decide +kernel
theorem dP_keep_56 : decode cP_keep 56 = .ok (.aload_n 0, 1) := by decide +kernel
theorem dP_keep_57 : decode cP_keep 57 = .ok (.getfield 35, 3) := by decide +kernel
theorem dP_keep_60 : decode cP_keep 60 = .ok (.iload 4, 2) := by decide +kernel
theorem dP_keep_62 : decode cP_keep 62 = .ok (.iload_n 2, 1) := by decide +kernel
theorem dP_keep_63 : decode cP_keep 63 = .ok (.invokevirtual 164, 3) := by decide +kernel
theorem dP_keep_66 : decode cP_keep 66 = .ok (.iload 4, 2) := by decide +kernel
theorem dP_keep_68 : decode cP_keep 68 = .ok (.ireturn, 1) := by decide +kernel
theorem dP_keep_69 : decode cP_keep 69 = .ok (.aload_n 0, 1) := by decide +kernel
theorem dP_keep_70 : decode cP_keep 70 = .ok (.getfield 35, 3) := by decide +kernel
theorem dP_keep_73 : decode cP_keep 73 = .ok (.getfield 168, 3) := by decide +kernel
theorem dP_keep_76 : decode cP_keep 76 = .ok (.bipush 40, 2) := by decide +kernel
theorem dP_keep_78 : decode cP_keep 78 = .ok (.if_icmp .lt 13, 3) := by decide +kernel
theorem dP_keep_81 : decode cP_keep 81 = .ok (.new 108, 3) := by decide +kernel
theorem dP_keep_84 : decode cP_keep 84 = .ok (.dup, 1) := by decide +kernel
theorem dP_keep_85 : decode cP_keep 85 = .ok (.ldc 169, 2) := by decide +kernel
theorem dP_keep_87 : decode cP_keep 87 = .ok (.invokespecial 112, 3) := by decide +kernel
theorem dP_keep_90 : decode cP_keep 90 = .ok (.athrow, 1) := by decide +kernel
theorem dP_keep_91 : decode cP_keep 91 = .ok (.aload_n 0, 1) := by decide +kernel
theorem dP_keep_92 : decode cP_keep 92 = .ok (.getfield 35, 3) := by decide +kernel
theorem dP_keep_95 : decode cP_keep 95 = .ok (.aload_n 3, 1) := by decide +kernel
theorem dP_keep_96 : decode cP_keep 96 = .ok (.iload_n 2, 1) := by decide +kernel
theorem dP_keep_97 : decode cP_keep 97 = .ok (.invokevirtual 171, 3) := by decide +kernel
theorem dP_keep_100 : decode cP_keep 100 = .ok (.ireturn, 1) := by decide +kernel
theorem dT_find_0 : decode cT_find 0 = .ok (.iconst 0, 1) := by decide +kernel
theorem dT_find_1 : decode cT_find 1 = .ok (.istore_n 2, 1) := by decide +kernel
theorem dT_find_2 : decode cT_find 2 = .ok (.iload_n 2, 1) := by decide +kernel
theorem dT_find_3 : decode cT_find 3 = .ok (.aload_n 0, 1) := by decide +kernel
theorem dT_find_4 : decode cT_find 4 = .ok (.getfield 23, 3) := by decide +kernel
theorem dT_find_7 : decode cT_find 7 = .ok (.if_icmp .ge 24, 3) := by decide +kernel
theorem dT_find_10 : decode cT_find 10 = .ok (.aload_n 0, 1) := by decide +kernel
theorem dT_find_11 : decode cT_find 11 = .ok (.getfield 11, 3) := by decide +kernel
theorem dT_find_14 : decode cT_find 14 = .ok (.iload_n 2, 1) := by decide +kernel
theorem dT_find_15 : decode cT_find 15 = .ok (.aaload, 1) := by decide +kernel
theorem dT_find_16 : decode cT_find 16 = .ok (.aload_n 1, 1) := by decide +kernel
theorem dT_find_17 : decode cT_find 17 = .ok (.invokestatic 27, 3) := by decide +kernel
theorem dT_find_20 : decode cT_find 20 = .ok (.ifCond .eq 5, 3) := by decide +kernel
theorem dT_find_23 : decode cT_find 23 = .ok (.iload_n 2, 1) := by decide +kernel
theorem dT_find_24 : decode cT_find 24 = .ok (.ireturn, 1) := by decide +kernel
theorem dT_find_25 : decode cT_find 25 = .ok (.iinc 2 1, 3) := by decide +kernel
theorem dT_find_28 : decode cT_find 28 = .ok (.goto (-26), 3) := by decide +kernel
theorem dT_find_31 : decode cT_find 31 = .ok (.iconst (-1), 1) := by decide +kernel
theorem dT_find_32 : decode cT_find 32 = .ok (.ireturn, 1) := by decide +kernel
theorem dT_same_0 : decode cT_same 0 = .ok (.iconst 0, 1) := by decide +kernel
theorem dT_same_1 : decode cT_same 1 = .ok (.istore_n 2, 1) := by decide +kernel
theorem dT_same_2 : decode cT_same 2 = .ok (.iload_n 2, 1) := by decide +kernel
theorem dT_same_3 : decode cT_same 3 = .ok (.iconst 5, 1) := by decide +kernel
theorem dT_same_4 : decode cT_same 4 = .ok (.if_icmp .ge 20, 3) := by decide +kernel
theorem dT_same_7 : decode cT_same 7 = .ok (.aload_n 0, 1) := by decide +kernel
theorem dT_same_8 : decode cT_same 8 = .ok (.iload_n 2, 1) := by decide +kernel
theorem dT_same_9 : decode cT_same 9 = .ok (.iaload, 1) := by decide +kernel
theorem dT_same_10 : decode cT_same 10 = .ok (.aload_n 1, 1) := by decide +kernel
theorem dT_same_11 : decode cT_same 11 = .ok (.iload_n 2, 1) := by decide +kernel
theorem dT_same_12 : decode cT_same 12 = .ok (.iaload, 1) := by decide +kernel
theorem dT_same_13 : decode cT_same 13 = .ok (.if_icmp .eq 5, 3) := by decide +kernel
theorem dT_same_16 : decode cT_same 16 = .ok (.iconst 0, 1) := by decide +kernel
theorem dT_same_17 : decode cT_same 17 = .ok (.ireturn, 1) := by decide +kernel
theorem dT_same_18 : decode cT_same 18 = .ok (.iinc 2 1, 3) := by decide +kernel
theorem dT_same_21 : decode cT_same 21 = .ok (.goto (-19), 3) := by decide +kernel
theorem dT_same_24 : decode cT_same 24 = .ok (.iconst 1, 1) := by decide +kernel
theorem dT_same_25 : decode cT_same 25 = .ok (.ireturn, 1) := by decide +kernel
theorem dT_countAgain_0 : decode cT_countAgain 0 = .ok (.aload_n 0, 1) := by decide +kernel
theorem dT_countAgain_1 : decode cT_countAgain 1 = .ok (.getfield 16, 3) := by decide +kernel
theorem dT_countAgain_4 : decode cT_countAgain 4 = .ok (.iload_n 1, 1) := by decide +kernel
theorem dT_countAgain_5 : decode cT_countAgain 5 = .ok (.dup2, 1) := by decide +kernel
theorem dT_countAgain_6 : decode cT_countAgain 6 = .ok (.iaload, 1) := by decide +kernel
theorem dT_countAgain_7 : decode cT_countAgain 7 = .ok (.iconst 1, 1) := by decide +kernel
theorem dT_countAgain_8 : decode cT_countAgain 8 = .ok (.iadd, 1) := by decide +kernel
theorem dT_countAgain_9 : decode cT_countAgain 9 = .ok (.iastore, 1) := by decide +kernel
theorem dT_countAgain_10 : decode cT_countAgain 10 = .ok (.aload_n 0, 1) := by decide +kernel
theorem dT_countAgain_11 : decode cT_countAgain 11 = .ok (.getfield 20, 3) := by decide +kernel
theorem dT_countAgain_14 : decode cT_countAgain 14 = .ok (.iload_n 1, 1) := by decide +kernel
theorem dT_countAgain_15 : decode cT_countAgain 15 = .ok (.aload_n 0, 1) := by decide +kernel
theorem dT_countAgain_16 : decode cT_countAgain 16 = .ok (.getfield 20, 3) := by decide +kernel
theorem dT_countAgain_19 : decode cT_countAgain 19 = .ok (.iload_n 1, 1) := by decide +kernel
theorem dT_countAgain_20 : decode cT_countAgain 20 = .ok (.iaload, 1) := by decide +kernel
theorem dT_countAgain_21 : decode cT_countAgain 21 = .ok (.iload_n 2, 1) := by decide +kernel
theorem dT_countAgain_22 : decode cT_countAgain 22 = .ok (.invokestatic 31, 3) := by decide +kernel
theorem dT_countAgain_25 : decode cT_countAgain 25 = .ok (.iastore, 1) := by decide +kernel
theorem dT_countAgain_26 : decode cT_countAgain 26 = .ok (.return_, 1) := by decide +kernel
theorem dT_add_0 : decode cT_add 0 = .ok (.aload_n 0, 1) := by decide +kernel
theorem dT_add_1 : decode cT_add 1 = .ok (.getfield 23, 3) := by decide +kernel
theorem dT_add_4 : decode cT_add 4 = .ok (.istore_n 3, 1) := by decide +kernel
theorem dT_add_5 : decode cT_add 5 = .ok (.aload_n 1, 1) := by decide +kernel
theorem dT_add_6 : decode cT_add 6 = .ok (.iconst 0, 1) := by decide +kernel
theorem dT_add_7 : decode cT_add 7 = .ok (.aload_n 0, 1) := by decide +kernel
theorem dT_add_8 : decode cT_add 8 = .ok (.getfield 11, 3) := by decide +kernel
theorem dT_add_11 : decode cT_add 11 = .ok (.iload_n 3, 1) := by decide +kernel
theorem dT_add_12 : decode cT_add 12 = .ok (.aaload, 1) := by decide +kernel
theorem dT_add_13 : decode cT_add 13 = .ok (.iconst 0, 1) := by decide +kernel
theorem dT_add_14 : decode cT_add 14 = .ok (.iconst 5, 1) := by decide +kernel
theorem dT_add_15 : decode cT_add 15 = .ok (.invokestatic 37, 3) := by decide +kernel
theorem dT_add_18 : decode cT_add 18 = .ok (.aload_n 0, 1) := by decide +kernel
theorem dT_add_19 : decode cT_add 19 = .ok (.getfield 16, 3) := by decide +kernel
theorem dT_add_22 : decode cT_add 22 = .ok (.iload_n 3, 1) := by decide +kernel
theorem dT_add_23 : decode cT_add 23 = .ok (.iconst 1, 1) := by decide +kernel
theorem dT_add_24 : decode cT_add 24 = .ok (.iastore, 1) := by decide +kernel
theorem dT_add_25 : decode cT_add 25 = .ok (.aload_n 0, 1) := by decide +kernel
theorem dT_add_26 : decode cT_add 26 = .ok (.getfield 20, 3) := by decide +kernel
theorem dT_add_29 : decode cT_add 29 = .ok (.iload_n 3, 1) := by decide +kernel
theorem dT_add_30 : decode cT_add 30 = .ok (.iload_n 2, 1) := by decide +kernel
theorem dT_add_31 : decode cT_add 31 = .ok (.iastore, 1) := by decide +kernel
theorem dT_add_32 : decode cT_add 32 = .ok (.aload_n 0, 1) := by decide +kernel
theorem dT_add_33 : decode cT_add 33 = .ok (.iload_n 3, 1) := by decide +kernel
theorem dT_add_34 : decode cT_add 34 = .ok (.iconst 1, 1) := by decide +kernel
theorem dT_add_35 : decode cT_add 35 = .ok (.iadd, 1) := by decide +kernel
theorem dT_add_36 : decode cT_add 36 = .ok (.putfield 23, 3) := by decide +kernel
theorem dT_add_39 : decode cT_add 39 = .ok (.iload_n 3, 1) := by decide +kernel
theorem dT_add_40 : decode cT_add 40 = .ok (.ireturn, 1) := by decide +kernel
theorem dL_kept_0 : decode cL_kept 0 = .ok (.aload_n 3, 1) := by decide +kernel
theorem dL_kept_1 : decode cL_kept 1 = .ok (.iconst 0, 1) := by decide +kernel
theorem dL_kept_2 : decode cL_kept 2 = .ok (.aload_n 0, 1) := by decide +kernel
theorem dL_kept_3 : decode cL_kept 3 = .ok (.iload_n 1, 1) := by decide +kernel
theorem dL_kept_4 : decode cL_kept 4 = .ok (.iload_n 2, 1) := by decide +kernel
theorem dL_kept_5 : decode cL_kept 5 = .ok (.invokevirtual 55, 3) := by decide +kernel
theorem dL_kept_8 : decode cL_kept 8 = .ok (.i2l, 1) := by decide +kernel
theorem dL_kept_9 : decode cL_kept 9 = .ok (.lastore, 1) := by decide +kernel
theorem dL_kept_10 : decode cL_kept 10 = .ok (.goto 7, 3) := by decide +kernel
theorem dL_kept_13 : decode cL_kept 13 = .ok (.astore 4, 2) := by decide +kernel
theorem dL_kept_15 : decode cL_kept 15 = .ok (.iconst 1, 1) := by decide +kernel
theorem dL_kept_16 : decode cL_kept 16 = .ok (.ireturn, 1) := by decide +kernel
theorem dL_kept_17 : decode cL_kept 17 = .ok (.iconst 0, 1) := by decide +kernel
theorem dL_kept_18 : decode cL_kept 18 = .ok (.ireturn, 1) := by decide +kernel
theorem dP_kept_0 : decode cP_kept 0 = .ok (.iload_n 1, 1) := by decide +kernel
theorem dP_kept_1 : decode cP_kept 1 = .ok (.ifCond .lt 14, 3) := by decide +kernel
theorem dP_kept_4 : decode cP_kept 4 = .ok (.iload_n 1, 1) := by decide +kernel
theorem dP_kept_5 : decode cP_kept 5 = .ok (.aload_n 0, 1) := by decide +kernel
theorem dP_kept_6 : decode cP_kept 6 = .ok (.getfield 35, 3) := by decide +kernel
theorem dP_kept_9 : decode cP_kept 9 = .ok (.getfield 168, 3) := by decide +kernel
theorem dP_kept_12 : decode cP_kept 12 = .ok (.if_icmp .lt 13, 3) := by decide +kernel
theorem dP_kept_15 : decode cP_kept 15 = .ok (.new 73, 3) := by decide +kernel
theorem dP_kept_18 : decode cP_kept 18 = .ok (.dup, 1) := by decide +kernel
theorem dP_kept_19 : decode cP_kept 19 = .ok (.ldc 174, 2) := by decide +kernel
theorem dP_kept_21 : decode cP_kept 21 = .ok (.invokespecial 77, 3) := by decide +kernel
theorem dP_kept_24 : decode cP_kept 24 = .ok (.athrow, 1) := by decide +kernel
theorem dP_kept_25 : decode cP_kept 25 = .ok (.iload_n 2, 1) := by decide +kernel
theorem dP_kept_26 : decode cP_kept 26 = .ok (.ifCond .lt 9, 3) := by decide +kernel
theorem dP_kept_29 : decode cP_kept 29 = .ok (.iload_n 2, 1) := by decide +kernel
theorem dP_kept_30 : decode cP_kept 30 = .ok (.bipush 6, 2) := by decide +kernel
theorem dP_kept_32 : decode cP_kept 32 = .ok (.if_icmp .le 13, 3) := by decide +kernel
theorem dP_kept_35 : decode cP_kept 35 = .ok (.new 73, 3) := by decide +kernel
theorem dP_kept_38 : decode cP_kept 38 = .ok (.dup, 1) := by decide +kernel
theorem dP_kept_39 : decode cP_kept 39 = .ok (.ldc 120, 2) := by decide +kernel
theorem dP_kept_41 : decode cP_kept 41 = .ok (.invokespecial 77, 3) := by decide +kernel
theorem dP_kept_44 : decode cP_kept 44 = .ok (.athrow, 1) := by decide +kernel
theorem dP_kept_45 : decode cP_kept 45 = .ok (.iload_n 2, 1) := by decide +kernel
theorem dP_kept_46 : decode cP_kept 46 = .ok (.bipush 6, 2) := by decide +kernel
theorem dP_kept_48 : decode cP_kept 48 = .ok (.if_icmp .ne 13, 3) := by decide +kernel
theorem dP_kept_51 : decode cP_kept 51 = .ok (.aload_n 0, 1) := by decide +kernel
theorem dP_kept_52 : decode cP_kept 52 = .ok (.getfield 35, 3) := by decide +kernel
theorem dP_kept_55 : decode cP_kept 55 = .ok (.getfield 176, 3) := by decide +kernel
theorem dP_kept_58 : decode cP_kept 58 = .ok (.iload_n 1, 1) := by decide +kernel
theorem dP_kept_59 : decode cP_kept 59 = .ok (.iaload, 1) := by decide +kernel
theorem dP_kept_60 : decode cP_kept 60 = .ok (.ireturn, 1) := by decide +kernel
theorem dP_kept_61 : decode cP_kept 61 = .ok (.iload_n 2, 1) := by decide +kernel
theorem dP_kept_62 : decode cP_kept 62 = .ok (.iconst 5, 1) := by decide +kernel
theorem dP_kept_63 : decode cP_kept 63 = .ok (.if_icmp .ne 13, 3) := by decide +kernel
theorem dP_kept_66 : decode cP_kept 66 = .ok (.aload_n 0, 1) := by decide +kernel
theorem dP_kept_67 : decode cP_kept 67 = .ok (.getfield 35, 3) := by decide +kernel
theorem dP_kept_70 : decode cP_kept 70 = .ok (.getfield 179, 3) := by decide +kernel
theorem dP_kept_73 : decode cP_kept 73 = .ok (.iload_n 1, 1) := by decide +kernel
theorem dP_kept_74 : decode cP_kept 74 = .ok (.iaload, 1) := by decide +kernel
theorem dP_kept_75 : decode cP_kept 75 = .ok (.ireturn, 1) := by decide +kernel
theorem dP_kept_76 : decode cP_kept 76 = .ok (.aload_n 0, 1) := by decide +kernel
theorem dP_kept_77 : decode cP_kept 77 = .ok (.getfield 35, 3) := by decide +kernel
theorem dP_kept_80 : decode cP_kept 80 = .ok (.getfield 182, 3) := by decide +kernel
theorem dP_kept_83 : decode cP_kept 83 = .ok (.iload_n 1, 1) := by decide +kernel
theorem dP_kept_84 : decode cP_kept 84 = .ok (.aaload, 1) := by decide +kernel
theorem dP_kept_85 : decode cP_kept 85 = .ok (.iload_n 2, 1) := by decide +kernel
theorem dP_kept_86 : decode cP_kept 86 = .ok (.iaload, 1) := by decide +kernel
theorem dP_kept_87 : decode cP_kept 87 = .ok (.ireturn, 1) := by decide +kernel
theorem dL_fitting_0 : decode cL_fitting 0 = .ok (.aload_n 2, 1) := by decide +kernel
theorem dL_fitting_1 : decode cL_fitting 1 = .ok (.iconst 0, 1) := by decide +kernel
theorem dL_fitting_2 : decode cL_fitting 2 = .ok (.aload_n 0, 1) := by decide +kernel
theorem dL_fitting_3 : decode cL_fitting 3 = .ok (.iload_n 1, 1) := by decide +kernel
theorem dL_fitting_4 : decode cL_fitting 4 = .ok (.invokevirtual 58, 3) := by decide +kernel
theorem dL_fitting_7 : decode cL_fitting 7 = .ok (.i2l, 1) := by decide +kernel
theorem dL_fitting_8 : decode cL_fitting 8 = .ok (.lastore, 1) := by decide +kernel
theorem dL_fitting_9 : decode cL_fitting 9 = .ok (.goto 6, 3) := by decide +kernel
theorem dL_fitting_12 : decode cL_fitting 12 = .ok (.astore_n 3, 1) := by decide +kernel
theorem dL_fitting_13 : decode cL_fitting 13 = .ok (.iconst 1, 1) := by decide +kernel
theorem dL_fitting_14 : decode cL_fitting 14 = .ok (.ireturn, 1) := by decide +kernel
theorem dL_fitting_15 : decode cL_fitting 15 = .ok (.iconst 0, 1) := by decide +kernel
theorem dL_fitting_16 : decode cL_fitting 16 = .ok (.ireturn, 1) := by decide +kernel
theorem dP_fitting_0 : decode cP_fitting 0 = .ok (.iload_n 1, 1) := by decide +kernel
theorem dP_fitting_1 : decode cP_fitting 1 = .ok (.ifCond .ge 13, 3) := by decide +kernel
theorem dP_fitting_4 : decode cP_fitting 4 = .ok (.new 73, 3) := by decide +kernel
theorem dP_fitting_7 : decode cP_fitting 7 = .ok (.dup, 1) := by decide +kernel
theorem dP_fitting_8 : decode cP_fitting 8 = .ok (.ldc 185, 2) := by decide +kernel
theorem dP_fitting_10 : decode cP_fitting 10 = .ok (.invokespecial 77, 3) := by decide +kernel
theorem dP_fitting_13 : decode cP_fitting 13 = .ok (.athrow, 1) := by decide +kernel
theorem dP_fitting_14 : decode cP_fitting 14 = .ok (.iload_n 1, 1) := by decide +kernel
theorem dP_fitting_15 : decode cP_fitting 15 = .ok (.istore_n 2, 1) := by decide +kernel
theorem dP_fitting_16 : decode cP_fitting 16 = .ok (.iconst 0, 1) := by decide +kernel
theorem dP_fitting_17 : decode cP_fitting 17 = .ok (.istore_n 3, 1) := by decide +kernel
theorem dP_fitting_18 : decode cP_fitting 18 = .ok (.iload_n 3, 1) := by decide +kernel
theorem dP_fitting_19 : decode cP_fitting 19 = .ok (.aload_n 0, 1) := by decide +kernel
theorem dP_fitting_20 : decode cP_fitting 20 = .ok (.getfield 35, 3) := by decide +kernel
theorem dP_fitting_23 : decode cP_fitting 23 = .ok (.getfield 168, 3) := by decide +kernel
theorem dP_fitting_26 : decode cP_fitting 26 = .ok (.if_icmp .ge 37, 3) := by decide +kernel
theorem dP_fitting_29 : decode cP_fitting 29 = .ok (.aload_n 0, 1) := by decide +kernel
theorem dP_fitting_30 : decode cP_fitting 30 = .ok (.getfield 12, 3) := by decide +kernel
theorem dP_fitting_33 : decode cP_fitting 33 = .ok (.aload_n 0, 1) := by decide +kernel
theorem dP_fitting_34 : decode cP_fitting 34 = .ok (.getfield 35, 3) := by decide +kernel
theorem dP_fitting_37 : decode cP_fitting 37 = .ok (.getfield 182, 3) := by decide +kernel
theorem dP_fitting_40 : decode cP_fitting 40 = .ok (.iload_n 3, 1) := by decide +kernel
theorem dP_fitting_41 : decode cP_fitting 41 = .ok (.aaload, 1) := by decide +kernel
theorem dP_fitting_42 : decode cP_fitting 42 = .ok (.invokevirtual 187, 3) := by decide +kernel
theorem dP_fitting_45 : decode cP_fitting 45 = .ok (.ifCond .eq 12, 3) := by decide +kernel
theorem dP_fitting_48 : decode cP_fitting 48 = .ok (.iload_n 2, 1) := by decide +kernel
theorem dP_fitting_49 : decode cP_fitting 49 = .ok (.ifCond .ne 5, 3) := by decide +kernel
theorem dP_fitting_52 : decode cP_fitting 52 = .ok (.iload_n 3, 1) := by decide +kernel
theorem dP_fitting_53 : decode cP_fitting 53 = .ok (.ireturn, 1) := by decide +kernel
theorem dP_fitting_54 : decode cP_fitting 54 = .ok (.iinc 2 (-1), 3) := by decide +kernel
theorem dP_fitting_57 : decode cP_fitting 57 = .ok (.iinc 3 1, 3) := by decide +kernel
theorem dP_fitting_60 : decode cP_fitting 60 = .ok (.goto (-42), 3) := by decide +kernel
theorem dP_fitting_63 : decode cP_fitting 63 = .ok (.iconst (-1), 1) := by decide +kernel
theorem dP_fitting_64 : decode cP_fitting 64 = .ok (.ireturn, 1) := by decide +kernel
theorem dS_isPattern_0 : decode cS_isPattern 0 = .ok (.iconst 0, 1) := by decide +kernel
theorem dS_isPattern_1 : decode cS_isPattern 1 = .ok (.istore_n 2, 1) := by decide +kernel
theorem dS_isPattern_2 : decode cS_isPattern 2 = .ok (.iload_n 2, 1) := by decide +kernel
theorem dS_isPattern_3 : decode cS_isPattern 3 = .ok (.aload_n 0, 1) := by decide +kernel
theorem dS_isPattern_4 : decode cS_isPattern 4 = .ok (.getfield 25, 3) := by decide +kernel
theorem dS_isPattern_7 : decode cS_isPattern 7 = .ok (.if_icmp .ge 23, 3) := by decide +kernel
theorem dS_isPattern_10 : decode cS_isPattern 10 = .ok (.aload_n 1, 1) := by decide +kernel
theorem dS_isPattern_11 : decode cS_isPattern 11 = .ok (.iload_n 2, 1) := by decide +kernel
theorem dS_isPattern_12 : decode cS_isPattern 12 = .ok (.iaload, 1) := by decide +kernel
theorem dS_isPattern_13 : decode cS_isPattern 13 = .ok (.aload_n 0, 1) := by decide +kernel
theorem dS_isPattern_14 : decode cS_isPattern 14 = .ok (.getfield 19, 3) := by decide +kernel
theorem dS_isPattern_17 : decode cS_isPattern 17 = .ok (.iload_n 2, 1) := by decide +kernel
theorem dS_isPattern_18 : decode cS_isPattern 18 = .ok (.iaload, 1) := by decide +kernel
theorem dS_isPattern_19 : decode cS_isPattern 19 = .ok (.if_icmp .le 5, 3) := by decide +kernel
theorem dS_isPattern_22 : decode cS_isPattern 22 = .ok (.iconst 0, 1) := by decide +kernel
theorem dS_isPattern_23 : decode cS_isPattern 23 = .ok (.ireturn, 1) := by decide +kernel
theorem dS_isPattern_24 : decode cS_isPattern 24 = .ok (.iinc 2 1, 3) := by decide +kernel
theorem dS_isPattern_27 : decode cS_isPattern 27 = .ok (.goto (-25), 3) := by decide +kernel
theorem dS_isPattern_30 : decode cS_isPattern 30 = .ok (.aload_n 0, 1) := by decide +kernel
theorem dS_isPattern_31 : decode cS_isPattern 31 = .ok (.aload_n 1, 1) := by decide +kernel
theorem dS_isPattern_32 : decode cS_isPattern 32 = .ok (.invokevirtual 40, 3) := by decide +kernel
theorem dS_isPattern_35 : decode cS_isPattern 35 = .ok (.aload_n 0, 1) := by decide +kernel
theorem dS_isPattern_36 : decode cS_isPattern 36 = .ok (.getfield 9, 3) := by decide +kernel
theorem dS_isPattern_39 : decode cS_isPattern 39 = .ok (.if_icmp .gt 7, 3) := by decide +kernel
theorem dS_isPattern_42 : decode cS_isPattern 42 = .ok (.iconst 1, 1) := by decide +kernel
theorem dS_isPattern_43 : decode cS_isPattern 43 = .ok (.goto 4, 3) := by decide +kernel
theorem dS_isPattern_46 : decode cS_isPattern 46 = .ok (.iconst 0, 1) := by decide +kernel
theorem dS_isPattern_47 : decode cS_isPattern 47 = .ok (.ireturn, 1) := by decide +kernel
theorem dM_init_0 : decode cM_init 0 = .ok (.aload_n 0, 1) := by decide +kernel
theorem dM_init_1 : decode cM_init 1 = .ok (.invokespecial 1, 3) := by decide +kernel
theorem dM_init_4 : decode cM_init 4 = .ok (.aload_n 0, 1) := by decide +kernel
theorem dM_init_5 : decode cM_init 5 = .ok (.bipush 100, 2) := by decide +kernel
theorem dM_init_7 : decode cM_init 7 = .ok (.putfield 7, 3) := by decide +kernel
theorem dM_init_10 : decode cM_init 10 = .ok (.aload_n 0, 1) := by decide +kernel
theorem dM_init_11 : decode cM_init 11 = .ok (.iconst 5, 1) := by decide +kernel
theorem dM_init_12 : decode cM_init 12 = .ok (.newarray .int, 2) := by decide +kernel
theorem dM_init_14 : decode cM_init 14 = .ok (.putfield 13, 3) := by decide +kernel
theorem dM_init_17 : decode cM_init 17 = .ok (.aload_n 0, 1) := by decide +kernel
theorem dM_init_18 : decode cM_init 18 = .ok (.iconst 5, 1) := by decide +kernel
theorem dM_init_19 : decode cM_init 19 = .ok (.newarray .int, 2) := by decide +kernel
theorem dM_init_21 : decode cM_init 21 = .ok (.putfield 17, 3) := by decide +kernel
theorem dM_init_24 : decode cM_init 24 = .ok (.aload_n 0, 1) := by decide +kernel
theorem dM_init_25 : decode cM_init 25 = .ok (.iconst 5, 1) := by decide +kernel
theorem dM_init_26 : decode cM_init 26 = .ok (.newarray .int, 2) := by decide +kernel
theorem dM_init_28 : decode cM_init 28 = .ok (.putfield 20, 3) := by decide +kernel
theorem dM_init_31 : decode cM_init 31 = .ok (.aload_n 0, 1) := by decide +kernel
theorem dM_init_32 : decode cM_init 32 = .ok (.sipush 160, 3) := by decide +kernel
theorem dM_init_35 : decode cM_init 35 = .ok (.newarray .int, 2) := by decide +kernel
theorem dM_init_37 : decode cM_init 37 = .ok (.putfield 23, 3) := by decide +kernel
theorem dM_init_40 : decode cM_init 40 = .ok (.aload_n 0, 1) := by decide +kernel
theorem dM_init_41 : decode cM_init 41 = .ok (.sipush 160, 3) := by decide +kernel
theorem dM_init_44 : decode cM_init 44 = .ok (.newarray .int, 2) := by decide +kernel
theorem dM_init_46 : decode cM_init 46 = .ok (.putfield 26, 3) := by decide +kernel
theorem dM_init_49 : decode cM_init 49 = .ok (.aload_n 0, 1) := by decide +kernel
theorem dM_init_50 : decode cM_init 50 = .ok (.iconst (-1), 1) := by decide +kernel
theorem dM_init_51 : decode cM_init 51 = .ok (.putfield 29, 3) := by decide +kernel
theorem dM_init_54 : decode cM_init 54 = .ok (.aload_n 0, 1) := by decide +kernel
theorem dM_init_55 : decode cM_init 55 = .ok (.sipush 155, 3) := by decide +kernel
theorem dM_init_58 : decode cM_init 58 = .ok (.newarray .int, 2) := by decide +kernel
theorem dM_init_60 : decode cM_init 60 = .ok (.putfield 32, 3) := by decide +kernel
theorem dM_init_63 : decode cM_init 63 = .ok (.aload_n 0, 1) := by decide +kernel
theorem dM_init_64 : decode cM_init 64 = .ok (.sipush 280, 3) := by decide +kernel
theorem dM_init_67 : decode cM_init 67 = .ok (.newarray .int, 2) := by decide +kernel
theorem dM_init_69 : decode cM_init 69 = .ok (.putfield 35, 3) := by decide +kernel
theorem dM_init_72 : decode cM_init 72 = .ok (.return_, 1) := by decide +kernel
theorem dM_thrown_0 : decode cM_thrown 0 = .ok (.aload_n 0, 1) := by decide +kernel
theorem dM_thrown_1 : decode cM_thrown 1 = .ok (.getfield 38, 3) := by decide +kernel
theorem dM_thrown_4 : decode cM_thrown 4 = .ok (.ireturn, 1) := by decide +kernel
theorem dM_sheet_0 : decode cM_sheet 0 = .ok (.aload_n 0, 1) := by decide +kernel
theorem dM_sheet_1 : decode cM_sheet 1 = .ok (.iload_n 1, 1) := by decide +kernel
theorem dM_sheet_2 : decode cM_sheet 2 = .ok (.iconst 1, 1) := by decide +kernel
theorem dM_sheet_3 : decode cM_sheet 3 = .ok (.sipush 1000, 3) := by decide +kernel
theorem dM_sheet_6 : decode cM_sheet 6 = .ok (.invokestatic 44, 3) := by decide +kernel
theorem dM_sheet_9 : decode cM_sheet 9 = .ok (.ifCond .ne 7, 3) := by decide +kernel
theorem dM_sheet_12 : decode cM_sheet 12 = .ok (.iconst 1, 1) := by decide +kernel
theorem dM_sheet_13 : decode cM_sheet 13 = .ok (.goto 4, 3) := by decide +kernel
theorem dM_sheet_16 : decode cM_sheet 16 = .ok (.iconst 0, 1) := by decide +kernel
theorem dM_sheet_17 : decode cM_sheet 17 = .ok (.iconst 0, 1) := by decide +kernel
theorem dM_sheet_18 : decode cM_sheet 18 = .ok (.iconst 0, 1) := by decide +kernel
theorem dM_sheet_19 : decode cM_sheet 19 = .ok (.iconst 0, 1) := by decide +kernel
theorem dM_sheet_20 : decode cM_sheet 20 = .ok (.invokevirtual 52, 3) := by decide +kernel
theorem dM_sheet_23 : decode cM_sheet 23 = .ok (.ifCond .eq 4, 3) := by decide +kernel
theorem dM_sheet_26 : decode cM_sheet 26 = .ok (.return_, 1) := by decide +kernel
theorem dM_sheet_27 : decode cM_sheet 27 = .ok (.aload_n 0, 1) := by decide +kernel
theorem dM_sheet_28 : decode cM_sheet 28 = .ok (.iload_n 1, 1) := by decide +kernel
theorem dM_sheet_29 : decode cM_sheet 29 = .ok (.putfield 7, 3) := by decide +kernel
theorem dM_sheet_32 : decode cM_sheet 32 = .ok (.aload_n 0, 1) := by decide +kernel
theorem dM_sheet_33 : decode cM_sheet 33 = .ok (.invokevirtual 56, 3) := by decide +kernel
theorem dM_sheet_36 : decode cM_sheet 36 = .ok (.return_, 1) := by decide +kernel
theorem dM_in_0 : decode cM_in 0 = .ok (.iload_n 0, 1) := by decide +kernel
theorem dM_in_1 : decode cM_in 1 = .ok (.iload_n 1, 1) := by decide +kernel
theorem dM_in_2 : decode cM_in 2 = .ok (.if_icmp .lt 12, 3) := by decide +kernel
theorem dM_in_5 : decode cM_in 5 = .ok (.iload_n 0, 1) := by decide +kernel
theorem dM_in_6 : decode cM_in 6 = .ok (.iload_n 2, 1) := by decide +kernel
theorem dM_in_7 : decode cM_in 7 = .ok (.if_icmp .gt 7, 3) := by decide +kernel
theorem dM_in_10 : decode cM_in 10 = .ok (.iconst 1, 1) := by decide +kernel
theorem dM_in_11 : decode cM_in 11 = .ok (.goto 4, 3) := by decide +kernel
theorem dM_in_14 : decode cM_in 14 = .ok (.iconst 0, 1) := by decide +kernel
theorem dM_in_15 : decode cM_in 15 = .ok (.ireturn, 1) := by decide +kernel
theorem dM_throwing_0 : decode cM_throwing 0 = .ok (.aload_n 0, 1) := by decide +kernel
theorem dM_throwing_1 : decode cM_throwing 1 = .ok (.iload_n 1, 1) := by decide +kernel
theorem dM_throwing_2 : decode cM_throwing 2 = .ok (.ifCond .eq 7, 3) := by decide +kernel
theorem dM_throwing_5 : decode cM_throwing 5 = .ok (.iconst 1, 1) := by decide +kernel
theorem dM_throwing_6 : decode cM_throwing 6 = .ok (.goto 29, 3) := by decide +kernel
theorem dM_throwing_9 : decode cM_throwing 9 = .ok (.iload_n 2, 1) := by decide +kernel
theorem dM_throwing_10 : decode cM_throwing 10 = .ok (.ifCond .eq 7, 3) := by decide +kernel
theorem dM_throwing_13 : decode cM_throwing 13 = .ok (.iconst 2, 1) := by decide +kernel
theorem dM_throwing_14 : decode cM_throwing 14 = .ok (.goto 21, 3) := by decide +kernel
theorem dM_throwing_17 : decode cM_throwing 17 = .ok (.iload_n 3, 1) := by decide +kernel
theorem dM_throwing_18 : decode cM_throwing 18 = .ok (.ifCond .eq 7, 3) := by decide +kernel
theorem dM_throwing_21 : decode cM_throwing 21 = .ok (.iconst 3, 1) := by decide +kernel
theorem dM_throwing_22 : decode cM_throwing 22 = .ok (.goto 13, 3) := by decide +kernel
theorem dM_throwing_25 : decode cM_throwing 25 = .ok (.iload 4, 2) := by decide +kernel
theorem dM_throwing_27 : decode cM_throwing 27 = .ok (.ifCond .eq 7, 3) := by decide +kernel
theorem dM_throwing_30 : decode cM_throwing 30 = .ok (.iconst 4, 1) := by decide +kernel
theorem dM_throwing_31 : decode cM_throwing 31 = .ok (.goto 4, 3) := by decide +kernel
theorem dM_throwing_34 : decode cM_throwing 34 = .ok (.iconst 0, 1) := by decide +kernel
theorem dM_throwing_35 : decode cM_throwing 35 = .ok (.putfield 38, 3) := by decide +kernel
theorem dM_throwing_38 : decode cM_throwing 38 = .ok (.aload_n 0, 1) := by decide +kernel
theorem dM_throwing_39 : decode cM_throwing 39 = .ok (.getfield 38, 3) := by decide +kernel
theorem dM_throwing_42 : decode cM_throwing 42 = .ok (.ifCond .le 7, 3) := by decide +kernel
theorem dM_throwing_45 : decode cM_throwing 45 = .ok (.iconst 1, 1) := by decide +kernel
theorem dM_throwing_46 : decode cM_throwing 46 = .ok (.goto 4, 3) := by decide +kernel
theorem dM_throwing_49 : decode cM_throwing 49 = .ok (.iconst 0, 1) := by decide +kernel
theorem dM_throwing_50 : decode cM_throwing 50 = .ok (.ireturn, 1) := by decide +kernel
theorem dM_forget_0 : decode cM_forget 0 = .ok (.aload_n 0, 1) := by decide +kernel
theorem dM_forget_1 : decode cM_forget 1 = .ok (.iconst 0, 1) := by decide +kernel
theorem dM_forget_2 : decode cM_forget 2 = .ok (.putfield 48, 3) := by decide +kernel
theorem dM_forget_5 : decode cM_forget 5 = .ok (.aload_n 0, 1) := by decide +kernel
theorem dM_forget_6 : decode cM_forget 6 = .ok (.iconst (-1), 1) := by decide +kernel
theorem dM_forget_7 : decode cM_forget 7 = .ok (.putfield 29, 3) := by decide +kernel
theorem dM_forget_10 : decode cM_forget 10 = .ok (.return_, 1) := by decide +kernel
theorem dM_order_0 : decode cM_order 0 = .ok (.aload_n 0, 1) := by decide +kernel
theorem dM_order_1 : decode cM_order 1 = .ok (.aload_n 0, 1) := by decide +kernel
theorem dM_order_2 : decode cM_order 2 = .ok (.getfield 41, 3) := by decide +kernel
theorem dM_order_5 : decode cM_order 5 = .ok (.iconst 5, 1) := by decide +kernel
theorem dM_order_6 : decode cM_order 6 = .ok (.if_icmp .ne 7, 3) := by decide +kernel
theorem dM_order_9 : decode cM_order 9 = .ok (.iconst 1, 1) := by decide +kernel
theorem dM_order_10 : decode cM_order 10 = .ok (.goto 4, 3) := by decide +kernel
theorem dM_order_13 : decode cM_order 13 = .ok (.iconst 0, 1) := by decide +kernel
theorem dM_order_14 : decode cM_order 14 = .ok (.iload_n 1, 1) := by decide +kernel
theorem dM_order_15 : decode cM_order 15 = .ok (.iconst 1, 1) := by decide +kernel
theorem dM_order_16 : decode cM_order 16 = .ok (.sipush 1000, 3) := by decide +kernel
theorem dM_order_19 : decode cM_order 19 = .ok (.invokestatic 44, 3) := by decide +kernel
theorem dM_order_22 : decode cM_order 22 = .ok (.ifCond .eq 13, 3) := by decide +kernel
theorem dM_order_25 : decode cM_order 25 = .ok (.iload_n 2, 1) := by decide +kernel
theorem dM_order_26 : decode cM_order 26 = .ok (.iconst 0, 1) := by decide +kernel
theorem dM_order_27 : decode cM_order 27 = .ok (.bipush 6, 2) := by decide +kernel
theorem dM_order_29 : decode cM_order 29 = .ok (.invokestatic 44, 3) := by decide +kernel
theorem dM_order_32 : decode cM_order 32 = .ok (.ifCond .ne 7, 3) := by decide +kernel
theorem dM_order_35 : decode cM_order 35 = .ok (.iconst 1, 1) := by decide +kernel
theorem dM_order_36 : decode cM_order 36 = .ok (.goto 4, 3) := by decide +kernel
theorem dM_order_39 : decode cM_order 39 = .ok (.iconst 0, 1) := by decide +kernel
theorem dM_order_40 : decode cM_order 40 = .ok (.iconst 0, 1) := by decide +kernel
theorem dM_order_41 : decode cM_order 41 = .ok (.iconst 0, 1) := by decide +kernel
theorem dM_order_42 : decode cM_order 42 = .ok (.invokevirtual 52, 3) := by decide +kernel
theorem dM_order_45 : decode cM_order 45 = .ok (.ifCond .eq 5, 3) := by decide +kernel
theorem dM_order_48 : decode cM_order 48 = .ok (.iconst 0, 1) := by decide +kernel
theorem dM_order_49 : decode cM_order 49 = .ok (.ireturn, 1) := by decide +kernel
theorem dM_order_50 : decode cM_order 50 = .ok (.aload_n 0, 1) := by decide +kernel
theorem dM_order_51 : decode cM_order 51 = .ok (.getfield 13, 3) := by decide +kernel
theorem dM_order_54 : decode cM_order 54 = .ok (.aload_n 0, 1) := by decide +kernel
theorem dM_order_55 : decode cM_order 55 = .ok (.getfield 41, 3) := by decide +kernel
theorem dM_order_58 : decode cM_order 58 = .ok (.iload_n 1, 1) := by decide +kernel
theorem dM_order_59 : decode cM_order 59 = .ok (.iastore, 1) := by decide +kernel
theorem dM_order_60 : decode cM_order 60 = .ok (.aload_n 0, 1) := by decide +kernel
theorem dM_order_61 : decode cM_order 61 = .ok (.getfield 17, 3) := by decide +kernel
theorem dM_order_64 : decode cM_order 64 = .ok (.aload_n 0, 1) := by decide +kernel
theorem dM_order_65 : decode cM_order 65 = .ok (.getfield 41, 3) := by decide +kernel
theorem dM_order_68 : decode cM_order 68 = .ok (.iload_n 2, 1) := by decide +kernel
theorem dM_order_69 : decode cM_order 69 = .ok (.iastore, 1) := by decide +kernel
theorem dM_order_70 : decode cM_order 70 = .ok (.aload_n 0, 1) := by decide +kernel
theorem dM_order_71 : decode cM_order 71 = .ok (.getfield 20, 3) := by decide +kernel
theorem dM_order_74 : decode cM_order 74 = .ok (.aload_n 0, 1) := by decide +kernel
theorem dM_order_75 : decode cM_order 75 = .ok (.getfield 41, 3) := by decide +kernel
theorem dM_order_78 : decode cM_order 78 = .ok (.iconst 0, 1) := by decide +kernel
theorem dM_order_79 : decode cM_order 79 = .ok (.iastore, 1) := by decide +kernel
theorem dM_order_80 : decode cM_order 80 = .ok (.aload_n 0, 1) := by decide +kernel
theorem dM_order_81 : decode cM_order 81 = .ok (.dup, 1) := by decide +kernel
theorem dM_order_82 : decode cM_order 82 = .ok (.getfield 41, 3) := by decide +kernel
theorem dM_order_85 : decode cM_order 85 = .ok (.iconst 1, 1) := by decide +kernel
theorem dM_order_86 : decode cM_order 86 = .ok (.iadd, 1) := by decide +kernel
theorem dM_order_87 : decode cM_order 87 = .ok (.putfield 41, 3) := by decide +kernel
theorem dM_order_90 : decode cM_order 90 = .ok (.aload_n 0, 1) := by decide +kernel
theorem dM_order_91 : decode cM_order 91 = .ok (.invokevirtual 56, 3) := by decide +kernel
theorem dM_order_94 : decode cM_order 94 = .ok (.aload_n 0, 1) := by decide +kernel
theorem dM_order_95 : decode cM_order 95 = .ok (.getfield 41, 3) := by decide +kernel
theorem dM_order_98 : decode cM_order 98 = .ok (.iconst 1, 1) := by decide +kernel
theorem dM_order_99 : decode cM_order 99 = .ok (.isub, 1) := by decide +kernel
theorem dM_order_100 : decode cM_order 100 = .ok (.ireturn, 1) := by decide +kernel
theorem dM_pieces_0 : decode cM_pieces 0 = .ok (.aload_n 0, 1) := by decide +kernel
theorem dM_pieces_1 : decode cM_pieces 1 = .ok (.aload_n 0, 1) := by decide +kernel
theorem dM_pieces_2 : decode cM_pieces 2 = .ok (.iload_n 1, 1) := by decide +kernel
theorem dM_pieces_3 : decode cM_pieces 3 = .ok (.invokevirtual 59, 3) := by decide +kernel
theorem dM_pieces_6 : decode cM_pieces 6 = .ok (.ifCond .ne 7, 3) := by decide +kernel
theorem dM_pieces_9 : decode cM_pieces 9 = .ok (.iconst 1, 1) := by decide +kernel
theorem dM_pieces_10 : decode cM_pieces 10 = .ok (.goto 4, 3) := by decide +kernel
theorem dM_pieces_13 : decode cM_pieces 13 = .ok (.iconst 0, 1) := by decide +kernel
theorem dM_pieces_14 : decode cM_pieces 14 = .ok (.iload_n 2, 1) := by decide +kernel
theorem dM_pieces_15 : decode cM_pieces 15 = .ok (.iconst 0, 1) := by decide +kernel
theorem dM_pieces_16 : decode cM_pieces 16 = .ok (.bipush 6, 2) := by decide +kernel
theorem dM_pieces_18 : decode cM_pieces 18 = .ok (.invokestatic 44, 3) := by decide +kernel
theorem dM_pieces_21 : decode cM_pieces 21 = .ok (.ifCond .ne 7, 3) := by decide +kernel
theorem dM_pieces_24 : decode cM_pieces 24 = .ok (.iconst 1, 1) := by decide +kernel
theorem dM_pieces_25 : decode cM_pieces 25 = .ok (.goto 4, 3) := by decide +kernel
theorem dM_pieces_28 : decode cM_pieces 28 = .ok (.iconst 0, 1) := by decide +kernel
theorem dM_pieces_29 : decode cM_pieces 29 = .ok (.iconst 0, 1) := by decide +kernel
theorem dM_pieces_30 : decode cM_pieces 30 = .ok (.iconst 0, 1) := by decide +kernel
theorem dM_pieces_31 : decode cM_pieces 31 = .ok (.invokevirtual 52, 3) := by decide +kernel
theorem dM_pieces_34 : decode cM_pieces 34 = .ok (.ifCond .eq 4, 3) := by decide +kernel
theorem dM_pieces_37 : decode cM_pieces 37 = .ok (.return_, 1) := by decide +kernel
theorem dM_pieces_38 : decode cM_pieces 38 = .ok (.aload_n 0, 1) := by decide +kernel
theorem dM_pieces_39 : decode cM_pieces 39 = .ok (.getfield 17, 3) := by decide +kernel
theorem dM_pieces_42 : decode cM_pieces 42 = .ok (.iload_n 1, 1) := by decide +kernel
theorem dM_pieces_43 : decode cM_pieces 43 = .ok (.iload_n 2, 1) := by decide +kernel
theorem dM_pieces_44 : decode cM_pieces 44 = .ok (.iastore, 1) := by decide +kernel
theorem dM_pieces_45 : decode cM_pieces 45 = .ok (.aload_n 0, 1) := by decide +kernel
theorem dM_pieces_46 : decode cM_pieces 46 = .ok (.invokevirtual 56, 3) := by decide +kernel
theorem dM_pieces_49 : decode cM_pieces 49 = .ok (.return_, 1) := by decide +kernel
theorem dM_isOrder_0 : decode cM_isOrder 0 = .ok (.iload_n 1, 1) := by decide +kernel
theorem dM_isOrder_1 : decode cM_isOrder 1 = .ok (.iconst 0, 1) := by decide +kernel
theorem dM_isOrder_2 : decode cM_isOrder 2 = .ok (.aload_n 0, 1) := by decide +kernel
theorem dM_isOrder_3 : decode cM_isOrder 3 = .ok (.getfield 41, 3) := by decide +kernel
theorem dM_isOrder_6 : decode cM_isOrder 6 = .ok (.iconst 1, 1) := by decide +kernel
theorem dM_isOrder_7 : decode cM_isOrder 7 = .ok (.isub, 1) := by decide +kernel
theorem dM_isOrder_8 : decode cM_isOrder 8 = .ok (.invokestatic 44, 3) := by decide +kernel
theorem dM_isOrder_11 : decode cM_isOrder 11 = .ok (.ireturn, 1) := by decide +kernel
theorem dM_price_0 : decode cM_price 0 = .ok (.aload_n 0, 1) := by decide +kernel
theorem dM_price_1 : decode cM_price 1 = .ok (.aload_n 0, 1) := by decide +kernel
theorem dM_price_2 : decode cM_price 2 = .ok (.iload_n 1, 1) := by decide +kernel
theorem dM_price_3 : decode cM_price 3 = .ok (.invokevirtual 59, 3) := by decide +kernel
theorem dM_price_6 : decode cM_price 6 = .ok (.ifCond .ne 7, 3) := by decide +kernel
theorem dM_price_9 : decode cM_price 9 = .ok (.iconst 1, 1) := by decide +kernel
theorem dM_price_10 : decode cM_price 10 = .ok (.goto 4, 3) := by decide +kernel
theorem dM_price_13 : decode cM_price 13 = .ok (.iconst 0, 1) := by decide +kernel
theorem dM_price_14 : decode cM_price 14 = .ok (.iload_n 2, 1) := by decide +kernel
theorem dM_price_15 : decode cM_price 15 = .ok (.iconst 0, 1) := by decide +kernel
theorem dM_price_16 : decode cM_price 16 = .ok (.sipush 1000, 3) := by decide +kernel
theorem dM_price_19 : decode cM_price 19 = .ok (.invokestatic 44, 3) := by decide +kernel
theorem dM_price_22 : decode cM_price 22 = .ok (.ifCond .ne 7, 3) := by decide +kernel
theorem dM_price_25 : decode cM_price 25 = .ok (.iconst 1, 1) := by decide +kernel
theorem dM_price_26 : decode cM_price 26 = .ok (.goto 4, 3) := by decide +kernel
theorem dM_price_29 : decode cM_price 29 = .ok (.iconst 0, 1) := by decide +kernel
theorem dM_price_30 : decode cM_price 30 = .ok (.iconst 0, 1) := by decide +kernel
theorem dM_price_31 : decode cM_price 31 = .ok (.iconst 0, 1) := by decide +kernel
theorem dM_price_32 : decode cM_price 32 = .ok (.invokevirtual 52, 3) := by decide +kernel
theorem dM_price_35 : decode cM_price 35 = .ok (.ifCond .eq 4, 3) := by decide +kernel
theorem dM_price_38 : decode cM_price 38 = .ok (.return_, 1) := by decide +kernel
theorem dM_price_39 : decode cM_price 39 = .ok (.aload_n 0, 1) := by decide +kernel
theorem dM_price_40 : decode cM_price 40 = .ok (.getfield 20, 3) := by decide +kernel
theorem dM_price_43 : decode cM_price 43 = .ok (.iload_n 1, 1) := by decide +kernel
theorem dM_price_44 : decode cM_price 44 = .ok (.iload_n 2, 1) := by decide +kernel
theorem dM_price_45 : decode cM_price 45 = .ok (.iastore, 1) := by decide +kernel
theorem dM_price_46 : decode cM_price 46 = .ok (.return_, 1) := by decide +kernel
theorem dM_column_0 : decode cM_column 0 = .ok (.aload_n 0, 1) := by decide +kernel
theorem dM_column_1 : decode cM_column 1 = .ok (.iconst 0, 1) := by decide +kernel
theorem dM_column_2 : decode cM_column 2 = .ok (.putfield 38, 3) := by decide +kernel
theorem dM_column_5 : decode cM_column 5 = .ok (.aload_n 0, 1) := by decide +kernel
theorem dM_column_6 : decode cM_column 6 = .ok (.invokevirtual 78, 3) := by decide +kernel
theorem dM_column_9 : decode cM_column 9 = .ok (.ireturn, 1) := by decide +kernel
theorem dM_findColumn_0 : decode cM_findColumn 0 = .ok (.sipush 150, 3) := by decide +kernel
theorem dM_findColumn_3 : decode cM_findColumn 3 = .ok (.istore_n 1, 1) := by decide +kernel
theorem dM_findColumn_4 : decode cM_findColumn 4 = .ok (.iconst 0, 1) := by decide +kernel
theorem dM_findColumn_5 : decode cM_findColumn 5 = .ok (.istore_n 2, 1) := by decide +kernel
theorem dM_findColumn_6 : decode cM_findColumn 6 = .ok (.iload_n 2, 1) := by decide +kernel
theorem dM_findColumn_7 : decode cM_findColumn 7 = .ok (.iconst 5, 1) := by decide +kernel
theorem dM_findColumn_8 : decode cM_findColumn 8 = .ok (.if_icmp .ge 35, 3) := by decide +kernel
theorem dM_findColumn_11 : decode cM_findColumn 11 = .ok (.aload_n 0, 1) := by decide +kernel
theorem dM_findColumn_12 : decode cM_findColumn 12 = .ok (.getfield 23, 3) := by decide +kernel
theorem dM_findColumn_15 : decode cM_findColumn 15 = .ok (.iload_n 1, 1) := by decide +kernel
theorem dM_findColumn_16 : decode cM_findColumn 16 = .ok (.iload_n 2, 1) := by decide +kernel
theorem dM_findColumn_17 : decode cM_findColumn 17 = .ok (.iadd, 1) := by decide +kernel
theorem dM_findColumn_18 : decode cM_findColumn 18 = .ok (.iload_n 2, 1) := by decide +kernel
theorem dM_findColumn_19 : decode cM_findColumn 19 = .ok (.aload_n 0, 1) := by decide +kernel
theorem dM_findColumn_20 : decode cM_findColumn 20 = .ok (.getfield 41, 3) := by decide +kernel
theorem dM_findColumn_23 : decode cM_findColumn 23 = .ok (.if_icmp .ge 12, 3) := by decide +kernel
theorem dM_findColumn_26 : decode cM_findColumn 26 = .ok (.aload_n 0, 1) := by decide +kernel
theorem dM_findColumn_27 : decode cM_findColumn 27 = .ok (.getfield 17, 3) := by decide +kernel
theorem dM_findColumn_30 : decode cM_findColumn 30 = .ok (.iload_n 2, 1) := by decide +kernel
theorem dM_findColumn_31 : decode cM_findColumn 31 = .ok (.iaload, 1) := by decide +kernel
theorem dM_findColumn_32 : decode cM_findColumn 32 = .ok (.goto 4, 3) := by decide +kernel
theorem dM_findColumn_35 : decode cM_findColumn 35 = .ok (.iconst 0, 1) := by decide +kernel
theorem dM_findColumn_36 : decode cM_findColumn 36 = .ok (.iastore, 1) := by decide +kernel
theorem dM_findColumn_37 : decode cM_findColumn 37 = .ok (.iinc 2 1, 3) := by decide +kernel
theorem dM_findColumn_40 : decode cM_findColumn 40 = .ok (.goto (-34), 3) := by decide +kernel
theorem dM_findColumn_43 : decode cM_findColumn 43 = .ok (.aload_n 0, 1) := by decide +kernel
theorem dM_findColumn_44 : decode cM_findColumn 44 = .ok (.iload_n 1, 1) := by decide +kernel
theorem dM_findColumn_45 : decode cM_findColumn 45 = .ok (.iconst 0, 1) := by decide +kernel
theorem dM_findColumn_46 : decode cM_findColumn 46 = .ok (.invokevirtual 67, 3) := by decide +kernel
theorem dM_findColumn_49 : decode cM_findColumn 49 = .ok (.iconst (-1), 1) := by decide +kernel
theorem dM_findColumn_50 : decode cM_findColumn 50 = .ok (.istore_n 2, 1) := by decide +kernel
theorem dM_findColumn_51 : decode cM_findColumn 51 = .ok (.iconst 1, 1) := by decide +kernel
theorem dM_findColumn_52 : decode cM_findColumn 52 = .ok (.istore_n 3, 1) := by decide +kernel
theorem dM_findColumn_53 : decode cM_findColumn 53 = .ok (.iload_n 3, 1) := by decide +kernel
theorem dM_findColumn_54 : decode cM_findColumn 54 = .ok (.ifCond .eq 62, 3) := by decide +kernel
theorem dM_findColumn_57 : decode cM_findColumn 57 = .ok (.aload_n 0, 1) := by decide +kernel
theorem dM_findColumn_58 : decode cM_findColumn 58 = .ok (.iload_n 1, 1) := by decide +kernel
theorem dM_findColumn_59 : decode cM_findColumn 59 = .ok (.invokevirtual 71, 3) := by decide +kernel
theorem dM_findColumn_62 : decode cM_findColumn 62 = .ok (.iload_n 2, 1) := by decide +kernel
theorem dM_findColumn_63 : decode cM_findColumn 63 = .ok (.if_icmp .le 44, 3) := by decide +kernel
theorem dM_findColumn_66 : decode cM_findColumn 66 = .ok (.aload_n 0, 1) := by decide +kernel
theorem dM_findColumn_67 : decode cM_findColumn 67 = .ok (.iload_n 1, 1) := by decide +kernel
theorem dM_findColumn_68 : decode cM_findColumn 68 = .ok (.invokevirtual 71, 3) := by decide +kernel
theorem dM_findColumn_71 : decode cM_findColumn 71 = .ok (.istore_n 2, 1) := by decide +kernel
theorem dM_findColumn_72 : decode cM_findColumn 72 = .ok (.iconst 0, 1) := by decide +kernel
theorem dM_findColumn_73 : decode cM_findColumn 73 = .ok (.istore 4, 2) := by decide +kernel
theorem dM_findColumn_75 : decode cM_findColumn 75 = .ok (.iload 4, 2) := by decide +kernel
theorem dM_findColumn_77 : decode cM_findColumn 77 = .ok (.iconst 5, 1) := by decide +kernel
theorem dM_findColumn_78 : decode cM_findColumn 78 = .ok (.if_icmp .ge 29, 3) := by decide +kernel
theorem dM_findColumn_81 : decode cM_findColumn 81 = .ok (.aload_n 0, 1) := by decide +kernel
theorem dM_findColumn_82 : decode cM_findColumn 82 = .ok (.getfield 26, 3) := by decide +kernel
theorem dM_findColumn_85 : decode cM_findColumn 85 = .ok (.sipush 155, 3) := by decide +kernel
theorem dM_findColumn_88 : decode cM_findColumn 88 = .ok (.iload 4, 2) := by decide +kernel
theorem dM_findColumn_90 : decode cM_findColumn 90 = .ok (.iadd, 1) := by decide +kernel
theorem dM_findColumn_91 : decode cM_findColumn 91 = .ok (.aload_n 0, 1) := by decide +kernel
theorem dM_findColumn_92 : decode cM_findColumn 92 = .ok (.getfield 26, 3) := by decide +kernel
theorem dM_findColumn_95 : decode cM_findColumn 95 = .ok (.iload_n 1, 1) := by decide +kernel
theorem dM_findColumn_96 : decode cM_findColumn 96 = .ok (.iload 4, 2) := by decide +kernel
theorem dM_findColumn_98 : decode cM_findColumn 98 = .ok (.iadd, 1) := by decide +kernel
theorem dM_findColumn_99 : decode cM_findColumn 99 = .ok (.iaload, 1) := by decide +kernel
theorem dM_findColumn_100 : decode cM_findColumn 100 = .ok (.iastore, 1) := by decide +kernel
theorem dM_findColumn_101 : decode cM_findColumn 101 = .ok (.iinc 4 1, 3) := by decide +kernel
theorem dM_findColumn_104 : decode cM_findColumn 104 = .ok (.goto (-29), 3) := by decide +kernel
theorem dM_findColumn_107 : decode cM_findColumn 107 = .ok (.aload_n 0, 1) := by decide +kernel
theorem dM_findColumn_108 : decode cM_findColumn 108 = .ok (.iload_n 1, 1) := by decide +kernel
theorem dM_findColumn_109 : decode cM_findColumn 109 = .ok (.invokevirtual 75, 3) := by decide +kernel
theorem dM_findColumn_112 : decode cM_findColumn 112 = .ok (.istore_n 3, 1) := by decide +kernel
theorem dM_findColumn_113 : decode cM_findColumn 113 = .ok (.goto (-60), 3) := by decide +kernel
theorem dM_findColumn_116 : decode cM_findColumn 116 = .ok (.iload_n 2, 1) := by decide +kernel
theorem dM_findColumn_117 : decode cM_findColumn 117 = .ok (.ireturn, 1) := by decide +kernel
theorem dM_fill_0 : decode cM_fill 0 = .ok (.iload_n 2, 1) := by decide +kernel
theorem dM_fill_1 : decode cM_fill 1 = .ok (.istore_n 3, 1) := by decide +kernel
theorem dM_fill_2 : decode cM_fill 2 = .ok (.iload_n 3, 1) := by decide +kernel
theorem dM_fill_3 : decode cM_fill 3 = .ok (.iconst 5, 1) := by decide +kernel
theorem dM_fill_4 : decode cM_fill 4 = .ok (.if_icmp .ge 82, 3) := by decide +kernel
theorem dM_fill_7 : decode cM_fill 7 = .ok (.iload_n 3, 1) := by decide +kernel
theorem dM_fill_8 : decode cM_fill 8 = .ok (.aload_n 0, 1) := by decide +kernel
theorem dM_fill_9 : decode cM_fill 9 = .ok (.getfield 41, 3) := by decide +kernel
theorem dM_fill_12 : decode cM_fill 12 = .ok (.if_icmp .ge 19, 3) := by decide +kernel
theorem dM_fill_15 : decode cM_fill 15 = .ok (.aload_n 0, 1) := by decide +kernel
theorem dM_fill_16 : decode cM_fill 16 = .ok (.iload_n 1, 1) := by decide +kernel
theorem dM_fill_17 : decode cM_fill 17 = .ok (.iload_n 3, 1) := by decide +kernel
theorem dM_fill_18 : decode cM_fill 18 = .ok (.invokevirtual 63, 3) := by decide +kernel
theorem dM_fill_21 : decode cM_fill 21 = .ok (.aload_n 0, 1) := by decide +kernel
theorem dM_fill_22 : decode cM_fill 22 = .ok (.getfield 13, 3) := by decide +kernel
theorem dM_fill_25 : decode cM_fill 25 = .ok (.iload_n 3, 1) := by decide +kernel
theorem dM_fill_26 : decode cM_fill 26 = .ok (.iaload, 1) := by decide +kernel
theorem dM_fill_27 : decode cM_fill 27 = .ok (.idiv, 1) := by decide +kernel
theorem dM_fill_28 : decode cM_fill 28 = .ok (.goto 4, 3) := by decide +kernel
theorem dM_fill_31 : decode cM_fill 31 = .ok (.iconst 0, 1) := by decide +kernel
theorem dM_fill_32 : decode cM_fill 32 = .ok (.istore 4, 2) := by decide +kernel
theorem dM_fill_34 : decode cM_fill 34 = .ok (.aload_n 0, 1) := by decide +kernel
theorem dM_fill_35 : decode cM_fill 35 = .ok (.getfield 26, 3) := by decide +kernel
theorem dM_fill_38 : decode cM_fill 38 = .ok (.iload_n 1, 1) := by decide +kernel
theorem dM_fill_39 : decode cM_fill 39 = .ok (.iload_n 3, 1) := by decide +kernel
theorem dM_fill_40 : decode cM_fill 40 = .ok (.iadd, 1) := by decide +kernel
theorem dM_fill_41 : decode cM_fill 41 = .ok (.iload_n 3, 1) := by decide +kernel
theorem dM_fill_42 : decode cM_fill 42 = .ok (.aload_n 0, 1) := by decide +kernel
theorem dM_fill_43 : decode cM_fill 43 = .ok (.getfield 41, 3) := by decide +kernel
theorem dM_fill_46 : decode cM_fill 46 = .ok (.if_icmp .ge 32, 3) := by decide +kernel
theorem dM_fill_49 : decode cM_fill 49 = .ok (.iload 4, 2) := by decide +kernel
theorem dM_fill_51 : decode cM_fill 51 = .ok (.aload_n 0, 1) := by decide +kernel
theorem dM_fill_52 : decode cM_fill 52 = .ok (.getfield 23, 3) := by decide +kernel
theorem dM_fill_55 : decode cM_fill 55 = .ok (.iload_n 1, 1) := by decide +kernel
theorem dM_fill_56 : decode cM_fill 56 = .ok (.iload_n 3, 1) := by decide +kernel
theorem dM_fill_57 : decode cM_fill 57 = .ok (.iadd, 1) := by decide +kernel
theorem dM_fill_58 : decode cM_fill 58 = .ok (.iaload, 1) := by decide +kernel
theorem dM_fill_59 : decode cM_fill 59 = .ok (.if_icmp .ge 8, 3) := by decide +kernel
theorem dM_fill_62 : decode cM_fill 62 = .ok (.iload 4, 2) := by decide +kernel
theorem dM_fill_64 : decode cM_fill 64 = .ok (.goto 15, 3) := by decide +kernel
theorem dM_fill_67 : decode cM_fill 67 = .ok (.aload_n 0, 1) := by decide +kernel
theorem dM_fill_68 : decode cM_fill 68 = .ok (.getfield 23, 3) := by decide +kernel
theorem dM_fill_71 : decode cM_fill 71 = .ok (.iload_n 1, 1) := by decide +kernel
theorem dM_fill_72 : decode cM_fill 72 = .ok (.iload_n 3, 1) := by decide +kernel
theorem dM_fill_73 : decode cM_fill 73 = .ok (.iadd, 1) := by decide +kernel
theorem dM_fill_74 : decode cM_fill 74 = .ok (.iaload, 1) := by decide +kernel
theorem dM_fill_75 : decode cM_fill 75 = .ok (.goto 4, 3) := by decide +kernel
theorem dM_fill_78 : decode cM_fill 78 = .ok (.iconst 0, 1) := by decide +kernel
theorem dM_fill_79 : decode cM_fill 79 = .ok (.iastore, 1) := by decide +kernel
theorem dM_fill_80 : decode cM_fill 80 = .ok (.iinc 3 1, 3) := by decide +kernel
theorem dM_fill_83 : decode cM_fill 83 = .ok (.goto (-81), 3) := by decide +kernel
theorem dM_fill_86 : decode cM_fill 86 = .ok (.return_, 1) := by decide +kernel
end
section
theorem dM_roomAt_0 : decode cM_roomAt 0 = .ok (.aload_n 0, 1) := by decide +kernel
theorem dM_roomAt_1 : decode cM_roomAt 1 = .ok (.getfield 7, 3) := by decide +kernel
theorem dM_roomAt_4 : decode cM_roomAt 4 = .ok (.istore_n 3, 1) := by decide +kernel
theorem dM_roomAt_5 : decode cM_roomAt 5 = .ok (.iconst 0, 1) := by decide +kernel
theorem dM_roomAt_6 : decode cM_roomAt 6 = .ok (.istore 4, 2) := by decide +kernel
theorem dM_roomAt_8 : decode cM_roomAt 8 = .ok (.iload 4, 2) := by decide +kernel
theorem dM_roomAt_10 : decode cM_roomAt 10 = .ok (.iload_n 2, 1) := by decide +kernel
theorem dM_roomAt_11 : decode cM_roomAt 11 = .ok (.if_icmp .ge 29, 3) := by decide +kernel
theorem dM_roomAt_14 : decode cM_roomAt 14 = .ok (.iload_n 3, 1) := by decide +kernel
theorem dM_roomAt_15 : decode cM_roomAt 15 = .ok (.aload_n 0, 1) := by decide +kernel
theorem dM_roomAt_16 : decode cM_roomAt 16 = .ok (.getfield 26, 3) := by decide +kernel
theorem dM_roomAt_19 : decode cM_roomAt 19 = .ok (.iload_n 1, 1) := by decide +kernel
theorem dM_roomAt_20 : decode cM_roomAt 20 = .ok (.iload 4, 2) := by decide +kernel
theorem dM_roomAt_22 : decode cM_roomAt 22 = .ok (.iadd, 1) := by decide +kernel
theorem dM_roomAt_23 : decode cM_roomAt 23 = .ok (.iaload, 1) := by decide +kernel
theorem dM_roomAt_24 : decode cM_roomAt 24 = .ok (.aload_n 0, 1) := by decide +kernel
theorem dM_roomAt_25 : decode cM_roomAt 25 = .ok (.getfield 13, 3) := by decide +kernel
theorem dM_roomAt_28 : decode cM_roomAt 28 = .ok (.iload 4, 2) := by decide +kernel
theorem dM_roomAt_30 : decode cM_roomAt 30 = .ok (.iaload, 1) := by decide +kernel
theorem dM_roomAt_31 : decode cM_roomAt 31 = .ok (.imul, 1) := by decide +kernel
theorem dM_roomAt_32 : decode cM_roomAt 32 = .ok (.isub, 1) := by decide +kernel
theorem dM_roomAt_33 : decode cM_roomAt 33 = .ok (.istore_n 3, 1) := by decide +kernel
theorem dM_roomAt_34 : decode cM_roomAt 34 = .ok (.iinc 4 1, 3) := by decide +kernel
theorem dM_roomAt_37 : decode cM_roomAt 37 = .ok (.goto (-29), 3) := by decide +kernel
theorem dM_roomAt_40 : decode cM_roomAt 40 = .ok (.iload_n 3, 1) := by decide +kernel
theorem dM_roomAt_41 : decode cM_roomAt 41 = .ok (.ireturn, 1) := by decide +kernel
theorem dM_sumAt_0 : decode cM_sumAt 0 = .ok (.iconst 0, 1) := by decide +kernel
theorem dM_sumAt_1 : decode cM_sumAt 1 = .ok (.istore_n 2, 1) := by decide +kernel
theorem dM_sumAt_2 : decode cM_sumAt 2 = .ok (.iconst 0, 1) := by decide +kernel
theorem dM_sumAt_3 : decode cM_sumAt 3 = .ok (.istore_n 3, 1) := by decide +kernel
theorem dM_sumAt_4 : decode cM_sumAt 4 = .ok (.iload_n 3, 1) := by decide +kernel
theorem dM_sumAt_5 : decode cM_sumAt 5 = .ok (.aload_n 0, 1) := by decide +kernel
theorem dM_sumAt_6 : decode cM_sumAt 6 = .ok (.getfield 41, 3) := by decide +kernel
theorem dM_sumAt_9 : decode cM_sumAt 9 = .ok (.if_icmp .ge 27, 3) := by decide +kernel
theorem dM_sumAt_12 : decode cM_sumAt 12 = .ok (.iload_n 2, 1) := by decide +kernel
theorem dM_sumAt_13 : decode cM_sumAt 13 = .ok (.aload_n 0, 1) := by decide +kernel
theorem dM_sumAt_14 : decode cM_sumAt 14 = .ok (.getfield 26, 3) := by decide +kernel
theorem dM_sumAt_17 : decode cM_sumAt 17 = .ok (.iload_n 1, 1) := by decide +kernel
theorem dM_sumAt_18 : decode cM_sumAt 18 = .ok (.iload_n 3, 1) := by decide +kernel
theorem dM_sumAt_19 : decode cM_sumAt 19 = .ok (.iadd, 1) := by decide +kernel
theorem dM_sumAt_20 : decode cM_sumAt 20 = .ok (.iaload, 1) := by decide +kernel
theorem dM_sumAt_21 : decode cM_sumAt 21 = .ok (.aload_n 0, 1) := by decide +kernel
theorem dM_sumAt_22 : decode cM_sumAt 22 = .ok (.getfield 20, 3) := by decide +kernel
theorem dM_sumAt_25 : decode cM_sumAt 25 = .ok (.iload_n 3, 1) := by decide +kernel
theorem dM_sumAt_26 : decode cM_sumAt 26 = .ok (.iaload, 1) := by decide +kernel
theorem dM_sumAt_27 : decode cM_sumAt 27 = .ok (.imul, 1) := by decide +kernel
theorem dM_sumAt_28 : decode cM_sumAt 28 = .ok (.iadd, 1) := by decide +kernel
theorem dM_sumAt_29 : decode cM_sumAt 29 = .ok (.istore_n 2, 1) := by decide +kernel
theorem dM_sumAt_30 : decode cM_sumAt 30 = .ok (.iinc 3 1, 3) := by decide +kernel
theorem dM_sumAt_33 : decode cM_sumAt 33 = .ok (.goto (-29), 3) := by decide +kernel
theorem dM_sumAt_36 : decode cM_sumAt 36 = .ok (.iload_n 2, 1) := by decide +kernel
theorem dM_sumAt_37 : decode cM_sumAt 37 = .ok (.ireturn, 1) := by decide +kernel
theorem dM_goesDown_0 : decode cM_goesDown 0 = .ok (.iconst 4, 1) := by decide +kernel
theorem dM_goesDown_1 : decode cM_goesDown 1 = .ok (.istore_n 2, 1) := by decide +kernel
theorem dM_goesDown_2 : decode cM_goesDown 2 = .ok (.iload_n 2, 1) := by decide +kernel
theorem dM_goesDown_3 : decode cM_goesDown 3 = .ok (.ifCond .lt 20, 3) := by decide +kernel
theorem dM_goesDown_6 : decode cM_goesDown 6 = .ok (.aload_n 0, 1) := by decide +kernel
theorem dM_goesDown_7 : decode cM_goesDown 7 = .ok (.getfield 26, 3) := by decide +kernel
theorem dM_goesDown_10 : decode cM_goesDown 10 = .ok (.iload_n 1, 1) := by decide +kernel
theorem dM_goesDown_11 : decode cM_goesDown 11 = .ok (.iload_n 2, 1) := by decide +kernel
theorem dM_goesDown_12 : decode cM_goesDown 12 = .ok (.iadd, 1) := by decide +kernel
theorem dM_goesDown_13 : decode cM_goesDown 13 = .ok (.iaload, 1) := by decide +kernel
theorem dM_goesDown_14 : decode cM_goesDown 14 = .ok (.ifCond .ne 9, 3) := by decide +kernel
theorem dM_goesDown_17 : decode cM_goesDown 17 = .ok (.iinc 2 (-1), 3) := by decide +kernel
theorem dM_goesDown_20 : decode cM_goesDown 20 = .ok (.goto (-18), 3) := by decide +kernel
theorem dM_goesDown_23 : decode cM_goesDown 23 = .ok (.iload_n 2, 1) := by decide +kernel
theorem dM_goesDown_24 : decode cM_goesDown 24 = .ok (.ifCond .ge 5, 3) := by decide +kernel
theorem dM_goesDown_27 : decode cM_goesDown 27 = .ok (.iconst 0, 1) := by decide +kernel
theorem dM_goesDown_28 : decode cM_goesDown 28 = .ok (.ireturn, 1) := by decide +kernel
theorem dM_goesDown_29 : decode cM_goesDown 29 = .ok (.aload_n 0, 1) := by decide +kernel
theorem dM_goesDown_30 : decode cM_goesDown 30 = .ok (.getfield 26, 3) := by decide +kernel
theorem dM_goesDown_33 : decode cM_goesDown 33 = .ok (.iload_n 1, 1) := by decide +kernel
theorem dM_goesDown_34 : decode cM_goesDown 34 = .ok (.iload_n 2, 1) := by decide +kernel
theorem dM_goesDown_35 : decode cM_goesDown 35 = .ok (.iadd, 1) := by decide +kernel
theorem dM_goesDown_36 : decode cM_goesDown 36 = .ok (.dup2, 1) := by decide +kernel
theorem dM_goesDown_37 : decode cM_goesDown 37 = .ok (.iaload, 1) := by decide +kernel
theorem dM_goesDown_38 : decode cM_goesDown 38 = .ok (.iconst 1, 1) := by decide +kernel
theorem dM_goesDown_39 : decode cM_goesDown 39 = .ok (.isub, 1) := by decide +kernel
theorem dM_goesDown_40 : decode cM_goesDown 40 = .ok (.iastore, 1) := by decide +kernel
theorem dM_goesDown_41 : decode cM_goesDown 41 = .ok (.aload_n 0, 1) := by decide +kernel
theorem dM_goesDown_42 : decode cM_goesDown 42 = .ok (.iload_n 1, 1) := by decide +kernel
theorem dM_goesDown_43 : decode cM_goesDown 43 = .ok (.iload_n 2, 1) := by decide +kernel
theorem dM_goesDown_44 : decode cM_goesDown 44 = .ok (.iconst 1, 1) := by decide +kernel
theorem dM_goesDown_45 : decode cM_goesDown 45 = .ok (.iadd, 1) := by decide +kernel
theorem dM_goesDown_46 : decode cM_goesDown 46 = .ok (.invokevirtual 67, 3) := by decide +kernel
theorem dM_goesDown_49 : decode cM_goesDown 49 = .ok (.iconst 1, 1) := by decide +kernel
theorem dM_goesDown_50 : decode cM_goesDown 50 = .ok (.ireturn, 1) := by decide +kernel
theorem dM_columnOf_0 : decode cM_columnOf 0 = .ok (.aload_n 0, 1) := by decide +kernel
theorem dM_columnOf_1 : decode cM_columnOf 1 = .ok (.aload_n 0, 1) := by decide +kernel
theorem dM_columnOf_2 : decode cM_columnOf 2 = .ok (.iload_n 1, 1) := by decide +kernel
theorem dM_columnOf_3 : decode cM_columnOf 3 = .ok (.invokevirtual 59, 3) := by decide +kernel
theorem dM_columnOf_6 : decode cM_columnOf 6 = .ok (.ifCond .ne 7, 3) := by decide +kernel
theorem dM_columnOf_9 : decode cM_columnOf 9 = .ok (.iconst 1, 1) := by decide +kernel
theorem dM_columnOf_10 : decode cM_columnOf 10 = .ok (.goto 4, 3) := by decide +kernel
theorem dM_columnOf_13 : decode cM_columnOf 13 = .ok (.iconst 0, 1) := by decide +kernel
theorem dM_columnOf_14 : decode cM_columnOf 14 = .ok (.iconst 0, 1) := by decide +kernel
theorem dM_columnOf_15 : decode cM_columnOf 15 = .ok (.iconst 0, 1) := by decide +kernel
theorem dM_columnOf_16 : decode cM_columnOf 16 = .ok (.iconst 0, 1) := by decide +kernel
theorem dM_columnOf_17 : decode cM_columnOf 17 = .ok (.invokevirtual 52, 3) := by decide +kernel
theorem dM_columnOf_20 : decode cM_columnOf 20 = .ok (.ifCond .eq 5, 3) := by decide +kernel
theorem dM_columnOf_23 : decode cM_columnOf 23 = .ok (.iconst 0, 1) := by decide +kernel
theorem dM_columnOf_24 : decode cM_columnOf 24 = .ok (.ireturn, 1) := by decide +kernel
theorem dM_columnOf_25 : decode cM_columnOf 25 = .ok (.aload_n 0, 1) := by decide +kernel
theorem dM_columnOf_26 : decode cM_columnOf 26 = .ok (.invokevirtual 78, 3) := by decide +kernel
theorem dM_columnOf_29 : decode cM_columnOf 29 = .ok (.pop, 1) := by decide +kernel
theorem dM_columnOf_30 : decode cM_columnOf 30 = .ok (.aload_n 0, 1) := by decide +kernel
theorem dM_columnOf_31 : decode cM_columnOf 31 = .ok (.getfield 26, 3) := by decide +kernel
theorem dM_columnOf_34 : decode cM_columnOf 34 = .ok (.sipush 155, 3) := by decide +kernel
theorem dM_columnOf_37 : decode cM_columnOf 37 = .ok (.iload_n 1, 1) := by decide +kernel
theorem dM_columnOf_38 : decode cM_columnOf 38 = .ok (.iadd, 1) := by decide +kernel
theorem dM_columnOf_39 : decode cM_columnOf 39 = .ok (.iaload, 1) := by decide +kernel
theorem dM_columnOf_40 : decode cM_columnOf 40 = .ok (.ireturn, 1) := by decide +kernel
theorem dM_bound_0 : decode cM_bound 0 = .ok (.aload_n 0, 1) := by decide +kernel
theorem dM_bound_1 : decode cM_bound 1 = .ok (.iconst 0, 1) := by decide +kernel
theorem dM_bound_2 : decode cM_bound 2 = .ok (.putfield 38, 3) := by decide +kernel
theorem dM_bound_5 : decode cM_bound 5 = .ok (.aload_n 0, 1) := by decide +kernel
theorem dM_bound_6 : decode cM_bound 6 = .ok (.invokevirtual 82, 3) := by decide +kernel
theorem dM_bound_9 : decode cM_bound 9 = .ok (.ireturn, 1) := by decide +kernel
theorem dM_boundNow_0 : decode cM_boundNow 0 = .ok (.aload_n 0, 1) := by decide +kernel
theorem dM_boundNow_1 : decode cM_boundNow 1 = .ok (.invokevirtual 78, 3) := by decide +kernel
theorem dM_boundNow_4 : decode cM_boundNow 4 = .ok (.istore_n 1, 1) := by decide +kernel
theorem dM_boundNow_5 : decode cM_boundNow 5 = .ok (.iconst 0, 1) := by decide +kernel
theorem dM_boundNow_6 : decode cM_boundNow 6 = .ok (.istore_n 2, 1) := by decide +kernel
theorem dM_boundNow_7 : decode cM_boundNow 7 = .ok (.iconst 0, 1) := by decide +kernel
theorem dM_boundNow_8 : decode cM_boundNow 8 = .ok (.istore_n 3, 1) := by decide +kernel
theorem dM_boundNow_9 : decode cM_boundNow 9 = .ok (.iload_n 3, 1) := by decide +kernel
theorem dM_boundNow_10 : decode cM_boundNow 10 = .ok (.aload_n 0, 1) := by decide +kernel
theorem dM_boundNow_11 : decode cM_boundNow 11 = .ok (.getfield 41, 3) := by decide +kernel
theorem dM_boundNow_14 : decode cM_boundNow 14 = .ok (.if_icmp .ge 25, 3) := by decide +kernel
theorem dM_boundNow_17 : decode cM_boundNow 17 = .ok (.iload_n 2, 1) := by decide +kernel
theorem dM_boundNow_18 : decode cM_boundNow 18 = .ok (.aload_n 0, 1) := by decide +kernel
theorem dM_boundNow_19 : decode cM_boundNow 19 = .ok (.getfield 17, 3) := by decide +kernel
theorem dM_boundNow_22 : decode cM_boundNow 22 = .ok (.iload_n 3, 1) := by decide +kernel
theorem dM_boundNow_23 : decode cM_boundNow 23 = .ok (.iaload, 1) := by decide +kernel
theorem dM_boundNow_24 : decode cM_boundNow 24 = .ok (.aload_n 0, 1) := by decide +kernel
theorem dM_boundNow_25 : decode cM_boundNow 25 = .ok (.getfield 20, 3) := by decide +kernel
theorem dM_boundNow_28 : decode cM_boundNow 28 = .ok (.iload_n 3, 1) := by decide +kernel
theorem dM_boundNow_29 : decode cM_boundNow 29 = .ok (.iaload, 1) := by decide +kernel
theorem dM_boundNow_30 : decode cM_boundNow 30 = .ok (.imul, 1) := by decide +kernel
theorem dM_boundNow_31 : decode cM_boundNow 31 = .ok (.iadd, 1) := by decide +kernel
theorem dM_boundNow_32 : decode cM_boundNow 32 = .ok (.istore_n 2, 1) := by decide +kernel
theorem dM_boundNow_33 : decode cM_boundNow 33 = .ok (.iinc 3 1, 3) := by decide +kernel
theorem dM_boundNow_36 : decode cM_boundNow 36 = .ok (.goto (-27), 3) := by decide +kernel
theorem dM_boundNow_39 : decode cM_boundNow 39 = .ok (.iload_n 1, 1) := by decide +kernel
theorem dM_boundNow_40 : decode cM_boundNow 40 = .ok (.ifCond .ne 7, 3) := by decide +kernel
theorem dM_boundNow_43 : decode cM_boundNow 43 = .ok (.iconst 0, 1) := by decide +kernel
theorem dM_boundNow_44 : decode cM_boundNow 44 = .ok (.goto 10, 3) := by decide +kernel
theorem dM_boundNow_47 : decode cM_boundNow 47 = .ok (.iload_n 2, 1) := by decide +kernel
theorem dM_boundNow_48 : decode cM_boundNow 48 = .ok (.iload_n 1, 1) := by decide +kernel
theorem dM_boundNow_49 : decode cM_boundNow 49 = .ok (.iadd, 1) := by decide +kernel
theorem dM_boundNow_50 : decode cM_boundNow 50 = .ok (.iconst 1, 1) := by decide +kernel
theorem dM_boundNow_51 : decode cM_boundNow 51 = .ok (.isub, 1) := by decide +kernel
theorem dM_boundNow_52 : decode cM_boundNow 52 = .ok (.iload_n 1, 1) := by decide +kernel
theorem dM_boundNow_53 : decode cM_boundNow 53 = .ok (.idiv, 1) := by decide +kernel
theorem dM_boundNow_54 : decode cM_boundNow 54 = .ok (.ireturn, 1) := by decide +kernel
theorem dM_design_0 : decode cM_design 0 = .ok (.iconst 0, 1) := by decide +kernel
theorem dM_design_1 : decode cM_design 1 = .ok (.istore_n 2, 1) := by decide +kernel
theorem dM_design_2 : decode cM_design 2 = .ok (.iconst 0, 1) := by decide +kernel
theorem dM_design_3 : decode cM_design 3 = .ok (.istore_n 3, 1) := by decide +kernel
theorem dM_design_4 : decode cM_design 4 = .ok (.iload_n 3, 1) := by decide +kernel
theorem dM_design_5 : decode cM_design 5 = .ok (.aload_n 0, 1) := by decide +kernel
theorem dM_design_6 : decode cM_design 6 = .ok (.getfield 41, 3) := by decide +kernel
theorem dM_design_9 : decode cM_design 9 = .ok (.if_icmp .ge 41, 3) := by decide +kernel
theorem dM_design_12 : decode cM_design 12 = .ok (.iload_n 2, 1) := by decide +kernel
theorem dM_design_13 : decode cM_design 13 = .ok (.ifCond .ne 25, 3) := by decide +kernel
theorem dM_design_16 : decode cM_design 16 = .ok (.aload_n 0, 1) := by decide +kernel
theorem dM_design_17 : decode cM_design 17 = .ok (.getfield 17, 3) := by decide +kernel
theorem dM_design_20 : decode cM_design 20 = .ok (.iload_n 3, 1) := by decide +kernel
theorem dM_design_21 : decode cM_design 21 = .ok (.iaload, 1) := by decide +kernel
theorem dM_design_22 : decode cM_design 22 = .ok (.ifCond .le 20, 3) := by decide +kernel
theorem dM_design_25 : decode cM_design 25 = .ok (.aload_n 0, 1) := by decide +kernel
theorem dM_design_26 : decode cM_design 26 = .ok (.getfield 13, 3) := by decide +kernel
theorem dM_design_29 : decode cM_design 29 = .ok (.iload_n 3, 1) := by decide +kernel
theorem dM_design_30 : decode cM_design 30 = .ok (.iaload, 1) := by decide +kernel
theorem dM_design_31 : decode cM_design 31 = .ok (.aload_n 0, 1) := by decide +kernel
theorem dM_design_32 : decode cM_design 32 = .ok (.getfield 7, 3) := by decide +kernel
theorem dM_design_35 : decode cM_design 35 = .ok (.if_icmp .le 7, 3) := by decide +kernel
theorem dM_design_38 : decode cM_design 38 = .ok (.iconst 1, 1) := by decide +kernel
theorem dM_design_39 : decode cM_design 39 = .ok (.goto 4, 3) := by decide +kernel
theorem dM_design_42 : decode cM_design 42 = .ok (.iconst 0, 1) := by decide +kernel
theorem dM_design_43 : decode cM_design 43 = .ok (.istore_n 2, 1) := by decide +kernel
theorem dM_design_44 : decode cM_design 44 = .ok (.iinc 3 1, 3) := by decide +kernel
theorem dM_design_47 : decode cM_design 47 = .ok (.goto (-43), 3) := by decide +kernel
theorem dM_design_50 : decode cM_design 50 = .ok (.aload_n 0, 1) := by decide +kernel
theorem dM_design_51 : decode cM_design 51 = .ok (.iload_n 1, 1) := by decide +kernel
theorem dM_design_52 : decode cM_design 52 = .ok (.iconst 0, 1) := by decide +kernel
theorem dM_design_53 : decode cM_design 53 = .ok (.ldc 103, 2) := by decide +kernel
theorem dM_design_55 : decode cM_design 55 = .ok (.invokestatic 44, 3) := by decide +kernel
theorem dM_design_58 : decode cM_design 58 = .ok (.ifCond .ne 7, 3) := by decide +kernel
theorem dM_design_61 : decode cM_design 61 = .ok (.iconst 1, 1) := by decide +kernel
theorem dM_design_62 : decode cM_design 62 = .ok (.goto 4, 3) := by decide +kernel
theorem dM_design_65 : decode cM_design 65 = .ok (.iconst 0, 1) := by decide +kernel
theorem dM_design_66 : decode cM_design 66 = .ok (.iload_n 2, 1) := by decide +kernel
theorem dM_design_67 : decode cM_design 67 = .ok (.iconst 0, 1) := by decide +kernel
theorem dM_design_68 : decode cM_design 68 = .ok (.iconst 0, 1) := by decide +kernel
theorem dM_design_69 : decode cM_design 69 = .ok (.invokevirtual 52, 3) := by decide +kernel
theorem dM_design_72 : decode cM_design 72 = .ok (.ifCond .eq 5, 3) := by decide +kernel
theorem dM_design_75 : decode cM_design 75 = .ok (.iconst 0, 1) := by decide +kernel
theorem dM_design_76 : decode cM_design 76 = .ok (.ireturn, 1) := by decide +kernel
theorem dM_design_77 : decode cM_design 77 = .ok (.aload_n 0, 1) := by decide +kernel
theorem dM_design_78 : decode cM_design 78 = .ok (.iconst 1, 1) := by decide +kernel
theorem dM_design_79 : decode cM_design 79 = .ok (.putfield 48, 3) := by decide +kernel
theorem dM_design_82 : decode cM_design 82 = .ok (.aload_n 0, 1) := by decide +kernel
theorem dM_design_83 : decode cM_design 83 = .ok (.iconst 0, 1) := by decide +kernel
theorem dM_design_84 : decode cM_design 84 = .ok (.putfield 100, 3) := by decide +kernel
theorem dM_design_87 : decode cM_design 87 = .ok (.aload_n 0, 1) := by decide +kernel
theorem dM_design_88 : decode cM_design 88 = .ok (.iconst 0, 1) := by decide +kernel
theorem dM_design_89 : decode cM_design 89 = .ok (.putfield 97, 3) := by decide +kernel
theorem dM_design_92 : decode cM_design 92 = .ok (.aload_n 0, 1) := by decide +kernel
theorem dM_design_93 : decode cM_design 93 = .ok (.iconst (-1), 1) := by decide +kernel
theorem dM_design_94 : decode cM_design 94 = .ok (.putfield 29, 3) := by decide +kernel
theorem dM_design_97 : decode cM_design 97 = .ok (.iconst 0, 1) := by decide +kernel
theorem dM_design_98 : decode cM_design 98 = .ok (.istore_n 3, 1) := by decide +kernel
theorem dM_design_99 : decode cM_design 99 = .ok (.iload_n 3, 1) := by decide +kernel
theorem dM_design_100 : decode cM_design 100 = .ok (.iconst 5, 1) := by decide +kernel
theorem dM_design_101 : decode cM_design 101 = .ok (.if_icmp .ge 33, 3) := by decide +kernel
theorem dM_design_104 : decode cM_design 104 = .ok (.aload_n 0, 1) := by decide +kernel
theorem dM_design_105 : decode cM_design 105 = .ok (.getfield 23, 3) := by decide +kernel
theorem dM_design_108 : decode cM_design 108 = .ok (.iload_n 3, 1) := by decide +kernel
theorem dM_design_109 : decode cM_design 109 = .ok (.iload_n 3, 1) := by decide +kernel
theorem dM_design_110 : decode cM_design 110 = .ok (.aload_n 0, 1) := by decide +kernel
theorem dM_design_111 : decode cM_design 111 = .ok (.getfield 41, 3) := by decide +kernel
theorem dM_design_114 : decode cM_design 114 = .ok (.if_icmp .ge 12, 3) := by decide +kernel
theorem dM_design_117 : decode cM_design 117 = .ok (.aload_n 0, 1) := by decide +kernel
theorem dM_design_118 : decode cM_design 118 = .ok (.getfield 17, 3) := by decide +kernel
theorem dM_design_121 : decode cM_design 121 = .ok (.iload_n 3, 1) := by decide +kernel
theorem dM_design_122 : decode cM_design 122 = .ok (.iaload, 1) := by decide +kernel
theorem dM_design_123 : decode cM_design 123 = .ok (.goto 4, 3) := by decide +kernel
theorem dM_design_126 : decode cM_design 126 = .ok (.iconst 0, 1) := by decide +kernel
theorem dM_design_127 : decode cM_design 127 = .ok (.iastore, 1) := by decide +kernel
theorem dM_design_128 : decode cM_design 128 = .ok (.iinc 3 1, 3) := by decide +kernel
theorem dM_design_131 : decode cM_design 131 = .ok (.goto (-32), 3) := by decide +kernel
theorem dM_design_134 : decode cM_design 134 = .ok (.aload_n 0, 1) := by decide +kernel
theorem dM_design_135 : decode cM_design 135 = .ok (.iload_n 1, 1) := by decide +kernel
theorem dM_design_136 : decode cM_design 136 = .ok (.invokevirtual 104, 3) := by decide +kernel
theorem dM_design_139 : decode cM_design 139 = .ok (.aload_n 0, 1) := by decide +kernel
theorem dM_design_140 : decode cM_design 140 = .ok (.getfield 29, 3) := by decide +kernel
theorem dM_design_143 : decode cM_design 143 = .ok (.ireturn, 1) := by decide +kernel
theorem dM_search_0 : decode cM_search 0 = .ok (.iconst 0, 1) := by decide +kernel
theorem dM_search_1 : decode cM_search 1 = .ok (.istore_n 2, 1) := by decide +kernel
theorem dM_search_2 : decode cM_search 2 = .ok (.iconst 1, 1) := by decide +kernel
theorem dM_search_3 : decode cM_search 3 = .ok (.istore_n 3, 1) := by decide +kernel
theorem dM_search_4 : decode cM_search 4 = .ok (.aload_n 0, 1) := by decide +kernel
theorem dM_search_5 : decode cM_search 5 = .ok (.iconst 0, 1) := by decide +kernel
theorem dM_search_6 : decode cM_search 6 = .ok (.invokevirtual 91, 3) := by decide +kernel
theorem dM_search_9 : decode cM_search 9 = .ok (.ifCond .ne 4, 3) := by decide +kernel
theorem dM_search_12 : decode cM_search 12 = .ok (.return_, 1) := by decide +kernel
theorem dM_search_13 : decode cM_search 13 = .ok (.iload_n 2, 1) := by decide +kernel
theorem dM_search_14 : decode cM_search 14 = .ok (.ifCond .lt 170, 3) := by decide +kernel
theorem dM_search_17 : decode cM_search 17 = .ok (.iconst 5, 1) := by decide +kernel
theorem dM_search_18 : decode cM_search 18 = .ok (.iload_n 2, 1) := by decide +kernel
theorem dM_search_19 : decode cM_search 19 = .ok (.imul, 1) := by decide +kernel
theorem dM_search_20 : decode cM_search 20 = .ok (.istore 4, 2) := by decide +kernel
theorem dM_search_22 : decode cM_search 22 = .ok (.iconst 1, 1) := by decide +kernel
theorem dM_search_23 : decode cM_search 23 = .ok (.istore 5, 2) := by decide +kernel
theorem dM_search_25 : decode cM_search 25 = .ok (.iload_n 3, 1) := by decide +kernel
theorem dM_search_26 : decode cM_search 26 = .ok (.ifCond .eq 13, 3) := by decide +kernel
theorem dM_search_29 : decode cM_search 29 = .ok (.aload_n 0, 1) := by decide +kernel
theorem dM_search_30 : decode cM_search 30 = .ok (.iload 4, 2) := by decide +kernel
theorem dM_search_32 : decode cM_search 32 = .ok (.iconst 0, 1) := by decide +kernel
theorem dM_search_33 : decode cM_search 33 = .ok (.invokevirtual 67, 3) := by decide +kernel
theorem dM_search_36 : decode cM_search 36 = .ok (.goto 11, 3) := by decide +kernel
theorem dM_search_39 : decode cM_search 39 = .ok (.aload_n 0, 1) := by decide +kernel
theorem dM_search_40 : decode cM_search 40 = .ok (.iload 4, 2) := by decide +kernel
theorem dM_search_42 : decode cM_search 42 = .ok (.invokevirtual 75, 3) := by decide +kernel
theorem dM_search_45 : decode cM_search 45 = .ok (.istore 5, 2) := by decide +kernel
theorem dM_search_47 : decode cM_search 47 = .ok (.iload 5, 2) := by decide +kernel
theorem dM_search_49 : decode cM_search 49 = .ok (.ifCond .eq 24, 3) := by decide +kernel
theorem dM_search_52 : decode cM_search 52 = .ok (.aload_n 0, 1) := by decide +kernel
theorem dM_search_53 : decode cM_search 53 = .ok (.getfield 26, 3) := by decide +kernel
theorem dM_search_56 : decode cM_search 56 = .ok (.iload 4, 2) := by decide +kernel
theorem dM_search_58 : decode cM_search 58 = .ok (.aload_n 0, 1) := by decide +kernel
theorem dM_search_59 : decode cM_search 59 = .ok (.iload 4, 2) := by decide +kernel
theorem dM_search_61 : decode cM_search 61 = .ok (.invokevirtual 94, 3) := by decide +kernel
theorem dM_search_64 : decode cM_search 64 = .ok (.iadd, 1) := by decide +kernel
theorem dM_search_65 : decode cM_search 65 = .ok (.iaload, 1) := by decide +kernel
theorem dM_search_66 : decode cM_search 66 = .ok (.ifCond .le 7, 3) := by decide +kernel
theorem dM_search_69 : decode cM_search 69 = .ok (.iconst 1, 1) := by decide +kernel
theorem dM_search_70 : decode cM_search 70 = .ok (.goto 4, 3) := by decide +kernel
theorem dM_search_73 : decode cM_search 73 = .ok (.iconst 0, 1) := by decide +kernel
theorem dM_search_74 : decode cM_search 74 = .ok (.istore 5, 2) := by decide +kernel
theorem dM_search_76 : decode cM_search 76 = .ok (.iload 5, 2) := by decide +kernel
theorem dM_search_78 : decode cM_search 78 = .ok (.ifCond .ne 11, 3) := by decide +kernel
theorem dM_search_81 : decode cM_search 81 = .ok (.iinc 2 (-1), 3) := by decide +kernel
theorem dM_search_84 : decode cM_search 84 = .ok (.iconst 0, 1) := by decide +kernel
theorem dM_search_85 : decode cM_search 85 = .ok (.istore_n 3, 1) := by decide +kernel
theorem dM_search_86 : decode cM_search 86 = .ok (.goto 95, 3) := by decide +kernel
theorem dM_search_89 : decode cM_search 89 = .ok (.aload_n 0, 1) := by decide +kernel
theorem dM_search_90 : decode cM_search 90 = .ok (.getfield 97, 3) := by decide +kernel
theorem dM_search_93 : decode cM_search 93 = .ok (.iload_n 1, 1) := by decide +kernel
theorem dM_search_94 : decode cM_search 94 = .ok (.if_icmp .ne 9, 3) := by decide +kernel
theorem dM_search_97 : decode cM_search 97 = .ok (.aload_n 0, 1) := by decide +kernel
theorem dM_search_98 : decode cM_search 98 = .ok (.iconst 1, 1) := by decide +kernel
theorem dM_search_99 : decode cM_search 99 = .ok (.putfield 100, 3) := by decide +kernel
theorem dM_search_102 : decode cM_search 102 = .ok (.return_, 1) := by decide +kernel
theorem dM_search_103 : decode cM_search 103 = .ok (.aload_n 0, 1) := by decide +kernel
theorem dM_search_104 : decode cM_search 104 = .ok (.dup, 1) := by decide +kernel
theorem dM_search_105 : decode cM_search 105 = .ok (.getfield 97, 3) := by decide +kernel
theorem dM_search_108 : decode cM_search 108 = .ok (.iconst 1, 1) := by decide +kernel
theorem dM_search_109 : decode cM_search 109 = .ok (.iadd, 1) := by decide +kernel
theorem dM_search_110 : decode cM_search 110 = .ok (.putfield 97, 3) := by decide +kernel
theorem dM_search_113 : decode cM_search 113 = .ok (.iconst 0, 1) := by decide +kernel
theorem dM_search_114 : decode cM_search 114 = .ok (.istore 6, 2) := by decide +kernel
theorem dM_search_116 : decode cM_search 116 = .ok (.iload 6, 2) := by decide +kernel
theorem dM_search_118 : decode cM_search 118 = .ok (.iconst 5, 1) := by decide +kernel
theorem dM_search_119 : decode cM_search 119 = .ok (.if_icmp .ge 42, 3) := by decide +kernel
theorem dM_search_122 : decode cM_search 122 = .ok (.aload_n 0, 1) := by decide +kernel
theorem dM_search_123 : decode cM_search 123 = .ok (.getfield 23, 3) := by decide +kernel
theorem dM_search_126 : decode cM_search 126 = .ok (.iload 4, 2) := by decide +kernel
theorem dM_search_128 : decode cM_search 128 = .ok (.iconst 5, 1) := by decide +kernel
theorem dM_search_129 : decode cM_search 129 = .ok (.iadd, 1) := by decide +kernel
theorem dM_search_130 : decode cM_search 130 = .ok (.iload 6, 2) := by decide +kernel
theorem dM_search_132 : decode cM_search 132 = .ok (.iadd, 1) := by decide +kernel
theorem dM_search_133 : decode cM_search 133 = .ok (.aload_n 0, 1) := by decide +kernel
theorem dM_search_134 : decode cM_search 134 = .ok (.getfield 23, 3) := by decide +kernel
theorem dM_search_137 : decode cM_search 137 = .ok (.iload 4, 2) := by decide +kernel
theorem dM_search_139 : decode cM_search 139 = .ok (.iload 6, 2) := by decide +kernel
theorem dM_search_141 : decode cM_search 141 = .ok (.iadd, 1) := by decide +kernel
theorem dM_search_142 : decode cM_search 142 = .ok (.iaload, 1) := by decide +kernel
theorem dM_search_143 : decode cM_search 143 = .ok (.aload_n 0, 1) := by decide +kernel
theorem dM_search_144 : decode cM_search 144 = .ok (.getfield 26, 3) := by decide +kernel
theorem dM_search_147 : decode cM_search 147 = .ok (.iload 4, 2) := by decide +kernel
theorem dM_search_149 : decode cM_search 149 = .ok (.iload 6, 2) := by decide +kernel
theorem dM_search_151 : decode cM_search 151 = .ok (.iadd, 1) := by decide +kernel
theorem dM_search_152 : decode cM_search 152 = .ok (.iaload, 1) := by decide +kernel
theorem dM_search_153 : decode cM_search 153 = .ok (.isub, 1) := by decide +kernel
theorem dM_search_154 : decode cM_search 154 = .ok (.iastore, 1) := by decide +kernel
theorem dM_search_155 : decode cM_search 155 = .ok (.iinc 6 1, 3) := by decide +kernel
theorem dM_search_158 : decode cM_search 158 = .ok (.goto (-42), 3) := by decide +kernel
theorem dM_search_161 : decode cM_search 161 = .ok (.aload_n 0, 1) := by decide +kernel
theorem dM_search_162 : decode cM_search 162 = .ok (.iload_n 2, 1) := by decide +kernel
theorem dM_search_163 : decode cM_search 163 = .ok (.iconst 1, 1) := by decide +kernel
theorem dM_search_164 : decode cM_search 164 = .ok (.iadd, 1) := by decide +kernel
theorem dM_search_165 : decode cM_search 165 = .ok (.invokevirtual 91, 3) := by decide +kernel
theorem dM_search_168 : decode cM_search 168 = .ok (.istore_n 3, 1) := by decide +kernel
theorem dM_search_169 : decode cM_search 169 = .ok (.iload_n 3, 1) := by decide +kernel
theorem dM_search_170 : decode cM_search 170 = .ok (.ifCond .eq 9, 3) := by decide +kernel
theorem dM_search_173 : decode cM_search 173 = .ok (.iload_n 2, 1) := by decide +kernel
theorem dM_search_174 : decode cM_search 174 = .ok (.iconst 1, 1) := by decide +kernel
theorem dM_search_175 : decode cM_search 175 = .ok (.iadd, 1) := by decide +kernel
theorem dM_search_176 : decode cM_search 176 = .ok (.goto 4, 3) := by decide +kernel
theorem dM_search_179 : decode cM_search 179 = .ok (.iload_n 2, 1) := by decide +kernel
theorem dM_search_180 : decode cM_search 180 = .ok (.istore_n 2, 1) := by decide +kernel
theorem dM_search_181 : decode cM_search 181 = .ok (.goto (-168), 3) := by decide +kernel
theorem dM_search_184 : decode cM_search 184 = .ok (.return_, 1) := by decide +kernel
theorem dM_goesOn_0 : decode cM_goesOn 0 = .ok (.aload_n 0, 1) := by decide +kernel
theorem dM_goesOn_1 : decode cM_goesOn 1 = .ok (.getfield 29, 3) := by decide +kernel
theorem dM_goesOn_4 : decode cM_goesOn 4 = .ok (.ifCond .lt 21, 3) := by decide +kernel
theorem dM_goesOn_7 : decode cM_goesOn 7 = .ok (.iload_n 1, 1) := by decide +kernel
theorem dM_goesOn_8 : decode cM_goesOn 8 = .ok (.aload_n 0, 1) := by decide +kernel
theorem dM_goesOn_9 : decode cM_goesOn 9 = .ok (.iconst 5, 1) := by decide +kernel
theorem dM_goesOn_10 : decode cM_goesOn 10 = .ok (.iload_n 1, 1) := by decide +kernel
theorem dM_goesOn_11 : decode cM_goesOn 11 = .ok (.imul, 1) := by decide +kernel
theorem dM_goesOn_12 : decode cM_goesOn 12 = .ok (.invokevirtual 85, 3) := by decide +kernel
theorem dM_goesOn_15 : decode cM_goesOn 15 = .ok (.iadd, 1) := by decide +kernel
theorem dM_goesOn_16 : decode cM_goesOn 16 = .ok (.aload_n 0, 1) := by decide +kernel
theorem dM_goesOn_17 : decode cM_goesOn 17 = .ok (.getfield 29, 3) := by decide +kernel
theorem dM_goesOn_20 : decode cM_goesOn 20 = .ok (.if_icmp .lt 5, 3) := by decide +kernel
theorem dM_goesOn_23 : decode cM_goesOn 23 = .ok (.iconst 0, 1) := by decide +kernel
theorem dM_goesOn_24 : decode cM_goesOn 24 = .ok (.ireturn, 1) := by decide +kernel
theorem dM_goesOn_25 : decode cM_goesOn 25 = .ok (.aload_n 0, 1) := by decide +kernel
theorem dM_goesOn_26 : decode cM_goesOn 26 = .ok (.iconst 5, 1) := by decide +kernel
theorem dM_goesOn_27 : decode cM_goesOn 27 = .ok (.iload_n 1, 1) := by decide +kernel
theorem dM_goesOn_28 : decode cM_goesOn 28 = .ok (.imul, 1) := by decide +kernel
theorem dM_goesOn_29 : decode cM_goesOn 29 = .ok (.invokevirtual 88, 3) := by decide +kernel
theorem dM_goesOn_32 : decode cM_goesOn 32 = .ok (.ifCond .ne 5, 3) := by decide +kernel
theorem dM_goesOn_35 : decode cM_goesOn 35 = .ok (.iconst 1, 1) := by decide +kernel
theorem dM_goesOn_36 : decode cM_goesOn 36 = .ok (.ireturn, 1) := by decide +kernel
theorem dM_goesOn_37 : decode cM_goesOn 37 = .ok (.aload_n 0, 1) := by decide +kernel
theorem dM_goesOn_38 : decode cM_goesOn 38 = .ok (.iload_n 1, 1) := by decide +kernel
theorem dM_goesOn_39 : decode cM_goesOn 39 = .ok (.putfield 29, 3) := by decide +kernel
theorem dM_goesOn_42 : decode cM_goesOn 42 = .ok (.iconst 0, 1) := by decide +kernel
theorem dM_goesOn_43 : decode cM_goesOn 43 = .ok (.istore_n 2, 1) := by decide +kernel
theorem dM_goesOn_44 : decode cM_goesOn 44 = .ok (.iload_n 2, 1) := by decide +kernel
theorem dM_goesOn_45 : decode cM_goesOn 45 = .ok (.iconst 5, 1) := by decide +kernel
theorem dM_goesOn_46 : decode cM_goesOn 46 = .ok (.iload_n 1, 1) := by decide +kernel
theorem dM_goesOn_47 : decode cM_goesOn 47 = .ok (.imul, 1) := by decide +kernel
theorem dM_goesOn_48 : decode cM_goesOn 48 = .ok (.if_icmp .ge 21, 3) := by decide +kernel
theorem dM_goesOn_51 : decode cM_goesOn 51 = .ok (.aload_n 0, 1) := by decide +kernel
theorem dM_goesOn_52 : decode cM_goesOn 52 = .ok (.getfield 32, 3) := by decide +kernel
theorem dM_goesOn_55 : decode cM_goesOn 55 = .ok (.iload_n 2, 1) := by decide +kernel
theorem dM_goesOn_56 : decode cM_goesOn 56 = .ok (.aload_n 0, 1) := by decide +kernel
theorem dM_goesOn_57 : decode cM_goesOn 57 = .ok (.getfield 26, 3) := by decide +kernel
theorem dM_goesOn_60 : decode cM_goesOn 60 = .ok (.iload_n 2, 1) := by decide +kernel
theorem dM_goesOn_61 : decode cM_goesOn 61 = .ok (.iaload, 1) := by decide +kernel
theorem dM_goesOn_62 : decode cM_goesOn 62 = .ok (.iastore, 1) := by decide +kernel
theorem dM_goesOn_63 : decode cM_goesOn 63 = .ok (.iinc 2 1, 3) := by decide +kernel
theorem dM_goesOn_66 : decode cM_goesOn 66 = .ok (.goto (-22), 3) := by decide +kernel
theorem dM_goesOn_69 : decode cM_goesOn 69 = .ok (.iconst 0, 1) := by decide +kernel
theorem dM_goesOn_70 : decode cM_goesOn 70 = .ok (.ireturn, 1) := by decide +kernel
theorem dM_sheetsFor_0 : decode cM_sheetsFor 0 = .ok (.iconst 0, 1) := by decide +kernel
theorem dM_sheetsFor_1 : decode cM_sheetsFor 1 = .ok (.istore_n 2, 1) := by decide +kernel
theorem dM_sheetsFor_2 : decode cM_sheetsFor 2 = .ok (.iconst 0, 1) := by decide +kernel
theorem dM_sheetsFor_3 : decode cM_sheetsFor 3 = .ok (.istore_n 3, 1) := by decide +kernel
theorem dM_sheetsFor_4 : decode cM_sheetsFor 4 = .ok (.iload_n 3, 1) := by decide +kernel
theorem dM_sheetsFor_5 : decode cM_sheetsFor 5 = .ok (.aload_n 0, 1) := by decide +kernel
theorem dM_sheetsFor_6 : decode cM_sheetsFor 6 = .ok (.getfield 41, 3) := by decide +kernel
theorem dM_sheetsFor_9 : decode cM_sheetsFor 9 = .ok (.if_icmp .ge 27, 3) := by decide +kernel
theorem dM_sheetsFor_12 : decode cM_sheetsFor 12 = .ok (.iload_n 2, 1) := by decide +kernel
theorem dM_sheetsFor_13 : decode cM_sheetsFor 13 = .ok (.aload_n 0, 1) := by decide +kernel
theorem dM_sheetsFor_14 : decode cM_sheetsFor 14 = .ok (.getfield 23, 3) := by decide +kernel
theorem dM_sheetsFor_17 : decode cM_sheetsFor 17 = .ok (.iload_n 1, 1) := by decide +kernel
theorem dM_sheetsFor_18 : decode cM_sheetsFor 18 = .ok (.iload_n 3, 1) := by decide +kernel
theorem dM_sheetsFor_19 : decode cM_sheetsFor 19 = .ok (.iadd, 1) := by decide +kernel
theorem dM_sheetsFor_20 : decode cM_sheetsFor 20 = .ok (.iaload, 1) := by decide +kernel
theorem dM_sheetsFor_21 : decode cM_sheetsFor 21 = .ok (.aload_n 0, 1) := by decide +kernel
theorem dM_sheetsFor_22 : decode cM_sheetsFor 22 = .ok (.getfield 13, 3) := by decide +kernel
theorem dM_sheetsFor_25 : decode cM_sheetsFor 25 = .ok (.iload_n 3, 1) := by decide +kernel
theorem dM_sheetsFor_26 : decode cM_sheetsFor 26 = .ok (.iaload, 1) := by decide +kernel
theorem dM_sheetsFor_27 : decode cM_sheetsFor 27 = .ok (.imul, 1) := by decide +kernel
theorem dM_sheetsFor_28 : decode cM_sheetsFor 28 = .ok (.iadd, 1) := by decide +kernel
theorem dM_sheetsFor_29 : decode cM_sheetsFor 29 = .ok (.istore_n 2, 1) := by decide +kernel
theorem dM_sheetsFor_30 : decode cM_sheetsFor 30 = .ok (.iinc 3 1, 3) := by decide +kernel
theorem dM_sheetsFor_33 : decode cM_sheetsFor 33 = .ok (.goto (-29), 3) := by decide +kernel
theorem dM_sheetsFor_36 : decode cM_sheetsFor 36 = .ok (.iload_n 2, 1) := by decide +kernel
theorem dM_sheetsFor_37 : decode cM_sheetsFor 37 = .ok (.aload_n 0, 1) := by decide +kernel
theorem dM_sheetsFor_38 : decode cM_sheetsFor 38 = .ok (.getfield 7, 3) := by decide +kernel
theorem dM_sheetsFor_41 : decode cM_sheetsFor 41 = .ok (.iadd, 1) := by decide +kernel
theorem dM_sheetsFor_42 : decode cM_sheetsFor 42 = .ok (.iconst 1, 1) := by decide +kernel
theorem dM_sheetsFor_43 : decode cM_sheetsFor 43 = .ok (.isub, 1) := by decide +kernel
theorem dM_sheetsFor_44 : decode cM_sheetsFor 44 = .ok (.aload_n 0, 1) := by decide +kernel
theorem dM_sheetsFor_45 : decode cM_sheetsFor 45 = .ok (.getfield 7, 3) := by decide +kernel
theorem dM_sheetsFor_48 : decode cM_sheetsFor 48 = .ok (.idiv, 1) := by decide +kernel
theorem dM_sheetsFor_49 : decode cM_sheetsFor 49 = .ok (.ireturn, 1) := by decide +kernel
theorem dM_isNothingLeft_0 : decode cM_isNothingLeft 0 = .ok (.iconst 0, 1) := by decide +kernel
theorem dM_isNothingLeft_1 : decode cM_isNothingLeft 1 = .ok (.istore_n 2, 1) := by decide +kernel
theorem dM_isNothingLeft_2 : decode cM_isNothingLeft 2 = .ok (.iconst 0, 1) := by decide +kernel
theorem dM_isNothingLeft_3 : decode cM_isNothingLeft 3 = .ok (.istore_n 3, 1) := by decide +kernel
theorem dM_isNothingLeft_4 : decode cM_isNothingLeft 4 = .ok (.iload_n 3, 1) := by decide +kernel
theorem dM_isNothingLeft_5 : decode cM_isNothingLeft 5 = .ok (.aload_n 0, 1) := by decide +kernel
theorem dM_isNothingLeft_6 : decode cM_isNothingLeft 6 = .ok (.getfield 41, 3) := by decide +kernel
theorem dM_isNothingLeft_9 : decode cM_isNothingLeft 9 = .ok (.if_icmp .ge 20, 3) := by decide +kernel
theorem dM_isNothingLeft_12 : decode cM_isNothingLeft 12 = .ok (.iload_n 2, 1) := by decide +kernel
theorem dM_isNothingLeft_13 : decode cM_isNothingLeft 13 = .ok (.aload_n 0, 1) := by decide +kernel
theorem dM_isNothingLeft_14 : decode cM_isNothingLeft 14 = .ok (.getfield 23, 3) := by decide +kernel
theorem dM_isNothingLeft_17 : decode cM_isNothingLeft 17 = .ok (.iload_n 1, 1) := by decide +kernel
theorem dM_isNothingLeft_18 : decode cM_isNothingLeft 18 = .ok (.iload_n 3, 1) := by decide +kernel
theorem dM_isNothingLeft_19 : decode cM_isNothingLeft 19 = .ok (.iadd, 1) := by decide +kernel
theorem dM_isNothingLeft_20 : decode cM_isNothingLeft 20 = .ok (.iaload, 1) := by decide +kernel
theorem dM_isNothingLeft_21 : decode cM_isNothingLeft 21 = .ok (.iadd, 1) := by decide +kernel
theorem dM_isNothingLeft_22 : decode cM_isNothingLeft 22 = .ok (.istore_n 2, 1) := by decide +kernel
theorem dM_isNothingLeft_23 : decode cM_isNothingLeft 23 = .ok (.iinc 3 1, 3) := by decide +kernel
theorem dM_isNothingLeft_26 : decode cM_isNothingLeft 26 = .ok (.goto (-22), 3) := by decide +kernel
theorem dM_isNothingLeft_29 : decode cM_isNothingLeft 29 = .ok (.iload_n 2, 1) := by decide +kernel
theorem dM_isNothingLeft_30 : decode cM_isNothingLeft 30 = .ok (.ifCond .ne 7, 3) := by decide +kernel
theorem dM_isNothingLeft_33 : decode cM_isNothingLeft 33 = .ok (.iconst 1, 1) := by decide +kernel
theorem dM_isNothingLeft_34 : decode cM_isNothingLeft 34 = .ok (.goto 4, 3) := by decide +kernel
theorem dM_isNothingLeft_37 : decode cM_isNothingLeft 37 = .ok (.iconst 0, 1) := by decide +kernel
theorem dM_isNothingLeft_38 : decode cM_isNothingLeft 38 = .ok (.ireturn, 1) := by decide +kernel
theorem dM_lowestLeft_0 : decode cM_lowestLeft 0 = .ok (.iconst 0, 1) := by decide +kernel
theorem dM_lowestLeft_1 : decode cM_lowestLeft 1 = .ok (.istore_n 2, 1) := by decide +kernel
theorem dM_lowestLeft_2 : decode cM_lowestLeft 2 = .ok (.aload_n 0, 1) := by decide +kernel
theorem dM_lowestLeft_3 : decode cM_lowestLeft 3 = .ok (.getfield 23, 3) := by decide +kernel
theorem dM_lowestLeft_6 : decode cM_lowestLeft 6 = .ok (.iload_n 1, 1) := by decide +kernel
theorem dM_lowestLeft_7 : decode cM_lowestLeft 7 = .ok (.iload_n 2, 1) := by decide +kernel
theorem dM_lowestLeft_8 : decode cM_lowestLeft 8 = .ok (.iadd, 1) := by decide +kernel
theorem dM_lowestLeft_9 : decode cM_lowestLeft 9 = .ok (.iaload, 1) := by decide +kernel
theorem dM_lowestLeft_10 : decode cM_lowestLeft 10 = .ok (.ifCond .ne 9, 3) := by decide +kernel
theorem dM_lowestLeft_13 : decode cM_lowestLeft 13 = .ok (.iinc 2 1, 3) := by decide +kernel
theorem dM_lowestLeft_16 : decode cM_lowestLeft 16 = .ok (.goto (-14), 3) := by decide +kernel
theorem dM_lowestLeft_19 : decode cM_lowestLeft 19 = .ok (.iload_n 2, 1) := by decide +kernel
theorem dM_lowestLeft_20 : decode cM_lowestLeft 20 = .ok (.ireturn, 1) := by decide +kernel
theorem dM_designed_0 : decode cM_designed 0 = .ok (.aload_n 0, 1) := by decide +kernel
theorem dM_designed_1 : decode cM_designed 1 = .ok (.iload_n 1, 1) := by decide +kernel
theorem dM_designed_2 : decode cM_designed 2 = .ok (.iconst 0, 1) := by decide +kernel
theorem dM_designed_3 : decode cM_designed 3 = .ok (.iconst 1, 1) := by decide +kernel
theorem dM_designed_4 : decode cM_designed 4 = .ok (.invokestatic 44, 3) := by decide +kernel
theorem dM_designed_7 : decode cM_designed 7 = .ok (.ifCond .ne 7, 3) := by decide +kernel
theorem dM_designed_10 : decode cM_designed 10 = .ok (.iconst 1, 1) := by decide +kernel
theorem dM_designed_11 : decode cM_designed 11 = .ok (.goto 4, 3) := by decide +kernel
theorem dM_designed_14 : decode cM_designed 14 = .ok (.iconst 0, 1) := by decide +kernel
theorem dM_designed_15 : decode cM_designed 15 = .ok (.aload_n 0, 1) := by decide +kernel
theorem dM_designed_16 : decode cM_designed 16 = .ok (.getfield 48, 3) := by decide +kernel
theorem dM_designed_19 : decode cM_designed 19 = .ok (.ifCond .ne 7, 3) := by decide +kernel
theorem dM_designed_22 : decode cM_designed 22 = .ok (.iconst 1, 1) := by decide +kernel
theorem dM_designed_23 : decode cM_designed 23 = .ok (.goto 4, 3) := by decide +kernel
theorem dM_designed_26 : decode cM_designed 26 = .ok (.iconst 0, 1) := by decide +kernel
theorem dM_designed_27 : decode cM_designed 27 = .ok (.iconst 0, 1) := by decide +kernel
theorem dM_designed_28 : decode cM_designed 28 = .ok (.iconst 0, 1) := by decide +kernel
theorem dM_designed_29 : decode cM_designed 29 = .ok (.invokevirtual 52, 3) := by decide +kernel
theorem dM_designed_32 : decode cM_designed 32 = .ok (.ifCond .eq 5, 3) := by decide +kernel
theorem dM_designed_35 : decode cM_designed 35 = .ok (.iconst 0, 1) := by decide +kernel
theorem dM_designed_36 : decode cM_designed 36 = .ok (.ireturn, 1) := by decide +kernel
theorem dM_designed_37 : decode cM_designed 37 = .ok (.iload_n 1, 1) := by decide +kernel
theorem dM_designed_38 : decode cM_designed 38 = .ok (.iconst 1, 1) := by decide +kernel
theorem dM_designed_39 : decode cM_designed 39 = .ok (.if_icmp .ne 10, 3) := by decide +kernel
theorem dM_designed_42 : decode cM_designed 42 = .ok (.aload_n 0, 1) := by decide +kernel
theorem dM_designed_43 : decode cM_designed 43 = .ok (.getfield 97, 3) := by decide +kernel
theorem dM_designed_46 : decode cM_designed 46 = .ok (.goto 15, 3) := by decide +kernel
theorem dM_designed_49 : decode cM_designed 49 = .ok (.aload_n 0, 1) := by decide +kernel
theorem dM_designed_50 : decode cM_designed 50 = .ok (.getfield 100, 3) := by decide +kernel
theorem dM_designed_53 : decode cM_designed 53 = .ok (.ifCond .eq 7, 3) := by decide +kernel
theorem dM_designed_56 : decode cM_designed 56 = .ok (.iconst 1, 1) := by decide +kernel
theorem dM_designed_57 : decode cM_designed 57 = .ok (.goto 4, 3) := by decide +kernel
theorem dM_designed_60 : decode cM_designed 60 = .ok (.iconst 0, 1) := by decide +kernel
theorem dM_designed_61 : decode cM_designed 61 = .ok (.ireturn, 1) := by decide +kernel
theorem dM_gap_0 : decode cM_gap 0 = .ok (.aload_n 0, 1) := by decide +kernel
theorem dM_gap_1 : decode cM_gap 1 = .ok (.aload_n 0, 1) := by decide +kernel
theorem dM_gap_2 : decode cM_gap 2 = .ok (.getfield 29, 3) := by decide +kernel
theorem dM_gap_5 : decode cM_gap 5 = .ok (.ifCond .ge 7, 3) := by decide +kernel
theorem dM_gap_8 : decode cM_gap 8 = .ok (.iconst 1, 1) := by decide +kernel
theorem dM_gap_9 : decode cM_gap 9 = .ok (.goto 4, 3) := by decide +kernel
theorem dM_gap_12 : decode cM_gap 12 = .ok (.iconst 0, 1) := by decide +kernel
theorem dM_gap_13 : decode cM_gap 13 = .ok (.iconst 0, 1) := by decide +kernel
theorem dM_gap_14 : decode cM_gap 14 = .ok (.iconst 0, 1) := by decide +kernel
theorem dM_gap_15 : decode cM_gap 15 = .ok (.iconst 0, 1) := by decide +kernel
theorem dM_gap_16 : decode cM_gap 16 = .ok (.invokevirtual 52, 3) := by decide +kernel
theorem dM_gap_19 : decode cM_gap 19 = .ok (.ifCond .eq 5, 3) := by decide +kernel
theorem dM_gap_22 : decode cM_gap 22 = .ok (.iconst 0, 1) := by decide +kernel
theorem dM_gap_23 : decode cM_gap 23 = .ok (.ireturn, 1) := by decide +kernel
theorem dM_gap_24 : decode cM_gap 24 = .ok (.iconst 0, 1) := by decide +kernel
theorem dM_gap_25 : decode cM_gap 25 = .ok (.istore_n 1, 1) := by decide +kernel
theorem dM_gap_26 : decode cM_gap 26 = .ok (.iconst 0, 1) := by decide +kernel
theorem dM_gap_27 : decode cM_gap 27 = .ok (.istore_n 2, 1) := by decide +kernel
theorem dM_gap_28 : decode cM_gap 28 = .ok (.iload_n 2, 1) := by decide +kernel
theorem dM_gap_29 : decode cM_gap 29 = .ok (.aload_n 0, 1) := by decide +kernel
theorem dM_gap_30 : decode cM_gap 30 = .ok (.getfield 41, 3) := by decide +kernel
theorem dM_gap_33 : decode cM_gap 33 = .ok (.if_icmp .ge 25, 3) := by decide +kernel
theorem dM_gap_36 : decode cM_gap 36 = .ok (.iload_n 1, 1) := by decide +kernel
theorem dM_gap_37 : decode cM_gap 37 = .ok (.aload_n 0, 1) := by decide +kernel
theorem dM_gap_38 : decode cM_gap 38 = .ok (.getfield 17, 3) := by decide +kernel
theorem dM_gap_41 : decode cM_gap 41 = .ok (.iload_n 2, 1) := by decide +kernel
theorem dM_gap_42 : decode cM_gap 42 = .ok (.iaload, 1) := by decide +kernel
theorem dM_gap_43 : decode cM_gap 43 = .ok (.aload_n 0, 1) := by decide +kernel
theorem dM_gap_44 : decode cM_gap 44 = .ok (.getfield 13, 3) := by decide +kernel
theorem dM_gap_47 : decode cM_gap 47 = .ok (.iload_n 2, 1) := by decide +kernel
theorem dM_gap_48 : decode cM_gap 48 = .ok (.iaload, 1) := by decide +kernel
theorem dM_gap_49 : decode cM_gap 49 = .ok (.imul, 1) := by decide +kernel
theorem dM_gap_50 : decode cM_gap 50 = .ok (.iadd, 1) := by decide +kernel
theorem dM_gap_51 : decode cM_gap 51 = .ok (.istore_n 1, 1) := by decide +kernel
theorem dM_gap_52 : decode cM_gap 52 = .ok (.iinc 2 1, 3) := by decide +kernel
theorem dM_gap_55 : decode cM_gap 55 = .ok (.goto (-27), 3) := by decide +kernel
theorem dM_gap_58 : decode cM_gap 58 = .ok (.iload_n 1, 1) := by decide +kernel
theorem dM_gap_59 : decode cM_gap 59 = .ok (.aload_n 0, 1) := by decide +kernel
theorem dM_gap_60 : decode cM_gap 60 = .ok (.getfield 7, 3) := by decide +kernel
theorem dM_gap_63 : decode cM_gap 63 = .ok (.iadd, 1) := by decide +kernel
theorem dM_gap_64 : decode cM_gap 64 = .ok (.iconst 1, 1) := by decide +kernel
theorem dM_gap_65 : decode cM_gap 65 = .ok (.isub, 1) := by decide +kernel
theorem dM_gap_66 : decode cM_gap 66 = .ok (.aload_n 0, 1) := by decide +kernel
theorem dM_gap_67 : decode cM_gap 67 = .ok (.getfield 7, 3) := by decide +kernel
theorem dM_gap_70 : decode cM_gap 70 = .ok (.idiv, 1) := by decide +kernel
theorem dM_gap_71 : decode cM_gap 71 = .ok (.istore_n 2, 1) := by decide +kernel
theorem dM_gap_72 : decode cM_gap 72 = .ok (.aload_n 0, 1) := by decide +kernel
theorem dM_gap_73 : decode cM_gap 73 = .ok (.invokevirtual 82, 3) := by decide +kernel
theorem dM_gap_76 : decode cM_gap 76 = .ok (.istore_n 3, 1) := by decide +kernel
theorem dM_gap_77 : decode cM_gap 77 = .ok (.aload_n 0, 1) := by decide +kernel
theorem dM_gap_78 : decode cM_gap 78 = .ok (.getfield 29, 3) := by decide +kernel
theorem dM_gap_81 : decode cM_gap 81 = .ok (.iload_n 2, 1) := by decide +kernel
theorem dM_gap_82 : decode cM_gap 82 = .ok (.iload_n 3, 1) := by decide +kernel
theorem dM_gap_83 : decode cM_gap 83 = .ok (.if_icmp .le 7, 3) := by decide +kernel
theorem dM_gap_86 : decode cM_gap 86 = .ok (.iload_n 2, 1) := by decide +kernel
theorem dM_gap_87 : decode cM_gap 87 = .ok (.goto 4, 3) := by decide +kernel
theorem dM_gap_90 : decode cM_gap 90 = .ok (.iload_n 3, 1) := by decide +kernel
theorem dM_gap_91 : decode cM_gap 91 = .ok (.isub, 1) := by decide +kernel
theorem dM_gap_92 : decode cM_gap 92 = .ok (.ireturn, 1) := by decide +kernel
theorem dM_cut_0 : decode cM_cut 0 = .ok (.aload_n 0, 1) := by decide +kernel
theorem dM_cut_1 : decode cM_cut 1 = .ok (.iload_n 1, 1) := by decide +kernel
theorem dM_cut_2 : decode cM_cut 2 = .ok (.aload_n 0, 1) := by decide +kernel
theorem dM_cut_3 : decode cM_cut 3 = .ok (.iload_n 2, 1) := by decide +kernel
theorem dM_cut_4 : decode cM_cut 4 = .ok (.invokevirtual 59, 3) := by decide +kernel
theorem dM_cut_7 : decode cM_cut 7 = .ok (.invokevirtual 108, 3) := by decide +kernel
theorem dM_cut_10 : decode cM_cut 10 = .ok (.ifCond .eq 5, 3) := by decide +kernel
theorem dM_cut_13 : decode cM_cut 13 = .ok (.iconst 0, 1) := by decide +kernel
theorem dM_cut_14 : decode cM_cut 14 = .ok (.ireturn, 1) := by decide +kernel
theorem dM_cut_15 : decode cM_cut 15 = .ok (.aload_n 0, 1) := by decide +kernel
theorem dM_cut_16 : decode cM_cut 16 = .ok (.getfield 32, 3) := by decide +kernel
theorem dM_cut_19 : decode cM_cut 19 = .ok (.iconst 5, 1) := by decide +kernel
theorem dM_cut_20 : decode cM_cut 20 = .ok (.iload_n 1, 1) := by decide +kernel
theorem dM_cut_21 : decode cM_cut 21 = .ok (.imul, 1) := by decide +kernel
theorem dM_cut_22 : decode cM_cut 22 = .ok (.iload_n 2, 1) := by decide +kernel
theorem dM_cut_23 : decode cM_cut 23 = .ok (.iadd, 1) := by decide +kernel
theorem dM_cut_24 : decode cM_cut 24 = .ok (.iaload, 1) := by decide +kernel
theorem dM_cut_25 : decode cM_cut 25 = .ok (.ireturn, 1) := by decide +kernel
theorem dM_refuses_0 : decode cM_refuses 0 = .ok (.aload_n 0, 1) := by decide +kernel
theorem dM_refuses_1 : decode cM_refuses 1 = .ok (.iconst 0, 1) := by decide +kernel
theorem dM_refuses_2 : decode cM_refuses 2 = .ok (.aload_n 0, 1) := by decide +kernel
theorem dM_refuses_3 : decode cM_refuses 3 = .ok (.getfield 29, 3) := by decide +kernel
theorem dM_refuses_6 : decode cM_refuses 6 = .ok (.ifCond .ge 7, 3) := by decide +kernel
theorem dM_refuses_9 : decode cM_refuses 9 = .ok (.iconst 1, 1) := by decide +kernel
theorem dM_refuses_10 : decode cM_refuses 10 = .ok (.goto 4, 3) := by decide +kernel
theorem dM_refuses_13 : decode cM_refuses 13 = .ok (.iconst 0, 1) := by decide +kernel
theorem dM_refuses_14 : decode cM_refuses 14 = .ok (.iconst 0, 1) := by decide +kernel
theorem dM_refuses_15 : decode cM_refuses 15 = .ok (.iconst 0, 1) := by decide +kernel
theorem dM_refuses_16 : decode cM_refuses 16 = .ok (.invokevirtual 52, 3) := by decide +kernel
theorem dM_refuses_19 : decode cM_refuses 19 = .ok (.ifCond .eq 5, 3) := by decide +kernel
theorem dM_refuses_22 : decode cM_refuses 22 = .ok (.iconst 1, 1) := by decide +kernel
theorem dM_refuses_23 : decode cM_refuses 23 = .ok (.ireturn, 1) := by decide +kernel
theorem dM_refuses_24 : decode cM_refuses 24 = .ok (.aload_n 0, 1) := by decide +kernel
theorem dM_refuses_25 : decode cM_refuses 25 = .ok (.iload_n 1, 1) := by decide +kernel
theorem dM_refuses_26 : decode cM_refuses 26 = .ok (.iconst 0, 1) := by decide +kernel
theorem dM_refuses_27 : decode cM_refuses 27 = .ok (.aload_n 0, 1) := by decide +kernel
theorem dM_refuses_28 : decode cM_refuses 28 = .ok (.getfield 29, 3) := by decide +kernel
theorem dM_refuses_31 : decode cM_refuses 31 = .ok (.iconst 1, 1) := by decide +kernel
theorem dM_refuses_32 : decode cM_refuses 32 = .ok (.isub, 1) := by decide +kernel
theorem dM_refuses_33 : decode cM_refuses 33 = .ok (.invokestatic 44, 3) := by decide +kernel
theorem dM_refuses_36 : decode cM_refuses 36 = .ok (.ifCond .eq 7, 3) := by decide +kernel
theorem dM_refuses_39 : decode cM_refuses 39 = .ok (.iload_n 2, 1) := by decide +kernel
theorem dM_refuses_40 : decode cM_refuses 40 = .ok (.ifCond .ne 7, 3) := by decide +kernel
theorem dM_refuses_43 : decode cM_refuses 43 = .ok (.iconst 1, 1) := by decide +kernel
theorem dM_refuses_44 : decode cM_refuses 44 = .ok (.goto 4, 3) := by decide +kernel
theorem dM_refuses_47 : decode cM_refuses 47 = .ok (.iconst 0, 1) := by decide +kernel
theorem dM_refuses_48 : decode cM_refuses 48 = .ok (.iconst 0, 1) := by decide +kernel
theorem dM_refuses_49 : decode cM_refuses 49 = .ok (.iconst 0, 1) := by decide +kernel
theorem dM_refuses_50 : decode cM_refuses 50 = .ok (.iconst 0, 1) := by decide +kernel
theorem dM_refuses_51 : decode cM_refuses 51 = .ok (.invokevirtual 52, 3) := by decide +kernel
theorem dM_refuses_54 : decode cM_refuses 54 = .ok (.ireturn, 1) := by decide +kernel
theorem dM_over_0 : decode cM_over 0 = .ok (.aload_n 0, 1) := by decide +kernel
theorem dM_over_1 : decode cM_over 1 = .ok (.iload_n 1, 1) := by decide +kernel
theorem dM_over_2 : decode cM_over 2 = .ok (.iconst 1, 1) := by decide +kernel
theorem dM_over_3 : decode cM_over 3 = .ok (.invokevirtual 108, 3) := by decide +kernel
theorem dM_over_6 : decode cM_over 6 = .ok (.ifCond .eq 5, 3) := by decide +kernel
theorem dM_over_9 : decode cM_over 9 = .ok (.iconst 0, 1) := by decide +kernel
theorem dM_over_10 : decode cM_over 10 = .ok (.ireturn, 1) := by decide +kernel
theorem dM_over_11 : decode cM_over 11 = .ok (.aload_n 0, 1) := by decide +kernel
theorem dM_over_12 : decode cM_over 12 = .ok (.getfield 7, 3) := by decide +kernel
theorem dM_over_15 : decode cM_over 15 = .ok (.istore_n 2, 1) := by decide +kernel
theorem dM_over_16 : decode cM_over 16 = .ok (.iconst 0, 1) := by decide +kernel
theorem dM_over_17 : decode cM_over 17 = .ok (.istore_n 3, 1) := by decide +kernel
theorem dM_over_18 : decode cM_over 18 = .ok (.iload_n 3, 1) := by decide +kernel
theorem dM_over_19 : decode cM_over 19 = .ok (.aload_n 0, 1) := by decide +kernel
theorem dM_over_20 : decode cM_over 20 = .ok (.getfield 41, 3) := by decide +kernel
theorem dM_over_23 : decode cM_over 23 = .ok (.if_icmp .ge 29, 3) := by decide +kernel
theorem dM_over_26 : decode cM_over 26 = .ok (.iload_n 2, 1) := by decide +kernel
theorem dM_over_27 : decode cM_over 27 = .ok (.aload_n 0, 1) := by decide +kernel
theorem dM_over_28 : decode cM_over 28 = .ok (.getfield 32, 3) := by decide +kernel
theorem dM_over_31 : decode cM_over 31 = .ok (.iconst 5, 1) := by decide +kernel
theorem dM_over_32 : decode cM_over 32 = .ok (.iload_n 1, 1) := by decide +kernel
theorem dM_over_33 : decode cM_over 33 = .ok (.imul, 1) := by decide +kernel
theorem dM_over_34 : decode cM_over 34 = .ok (.iload_n 3, 1) := by decide +kernel
theorem dM_over_35 : decode cM_over 35 = .ok (.iadd, 1) := by decide +kernel
theorem dM_over_36 : decode cM_over 36 = .ok (.iaload, 1) := by decide +kernel
theorem dM_over_37 : decode cM_over 37 = .ok (.aload_n 0, 1) := by decide +kernel
theorem dM_over_38 : decode cM_over 38 = .ok (.getfield 13, 3) := by decide +kernel
theorem dM_over_41 : decode cM_over 41 = .ok (.iload_n 3, 1) := by decide +kernel
theorem dM_over_42 : decode cM_over 42 = .ok (.iaload, 1) := by decide +kernel
theorem dM_over_43 : decode cM_over 43 = .ok (.imul, 1) := by decide +kernel
theorem dM_over_44 : decode cM_over 44 = .ok (.isub, 1) := by decide +kernel
theorem dM_over_45 : decode cM_over 45 = .ok (.istore_n 2, 1) := by decide +kernel
theorem dM_over_46 : decode cM_over 46 = .ok (.iinc 3 1, 3) := by decide +kernel
theorem dM_over_49 : decode cM_over 49 = .ok (.goto (-31), 3) := by decide +kernel
theorem dM_over_52 : decode cM_over 52 = .ok (.iload_n 2, 1) := by decide +kernel
theorem dM_over_53 : decode cM_over 53 = .ok (.ireturn, 1) := by decide +kernel
theorem dM_keep_0 : decode cM_keep 0 = .ok (.aload_n 0, 1) := by decide +kernel
theorem dM_keep_1 : decode cM_keep 1 = .ok (.iload_n 1, 1) := by decide +kernel
theorem dM_keep_2 : decode cM_keep 2 = .ok (.iconst 1, 1) := by decide +kernel
theorem dM_keep_3 : decode cM_keep 3 = .ok (.invokevirtual 108, 3) := by decide +kernel
theorem dM_keep_6 : decode cM_keep 6 = .ok (.ifCond .eq 5, 3) := by decide +kernel
theorem dM_keep_9 : decode cM_keep 9 = .ok (.iconst 0, 1) := by decide +kernel
theorem dM_keep_10 : decode cM_keep 10 = .ok (.ireturn, 1) := by decide +kernel
theorem dM_keep_11 : decode cM_keep 11 = .ok (.aload_n 0, 1) := by decide +kernel
theorem dM_keep_12 : decode cM_keep 12 = .ok (.iload_n 1, 1) := by decide +kernel
theorem dM_keep_13 : decode cM_keep 13 = .ok (.invokevirtual 115, 3) := by decide +kernel
theorem dM_keep_16 : decode cM_keep 16 = .ok (.istore_n 3, 1) := by decide +kernel
theorem dM_keep_17 : decode cM_keep 17 = .ok (.aload_n 0, 1) := by decide +kernel
theorem dM_keep_18 : decode cM_keep 18 = .ok (.iconst 0, 1) := by decide +kernel
theorem dM_keep_19 : decode cM_keep 19 = .ok (.iconst 0, 1) := by decide +kernel
theorem dM_keep_20 : decode cM_keep 20 = .ok (.iload_n 2, 1) := by decide +kernel
theorem dM_keep_21 : decode cM_keep 21 = .ok (.iconst 0, 1) := by decide +kernel
theorem dM_keep_22 : decode cM_keep 22 = .ok (.sipush 9999, 3) := by decide +kernel
theorem dM_keep_25 : decode cM_keep 25 = .ok (.invokestatic 44, 3) := by decide +kernel
theorem dM_keep_28 : decode cM_keep 28 = .ok (.ifCond .ne 7, 3) := by decide +kernel
theorem dM_keep_31 : decode cM_keep 31 = .ok (.iconst 1, 1) := by decide +kernel
theorem dM_keep_32 : decode cM_keep 32 = .ok (.goto 4, 3) := by decide +kernel
theorem dM_keep_35 : decode cM_keep 35 = .ok (.iconst 0, 1) := by decide +kernel
theorem dM_keep_36 : decode cM_keep 36 = .ok (.iload_n 3, 1) := by decide +kernel
theorem dM_keep_37 : decode cM_keep 37 = .ok (.bipush 40, 2) := by decide +kernel
theorem dM_keep_39 : decode cM_keep 39 = .ok (.if_icmp .ne 7, 3) := by decide +kernel
theorem dM_keep_42 : decode cM_keep 42 = .ok (.iconst 1, 1) := by decide +kernel
theorem dM_keep_43 : decode cM_keep 43 = .ok (.goto 4, 3) := by decide +kernel
theorem dM_keep_46 : decode cM_keep 46 = .ok (.iconst 0, 1) := by decide +kernel
theorem dM_keep_47 : decode cM_keep 47 = .ok (.invokevirtual 52, 3) := by decide +kernel
theorem dM_keep_50 : decode cM_keep 50 = .ok (.ifCond .eq 5, 3) := by decide +kernel
theorem dM_keep_53 : decode cM_keep 53 = .ok (.iconst 0, 1) := by decide +kernel
theorem dM_keep_54 : decode cM_keep 54 = .ok (.ireturn, 1) := by decide +kernel
theorem dM_keep_55 : decode cM_keep 55 = .ok (.iload_n 3, 1) := by decide +kernel
theorem dM_keep_56 : decode cM_keep 56 = .ok (.aload_n 0, 1) := by decide +kernel
theorem dM_keep_57 : decode cM_keep 57 = .ok (.getfield 112, 3) := by decide +kernel
theorem dM_keep_60 : decode cM_keep 60 = .ok (.if_icmp .ne 76, 3) := by decide +kernel
theorem dM_keep_63 : decode cM_keep 63 = .ok (.iconst 0, 1) := by decide +kernel
theorem dM_keep_64 : decode cM_keep 64 = .ok (.istore 4, 2) := by decide +kernel
theorem dM_keep_66 : decode cM_keep 66 = .ok (.iload 4, 2) := by decide +kernel
theorem dM_keep_68 : decode cM_keep 68 = .ok (.iconst 5, 1) := by decide +kernel
theorem dM_keep_69 : decode cM_keep 69 = .ok (.if_icmp .ge 32, 3) := by decide +kernel
theorem dM_keep_72 : decode cM_keep 72 = .ok (.aload_n 0, 1) := by decide +kernel
theorem dM_keep_73 : decode cM_keep 73 = .ok (.getfield 35, 3) := by decide +kernel
theorem dM_keep_76 : decode cM_keep 76 = .ok (.bipush 7, 2) := by decide +kernel
theorem dM_keep_78 : decode cM_keep 78 = .ok (.iload_n 3, 1) := by decide +kernel
theorem dM_keep_79 : decode cM_keep 79 = .ok (.imul, 1) := by decide +kernel
theorem dM_keep_80 : decode cM_keep 80 = .ok (.iload 4, 2) := by decide +kernel
theorem dM_keep_82 : decode cM_keep 82 = .ok (.iadd, 1) := by decide +kernel
theorem dM_keep_83 : decode cM_keep 83 = .ok (.aload_n 0, 1) := by decide +kernel
theorem dM_keep_84 : decode cM_keep 84 = .ok (.getfield 32, 3) := by decide +kernel
theorem dM_keep_87 : decode cM_keep 87 = .ok (.iconst 5, 1) := by decide +kernel
theorem dM_keep_88 : decode cM_keep 88 = .ok (.iload_n 1, 1) := by decide +kernel
theorem dM_keep_89 : decode cM_keep 89 = .ok (.imul, 1) := by decide +kernel
theorem dM_keep_90 : decode cM_keep 90 = .ok (.iload 4, 2) := by decide +kernel
theorem dM_keep_92 : decode cM_keep 92 = .ok (.iadd, 1) := by decide +kernel
theorem dM_keep_93 : decode cM_keep 93 = .ok (.iaload, 1) := by decide +kernel
theorem dM_keep_94 : decode cM_keep 94 = .ok (.iastore, 1) := by decide +kernel
theorem dM_keep_95 : decode cM_keep 95 = .ok (.iinc 4 1, 3) := by decide +kernel
theorem dM_keep_98 : decode cM_keep 98 = .ok (.goto (-32), 3) := by decide +kernel
theorem dM_keep_101 : decode cM_keep 101 = .ok (.aload_n 0, 1) := by decide +kernel
theorem dM_keep_102 : decode cM_keep 102 = .ok (.getfield 35, 3) := by decide +kernel
theorem dM_keep_105 : decode cM_keep 105 = .ok (.bipush 7, 2) := by decide +kernel
theorem dM_keep_107 : decode cM_keep 107 = .ok (.iload_n 3, 1) := by decide +kernel
theorem dM_keep_108 : decode cM_keep 108 = .ok (.imul, 1) := by decide +kernel
theorem dM_keep_109 : decode cM_keep 109 = .ok (.iconst 5, 1) := by decide +kernel
theorem dM_keep_110 : decode cM_keep 110 = .ok (.iadd, 1) := by decide +kernel
theorem dM_keep_111 : decode cM_keep 111 = .ok (.iconst 0, 1) := by decide +kernel
theorem dM_keep_112 : decode cM_keep 112 = .ok (.iastore, 1) := by decide +kernel
theorem dM_keep_113 : decode cM_keep 113 = .ok (.aload_n 0, 1) := by decide +kernel
theorem dM_keep_114 : decode cM_keep 114 = .ok (.getfield 35, 3) := by decide +kernel
theorem dM_keep_117 : decode cM_keep 117 = .ok (.bipush 7, 2) := by decide +kernel
theorem dM_keep_119 : decode cM_keep 119 = .ok (.iload_n 3, 1) := by decide +kernel
theorem dM_keep_120 : decode cM_keep 120 = .ok (.imul, 1) := by decide +kernel
theorem dM_keep_121 : decode cM_keep 121 = .ok (.bipush 6, 2) := by decide +kernel
theorem dM_keep_123 : decode cM_keep 123 = .ok (.iadd, 1) := by decide +kernel
theorem dM_keep_124 : decode cM_keep 124 = .ok (.iload_n 2, 1) := by decide +kernel
theorem dM_keep_125 : decode cM_keep 125 = .ok (.iastore, 1) := by decide +kernel
theorem dM_keep_126 : decode cM_keep 126 = .ok (.aload_n 0, 1) := by decide +kernel
theorem dM_keep_127 : decode cM_keep 127 = .ok (.dup, 1) := by decide +kernel
theorem dM_keep_128 : decode cM_keep 128 = .ok (.getfield 112, 3) := by decide +kernel
theorem dM_keep_131 : decode cM_keep 131 = .ok (.iconst 1, 1) := by decide +kernel
theorem dM_keep_132 : decode cM_keep 132 = .ok (.iadd, 1) := by decide +kernel
theorem dM_keep_133 : decode cM_keep 133 = .ok (.putfield 112, 3) := by decide +kernel
theorem dM_keep_136 : decode cM_keep 136 = .ok (.aload_n 0, 1) := by decide +kernel
theorem dM_keep_137 : decode cM_keep 137 = .ok (.getfield 35, 3) := by decide +kernel
theorem dM_keep_140 : decode cM_keep 140 = .ok (.bipush 7, 2) := by decide +kernel
theorem dM_keep_142 : decode cM_keep 142 = .ok (.iload_n 3, 1) := by decide +kernel
theorem dM_keep_143 : decode cM_keep 143 = .ok (.imul, 1) := by decide +kernel
theorem dM_keep_144 : decode cM_keep 144 = .ok (.iconst 5, 1) := by decide +kernel
theorem dM_keep_145 : decode cM_keep 145 = .ok (.iadd, 1) := by decide +kernel
theorem dM_keep_146 : decode cM_keep 146 = .ok (.dup2, 1) := by decide +kernel
theorem dM_keep_147 : decode cM_keep 147 = .ok (.iaload, 1) := by decide +kernel
theorem dM_keep_148 : decode cM_keep 148 = .ok (.iconst 1, 1) := by decide +kernel
theorem dM_keep_149 : decode cM_keep 149 = .ok (.iadd, 1) := by decide +kernel
theorem dM_keep_150 : decode cM_keep 150 = .ok (.iastore, 1) := by decide +kernel
theorem dM_keep_151 : decode cM_keep 151 = .ok (.iload_n 2, 1) := by decide +kernel
theorem dM_keep_152 : decode cM_keep 152 = .ok (.aload_n 0, 1) := by decide +kernel
theorem dM_keep_153 : decode cM_keep 153 = .ok (.getfield 35, 3) := by decide +kernel
theorem dM_keep_156 : decode cM_keep 156 = .ok (.bipush 7, 2) := by decide +kernel
theorem dM_keep_158 : decode cM_keep 158 = .ok (.iload_n 3, 1) := by decide +kernel
theorem dM_keep_159 : decode cM_keep 159 = .ok (.imul, 1) := by decide +kernel
theorem dM_keep_160 : decode cM_keep 160 = .ok (.bipush 6, 2) := by decide +kernel
theorem dM_keep_162 : decode cM_keep 162 = .ok (.iadd, 1) := by decide +kernel
theorem dM_keep_163 : decode cM_keep 163 = .ok (.iaload, 1) := by decide +kernel
theorem dM_keep_164 : decode cM_keep 164 = .ok (.if_icmp .le 16, 3) := by decide +kernel
theorem dM_keep_167 : decode cM_keep 167 = .ok (.aload_n 0, 1) := by decide +kernel
theorem dM_keep_168 : decode cM_keep 168 = .ok (.getfield 35, 3) := by decide +kernel
theorem dM_keep_171 : decode cM_keep 171 = .ok (.bipush 7, 2) := by decide +kernel
theorem dM_keep_173 : decode cM_keep 173 = .ok (.iload_n 3, 1) := by decide +kernel
theorem dM_keep_174 : decode cM_keep 174 = .ok (.imul, 1) := by decide +kernel
theorem dM_keep_175 : decode cM_keep 175 = .ok (.bipush 6, 2) := by decide +kernel
theorem dM_keep_177 : decode cM_keep 177 = .ok (.iadd, 1) := by decide +kernel
theorem dM_keep_178 : decode cM_keep 178 = .ok (.iload_n 2, 1) := by decide +kernel
theorem dM_keep_179 : decode cM_keep 179 = .ok (.iastore, 1) := by decide +kernel
theorem dM_keep_180 : decode cM_keep 180 = .ok (.iload_n 3, 1) := by decide +kernel
theorem dM_keep_181 : decode cM_keep 181 = .ok (.ireturn, 1) := by decide +kernel
theorem dM_keptAs_0 : decode cM_keptAs 0 = .ok (.iconst 0, 1) := by decide +kernel
theorem dM_keptAs_1 : decode cM_keptAs 1 = .ok (.istore_n 2, 1) := by decide +kernel
theorem dM_keptAs_2 : decode cM_keptAs 2 = .ok (.iload_n 2, 1) := by decide +kernel
theorem dM_keptAs_3 : decode cM_keptAs 3 = .ok (.aload_n 0, 1) := by decide +kernel
theorem dM_keptAs_4 : decode cM_keptAs 4 = .ok (.getfield 112, 3) := by decide +kernel
theorem dM_keptAs_7 : decode cM_keptAs 7 = .ok (.if_icmp .ge 68, 3) := by decide +kernel
theorem dM_keptAs_10 : decode cM_keptAs 10 = .ok (.iconst 1, 1) := by decide +kernel
theorem dM_keptAs_11 : decode cM_keptAs 11 = .ok (.istore_n 3, 1) := by decide +kernel
theorem dM_keptAs_12 : decode cM_keptAs 12 = .ok (.iconst 0, 1) := by decide +kernel
theorem dM_keptAs_13 : decode cM_keptAs 13 = .ok (.istore 4, 2) := by decide +kernel
theorem dM_keptAs_15 : decode cM_keptAs 15 = .ok (.iload 4, 2) := by decide +kernel
theorem dM_keptAs_17 : decode cM_keptAs 17 = .ok (.iconst 5, 1) := by decide +kernel
theorem dM_keptAs_18 : decode cM_keptAs 18 = .ok (.if_icmp .ge 45, 3) := by decide +kernel
theorem dM_keptAs_21 : decode cM_keptAs 21 = .ok (.iload_n 3, 1) := by decide +kernel
theorem dM_keptAs_22 : decode cM_keptAs 22 = .ok (.ifCond .eq 33, 3) := by decide +kernel
theorem dM_keptAs_25 : decode cM_keptAs 25 = .ok (.aload_n 0, 1) := by decide +kernel
theorem dM_keptAs_26 : decode cM_keptAs 26 = .ok (.getfield 35, 3) := by decide +kernel
theorem dM_keptAs_29 : decode cM_keptAs 29 = .ok (.bipush 7, 2) := by decide +kernel
theorem dM_keptAs_31 : decode cM_keptAs 31 = .ok (.iload_n 2, 1) := by decide +kernel
theorem dM_keptAs_32 : decode cM_keptAs 32 = .ok (.imul, 1) := by decide +kernel
theorem dM_keptAs_33 : decode cM_keptAs 33 = .ok (.iload 4, 2) := by decide +kernel
theorem dM_keptAs_35 : decode cM_keptAs 35 = .ok (.iadd, 1) := by decide +kernel
theorem dM_keptAs_36 : decode cM_keptAs 36 = .ok (.iaload, 1) := by decide +kernel
theorem dM_keptAs_37 : decode cM_keptAs 37 = .ok (.aload_n 0, 1) := by decide +kernel
theorem dM_keptAs_38 : decode cM_keptAs 38 = .ok (.getfield 32, 3) := by decide +kernel
theorem dM_keptAs_41 : decode cM_keptAs 41 = .ok (.iconst 5, 1) := by decide +kernel
theorem dM_keptAs_42 : decode cM_keptAs 42 = .ok (.iload_n 1, 1) := by decide +kernel
theorem dM_keptAs_43 : decode cM_keptAs 43 = .ok (.imul, 1) := by decide +kernel
theorem dM_keptAs_44 : decode cM_keptAs 44 = .ok (.iload 4, 2) := by decide +kernel
theorem dM_keptAs_46 : decode cM_keptAs 46 = .ok (.iadd, 1) := by decide +kernel
theorem dM_keptAs_47 : decode cM_keptAs 47 = .ok (.iaload, 1) := by decide +kernel
theorem dM_keptAs_48 : decode cM_keptAs 48 = .ok (.if_icmp .ne 7, 3) := by decide +kernel
theorem dM_keptAs_51 : decode cM_keptAs 51 = .ok (.iconst 1, 1) := by decide +kernel
theorem dM_keptAs_52 : decode cM_keptAs 52 = .ok (.goto 4, 3) := by decide +kernel
theorem dM_keptAs_55 : decode cM_keptAs 55 = .ok (.iconst 0, 1) := by decide +kernel
theorem dM_keptAs_56 : decode cM_keptAs 56 = .ok (.istore_n 3, 1) := by decide +kernel
theorem dM_keptAs_57 : decode cM_keptAs 57 = .ok (.iinc 4 1, 3) := by decide +kernel
theorem dM_keptAs_60 : decode cM_keptAs 60 = .ok (.goto (-45), 3) := by decide +kernel
theorem dM_keptAs_63 : decode cM_keptAs 63 = .ok (.iload_n 3, 1) := by decide +kernel
theorem dM_keptAs_64 : decode cM_keptAs 64 = .ok (.ifCond .eq 5, 3) := by decide +kernel
theorem dM_keptAs_67 : decode cM_keptAs 67 = .ok (.iload_n 2, 1) := by decide +kernel
theorem dM_keptAs_68 : decode cM_keptAs 68 = .ok (.ireturn, 1) := by decide +kernel
theorem dM_keptAs_69 : decode cM_keptAs 69 = .ok (.iinc 2 1, 3) := by decide +kernel
theorem dM_keptAs_72 : decode cM_keptAs 72 = .ok (.goto (-70), 3) := by decide +kernel
theorem dM_keptAs_75 : decode cM_keptAs 75 = .ok (.aload_n 0, 1) := by decide +kernel
theorem dM_keptAs_76 : decode cM_keptAs 76 = .ok (.getfield 112, 3) := by decide +kernel
theorem dM_keptAs_79 : decode cM_keptAs 79 = .ok (.ireturn, 1) := by decide +kernel
theorem dM_kept_0 : decode cM_kept 0 = .ok (.aload_n 0, 1) := by decide +kernel
theorem dM_kept_1 : decode cM_kept 1 = .ok (.iload_n 1, 1) := by decide +kernel
theorem dM_kept_2 : decode cM_kept 2 = .ok (.iconst 0, 1) := by decide +kernel
theorem dM_kept_3 : decode cM_kept 3 = .ok (.aload_n 0, 1) := by decide +kernel
theorem dM_kept_4 : decode cM_kept 4 = .ok (.getfield 112, 3) := by decide +kernel
theorem dM_kept_7 : decode cM_kept 7 = .ok (.iconst 1, 1) := by decide +kernel
theorem dM_kept_8 : decode cM_kept 8 = .ok (.isub, 1) := by decide +kernel
theorem dM_kept_9 : decode cM_kept 9 = .ok (.invokestatic 44, 3) := by decide +kernel
theorem dM_kept_12 : decode cM_kept 12 = .ok (.ifCond .eq 13, 3) := by decide +kernel
theorem dM_kept_15 : decode cM_kept 15 = .ok (.iload_n 2, 1) := by decide +kernel
theorem dM_kept_16 : decode cM_kept 16 = .ok (.iconst 0, 1) := by decide +kernel
theorem dM_kept_17 : decode cM_kept 17 = .ok (.bipush 6, 2) := by decide +kernel
theorem dM_kept_19 : decode cM_kept 19 = .ok (.invokestatic 44, 3) := by decide +kernel
theorem dM_kept_22 : decode cM_kept 22 = .ok (.ifCond .ne 7, 3) := by decide +kernel
theorem dM_kept_25 : decode cM_kept 25 = .ok (.iconst 1, 1) := by decide +kernel
theorem dM_kept_26 : decode cM_kept 26 = .ok (.goto 4, 3) := by decide +kernel
theorem dM_kept_29 : decode cM_kept 29 = .ok (.iconst 0, 1) := by decide +kernel
theorem dM_kept_30 : decode cM_kept 30 = .ok (.iconst 0, 1) := by decide +kernel
theorem dM_kept_31 : decode cM_kept 31 = .ok (.iconst 0, 1) := by decide +kernel
theorem dM_kept_32 : decode cM_kept 32 = .ok (.iconst 0, 1) := by decide +kernel
theorem dM_kept_33 : decode cM_kept 33 = .ok (.invokevirtual 52, 3) := by decide +kernel
theorem dM_kept_36 : decode cM_kept 36 = .ok (.ifCond .eq 5, 3) := by decide +kernel
theorem dM_kept_39 : decode cM_kept 39 = .ok (.iconst 0, 1) := by decide +kernel
theorem dM_kept_40 : decode cM_kept 40 = .ok (.ireturn, 1) := by decide +kernel
theorem dM_kept_41 : decode cM_kept 41 = .ok (.aload_n 0, 1) := by decide +kernel
theorem dM_kept_42 : decode cM_kept 42 = .ok (.getfield 35, 3) := by decide +kernel
theorem dM_kept_45 : decode cM_kept 45 = .ok (.bipush 7, 2) := by decide +kernel
theorem dM_kept_47 : decode cM_kept 47 = .ok (.iload_n 1, 1) := by decide +kernel
theorem dM_kept_48 : decode cM_kept 48 = .ok (.imul, 1) := by decide +kernel
theorem dM_kept_49 : decode cM_kept 49 = .ok (.iload_n 2, 1) := by decide +kernel
theorem dM_kept_50 : decode cM_kept 50 = .ok (.iadd, 1) := by decide +kernel
theorem dM_kept_51 : decode cM_kept 51 = .ok (.iaload, 1) := by decide +kernel
theorem dM_kept_52 : decode cM_kept 52 = .ok (.ireturn, 1) := by decide +kernel
end
section
theorem dM_fitting_0 : decode cM_fitting 0 = .ok (.aload_n 0, 1) := by decide +kernel
theorem dM_fitting_1 : decode cM_fitting 1 = .ok (.iload_n 1, 1) := by decide +kernel
theorem dM_fitting_2 : decode cM_fitting 2 = .ok (.ifCond .ge 7, 3) := by decide +kernel
theorem dM_fitting_5 : decode cM_fitting 5 = .ok (.iconst 1, 1) := by decide +kernel
theorem dM_fitting_6 : decode cM_fitting 6 = .ok (.goto 4, 3) := by decide +kernel
theorem dM_fitting_9 : decode cM_fitting 9 = .ok (.iconst 0, 1) := by decide +kernel
theorem dM_fitting_10 : decode cM_fitting 10 = .ok (.iconst 0, 1) := by decide +kernel
theorem dM_fitting_11 : decode cM_fitting 11 = .ok (.iconst 0, 1) := by decide +kernel
theorem dM_fitting_12 : decode cM_fitting 12 = .ok (.iconst 0, 1) := by decide +kernel
theorem dM_fitting_13 : decode cM_fitting 13 = .ok (.invokevirtual 52, 3) := by decide +kernel
theorem dM_fitting_16 : decode cM_fitting 16 = .ok (.ifCond .eq 5, 3) := by decide +kernel
theorem dM_fitting_19 : decode cM_fitting 19 = .ok (.iconst 0, 1) := by decide +kernel
theorem dM_fitting_20 : decode cM_fitting 20 = .ok (.ireturn, 1) := by decide +kernel
theorem dM_fitting_21 : decode cM_fitting 21 = .ok (.iconst 0, 1) := by decide +kernel
theorem dM_fitting_22 : decode cM_fitting 22 = .ok (.istore_n 2, 1) := by decide +kernel
theorem dM_fitting_23 : decode cM_fitting 23 = .ok (.iconst 0, 1) := by decide +kernel
theorem dM_fitting_24 : decode cM_fitting 24 = .ok (.istore_n 3, 1) := by decide +kernel
theorem dM_fitting_25 : decode cM_fitting 25 = .ok (.iload_n 3, 1) := by decide +kernel
theorem dM_fitting_26 : decode cM_fitting 26 = .ok (.aload_n 0, 1) := by decide +kernel
theorem dM_fitting_27 : decode cM_fitting 27 = .ok (.getfield 112, 3) := by decide +kernel
theorem dM_fitting_30 : decode cM_fitting 30 = .ok (.if_icmp .ge 142, 3) := by decide +kernel
theorem dM_fitting_33 : decode cM_fitting 33 = .ok (.aload_n 0, 1) := by decide +kernel
theorem dM_fitting_34 : decode cM_fitting 34 = .ok (.getfield 7, 3) := by decide +kernel
theorem dM_fitting_37 : decode cM_fitting 37 = .ok (.istore 4, 2) := by decide +kernel
theorem dM_fitting_39 : decode cM_fitting 39 = .ok (.iconst 1, 1) := by decide +kernel
theorem dM_fitting_40 : decode cM_fitting 40 = .ok (.istore 5, 2) := by decide +kernel
theorem dM_fitting_42 : decode cM_fitting 42 = .ok (.iconst 0, 1) := by decide +kernel
theorem dM_fitting_43 : decode cM_fitting 43 = .ok (.istore 6, 2) := by decide +kernel
theorem dM_fitting_45 : decode cM_fitting 45 = .ok (.iload 6, 2) := by decide +kernel
theorem dM_fitting_47 : decode cM_fitting 47 = .ok (.iconst 5, 1) := by decide +kernel
theorem dM_fitting_48 : decode cM_fitting 48 = .ok (.if_icmp .ge 98, 3) := by decide +kernel
theorem dM_fitting_51 : decode cM_fitting 51 = .ok (.iload 6, 2) := by decide +kernel
theorem dM_fitting_53 : decode cM_fitting 53 = .ok (.aload_n 0, 1) := by decide +kernel
theorem dM_fitting_54 : decode cM_fitting 54 = .ok (.getfield 41, 3) := by decide +kernel
theorem dM_fitting_57 : decode cM_fitting 57 = .ok (.if_icmp .ge 13, 3) := by decide +kernel
theorem dM_fitting_60 : decode cM_fitting 60 = .ok (.aload_n 0, 1) := by decide +kernel
theorem dM_fitting_61 : decode cM_fitting 61 = .ok (.getfield 17, 3) := by decide +kernel
theorem dM_fitting_64 : decode cM_fitting 64 = .ok (.iload 6, 2) := by decide +kernel
theorem dM_fitting_66 : decode cM_fitting 66 = .ok (.iaload, 1) := by decide +kernel
theorem dM_fitting_67 : decode cM_fitting 67 = .ok (.goto 4, 3) := by decide +kernel
theorem dM_fitting_70 : decode cM_fitting 70 = .ok (.iconst 0, 1) := by decide +kernel
theorem dM_fitting_71 : decode cM_fitting 71 = .ok (.istore 7, 2) := by decide +kernel
theorem dM_fitting_73 : decode cM_fitting 73 = .ok (.iload 5, 2) := by decide +kernel
theorem dM_fitting_75 : decode cM_fitting 75 = .ok (.ifCond .eq 24, 3) := by decide +kernel
theorem dM_fitting_78 : decode cM_fitting 78 = .ok (.aload_n 0, 1) := by decide +kernel
theorem dM_fitting_79 : decode cM_fitting 79 = .ok (.getfield 35, 3) := by decide +kernel
theorem dM_fitting_82 : decode cM_fitting 82 = .ok (.bipush 7, 2) := by decide +kernel
theorem dM_fitting_84 : decode cM_fitting 84 = .ok (.iload_n 3, 1) := by decide +kernel
theorem dM_fitting_85 : decode cM_fitting 85 = .ok (.imul, 1) := by decide +kernel
theorem dM_fitting_86 : decode cM_fitting 86 = .ok (.iload 6, 2) := by decide +kernel
theorem dM_fitting_88 : decode cM_fitting 88 = .ok (.iadd, 1) := by decide +kernel
theorem dM_fitting_89 : decode cM_fitting 89 = .ok (.iaload, 1) := by decide +kernel
theorem dM_fitting_90 : decode cM_fitting 90 = .ok (.iload 7, 2) := by decide +kernel
theorem dM_fitting_92 : decode cM_fitting 92 = .ok (.if_icmp .gt 7, 3) := by decide +kernel
theorem dM_fitting_95 : decode cM_fitting 95 = .ok (.iconst 1, 1) := by decide +kernel
theorem dM_fitting_96 : decode cM_fitting 96 = .ok (.goto 4, 3) := by decide +kernel
theorem dM_fitting_99 : decode cM_fitting 99 = .ok (.iconst 0, 1) := by decide +kernel
theorem dM_fitting_100 : decode cM_fitting 100 = .ok (.istore 5, 2) := by decide +kernel
theorem dM_fitting_102 : decode cM_fitting 102 = .ok (.iload 4, 2) := by decide +kernel
theorem dM_fitting_104 : decode cM_fitting 104 = .ok (.iload 6, 2) := by decide +kernel
theorem dM_fitting_106 : decode cM_fitting 106 = .ok (.aload_n 0, 1) := by decide +kernel
theorem dM_fitting_107 : decode cM_fitting 107 = .ok (.getfield 41, 3) := by decide +kernel
theorem dM_fitting_110 : decode cM_fitting 110 = .ok (.if_icmp .ge 26, 3) := by decide +kernel
theorem dM_fitting_113 : decode cM_fitting 113 = .ok (.aload_n 0, 1) := by decide +kernel
theorem dM_fitting_114 : decode cM_fitting 114 = .ok (.getfield 35, 3) := by decide +kernel
theorem dM_fitting_117 : decode cM_fitting 117 = .ok (.bipush 7, 2) := by decide +kernel
theorem dM_fitting_119 : decode cM_fitting 119 = .ok (.iload_n 3, 1) := by decide +kernel
theorem dM_fitting_120 : decode cM_fitting 120 = .ok (.imul, 1) := by decide +kernel
theorem dM_fitting_121 : decode cM_fitting 121 = .ok (.iload 6, 2) := by decide +kernel
theorem dM_fitting_123 : decode cM_fitting 123 = .ok (.iadd, 1) := by decide +kernel
theorem dM_fitting_124 : decode cM_fitting 124 = .ok (.iaload, 1) := by decide +kernel
theorem dM_fitting_125 : decode cM_fitting 125 = .ok (.aload_n 0, 1) := by decide +kernel
theorem dM_fitting_126 : decode cM_fitting 126 = .ok (.getfield 13, 3) := by decide +kernel
theorem dM_fitting_129 : decode cM_fitting 129 = .ok (.iload 6, 2) := by decide +kernel
theorem dM_fitting_131 : decode cM_fitting 131 = .ok (.iaload, 1) := by decide +kernel
theorem dM_fitting_132 : decode cM_fitting 132 = .ok (.imul, 1) := by decide +kernel
theorem dM_fitting_133 : decode cM_fitting 133 = .ok (.goto 4, 3) := by decide +kernel
theorem dM_fitting_136 : decode cM_fitting 136 = .ok (.iconst 0, 1) := by decide +kernel
theorem dM_fitting_137 : decode cM_fitting 137 = .ok (.isub, 1) := by decide +kernel
theorem dM_fitting_138 : decode cM_fitting 138 = .ok (.istore 4, 2) := by decide +kernel
theorem dM_fitting_140 : decode cM_fitting 140 = .ok (.iinc 6 1, 3) := by decide +kernel
theorem dM_fitting_143 : decode cM_fitting 143 = .ok (.goto (-98), 3) := by decide +kernel
theorem dM_fitting_146 : decode cM_fitting 146 = .ok (.iload 5, 2) := by decide +kernel
theorem dM_fitting_148 : decode cM_fitting 148 = .ok (.ifCond .eq 18, 3) := by decide +kernel
theorem dM_fitting_151 : decode cM_fitting 151 = .ok (.iload 4, 2) := by decide +kernel
theorem dM_fitting_153 : decode cM_fitting 153 = .ok (.ifCond .lt 13, 3) := by decide +kernel
theorem dM_fitting_156 : decode cM_fitting 156 = .ok (.iload_n 2, 1) := by decide +kernel
theorem dM_fitting_157 : decode cM_fitting 157 = .ok (.iload_n 1, 1) := by decide +kernel
theorem dM_fitting_158 : decode cM_fitting 158 = .ok (.if_icmp .ne 5, 3) := by decide +kernel
theorem dM_fitting_161 : decode cM_fitting 161 = .ok (.iload_n 3, 1) := by decide +kernel
theorem dM_fitting_162 : decode cM_fitting 162 = .ok (.ireturn, 1) := by decide +kernel
theorem dM_fitting_163 : decode cM_fitting 163 = .ok (.iinc 2 1, 3) := by decide +kernel
theorem dM_fitting_166 : decode cM_fitting 166 = .ok (.iinc 3 1, 3) := by decide +kernel
theorem dM_fitting_169 : decode cM_fitting 169 = .ok (.goto (-144), 3) := by decide +kernel
theorem dM_fitting_172 : decode cM_fitting 172 = .ok (.iconst (-1), 1) := by decide +kernel
theorem dM_fitting_173 : decode cM_fitting 173 = .ok (.ireturn, 1) := by decide +kernel
theorem dL_law_0 : decode cL_law 0 = .ok (.new 8, 3) := by decide +kernel
theorem dL_law_3 : decode cL_law 3 = .ok (.dup, 1) := by decide +kernel
theorem dL_law_4 : decode cL_law 4 = .ok (.invokespecial 61, 3) := by decide +kernel
theorem dL_law_7 : decode cL_law 7 = .ok (.astore_n 1, 1) := by decide +kernel
theorem dL_law_8 : decode cL_law 8 = .ok (.new 62, 3) := by decide +kernel
theorem dL_law_11 : decode cL_law 11 = .ok (.dup, 1) := by decide +kernel
theorem dL_law_12 : decode cL_law 12 = .ok (.invokespecial 64, 3) := by decide +kernel
theorem dL_law_15 : decode cL_law 15 = .ok (.astore_n 2, 1) := by decide +kernel
theorem dL_law_16 : decode cL_law 16 = .ok (.iconst 1, 1) := by decide +kernel
theorem dL_law_17 : decode cL_law 17 = .ok (.newarray .long, 2) := by decide +kernel
theorem dL_law_19 : decode cL_law 19 = .ok (.astore_n 3, 1) := by decide +kernel
theorem dL_law_20 : decode cL_law 20 = .ok (.iconst 0, 1) := by decide +kernel
theorem dL_law_21 : decode cL_law 21 = .ok (.istore 4, 2) := by decide +kernel
theorem dL_law_23 : decode cL_law 23 = .ok (.iload 4, 2) := by decide +kernel
theorem dL_law_25 : decode cL_law 25 = .ok (.aload_n 0, 1) := by decide +kernel
theorem dL_law_26 : decode cL_law 26 = .ok (.arraylength, 1) := by decide +kernel
theorem dL_law_27 : decode cL_law 27 = .ok (.iconst 3, 1) := by decide +kernel
theorem dL_law_28 : decode cL_law 28 = .ok (.isub, 1) := by decide +kernel
theorem dL_law_29 : decode cL_law 29 = .ok (.if_icmp .gt 843, 3) := by decide +kernel
theorem dL_law_32 : decode cL_law 32 = .ok (.aload_n 0, 1) := by decide +kernel
theorem dL_law_33 : decode cL_law 33 = .ok (.iload 4, 2) := by decide +kernel
theorem dL_law_35 : decode cL_law 35 = .ok (.iaload, 1) := by decide +kernel
theorem dL_law_36 : decode cL_law 36 = .ok (.bipush 15, 2) := by decide +kernel
theorem dL_law_38 : decode cL_law 38 = .ok (.iand, 1) := by decide +kernel
theorem dL_law_39 : decode cL_law 39 = .ok (.tableswitch 827 0 14 #[73, 109, 177, 225, 273, 286, 342, 355, 411, 467, 511, 579, 635, 703, 771], 73) := by decide +kernel
theorem dL_law_112 : decode cL_law 112 = .ok (.aload_n 1, 1) := by decide +kernel
theorem dL_law_113 : decode cL_law 113 = .ok (.aload_n 0, 1) := by decide +kernel
theorem dL_law_114 : decode cL_law 114 = .ok (.iload 4, 2) := by decide +kernel
theorem dL_law_116 : decode cL_law 116 = .ok (.iconst 1, 1) := by decide +kernel
theorem dL_law_117 : decode cL_law 117 = .ok (.iadd, 1) := by decide +kernel
theorem dL_law_118 : decode cL_law 118 = .ok (.iaload, 1) := by decide +kernel
theorem dL_law_119 : decode cL_law 119 = .ok (.invokestatic 65, 3) := by decide +kernel
theorem dL_law_122 : decode cL_law 122 = .ok (.istore 5, 2) := by decide +kernel
theorem dL_law_124 : decode cL_law 124 = .ok (.aload_n 2, 1) := by decide +kernel
theorem dL_law_125 : decode cL_law 125 = .ok (.aload_n 0, 1) := by decide +kernel
theorem dL_law_126 : decode cL_law 126 = .ok (.iload 4, 2) := by decide +kernel
theorem dL_law_128 : decode cL_law 128 = .ok (.iconst 1, 1) := by decide +kernel
theorem dL_law_129 : decode cL_law 129 = .ok (.iadd, 1) := by decide +kernel
theorem dL_law_130 : decode cL_law 130 = .ok (.iaload, 1) := by decide +kernel
theorem dL_law_131 : decode cL_law 131 = .ok (.invokevirtual 70, 3) := by decide +kernel
theorem dL_law_134 : decode cL_law 134 = .ok (.aload_n 2, 1) := by decide +kernel
theorem dL_law_135 : decode cL_law 135 = .ok (.invokevirtual 71, 3) := by decide +kernel
theorem dL_law_138 : decode cL_law 138 = .ok (.iload 5, 2) := by decide +kernel
theorem dL_law_140 : decode cL_law 140 = .ok (.if_icmp .eq 5, 3) := by decide +kernel
theorem dL_law_143 : decode cL_law 143 = .ok (.iconst 0, 1) := by decide +kernel
theorem dL_law_144 : decode cL_law 144 = .ok (.ireturn, 1) := by decide +kernel
theorem dL_law_145 : decode cL_law 145 = .ok (.goto 721, 3) := by decide +kernel
theorem dL_law_148 : decode cL_law 148 = .ok (.aload_n 1, 1) := by decide +kernel
theorem dL_law_149 : decode cL_law 149 = .ok (.aload_n 0, 1) := by decide +kernel
theorem dL_law_150 : decode cL_law 150 = .ok (.iload 4, 2) := by decide +kernel
theorem dL_law_152 : decode cL_law 152 = .ok (.iconst 1, 1) := by decide +kernel
theorem dL_law_153 : decode cL_law 153 = .ok (.iadd, 1) := by decide +kernel
theorem dL_law_154 : decode cL_law 154 = .ok (.iaload, 1) := by decide +kernel
theorem dL_law_155 : decode cL_law 155 = .ok (.aload_n 0, 1) := by decide +kernel
theorem dL_law_156 : decode cL_law 156 = .ok (.iload 4, 2) := by decide +kernel
theorem dL_law_158 : decode cL_law 158 = .ok (.iconst 2, 1) := by decide +kernel
theorem dL_law_159 : decode cL_law 159 = .ok (.iadd, 1) := by decide +kernel
theorem dL_law_160 : decode cL_law 160 = .ok (.iaload, 1) := by decide +kernel
theorem dL_law_161 : decode cL_law 161 = .ok (.aload_n 3, 1) := by decide +kernel
theorem dL_law_162 : decode cL_law 162 = .ok (.invokestatic 74, 3) := by decide +kernel
theorem dL_law_165 : decode cL_law 165 = .ok (.istore 5, 2) := by decide +kernel
theorem dL_law_167 : decode cL_law 167 = .ok (.aload_n 2, 1) := by decide +kernel
theorem dL_law_168 : decode cL_law 168 = .ok (.aload_n 0, 1) := by decide +kernel
theorem dL_law_169 : decode cL_law 169 = .ok (.iload 4, 2) := by decide +kernel
theorem dL_law_171 : decode cL_law 171 = .ok (.iconst 1, 1) := by decide +kernel
theorem dL_law_172 : decode cL_law 172 = .ok (.iadd, 1) := by decide +kernel
theorem dL_law_173 : decode cL_law 173 = .ok (.iaload, 1) := by decide +kernel
theorem dL_law_174 : decode cL_law 174 = .ok (.aload_n 0, 1) := by decide +kernel
theorem dL_law_175 : decode cL_law 175 = .ok (.iload 4, 2) := by decide +kernel
theorem dL_law_177 : decode cL_law 177 = .ok (.iconst 2, 1) := by decide +kernel
theorem dL_law_178 : decode cL_law 178 = .ok (.iadd, 1) := by decide +kernel
theorem dL_law_179 : decode cL_law 179 = .ok (.iaload, 1) := by decide +kernel
theorem dL_law_180 : decode cL_law 180 = .ok (.invokevirtual 77, 3) := by decide +kernel
theorem dL_law_183 : decode cL_law 183 = .ok (.istore 6, 2) := by decide +kernel
theorem dL_law_185 : decode cL_law 185 = .ok (.aload_n 2, 1) := by decide +kernel
theorem dL_law_186 : decode cL_law 186 = .ok (.invokevirtual 71, 3) := by decide +kernel
theorem dL_law_189 : decode cL_law 189 = .ok (.iload 5, 2) := by decide +kernel
theorem dL_law_191 : decode cL_law 191 = .ok (.if_icmp .eq 5, 3) := by decide +kernel
theorem dL_law_194 : decode cL_law 194 = .ok (.iconst 0, 1) := by decide +kernel
theorem dL_law_195 : decode cL_law 195 = .ok (.ireturn, 1) := by decide +kernel
theorem dL_law_196 : decode cL_law 196 = .ok (.iload 5, 2) := by decide +kernel
theorem dL_law_198 : decode cL_law 198 = .ok (.ifCond .ne 15, 3) := by decide +kernel
theorem dL_law_201 : decode cL_law 201 = .ok (.aload_n 3, 1) := by decide +kernel
theorem dL_law_202 : decode cL_law 202 = .ok (.iconst 0, 1) := by decide +kernel
theorem dL_law_203 : decode cL_law 203 = .ok (.laload, 1) := by decide +kernel
theorem dL_law_204 : decode cL_law 204 = .ok (.iload 6, 2) := by decide +kernel
theorem dL_law_206 : decode cL_law 206 = .ok (.i2l, 1) := by decide +kernel
theorem dL_law_207 : decode cL_law 207 = .ok (.lcmp, 1) := by decide +kernel
theorem dL_law_208 : decode cL_law 208 = .ok (.ifCond .eq 5, 3) := by decide +kernel
theorem dL_law_211 : decode cL_law 211 = .ok (.iconst 0, 1) := by decide +kernel
theorem dL_law_212 : decode cL_law 212 = .ok (.ireturn, 1) := by decide +kernel
theorem dL_law_213 : decode cL_law 213 = .ok (.goto 653, 3) := by decide +kernel
theorem dL_law_216 : decode cL_law 216 = .ok (.aload_n 1, 1) := by decide +kernel
theorem dL_law_217 : decode cL_law 217 = .ok (.aload_n 0, 1) := by decide +kernel
theorem dL_law_218 : decode cL_law 218 = .ok (.iload 4, 2) := by decide +kernel
theorem dL_law_220 : decode cL_law 220 = .ok (.iconst 1, 1) := by decide +kernel
theorem dL_law_221 : decode cL_law 221 = .ok (.iadd, 1) := by decide +kernel
theorem dL_law_222 : decode cL_law 222 = .ok (.iaload, 1) := by decide +kernel
theorem dL_law_223 : decode cL_law 223 = .ok (.aload_n 0, 1) := by decide +kernel
theorem dL_law_224 : decode cL_law 224 = .ok (.iload 4, 2) := by decide +kernel
theorem dL_law_226 : decode cL_law 226 = .ok (.iconst 2, 1) := by decide +kernel
theorem dL_law_227 : decode cL_law 227 = .ok (.iadd, 1) := by decide +kernel
theorem dL_law_228 : decode cL_law 228 = .ok (.iaload, 1) := by decide +kernel
theorem dL_law_229 : decode cL_law 229 = .ok (.invokestatic 78, 3) := by decide +kernel
theorem dL_law_232 : decode cL_law 232 = .ok (.istore 5, 2) := by decide +kernel
theorem dL_law_234 : decode cL_law 234 = .ok (.aload_n 2, 1) := by decide +kernel
theorem dL_law_235 : decode cL_law 235 = .ok (.aload_n 0, 1) := by decide +kernel
theorem dL_law_236 : decode cL_law 236 = .ok (.iload 4, 2) := by decide +kernel
theorem dL_law_238 : decode cL_law 238 = .ok (.iconst 1, 1) := by decide +kernel
theorem dL_law_239 : decode cL_law 239 = .ok (.iadd, 1) := by decide +kernel
theorem dL_law_240 : decode cL_law 240 = .ok (.iaload, 1) := by decide +kernel
theorem dL_law_241 : decode cL_law 241 = .ok (.aload_n 0, 1) := by decide +kernel
theorem dL_law_242 : decode cL_law 242 = .ok (.iload 4, 2) := by decide +kernel
theorem dL_law_244 : decode cL_law 244 = .ok (.iconst 2, 1) := by decide +kernel
theorem dL_law_245 : decode cL_law 245 = .ok (.iadd, 1) := by decide +kernel
theorem dL_law_246 : decode cL_law 246 = .ok (.iaload, 1) := by decide +kernel
theorem dL_law_247 : decode cL_law 247 = .ok (.invokevirtual 81, 3) := by decide +kernel
theorem dL_law_250 : decode cL_law 250 = .ok (.aload_n 2, 1) := by decide +kernel
theorem dL_law_251 : decode cL_law 251 = .ok (.invokevirtual 71, 3) := by decide +kernel
theorem dL_law_254 : decode cL_law 254 = .ok (.iload 5, 2) := by decide +kernel
theorem dL_law_256 : decode cL_law 256 = .ok (.if_icmp .eq 5, 3) := by decide +kernel
theorem dL_law_259 : decode cL_law 259 = .ok (.iconst 0, 1) := by decide +kernel
theorem dL_law_260 : decode cL_law 260 = .ok (.ireturn, 1) := by decide +kernel
theorem dL_law_261 : decode cL_law 261 = .ok (.goto 605, 3) := by decide +kernel
theorem dL_law_264 : decode cL_law 264 = .ok (.aload_n 1, 1) := by decide +kernel
theorem dL_law_265 : decode cL_law 265 = .ok (.aload_n 0, 1) := by decide +kernel
theorem dL_law_266 : decode cL_law 266 = .ok (.iload 4, 2) := by decide +kernel
theorem dL_law_268 : decode cL_law 268 = .ok (.iconst 1, 1) := by decide +kernel
theorem dL_law_269 : decode cL_law 269 = .ok (.iadd, 1) := by decide +kernel
theorem dL_law_270 : decode cL_law 270 = .ok (.iaload, 1) := by decide +kernel
theorem dL_law_271 : decode cL_law 271 = .ok (.aload_n 0, 1) := by decide +kernel
theorem dL_law_272 : decode cL_law 272 = .ok (.iload 4, 2) := by decide +kernel
theorem dL_law_274 : decode cL_law 274 = .ok (.iconst 2, 1) := by decide +kernel
theorem dL_law_275 : decode cL_law 275 = .ok (.iadd, 1) := by decide +kernel
theorem dL_law_276 : decode cL_law 276 = .ok (.iaload, 1) := by decide +kernel
theorem dL_law_277 : decode cL_law 277 = .ok (.invokestatic 82, 3) := by decide +kernel
theorem dL_law_280 : decode cL_law 280 = .ok (.istore 5, 2) := by decide +kernel
theorem dL_law_282 : decode cL_law 282 = .ok (.aload_n 2, 1) := by decide +kernel
theorem dL_law_283 : decode cL_law 283 = .ok (.aload_n 0, 1) := by decide +kernel
theorem dL_law_284 : decode cL_law 284 = .ok (.iload 4, 2) := by decide +kernel
theorem dL_law_286 : decode cL_law 286 = .ok (.iconst 1, 1) := by decide +kernel
theorem dL_law_287 : decode cL_law 287 = .ok (.iadd, 1) := by decide +kernel
theorem dL_law_288 : decode cL_law 288 = .ok (.iaload, 1) := by decide +kernel
theorem dL_law_289 : decode cL_law 289 = .ok (.aload_n 0, 1) := by decide +kernel
theorem dL_law_290 : decode cL_law 290 = .ok (.iload 4, 2) := by decide +kernel
theorem dL_law_292 : decode cL_law 292 = .ok (.iconst 2, 1) := by decide +kernel
theorem dL_law_293 : decode cL_law 293 = .ok (.iadd, 1) := by decide +kernel
theorem dL_law_294 : decode cL_law 294 = .ok (.iaload, 1) := by decide +kernel
theorem dL_law_295 : decode cL_law 295 = .ok (.invokevirtual 84, 3) := by decide +kernel
theorem dL_law_298 : decode cL_law 298 = .ok (.aload_n 2, 1) := by decide +kernel
theorem dL_law_299 : decode cL_law 299 = .ok (.invokevirtual 71, 3) := by decide +kernel
theorem dL_law_302 : decode cL_law 302 = .ok (.iload 5, 2) := by decide +kernel
theorem dL_law_304 : decode cL_law 304 = .ok (.if_icmp .eq 5, 3) := by decide +kernel
theorem dL_law_307 : decode cL_law 307 = .ok (.iconst 0, 1) := by decide +kernel
theorem dL_law_308 : decode cL_law 308 = .ok (.ireturn, 1) := by decide +kernel
theorem dL_law_309 : decode cL_law 309 = .ok (.goto 557, 3) := by decide +kernel
theorem dL_law_312 : decode cL_law 312 = .ok (.aload_n 1, 1) := by decide +kernel
theorem dL_law_313 : decode cL_law 313 = .ok (.invokevirtual 85, 3) := by decide +kernel
theorem dL_law_316 : decode cL_law 316 = .ok (.aload_n 2, 1) := by decide +kernel
theorem dL_law_317 : decode cL_law 317 = .ok (.invokevirtual 88, 3) := by decide +kernel
theorem dL_law_320 : decode cL_law 320 = .ok (.if_icmp .eq 546, 3) := by decide +kernel
theorem dL_law_323 : decode cL_law 323 = .ok (.iconst 0, 1) := by decide +kernel
theorem dL_law_324 : decode cL_law 324 = .ok (.ireturn, 1) := by decide +kernel
theorem dL_law_325 : decode cL_law 325 = .ok (.aload_n 1, 1) := by decide +kernel
theorem dL_law_326 : decode cL_law 326 = .ok (.aload_n 0, 1) := by decide +kernel
theorem dL_law_327 : decode cL_law 327 = .ok (.iload 4, 2) := by decide +kernel
theorem dL_law_329 : decode cL_law 329 = .ok (.iconst 1, 1) := by decide +kernel
theorem dL_law_330 : decode cL_law 330 = .ok (.iadd, 1) := by decide +kernel
theorem dL_law_331 : decode cL_law 331 = .ok (.iaload, 1) := by decide +kernel
theorem dL_law_332 : decode cL_law 332 = .ok (.aload_n 3, 1) := by decide +kernel
theorem dL_law_333 : decode cL_law 333 = .ok (.invokestatic 89, 3) := by decide +kernel
theorem dL_law_336 : decode cL_law 336 = .ok (.istore 5, 2) := by decide +kernel
theorem dL_law_338 : decode cL_law 338 = .ok (.aload_n 2, 1) := by decide +kernel
theorem dL_law_339 : decode cL_law 339 = .ok (.aload_n 0, 1) := by decide +kernel
theorem dL_law_340 : decode cL_law 340 = .ok (.iload 4, 2) := by decide +kernel
theorem dL_law_342 : decode cL_law 342 = .ok (.iconst 1, 1) := by decide +kernel
theorem dL_law_343 : decode cL_law 343 = .ok (.iadd, 1) := by decide +kernel
theorem dL_law_344 : decode cL_law 344 = .ok (.iaload, 1) := by decide +kernel
theorem dL_law_345 : decode cL_law 345 = .ok (.invokevirtual 92, 3) := by decide +kernel
theorem dL_law_348 : decode cL_law 348 = .ok (.istore 6, 2) := by decide +kernel
theorem dL_law_350 : decode cL_law 350 = .ok (.aload_n 2, 1) := by decide +kernel
theorem dL_law_351 : decode cL_law 351 = .ok (.invokevirtual 71, 3) := by decide +kernel
theorem dL_law_354 : decode cL_law 354 = .ok (.iload 5, 2) := by decide +kernel
theorem dL_law_356 : decode cL_law 356 = .ok (.if_icmp .eq 5, 3) := by decide +kernel
theorem dL_law_359 : decode cL_law 359 = .ok (.iconst 0, 1) := by decide +kernel
theorem dL_law_360 : decode cL_law 360 = .ok (.ireturn, 1) := by decide +kernel
theorem dL_law_361 : decode cL_law 361 = .ok (.iload 5, 2) := by decide +kernel
theorem dL_law_363 : decode cL_law 363 = .ok (.ifCond .ne 15, 3) := by decide +kernel
theorem dL_law_366 : decode cL_law 366 = .ok (.aload_n 3, 1) := by decide +kernel
theorem dL_law_367 : decode cL_law 367 = .ok (.iconst 0, 1) := by decide +kernel
theorem dL_law_368 : decode cL_law 368 = .ok (.laload, 1) := by decide +kernel
theorem dL_law_369 : decode cL_law 369 = .ok (.iload 6, 2) := by decide +kernel
theorem dL_law_371 : decode cL_law 371 = .ok (.i2l, 1) := by decide +kernel
theorem dL_law_372 : decode cL_law 372 = .ok (.lcmp, 1) := by decide +kernel
theorem dL_law_373 : decode cL_law 373 = .ok (.ifCond .eq 5, 3) := by decide +kernel
theorem dL_law_376 : decode cL_law 376 = .ok (.iconst 0, 1) := by decide +kernel
theorem dL_law_377 : decode cL_law 377 = .ok (.ireturn, 1) := by decide +kernel
theorem dL_law_378 : decode cL_law 378 = .ok (.goto 488, 3) := by decide +kernel
theorem dL_law_381 : decode cL_law 381 = .ok (.aload_n 1, 1) := by decide +kernel
theorem dL_law_382 : decode cL_law 382 = .ok (.invokevirtual 93, 3) := by decide +kernel
theorem dL_law_385 : decode cL_law 385 = .ok (.aload_n 2, 1) := by decide +kernel
theorem dL_law_386 : decode cL_law 386 = .ok (.invokevirtual 96, 3) := by decide +kernel
theorem dL_law_389 : decode cL_law 389 = .ok (.if_icmp .eq 477, 3) := by decide +kernel
theorem dL_law_392 : decode cL_law 392 = .ok (.iconst 0, 1) := by decide +kernel
theorem dL_law_393 : decode cL_law 393 = .ok (.ireturn, 1) := by decide +kernel
theorem dL_law_394 : decode cL_law 394 = .ok (.aload_n 1, 1) := by decide +kernel
theorem dL_law_395 : decode cL_law 395 = .ok (.aload_n 0, 1) := by decide +kernel
theorem dL_law_396 : decode cL_law 396 = .ok (.iload 4, 2) := by decide +kernel
theorem dL_law_398 : decode cL_law 398 = .ok (.iconst 1, 1) := by decide +kernel
theorem dL_law_399 : decode cL_law 399 = .ok (.iadd, 1) := by decide +kernel
theorem dL_law_400 : decode cL_law 400 = .ok (.iaload, 1) := by decide +kernel
theorem dL_law_401 : decode cL_law 401 = .ok (.aload_n 3, 1) := by decide +kernel
theorem dL_law_402 : decode cL_law 402 = .ok (.invokestatic 97, 3) := by decide +kernel
theorem dL_law_405 : decode cL_law 405 = .ok (.istore 5, 2) := by decide +kernel
theorem dL_law_407 : decode cL_law 407 = .ok (.aload_n 2, 1) := by decide +kernel
theorem dL_law_408 : decode cL_law 408 = .ok (.aload_n 0, 1) := by decide +kernel
theorem dL_law_409 : decode cL_law 409 = .ok (.iload 4, 2) := by decide +kernel
theorem dL_law_411 : decode cL_law 411 = .ok (.iconst 1, 1) := by decide +kernel
theorem dL_law_412 : decode cL_law 412 = .ok (.iadd, 1) := by decide +kernel
theorem dL_law_413 : decode cL_law 413 = .ok (.iaload, 1) := by decide +kernel
theorem dL_law_414 : decode cL_law 414 = .ok (.invokevirtual 99, 3) := by decide +kernel
theorem dL_law_417 : decode cL_law 417 = .ok (.istore 6, 2) := by decide +kernel
theorem dL_law_419 : decode cL_law 419 = .ok (.aload_n 2, 1) := by decide +kernel
theorem dL_law_420 : decode cL_law 420 = .ok (.invokevirtual 71, 3) := by decide +kernel
theorem dL_law_423 : decode cL_law 423 = .ok (.iload 5, 2) := by decide +kernel
theorem dL_law_425 : decode cL_law 425 = .ok (.if_icmp .eq 5, 3) := by decide +kernel
theorem dL_law_428 : decode cL_law 428 = .ok (.iconst 0, 1) := by decide +kernel
theorem dL_law_429 : decode cL_law 429 = .ok (.ireturn, 1) := by decide +kernel
theorem dL_law_430 : decode cL_law 430 = .ok (.iload 5, 2) := by decide +kernel
theorem dL_law_432 : decode cL_law 432 = .ok (.ifCond .ne 15, 3) := by decide +kernel
theorem dL_law_435 : decode cL_law 435 = .ok (.aload_n 3, 1) := by decide +kernel
theorem dL_law_436 : decode cL_law 436 = .ok (.iconst 0, 1) := by decide +kernel
theorem dL_law_437 : decode cL_law 437 = .ok (.laload, 1) := by decide +kernel
theorem dL_law_438 : decode cL_law 438 = .ok (.iload 6, 2) := by decide +kernel
theorem dL_law_440 : decode cL_law 440 = .ok (.i2l, 1) := by decide +kernel
theorem dL_law_441 : decode cL_law 441 = .ok (.lcmp, 1) := by decide +kernel
theorem dL_law_442 : decode cL_law 442 = .ok (.ifCond .eq 5, 3) := by decide +kernel
theorem dL_law_445 : decode cL_law 445 = .ok (.iconst 0, 1) := by decide +kernel
theorem dL_law_446 : decode cL_law 446 = .ok (.ireturn, 1) := by decide +kernel
theorem dL_law_447 : decode cL_law 447 = .ok (.goto 419, 3) := by decide +kernel
theorem dL_law_450 : decode cL_law 450 = .ok (.aload_n 1, 1) := by decide +kernel
theorem dL_law_451 : decode cL_law 451 = .ok (.aload_n 0, 1) := by decide +kernel
theorem dL_law_452 : decode cL_law 452 = .ok (.iload 4, 2) := by decide +kernel
theorem dL_law_454 : decode cL_law 454 = .ok (.iconst 1, 1) := by decide +kernel
theorem dL_law_455 : decode cL_law 455 = .ok (.iadd, 1) := by decide +kernel
theorem dL_law_456 : decode cL_law 456 = .ok (.iaload, 1) := by decide +kernel
theorem dL_law_457 : decode cL_law 457 = .ok (.aload_n 3, 1) := by decide +kernel
theorem dL_law_458 : decode cL_law 458 = .ok (.invokestatic 100, 3) := by decide +kernel
theorem dL_law_461 : decode cL_law 461 = .ok (.istore 5, 2) := by decide +kernel
theorem dL_law_463 : decode cL_law 463 = .ok (.aload_n 2, 1) := by decide +kernel
theorem dL_law_464 : decode cL_law 464 = .ok (.aload_n 0, 1) := by decide +kernel
theorem dL_law_465 : decode cL_law 465 = .ok (.iload 4, 2) := by decide +kernel
theorem dL_law_467 : decode cL_law 467 = .ok (.iconst 1, 1) := by decide +kernel
theorem dL_law_468 : decode cL_law 468 = .ok (.iadd, 1) := by decide +kernel
theorem dL_law_469 : decode cL_law 469 = .ok (.iaload, 1) := by decide +kernel
theorem dL_law_470 : decode cL_law 470 = .ok (.invokevirtual 102, 3) := by decide +kernel
theorem dL_law_473 : decode cL_law 473 = .ok (.istore 6, 2) := by decide +kernel
theorem dL_law_475 : decode cL_law 475 = .ok (.aload_n 2, 1) := by decide +kernel
theorem dL_law_476 : decode cL_law 476 = .ok (.invokevirtual 71, 3) := by decide +kernel
theorem dL_law_479 : decode cL_law 479 = .ok (.iload 5, 2) := by decide +kernel
theorem dL_law_481 : decode cL_law 481 = .ok (.if_icmp .eq 5, 3) := by decide +kernel
theorem dL_law_484 : decode cL_law 484 = .ok (.iconst 0, 1) := by decide +kernel
theorem dL_law_485 : decode cL_law 485 = .ok (.ireturn, 1) := by decide +kernel
theorem dL_law_486 : decode cL_law 486 = .ok (.iload 5, 2) := by decide +kernel
theorem dL_law_488 : decode cL_law 488 = .ok (.ifCond .ne 15, 3) := by decide +kernel
theorem dL_law_491 : decode cL_law 491 = .ok (.aload_n 3, 1) := by decide +kernel
theorem dL_law_492 : decode cL_law 492 = .ok (.iconst 0, 1) := by decide +kernel
theorem dL_law_493 : decode cL_law 493 = .ok (.laload, 1) := by decide +kernel
theorem dL_law_494 : decode cL_law 494 = .ok (.iload 6, 2) := by decide +kernel
theorem dL_law_496 : decode cL_law 496 = .ok (.i2l, 1) := by decide +kernel
theorem dL_law_497 : decode cL_law 497 = .ok (.lcmp, 1) := by decide +kernel
theorem dL_law_498 : decode cL_law 498 = .ok (.ifCond .eq 5, 3) := by decide +kernel
theorem dL_law_501 : decode cL_law 501 = .ok (.iconst 0, 1) := by decide +kernel
theorem dL_law_502 : decode cL_law 502 = .ok (.ireturn, 1) := by decide +kernel
theorem dL_law_503 : decode cL_law 503 = .ok (.goto 363, 3) := by decide +kernel
theorem dL_law_506 : decode cL_law 506 = .ok (.aload_n 1, 1) := by decide +kernel
theorem dL_law_507 : decode cL_law 507 = .ok (.aload_n 3, 1) := by decide +kernel
theorem dL_law_508 : decode cL_law 508 = .ok (.invokestatic 103, 3) := by decide +kernel
theorem dL_law_511 : decode cL_law 511 = .ok (.istore 5, 2) := by decide +kernel
theorem dL_law_513 : decode cL_law 513 = .ok (.aload_n 2, 1) := by decide +kernel
theorem dL_law_514 : decode cL_law 514 = .ok (.invokevirtual 106, 3) := by decide +kernel
theorem dL_law_517 : decode cL_law 517 = .ok (.istore 6, 2) := by decide +kernel
theorem dL_law_519 : decode cL_law 519 = .ok (.aload_n 2, 1) := by decide +kernel
theorem dL_law_520 : decode cL_law 520 = .ok (.invokevirtual 71, 3) := by decide +kernel
theorem dL_law_523 : decode cL_law 523 = .ok (.iload 5, 2) := by decide +kernel
theorem dL_law_525 : decode cL_law 525 = .ok (.if_icmp .eq 5, 3) := by decide +kernel
theorem dL_law_528 : decode cL_law 528 = .ok (.iconst 0, 1) := by decide +kernel
theorem dL_law_529 : decode cL_law 529 = .ok (.ireturn, 1) := by decide +kernel
theorem dL_law_530 : decode cL_law 530 = .ok (.iload 5, 2) := by decide +kernel
theorem dL_law_532 : decode cL_law 532 = .ok (.ifCond .ne 15, 3) := by decide +kernel
theorem dL_law_535 : decode cL_law 535 = .ok (.aload_n 3, 1) := by decide +kernel
theorem dL_law_536 : decode cL_law 536 = .ok (.iconst 0, 1) := by decide +kernel
theorem dL_law_537 : decode cL_law 537 = .ok (.laload, 1) := by decide +kernel
theorem dL_law_538 : decode cL_law 538 = .ok (.iload 6, 2) := by decide +kernel
theorem dL_law_540 : decode cL_law 540 = .ok (.i2l, 1) := by decide +kernel
theorem dL_law_541 : decode cL_law 541 = .ok (.lcmp, 1) := by decide +kernel
theorem dL_law_542 : decode cL_law 542 = .ok (.ifCond .eq 5, 3) := by decide +kernel
theorem dL_law_545 : decode cL_law 545 = .ok (.iconst 0, 1) := by decide +kernel
theorem dL_law_546 : decode cL_law 546 = .ok (.ireturn, 1) := by decide +kernel
theorem dL_law_547 : decode cL_law 547 = .ok (.goto 319, 3) := by decide +kernel
theorem dL_law_550 : decode cL_law 550 = .ok (.aload_n 1, 1) := by decide +kernel
theorem dL_law_551 : decode cL_law 551 = .ok (.aload_n 0, 1) := by decide +kernel
theorem dL_law_552 : decode cL_law 552 = .ok (.iload 4, 2) := by decide +kernel
theorem dL_law_554 : decode cL_law 554 = .ok (.iconst 1, 1) := by decide +kernel
theorem dL_law_555 : decode cL_law 555 = .ok (.iadd, 1) := by decide +kernel
theorem dL_law_556 : decode cL_law 556 = .ok (.iaload, 1) := by decide +kernel
theorem dL_law_557 : decode cL_law 557 = .ok (.aload_n 0, 1) := by decide +kernel
theorem dL_law_558 : decode cL_law 558 = .ok (.iload 4, 2) := by decide +kernel
theorem dL_law_560 : decode cL_law 560 = .ok (.iconst 2, 1) := by decide +kernel
theorem dL_law_561 : decode cL_law 561 = .ok (.iadd, 1) := by decide +kernel
theorem dL_law_562 : decode cL_law 562 = .ok (.iaload, 1) := by decide +kernel
theorem dL_law_563 : decode cL_law 563 = .ok (.aload_n 3, 1) := by decide +kernel
theorem dL_law_564 : decode cL_law 564 = .ok (.invokestatic 107, 3) := by decide +kernel
theorem dL_law_567 : decode cL_law 567 = .ok (.istore 5, 2) := by decide +kernel
theorem dL_law_569 : decode cL_law 569 = .ok (.aload_n 2, 1) := by decide +kernel
theorem dL_law_570 : decode cL_law 570 = .ok (.aload_n 0, 1) := by decide +kernel
theorem dL_law_571 : decode cL_law 571 = .ok (.iload 4, 2) := by decide +kernel
theorem dL_law_573 : decode cL_law 573 = .ok (.iconst 1, 1) := by decide +kernel
theorem dL_law_574 : decode cL_law 574 = .ok (.iadd, 1) := by decide +kernel
theorem dL_law_575 : decode cL_law 575 = .ok (.iaload, 1) := by decide +kernel
theorem dL_law_576 : decode cL_law 576 = .ok (.aload_n 0, 1) := by decide +kernel
theorem dL_law_577 : decode cL_law 577 = .ok (.iload 4, 2) := by decide +kernel
theorem dL_law_579 : decode cL_law 579 = .ok (.iconst 2, 1) := by decide +kernel
theorem dL_law_580 : decode cL_law 580 = .ok (.iadd, 1) := by decide +kernel
theorem dL_law_581 : decode cL_law 581 = .ok (.iaload, 1) := by decide +kernel
theorem dL_law_582 : decode cL_law 582 = .ok (.invokevirtual 109, 3) := by decide +kernel
theorem dL_law_585 : decode cL_law 585 = .ok (.istore 6, 2) := by decide +kernel
theorem dL_law_587 : decode cL_law 587 = .ok (.aload_n 2, 1) := by decide +kernel
theorem dL_law_588 : decode cL_law 588 = .ok (.invokevirtual 71, 3) := by decide +kernel
theorem dL_law_591 : decode cL_law 591 = .ok (.iload 5, 2) := by decide +kernel
theorem dL_law_593 : decode cL_law 593 = .ok (.if_icmp .eq 5, 3) := by decide +kernel
theorem dL_law_596 : decode cL_law 596 = .ok (.iconst 0, 1) := by decide +kernel
theorem dL_law_597 : decode cL_law 597 = .ok (.ireturn, 1) := by decide +kernel
theorem dL_law_598 : decode cL_law 598 = .ok (.iload 5, 2) := by decide +kernel
theorem dL_law_600 : decode cL_law 600 = .ok (.ifCond .ne 15, 3) := by decide +kernel
theorem dL_law_603 : decode cL_law 603 = .ok (.aload_n 3, 1) := by decide +kernel
theorem dL_law_604 : decode cL_law 604 = .ok (.iconst 0, 1) := by decide +kernel
theorem dL_law_605 : decode cL_law 605 = .ok (.laload, 1) := by decide +kernel
theorem dL_law_606 : decode cL_law 606 = .ok (.iload 6, 2) := by decide +kernel
theorem dL_law_608 : decode cL_law 608 = .ok (.i2l, 1) := by decide +kernel
theorem dL_law_609 : decode cL_law 609 = .ok (.lcmp, 1) := by decide +kernel
theorem dL_law_610 : decode cL_law 610 = .ok (.ifCond .eq 5, 3) := by decide +kernel
theorem dL_law_613 : decode cL_law 613 = .ok (.iconst 0, 1) := by decide +kernel
theorem dL_law_614 : decode cL_law 614 = .ok (.ireturn, 1) := by decide +kernel
theorem dL_law_615 : decode cL_law 615 = .ok (.goto 251, 3) := by decide +kernel
theorem dL_law_618 : decode cL_law 618 = .ok (.aload_n 1, 1) := by decide +kernel
theorem dL_law_619 : decode cL_law 619 = .ok (.aload_n 0, 1) := by decide +kernel
theorem dL_law_620 : decode cL_law 620 = .ok (.iload 4, 2) := by decide +kernel
theorem dL_law_622 : decode cL_law 622 = .ok (.iconst 1, 1) := by decide +kernel
theorem dL_law_623 : decode cL_law 623 = .ok (.iadd, 1) := by decide +kernel
theorem dL_law_624 : decode cL_law 624 = .ok (.iaload, 1) := by decide +kernel
theorem dL_law_625 : decode cL_law 625 = .ok (.aload_n 3, 1) := by decide +kernel
theorem dL_law_626 : decode cL_law 626 = .ok (.invokestatic 110, 3) := by decide +kernel
theorem dL_law_629 : decode cL_law 629 = .ok (.istore 5, 2) := by decide +kernel
theorem dL_law_631 : decode cL_law 631 = .ok (.aload_n 2, 1) := by decide +kernel
theorem dL_law_632 : decode cL_law 632 = .ok (.aload_n 0, 1) := by decide +kernel
theorem dL_law_633 : decode cL_law 633 = .ok (.iload 4, 2) := by decide +kernel
theorem dL_law_635 : decode cL_law 635 = .ok (.iconst 1, 1) := by decide +kernel
theorem dL_law_636 : decode cL_law 636 = .ok (.iadd, 1) := by decide +kernel
theorem dL_law_637 : decode cL_law 637 = .ok (.iaload, 1) := by decide +kernel
theorem dL_law_638 : decode cL_law 638 = .ok (.invokevirtual 112, 3) := by decide +kernel
theorem dL_law_641 : decode cL_law 641 = .ok (.istore 6, 2) := by decide +kernel
theorem dL_law_643 : decode cL_law 643 = .ok (.aload_n 2, 1) := by decide +kernel
theorem dL_law_644 : decode cL_law 644 = .ok (.invokevirtual 71, 3) := by decide +kernel
theorem dL_law_647 : decode cL_law 647 = .ok (.iload 5, 2) := by decide +kernel
theorem dL_law_649 : decode cL_law 649 = .ok (.if_icmp .eq 5, 3) := by decide +kernel
theorem dL_law_652 : decode cL_law 652 = .ok (.iconst 0, 1) := by decide +kernel
theorem dL_law_653 : decode cL_law 653 = .ok (.ireturn, 1) := by decide +kernel
theorem dL_law_654 : decode cL_law 654 = .ok (.iload 5, 2) := by decide +kernel
theorem dL_law_656 : decode cL_law 656 = .ok (.ifCond .ne 15, 3) := by decide +kernel
theorem dL_law_659 : decode cL_law 659 = .ok (.aload_n 3, 1) := by decide +kernel
theorem dL_law_660 : decode cL_law 660 = .ok (.iconst 0, 1) := by decide +kernel
theorem dL_law_661 : decode cL_law 661 = .ok (.laload, 1) := by decide +kernel
theorem dL_law_662 : decode cL_law 662 = .ok (.iload 6, 2) := by decide +kernel
theorem dL_law_664 : decode cL_law 664 = .ok (.i2l, 1) := by decide +kernel
theorem dL_law_665 : decode cL_law 665 = .ok (.lcmp, 1) := by decide +kernel
theorem dL_law_666 : decode cL_law 666 = .ok (.ifCond .eq 5, 3) := by decide +kernel
theorem dL_law_669 : decode cL_law 669 = .ok (.iconst 0, 1) := by decide +kernel
theorem dL_law_670 : decode cL_law 670 = .ok (.ireturn, 1) := by decide +kernel
theorem dL_law_671 : decode cL_law 671 = .ok (.goto 195, 3) := by decide +kernel
theorem dL_law_674 : decode cL_law 674 = .ok (.aload_n 1, 1) := by decide +kernel
theorem dL_law_675 : decode cL_law 675 = .ok (.aload_n 0, 1) := by decide +kernel
theorem dL_law_676 : decode cL_law 676 = .ok (.iload 4, 2) := by decide +kernel
theorem dL_law_678 : decode cL_law 678 = .ok (.iconst 1, 1) := by decide +kernel
theorem dL_law_679 : decode cL_law 679 = .ok (.iadd, 1) := by decide +kernel
theorem dL_law_680 : decode cL_law 680 = .ok (.iaload, 1) := by decide +kernel
theorem dL_law_681 : decode cL_law 681 = .ok (.aload_n 0, 1) := by decide +kernel
theorem dL_law_682 : decode cL_law 682 = .ok (.iload 4, 2) := by decide +kernel
theorem dL_law_684 : decode cL_law 684 = .ok (.iconst 2, 1) := by decide +kernel
theorem dL_law_685 : decode cL_law 685 = .ok (.iadd, 1) := by decide +kernel
theorem dL_law_686 : decode cL_law 686 = .ok (.iaload, 1) := by decide +kernel
theorem dL_law_687 : decode cL_law 687 = .ok (.aload_n 3, 1) := by decide +kernel
theorem dL_law_688 : decode cL_law 688 = .ok (.invokestatic 113, 3) := by decide +kernel
theorem dL_law_691 : decode cL_law 691 = .ok (.istore 5, 2) := by decide +kernel
theorem dL_law_693 : decode cL_law 693 = .ok (.aload_n 2, 1) := by decide +kernel
theorem dL_law_694 : decode cL_law 694 = .ok (.aload_n 0, 1) := by decide +kernel
theorem dL_law_695 : decode cL_law 695 = .ok (.iload 4, 2) := by decide +kernel
theorem dL_law_697 : decode cL_law 697 = .ok (.iconst 1, 1) := by decide +kernel
theorem dL_law_698 : decode cL_law 698 = .ok (.iadd, 1) := by decide +kernel
theorem dL_law_699 : decode cL_law 699 = .ok (.iaload, 1) := by decide +kernel
theorem dL_law_700 : decode cL_law 700 = .ok (.aload_n 0, 1) := by decide +kernel
theorem dL_law_701 : decode cL_law 701 = .ok (.iload 4, 2) := by decide +kernel
theorem dL_law_703 : decode cL_law 703 = .ok (.iconst 2, 1) := by decide +kernel
theorem dL_law_704 : decode cL_law 704 = .ok (.iadd, 1) := by decide +kernel
theorem dL_law_705 : decode cL_law 705 = .ok (.iaload, 1) := by decide +kernel
theorem dL_law_706 : decode cL_law 706 = .ok (.invokevirtual 115, 3) := by decide +kernel
theorem dL_law_709 : decode cL_law 709 = .ok (.istore 6, 2) := by decide +kernel
theorem dL_law_711 : decode cL_law 711 = .ok (.aload_n 2, 1) := by decide +kernel
theorem dL_law_712 : decode cL_law 712 = .ok (.invokevirtual 71, 3) := by decide +kernel
theorem dL_law_715 : decode cL_law 715 = .ok (.iload 5, 2) := by decide +kernel
theorem dL_law_717 : decode cL_law 717 = .ok (.if_icmp .eq 5, 3) := by decide +kernel
theorem dL_law_720 : decode cL_law 720 = .ok (.iconst 0, 1) := by decide +kernel
theorem dL_law_721 : decode cL_law 721 = .ok (.ireturn, 1) := by decide +kernel
theorem dL_law_722 : decode cL_law 722 = .ok (.iload 5, 2) := by decide +kernel
theorem dL_law_724 : decode cL_law 724 = .ok (.ifCond .ne 15, 3) := by decide +kernel
theorem dL_law_727 : decode cL_law 727 = .ok (.aload_n 3, 1) := by decide +kernel
theorem dL_law_728 : decode cL_law 728 = .ok (.iconst 0, 1) := by decide +kernel
theorem dL_law_729 : decode cL_law 729 = .ok (.laload, 1) := by decide +kernel
theorem dL_law_730 : decode cL_law 730 = .ok (.iload 6, 2) := by decide +kernel
theorem dL_law_732 : decode cL_law 732 = .ok (.i2l, 1) := by decide +kernel
theorem dL_law_733 : decode cL_law 733 = .ok (.lcmp, 1) := by decide +kernel
theorem dL_law_734 : decode cL_law 734 = .ok (.ifCond .eq 5, 3) := by decide +kernel
theorem dL_law_737 : decode cL_law 737 = .ok (.iconst 0, 1) := by decide +kernel
theorem dL_law_738 : decode cL_law 738 = .ok (.ireturn, 1) := by decide +kernel
theorem dL_law_739 : decode cL_law 739 = .ok (.goto 127, 3) := by decide +kernel
theorem dL_law_742 : decode cL_law 742 = .ok (.aload_n 1, 1) := by decide +kernel
theorem dL_law_743 : decode cL_law 743 = .ok (.aload_n 0, 1) := by decide +kernel
theorem dL_law_744 : decode cL_law 744 = .ok (.iload 4, 2) := by decide +kernel
theorem dL_law_746 : decode cL_law 746 = .ok (.iconst 1, 1) := by decide +kernel
theorem dL_law_747 : decode cL_law 747 = .ok (.iadd, 1) := by decide +kernel
theorem dL_law_748 : decode cL_law 748 = .ok (.iaload, 1) := by decide +kernel
theorem dL_law_749 : decode cL_law 749 = .ok (.aload_n 0, 1) := by decide +kernel
theorem dL_law_750 : decode cL_law 750 = .ok (.iload 4, 2) := by decide +kernel
theorem dL_law_752 : decode cL_law 752 = .ok (.iconst 2, 1) := by decide +kernel
theorem dL_law_753 : decode cL_law 753 = .ok (.iadd, 1) := by decide +kernel
theorem dL_law_754 : decode cL_law 754 = .ok (.iaload, 1) := by decide +kernel
theorem dL_law_755 : decode cL_law 755 = .ok (.aload_n 3, 1) := by decide +kernel
theorem dL_law_756 : decode cL_law 756 = .ok (.invokestatic 116, 3) := by decide +kernel
theorem dL_law_759 : decode cL_law 759 = .ok (.istore 5, 2) := by decide +kernel
theorem dL_law_761 : decode cL_law 761 = .ok (.aload_n 2, 1) := by decide +kernel
theorem dL_law_762 : decode cL_law 762 = .ok (.aload_n 0, 1) := by decide +kernel
theorem dL_law_763 : decode cL_law 763 = .ok (.iload 4, 2) := by decide +kernel
theorem dL_law_765 : decode cL_law 765 = .ok (.iconst 1, 1) := by decide +kernel
theorem dL_law_766 : decode cL_law 766 = .ok (.iadd, 1) := by decide +kernel
theorem dL_law_767 : decode cL_law 767 = .ok (.iaload, 1) := by decide +kernel
theorem dL_law_768 : decode cL_law 768 = .ok (.aload_n 0, 1) := by decide +kernel
theorem dL_law_769 : decode cL_law 769 = .ok (.iload 4, 2) := by decide +kernel
theorem dL_law_771 : decode cL_law 771 = .ok (.iconst 2, 1) := by decide +kernel
theorem dL_law_772 : decode cL_law 772 = .ok (.iadd, 1) := by decide +kernel
theorem dL_law_773 : decode cL_law 773 = .ok (.iaload, 1) := by decide +kernel
theorem dL_law_774 : decode cL_law 774 = .ok (.invokevirtual 118, 3) := by decide +kernel
theorem dL_law_777 : decode cL_law 777 = .ok (.istore 6, 2) := by decide +kernel
theorem dL_law_779 : decode cL_law 779 = .ok (.aload_n 2, 1) := by decide +kernel
theorem dL_law_780 : decode cL_law 780 = .ok (.invokevirtual 71, 3) := by decide +kernel
theorem dL_law_783 : decode cL_law 783 = .ok (.iload 5, 2) := by decide +kernel
theorem dL_law_785 : decode cL_law 785 = .ok (.if_icmp .eq 5, 3) := by decide +kernel
theorem dL_law_788 : decode cL_law 788 = .ok (.iconst 0, 1) := by decide +kernel
theorem dL_law_789 : decode cL_law 789 = .ok (.ireturn, 1) := by decide +kernel
theorem dL_law_790 : decode cL_law 790 = .ok (.iload 5, 2) := by decide +kernel
theorem dL_law_792 : decode cL_law 792 = .ok (.ifCond .ne 15, 3) := by decide +kernel
theorem dL_law_795 : decode cL_law 795 = .ok (.aload_n 3, 1) := by decide +kernel
theorem dL_law_796 : decode cL_law 796 = .ok (.iconst 0, 1) := by decide +kernel
theorem dL_law_797 : decode cL_law 797 = .ok (.laload, 1) := by decide +kernel
theorem dL_law_798 : decode cL_law 798 = .ok (.iload 6, 2) := by decide +kernel
theorem dL_law_800 : decode cL_law 800 = .ok (.i2l, 1) := by decide +kernel
theorem dL_law_801 : decode cL_law 801 = .ok (.lcmp, 1) := by decide +kernel
theorem dL_law_802 : decode cL_law 802 = .ok (.ifCond .eq 5, 3) := by decide +kernel
theorem dL_law_805 : decode cL_law 805 = .ok (.iconst 0, 1) := by decide +kernel
theorem dL_law_806 : decode cL_law 806 = .ok (.ireturn, 1) := by decide +kernel
theorem dL_law_807 : decode cL_law 807 = .ok (.goto 59, 3) := by decide +kernel
theorem dL_law_810 : decode cL_law 810 = .ok (.aload_n 1, 1) := by decide +kernel
theorem dL_law_811 : decode cL_law 811 = .ok (.aload_n 0, 1) := by decide +kernel
theorem dL_law_812 : decode cL_law 812 = .ok (.iload 4, 2) := by decide +kernel
theorem dL_law_814 : decode cL_law 814 = .ok (.iconst 1, 1) := by decide +kernel
theorem dL_law_815 : decode cL_law 815 = .ok (.iadd, 1) := by decide +kernel
theorem dL_law_816 : decode cL_law 816 = .ok (.iaload, 1) := by decide +kernel
theorem dL_law_817 : decode cL_law 817 = .ok (.aload_n 3, 1) := by decide +kernel
theorem dL_law_818 : decode cL_law 818 = .ok (.invokestatic 119, 3) := by decide +kernel
theorem dL_law_821 : decode cL_law 821 = .ok (.istore 5, 2) := by decide +kernel
theorem dL_law_823 : decode cL_law 823 = .ok (.aload_n 2, 1) := by decide +kernel
theorem dL_law_824 : decode cL_law 824 = .ok (.aload_n 0, 1) := by decide +kernel
theorem dL_law_825 : decode cL_law 825 = .ok (.iload 4, 2) := by decide +kernel
theorem dL_law_827 : decode cL_law 827 = .ok (.iconst 1, 1) := by decide +kernel
theorem dL_law_828 : decode cL_law 828 = .ok (.iadd, 1) := by decide +kernel
theorem dL_law_829 : decode cL_law 829 = .ok (.iaload, 1) := by decide +kernel
theorem dL_law_830 : decode cL_law 830 = .ok (.invokevirtual 121, 3) := by decide +kernel
theorem dL_law_833 : decode cL_law 833 = .ok (.istore 6, 2) := by decide +kernel
theorem dL_law_835 : decode cL_law 835 = .ok (.aload_n 2, 1) := by decide +kernel
theorem dL_law_836 : decode cL_law 836 = .ok (.invokevirtual 71, 3) := by decide +kernel
theorem dL_law_839 : decode cL_law 839 = .ok (.iload 5, 2) := by decide +kernel
theorem dL_law_841 : decode cL_law 841 = .ok (.if_icmp .eq 5, 3) := by decide +kernel
theorem dL_law_844 : decode cL_law 844 = .ok (.iconst 0, 1) := by decide +kernel
theorem dL_law_845 : decode cL_law 845 = .ok (.ireturn, 1) := by decide +kernel
theorem dL_law_846 : decode cL_law 846 = .ok (.iload 5, 2) := by decide +kernel
theorem dL_law_848 : decode cL_law 848 = .ok (.ifCond .ne 15, 3) := by decide +kernel
theorem dL_law_851 : decode cL_law 851 = .ok (.aload_n 3, 1) := by decide +kernel
theorem dL_law_852 : decode cL_law 852 = .ok (.iconst 0, 1) := by decide +kernel
theorem dL_law_853 : decode cL_law 853 = .ok (.laload, 1) := by decide +kernel
theorem dL_law_854 : decode cL_law 854 = .ok (.iload 6, 2) := by decide +kernel
theorem dL_law_856 : decode cL_law 856 = .ok (.i2l, 1) := by decide +kernel
theorem dL_law_857 : decode cL_law 857 = .ok (.lcmp, 1) := by decide +kernel
theorem dL_law_858 : decode cL_law 858 = .ok (.ifCond .eq 5, 3) := by decide +kernel
theorem dL_law_861 : decode cL_law 861 = .ok (.iconst 0, 1) := by decide +kernel
theorem dL_law_862 : decode cL_law 862 = .ok (.ireturn, 1) := by decide +kernel
theorem dL_law_863 : decode cL_law 863 = .ok (.goto 3, 3) := by decide +kernel
theorem dL_law_866 : decode cL_law 866 = .ok (.iinc 4 3, 3) := by decide +kernel
theorem dL_law_869 : decode cL_law 869 = .ok (.goto (-846), 3) := by decide +kernel
theorem dL_law_872 : decode cL_law 872 = .ok (.iconst 1, 1) := by decide +kernel
theorem dL_law_873 : decode cL_law 873 = .ok (.ireturn, 1) := by decide +kernel
end
section
/-! THE LAYER. One world of cells by number (pq_ws): cell k lies at the address ad k, its shape pq_sh k never changes,
its ints are h k. VV: the machine at pc with locals vs, operand stack st and the ints h comes to Q. -/
abbrev pq_H : Type := Nat → Nat → Int32
abbrev pq_G : Type := va_G × (ClassId × ClassId × ClassId) × (Nat → Nat)
def pq_fv (g : pq_G) (f : Nat → Int32) (j : Nat) (o : Option Nat) : Value := match o with | none => Value.int (f j) | some r => Value.ref (g.2.2 r)
def pq_mk (g : pq_G) (sh : pq_S) (f : Nat → Int32) : va_E := match sh with
  | .inl (ci, fl) => .inr (ci, fl.mapIdx (pq_fv g f))
  | .inr (.inl n) => .inl (g.2.1.1, n, .inl f)
  | .inr (.inr (.inl n)) => .inl (g.2.1.2.1, n, .inr (.inl (fun j => (f j).toInt64)))
  | .inr (.inr (.inr (n, r))) => .inl (g.2.1.2.2, n, .inr (.inr (.inr (.inr (fun i => if i < n then some (g.2.2 (r i)) else none)))))
def pq_ws (g : pq_G) (h : pq_H) : va_W := (List.range pq_N).map (fun k => (g.2.2 k, pq_mk g (pq_sh k) (h k)))
abbrev pq_tys (g : pq_G) : List (ClassId × FieldType) := [(g.2.1.1, .int), (g.2.1.2.1, .long), (g.2.1.2.2, .array .int)]
def pq_A (g : pq_G) (sz : Nat) : Nat → Prop := fun q => (∃ k, k < pq_N ∧ q = g.2.2 k) ∨ sz ≤ q
theorem pq_get {g : pq_G} {h : pq_H} {k : Nat} (hk : k < pq_N) {e : va_E} (he : pq_mk g (pq_sh k) (h k) = e) : (pq_ws g h)[k]? = some (g.2.2 k, e) := by
  subst he
  simp [pq_ws, hk]
theorem pq_get_iff {g : pq_G} {h : pq_H} {k : Nat} {q : Nat × va_E} (hq : (pq_ws g h)[k]? = some q) : k < pq_N ∧ q = (g.2.2 k, pq_mk g (pq_sh k) (h k)) := by
  have hl : k < (pq_ws g h).length := (List.getElem?_eq_some_iff.mp hq).1
  have hk : k < pq_N := by simpa [pq_ws] using hl
  exact ⟨hk, Option.some.inj (hq.symm.trans (pq_get hk rfl))⟩
theorem pq_set {g : pq_G} {h : pq_H} {k : Nat} (hk : k < pq_N) {e : va_E} {f : Nat → Int32} (he : pq_mk g (pq_sh k) f = e) : (pq_ws g h).set k (g.2.2 k, e) = pq_ws g (va_up h k f) := by
  subst he
  apply List.ext_getElem?
  intro i
  by_cases hi : i < pq_N
  · by_cases e1 : k = i
    · subst e1
      rw [List.getElem?_set_self (by simpa [pq_ws] using hk), pq_get hk rfl, va_up_self]
    · rw [List.getElem?_set_ne e1, pq_get hi rfl, pq_get hi rfl, va_up_ne _ _ (fun q => e1 q.symm)]
  · rw [List.getElem?_eq_none (by simp [pq_ws]; omega), List.getElem?_eq_none (by simp [pq_ws]; omega)]
theorem pq_fget {g : pq_G} {fl : List (Option Nat)} {f : Nat → Int32} {j : Nat} {o : Option Nat} (hf : fl[j]? = some o) : (fl.mapIdx (pq_fv g f))[j]? = some (pq_fv g f j o) := by
  rw [List.getElem?_mapIdx, hf]; rfl
theorem pq_fset {g : pq_G} {fl : List (Option Nat)} {f : Nat → Int32} {j : Nat} {v : Int32} (hf : fl[j]? = some none) : (fl.mapIdx (pq_fv g f)).set j (.int v) = fl.mapIdx (pq_fv g (upd f j v)) := by
  have hl : j < fl.length := (List.getElem?_eq_some_iff.mp hf).1
  apply List.ext_getElem?
  intro i
  by_cases e1 : j = i
  · subst e1
    rw [List.getElem?_set_self (by simpa using hl), List.getElem?_mapIdx, hf]
    show some (Value.int v) = some (Value.int (upd f j v j))
    rw [pk_us]
  · rw [List.getElem?_set_ne e1, List.getElem?_mapIdx, List.getElem?_mapIdx]
    cases fl[i]? with
    | none => rfl
    | some o =>
      cases o with
      | none =>
        show some (Value.int (f i)) = some (Value.int (upd f j v i))
        rw [pk_un (fun q => e1 q.symm)]
      | some r => rfl
/-- locals: by their places, what is known of each -/
def pq_lh (ls : Array Slot) (vs : List (Option Value)) : Prop := ls.size = vs.length ∧ lv_wf ls ∧ ∀ (i : Nat) (v : Value), vs[i]? = some (some v) → ls[i]? = some (.val v) ∧ v.category = 1
def pq_lv : Nat → List (Option Value) → List (Nat × Value)
  | _, [] => []
  | n, none :: r => pq_lv (n + 1) r
  | n, some v :: r => (n, v) :: pq_lv (n + 1) r
theorem pq_lv_mem : ∀ (vs : List (Option Value)) (n : Nat) (q : Nat × Value), q ∈ pq_lv n vs → n ≤ q.1 ∧ vs[q.1 - n]? = some (some q.2)
  | [], n, q, h => by simp [pq_lv] at h
  | none :: r, n, q, h => by
    obtain ⟨h1, h2⟩ := pq_lv_mem r (n + 1) q (by simpa [pq_lv] using h)
    refine ⟨by omega, ?_⟩
    rw [show q.1 - n = (q.1 - (n + 1)) + 1 by omega]
    simpa using h2
  | some v :: r, n, q, h => by
    rcases List.mem_cons.mp (by simpa [pq_lv] using h) with e | h
    · subst e
      simp
    · obtain ⟨h1, h2⟩ := pq_lv_mem r (n + 1) q h
      refine ⟨by omega, ?_⟩
      rw [show q.1 - n = (q.1 - (n + 1)) + 1 by omega]
      simpa using h2
theorem pq_lv_of : ∀ (vs : List (Option Value)) (n i : Nat) (v : Value), vs[i]? = some (some v) → (n + i, v) ∈ pq_lv n vs
  | [], n, i, v, h => by simp at h
  | o :: r, n, 0, v, h => by
    have : o = some v := by simpa using h
    subst this
    simp [pq_lv]
  | none :: r, n, i + 1, v, h => by
    have := pq_lv_of r (n + 1) i v (by simpa using h)
    rw [show n + (i + 1) = n + 1 + i by omega]
    simpa [pq_lv] using this
  | some w :: r, n, i + 1, v, h => by
    have := pq_lv_of r (n + 1) i v (by simpa using h)
    rw [show n + (i + 1) = n + 1 + i by omega]
    simp [pq_lv, this]
theorem pq_lh.has {ls : Array Slot} {vs : List (Option Value)} (h : pq_lh ls vs) : lv_has ls vs.length (pq_lv 0 vs) :=
  ⟨h.1, h.2.1, fun q hq => (h.2.2 q.1 q.2 (by simpa using (pq_lv_mem vs 0 q hq).2)).1⟩
theorem pq_lh.at {ls : Array Slot} {vs : List (Option Value)} (h : pq_lh ls vs) {i : Nat} {v : Value} (hi : vs[i]? = some (some v)) : ls[i]? = some (.val v) := (h.2.2 i v hi).1
/-- the list that a store leaves, held: the new locals -/
theorem pq_lh.store {ls ls' : Array Slot} {vs : List (Option Value)} (h : pq_lh ls vs) {i : Nat} {w : Value} (hi : i < vs.length) (hw : w.category = 1)
    (h' : lv_has ls' vs.length ((i, w) :: (pq_lv 0 vs).filter (fun q => !(q.1 == i) && !(q.1 + 1 == i && q.2.category == 2)))) : pq_lh ls' (vs.set i (some w)) := by
  refine ⟨by rw [List.length_set]; exact h'.1, h'.2.1, fun j v hj => ?_⟩
  by_cases e1 : i = j
  · subst e1
    rw [List.getElem?_set_self hi] at hj
    cases hj
    exact ⟨h'.2.2 (i, w) List.mem_cons_self, hw⟩
  · rw [List.getElem?_set_ne e1] at hj
    have hc := (h.2.2 j v hj).2
    refine ⟨h'.2.2 (j, v) (List.mem_cons_of_mem _ (List.mem_filter.mpr ⟨by simpa using pq_lv_of vs 0 j v hj, ?_⟩)), hc⟩
    simp [hc]
    exact fun q => e1 q.symm
def pq_le : List (Option Value) → List (Option Value) → Prop
  | [], [] => True
  | none :: a, _ :: b => pq_le a b
  | some x :: a, y :: b => y = some x ∧ pq_le a b
  | _, _ => False
theorem pq_le_at : ∀ (a b : List (Option Value)), pq_le a b → a.length = b.length ∧ ∀ (i : Nat) (v : Value), a[i]? = some (some v) → b[i]? = some (some v)
  | [], [], _ => ⟨rfl, fun i v h => by simp at h⟩
  | [], _ :: _, h => by simp [pq_le] at h
  | none :: _, [], h => by simp [pq_le] at h
  | some _ :: _, [], h => by simp [pq_le] at h
  | none :: a, y :: b, h => by
    obtain ⟨h1, h2⟩ := pq_le_at a b h
    refine ⟨by simp [h1], fun i v hi => ?_⟩
    cases i with
    | zero => simp at hi
    | succ i => simpa using h2 i v (by simpa using hi)
  | some x :: a, y :: b, h => by
    obtain ⟨h0, h⟩ := h
    obtain ⟨h1, h2⟩ := pq_le_at a b h
    subst h0
    refine ⟨by simp [h1], fun i v hi => ?_⟩
    cases i with
    | zero => simpa using hi
    | succ i => simpa using h2 i v (by simpa using hi)
theorem pq_lh.le {ls : Array Slot} {vs vs' : List (Option Value)} (h : pq_lh ls vs) (hl : pq_le vs' vs) : pq_lh ls vs' := by
  obtain ⟨h1, h2⟩ := pq_le_at vs' vs hl
  exact ⟨h.1.trans h1.symm, h.2.1, fun i v hi => h.2.2 i v (h2 i v hi)⟩
/-- the judgement -/
def VV (p : Program) (l : Launch) (e : Env) (R : Room) (s : State) (m : MethodId) (args : Array Value) (below : List Frame) (meth : Method) (c : Code) (Q : State → Prop) (g : pq_G) (cells slots : Nat) (h : pq_H) (pc : Nat) (vs : List (Option Value)) (st : List Value) : Prop :=
  ∀ (H : Heap) (locs : List Loc) (ls : Array Slot), va_P g.1 vwCl (pq_ws g h) H → va_D (pq_A g s.heap.size) (pq_ws g h) → va_S (pq_A g s.heap.size) s.heap H locs → pq_lh ls vs → W p l e R s m args below meth c H locs cells slots Q (F0 m pc ls st)
/-- what holds at every instruction of a body -/
abbrev CX (p : Program) (s : State) (m : MethodId) (args : Array Value) (c : Code) (cc : ByteArray) (nL : Nat) (own : String) (g : pq_G) : Prop :=
  CallFix p m c cc nL s args pq_W own ∧ va_K g.1 vwCl (pq_tys g) s
section LAY
variable {p : Program} {l : Launch} {e : Env} {R : Room} {s : State} {m : MethodId} {args : Array Value} {below : List Frame} {meth : Method} {c : Code} {Q : State → Prop} {g : pq_G} {cells slots : Nat} {h : pq_H} {pc pc' : Nat} {vs : List (Option Value)} {st : List Value}
variable {cc : ByteArray} {nL : Nat} {own : String}
theorem VV.le {vs' : List (Option Value)} (hl : pq_le vs' vs) (kk : VV p l e R s m args below meth c Q g cells slots h pc vs' st) : VV p l e R s m args below meth c Q g cells slots h pc vs st :=
  fun H locs ls hP hD hS hh => kk H locs ls hP hD hS (hh.le hl)
theorem VV.widen {k n : Nat} (h1 : cells ≤ k) (h2 : slots ≤ n) (kk : VV p l e R s m args below meth c Q g k n h pc vs st) : VV p l e R s m args below meth c Q g cells slots h pc vs st :=
  fun H locs ls hP hD hS hh => W.widen h1 h2 (kk H locs ls hP hD hS hh)

theorem vv_iconst (cx : CX p s m args c cc nL own g) {n : Int} {v : Int32} (hd : decode cc pc = .ok (.iconst n, 1)) (hv : Int32.ofInt n = v) (hp : pc + 1 = pc') (kk : VV p l e R s m args below meth c Q g cells slots h pc' vs (.int v :: st)) : VV p l e R s m args below meth c Q g cells slots h pc vs st :=
  fun H locs ls hP hD hS hl => by subst hp; exact lv_iconst cx.1.1 cx.1.2.1 hd hv (kk H locs ls hP hD hS hl)
theorem vv_bipush (cx : CX p s m args c cc nL own g) {n : Int} {v : Int32} (hd : decode cc pc = .ok (.bipush n, 2)) (hv : (Int8.ofInt n).toInt32 = v) (hp : pc + 2 = pc') (kk : VV p l e R s m args below meth c Q g cells slots h pc' vs (.int v :: st)) : VV p l e R s m args below meth c Q g cells slots h pc vs st :=
  fun H locs ls hP hD hS hl => by subst hp; exact lv_bipush cx.1.1 cx.1.2.1 hd hv (kk H locs ls hP hD hS hl)
theorem vv_sipush (cx : CX p s m args c cc nL own g) {n : Int} {v : Int32} (hd : decode cc pc = .ok (.sipush n, 3)) (hv : (Int16.ofInt n).toInt32 = v) (hp : pc + 3 = pc') (kk : VV p l e R s m args below meth c Q g cells slots h pc' vs (.int v :: st)) : VV p l e R s m args below meth c Q g cells slots h pc vs st :=
  fun H locs ls hP hD hS hl => by subst hp; exact lv_sipush cx.1.1 cx.1.2.1 hd hv (kk H locs ls hP hD hS hl)
theorem vv_ldc (cx : CX p s m args c cc nL own g) {index : Nat} {v : Int32} (hd : decode cc pc = .ok (.ldc index, 2)) (hc : Jvm.Cond.constant own index v ∈ pq_W) (hp : pc + 2 = pc') (kk : VV p l e R s m args below meth c Q g cells slots h pc' vs (.int v :: st)) : VV p l e R s m args below meth c Q g cells slots h pc vs st :=
  fun H locs ls hP hD hS hl => by subst hp; exact lv_ldc cx.1.1 cx.1.2.1 cx.1.2.2.2.1 (cx.1.2.2.2.2 _ hc) hd (kk H locs ls hP hD hS hl)
theorem vv_iload_n (cx : CX p s m args c cc nL own g) {k : Fin 4} {i : Nat} {x : Int32} (hd : decode cc pc = .ok (.iload_n k, 1)) (hi : (k : Nat) = i) (hv : vs[i]? = some (some (.int x))) (hp : pc + 1 = pc') (kk : VV p l e R s m args below meth c Q g cells slots h pc' vs (.int x :: st)) : VV p l e R s m args below meth c Q g cells slots h pc vs st :=
  fun H locs ls hP hD hS hl => by subst hp; exact lv_iload_n cx.1.1 cx.1.2.1 hd hi (hl.at hv) (kk H locs ls hP hD hS hl)
theorem vv_iload (cx : CX p s m args c cc nL own g) {i : Nat} {x : Int32} (hd : decode cc pc = .ok (.iload i, 2)) (hv : vs[i]? = some (some (.int x))) (hp : pc + 2 = pc') (kk : VV p l e R s m args below meth c Q g cells slots h pc' vs (.int x :: st)) : VV p l e R s m args below meth c Q g cells slots h pc vs st :=
  fun H locs ls hP hD hS hl => by subst hp; exact lv_iload cx.1.1 cx.1.2.1 hd (hl.at hv) (kk H locs ls hP hD hS hl)
theorem vv_istore_n (cx : CX p s m args c cc nL own g) {k : Fin 4} {i : Nat} {x : Int32} (hd : decode cc pc = .ok (.istore_n k, 1)) (hi : (k : Nat) = i) (hn : i < vs.length) (hp : pc + 1 = pc') (kk : VV p l e R s m args below meth c Q g cells slots h pc' (vs.set i (some (.int x))) st) : VV p l e R s m args below meth c Q g cells slots h pc vs (.int x :: st) :=
  fun H locs ls hP hD hS hl => by subst hp; exact lv_istore_n cx.1.1 cx.1.2.1 hd hi hl.has hn rfl (fun ls9 hl9 => kk H locs ls9 hP hD hS (hl.store hn rfl hl9))
theorem vv_istore (cx : CX p s m args c cc nL own g) {i : Nat} {x : Int32} (hd : decode cc pc = .ok (.istore i, 2)) (hn : i < vs.length) (hp : pc + 2 = pc') (kk : VV p l e R s m args below meth c Q g cells slots h pc' (vs.set i (some (.int x))) st) : VV p l e R s m args below meth c Q g cells slots h pc vs (.int x :: st) :=
  fun H locs ls hP hD hS hl => by subst hp; exact lv_istore cx.1.1 cx.1.2.1 hd hl.has hn rfl (fun ls9 hl9 => kk H locs ls9 hP hD hS (hl.store hn rfl hl9))
theorem vv_aload_n (cx : CX p s m args c cc nL own g) {k : Fin 4} {i : Nat} {x : Nat} (hd : decode cc pc = .ok (.aload_n k, 1)) (hi : (k : Nat) = i) (hv : vs[i]? = some (some (.ref x))) (hp : pc + 1 = pc') (kk : VV p l e R s m args below meth c Q g cells slots h pc' vs (.ref x :: st)) : VV p l e R s m args below meth c Q g cells slots h pc vs st :=
  fun H locs ls hP hD hS hl => by subst hp; exact lv_aload_n cx.1.1 cx.1.2.1 hd hi (hl.at hv) (kk H locs ls hP hD hS hl)
theorem vv_aload (cx : CX p s m args c cc nL own g) {i : Nat} {x : Nat} (hd : decode cc pc = .ok (.aload i, 2)) (hv : vs[i]? = some (some (.ref x))) (hp : pc + 2 = pc') (kk : VV p l e R s m args below meth c Q g cells slots h pc' vs (.ref x :: st)) : VV p l e R s m args below meth c Q g cells slots h pc vs st :=
  fun H locs ls hP hD hS hl => by subst hp; exact lv_aload cx.1.1 cx.1.2.1 hd (hl.at hv) (kk H locs ls hP hD hS hl)
theorem vv_astore_n (cx : CX p s m args c cc nL own g) {k : Fin 4} {i : Nat} {x : Nat} (hd : decode cc pc = .ok (.astore_n k, 1)) (hi : (k : Nat) = i) (hn : i < vs.length) (hp : pc + 1 = pc') (kk : VV p l e R s m args below meth c Q g cells slots h pc' (vs.set i (some (.ref x))) st) : VV p l e R s m args below meth c Q g cells slots h pc vs (.ref x :: st) :=
  fun H locs ls hP hD hS hl => by subst hp; exact lv_astore_n cx.1.1 cx.1.2.1 hd hi hl.has hn rfl (fun ls9 hl9 => kk H locs ls9 hP hD hS (hl.store hn rfl hl9))
theorem vv_astore (cx : CX p s m args c cc nL own g) {i : Nat} {x : Nat} (hd : decode cc pc = .ok (.astore i, 2)) (hn : i < vs.length) (hp : pc + 2 = pc') (kk : VV p l e R s m args below meth c Q g cells slots h pc' (vs.set i (some (.ref x))) st) : VV p l e R s m args below meth c Q g cells slots h pc vs (.ref x :: st) :=
  fun H locs ls hP hD hS hl => by subst hp; exact lv_astore cx.1.1 cx.1.2.1 hd hl.has hn rfl (fun ls9 hl9 => kk H locs ls9 hP hD hS (hl.store hn rfl hl9))
theorem vv_iinc (cx : CX p s m args c cc nL own g) {i : Nat} {n : Int} {x v : Int32} (hd : decode cc pc = .ok (.iinc i n, 3)) (hv : vs[i]? = some (some (.int x))) (hx : x + Int32.ofInt n = v) (hp : pc + 3 = pc') (kk : VV p l e R s m args below meth c Q g cells slots h pc' (vs.set i (some (.int v))) st) : VV p l e R s m args below meth c Q g cells slots h pc vs st := by
  intro H locs ls hP hD hS hl
  subst hp
  have hn : i < vs.length := (List.getElem?_eq_some_iff.mp hv).1
  obtain ⟨k, hk⟩ := List.getElem?_of_mem (pq_lv_of vs 0 i _ hv)
  exact lv_iinc cx.1.1 cx.1.2.1 hd hl.has (by simpa using hk) hx hn rfl (fun ls9 hl9 => kk H locs ls9 hP hD hS (hl.store hn rfl hl9))
theorem vv_iadd (cx : CX p s m args c cc nL own g) {x y : Int32} (hd : decode cc pc = .ok (.iadd, 1)) (hp : pc + 1 = pc') (kk : VV p l e R s m args below meth c Q g cells slots h pc' vs (.int (x + y) :: st)) : VV p l e R s m args below meth c Q g cells slots h pc vs (.int y :: .int x :: st) :=
  fun H locs ls hP hD hS hl => by subst hp; exact lv_iadd cx.1.1 cx.1.2.1 hd (kk H locs ls hP hD hS hl)
theorem vv_isub (cx : CX p s m args c cc nL own g) {x y : Int32} (hd : decode cc pc = .ok (.isub, 1)) (hp : pc + 1 = pc') (kk : VV p l e R s m args below meth c Q g cells slots h pc' vs (.int (x - y) :: st)) : VV p l e R s m args below meth c Q g cells slots h pc vs (.int y :: .int x :: st) :=
  fun H locs ls hP hD hS hl => by subst hp; exact lv_isub cx.1.1 cx.1.2.1 hd (kk H locs ls hP hD hS hl)
theorem vv_imul (cx : CX p s m args c cc nL own g) {x y : Int32} (hd : decode cc pc = .ok (.imul, 1)) (hp : pc + 1 = pc') (kk : VV p l e R s m args below meth c Q g cells slots h pc' vs (.int (x * y) :: st)) : VV p l e R s m args below meth c Q g cells slots h pc vs (.int y :: .int x :: st) :=
  fun H locs ls hP hD hS hl => by subst hp; exact lv_imul cx.1.1 cx.1.2.1 hd (kk H locs ls hP hD hS hl)
theorem vv_iand (cx : CX p s m args c cc nL own g) {x y : Int32} (hd : decode cc pc = .ok (.iand, 1)) (hp : pc + 1 = pc') (kk : VV p l e R s m args below meth c Q g cells slots h pc' vs (.int (x &&& y) :: st)) : VV p l e R s m args below meth c Q g cells slots h pc vs (.int y :: .int x :: st) :=
  fun H locs ls hP hD hS hl => by subst hp; exact lv_iand cx.1.1 cx.1.2.1 hd (kk H locs ls hP hD hS hl)
theorem vv_idiv (cx : CX p s m args c cc nL own g) {x y : Int32} (hd : decode cc pc = .ok (.idiv, 1)) (hne : ¬ y = 0) (hp : pc + 1 = pc') (kk : VV p l e R s m args below meth c Q g cells slots h pc' vs (.int (x / y) :: st)) : VV p l e R s m args below meth c Q g cells slots h pc vs (.int y :: .int x :: st) :=
  fun H locs ls hP hD hS hl => by subst hp; exact lv_idiv cx.1.1 cx.1.2.1 hd hne (kk H locs ls hP hD hS hl)
theorem vv_ineg (cx : CX p s m args c cc nL own g) {x : Int32} (hd : decode cc pc = .ok (.ineg, 1)) (hp : pc + 1 = pc') (kk : VV p l e R s m args below meth c Q g cells slots h pc' vs (.int (-x) :: st)) : VV p l e R s m args below meth c Q g cells slots h pc vs (.int x :: st) :=
  fun H locs ls hP hD hS hl => by subst hp; exact lv_ineg cx.1.1 cx.1.2.1 hd (kk H locs ls hP hD hS hl)
theorem vv_dup (cx : CX p s m args c cc nL own g) {v : Value} (hd : decode cc pc = .ok (.dup, 1)) (hv : v.category = 1) (hp : pc + 1 = pc') (kk : VV p l e R s m args below meth c Q g cells slots h pc' vs (v :: v :: st)) : VV p l e R s m args below meth c Q g cells slots h pc vs (v :: st) :=
  fun H locs ls hP hD hS hl => by subst hp; exact lv_dup cx.1.1 cx.1.2.1 hd hv (kk H locs ls hP hD hS hl)
theorem vv_pop (cx : CX p s m args c cc nL own g) {v : Value} (hd : decode cc pc = .ok (.pop, 1)) (hv : v.category = 1) (hp : pc + 1 = pc') (kk : VV p l e R s m args below meth c Q g cells slots h pc' vs st) : VV p l e R s m args below meth c Q g cells slots h pc vs (v :: st) :=
  fun H locs ls hP hD hS hl => by subst hp; exact lv_pop cx.1.1 cx.1.2.1 hd hv (kk H locs ls hP hD hS hl)
theorem vv_dup2 (cx : CX p s m args c cc nL own g) {v w : Value} (hd : decode cc pc = .ok (.dup2, 1)) (hv : v.category = 1) (hw : w.category = 1) (hp : pc + 1 = pc') (kk : VV p l e R s m args below meth c Q g cells slots h pc' vs (v :: w :: v :: w :: st)) : VV p l e R s m args below meth c Q g cells slots h pc vs (v :: w :: st) :=
  fun H locs ls hP hD hS hl => by subst hp; exact lv_dup2_11 cx.1.1 cx.1.2.1 hd hv hw (kk H locs ls hP hD hS hl)
theorem vv_dup_x1 (cx : CX p s m args c cc nL own g) {v w : Value} (hd : decode cc pc = .ok (.dup_x1, 1)) (hv : v.category = 1) (hw : w.category = 1) (hp : pc + 1 = pc') (kk : VV p l e R s m args below meth c Q g cells slots h pc' vs (v :: w :: v :: st)) : VV p l e R s m args below meth c Q g cells slots h pc vs (v :: w :: st) :=
  fun H locs ls hP hD hS hl => by subst hp; exact lv_dup_x1 cx.1.1 cx.1.2.1 hd hv hw (kk H locs ls hP hD hS hl)
theorem vv_goto (cx : CX p s m args c cc nL own g) {off : Int} {tgt : Nat} (hd : decode cc pc = .ok (.goto off, 3)) (ht : (pc : Int) + off = (tgt : Int)) (kk : VV p l e R s m args below meth c Q g cells slots h tgt vs st) : VV p l e R s m args below meth c Q g cells slots h pc vs st :=
  fun H locs ls hP hD hS hl => lv_goto cx.1.1 cx.1.2.1 hd ht (kk H locs ls hP hD hS hl)
theorem vv_if_eq (cx : CX p s m args c cc nL own g) {x : Int32} {off : Int} {tgt : Nat} (hd : decode cc pc = .ok (.ifCond .eq off, 3)) (ht : (pc : Int) + off = (tgt : Int)) (hp : pc + 3 = pc') (kt : x = 0 → VV p l e R s m args below meth c Q g cells slots h tgt vs st) (kf : ¬ x = 0 → VV p l e R s m args below meth c Q g cells slots h pc' vs st) : VV p l e R s m args below meth c Q g cells slots h pc vs (.int x :: st) :=
  fun H locs ls hP hD hS hl => by subst hp; exact lv_if_eq cx.1.1 cx.1.2.1 hd ht (fun q => kt q H locs ls hP hD hS hl) (fun q => kf q H locs ls hP hD hS hl)
theorem vv_icmp_eq (cx : CX p s m args c cc nL own g) {x y : Int32} {off : Int} {tgt : Nat} (hd : decode cc pc = .ok (.if_icmp .eq off, 3)) (ht : (pc : Int) + off = (tgt : Int)) (hp : pc + 3 = pc') (kt : x = y → VV p l e R s m args below meth c Q g cells slots h tgt vs st) (kf : ¬ x = y → VV p l e R s m args below meth c Q g cells slots h pc' vs st) : VV p l e R s m args below meth c Q g cells slots h pc vs (.int y :: .int x :: st) :=
  fun H locs ls hP hD hS hl => by subst hp; exact lv_icmp_eq cx.1.1 cx.1.2.1 hd ht (fun q => kt q H locs ls hP hD hS hl) (fun q => kf q H locs ls hP hD hS hl)
theorem vv_if_ne (cx : CX p s m args c cc nL own g) {x : Int32} {off : Int} {tgt : Nat} (hd : decode cc pc = .ok (.ifCond .ne off, 3)) (ht : (pc : Int) + off = (tgt : Int)) (hp : pc + 3 = pc') (kt : ¬ x = 0 → VV p l e R s m args below meth c Q g cells slots h tgt vs st) (kf : x = 0 → VV p l e R s m args below meth c Q g cells slots h pc' vs st) : VV p l e R s m args below meth c Q g cells slots h pc vs (.int x :: st) :=
  fun H locs ls hP hD hS hl => by subst hp; exact lv_if_ne cx.1.1 cx.1.2.1 hd ht (fun q => kt q H locs ls hP hD hS hl) (fun q => kf q H locs ls hP hD hS hl)
theorem vv_icmp_ne (cx : CX p s m args c cc nL own g) {x y : Int32} {off : Int} {tgt : Nat} (hd : decode cc pc = .ok (.if_icmp .ne off, 3)) (ht : (pc : Int) + off = (tgt : Int)) (hp : pc + 3 = pc') (kt : ¬ x = y → VV p l e R s m args below meth c Q g cells slots h tgt vs st) (kf : x = y → VV p l e R s m args below meth c Q g cells slots h pc' vs st) : VV p l e R s m args below meth c Q g cells slots h pc vs (.int y :: .int x :: st) :=
  fun H locs ls hP hD hS hl => by subst hp; exact lv_icmp_ne cx.1.1 cx.1.2.1 hd ht (fun q => kt q H locs ls hP hD hS hl) (fun q => kf q H locs ls hP hD hS hl)
theorem vv_if_lt (cx : CX p s m args c cc nL own g) {x : Int32} {off : Int} {tgt : Nat} (hd : decode cc pc = .ok (.ifCond .lt off, 3)) (ht : (pc : Int) + off = (tgt : Int)) (hp : pc + 3 = pc') (kt : x < 0 → VV p l e R s m args below meth c Q g cells slots h tgt vs st) (kf : ¬ x < 0 → VV p l e R s m args below meth c Q g cells slots h pc' vs st) : VV p l e R s m args below meth c Q g cells slots h pc vs (.int x :: st) :=
  fun H locs ls hP hD hS hl => by subst hp; exact lv_if_lt cx.1.1 cx.1.2.1 hd ht (fun q => kt q H locs ls hP hD hS hl) (fun q => kf q H locs ls hP hD hS hl)
theorem vv_icmp_lt (cx : CX p s m args c cc nL own g) {x y : Int32} {off : Int} {tgt : Nat} (hd : decode cc pc = .ok (.if_icmp .lt off, 3)) (ht : (pc : Int) + off = (tgt : Int)) (hp : pc + 3 = pc') (kt : x < y → VV p l e R s m args below meth c Q g cells slots h tgt vs st) (kf : ¬ x < y → VV p l e R s m args below meth c Q g cells slots h pc' vs st) : VV p l e R s m args below meth c Q g cells slots h pc vs (.int y :: .int x :: st) :=
  fun H locs ls hP hD hS hl => by subst hp; exact lv_icmp_lt cx.1.1 cx.1.2.1 hd ht (fun q => kt q H locs ls hP hD hS hl) (fun q => kf q H locs ls hP hD hS hl)
theorem vv_if_ge (cx : CX p s m args c cc nL own g) {x : Int32} {off : Int} {tgt : Nat} (hd : decode cc pc = .ok (.ifCond .ge off, 3)) (ht : (pc : Int) + off = (tgt : Int)) (hp : pc + 3 = pc') (kt : 0 ≤ x → VV p l e R s m args below meth c Q g cells slots h tgt vs st) (kf : ¬ 0 ≤ x → VV p l e R s m args below meth c Q g cells slots h pc' vs st) : VV p l e R s m args below meth c Q g cells slots h pc vs (.int x :: st) :=
  fun H locs ls hP hD hS hl => by subst hp; exact lv_if_ge cx.1.1 cx.1.2.1 hd ht (fun q => kt q H locs ls hP hD hS hl) (fun q => kf q H locs ls hP hD hS hl)
theorem vv_icmp_ge (cx : CX p s m args c cc nL own g) {x y : Int32} {off : Int} {tgt : Nat} (hd : decode cc pc = .ok (.if_icmp .ge off, 3)) (ht : (pc : Int) + off = (tgt : Int)) (hp : pc + 3 = pc') (kt : y ≤ x → VV p l e R s m args below meth c Q g cells slots h tgt vs st) (kf : ¬ y ≤ x → VV p l e R s m args below meth c Q g cells slots h pc' vs st) : VV p l e R s m args below meth c Q g cells slots h pc vs (.int y :: .int x :: st) :=
  fun H locs ls hP hD hS hl => by subst hp; exact lv_icmp_ge cx.1.1 cx.1.2.1 hd ht (fun q => kt q H locs ls hP hD hS hl) (fun q => kf q H locs ls hP hD hS hl)
theorem vv_if_gt (cx : CX p s m args c cc nL own g) {x : Int32} {off : Int} {tgt : Nat} (hd : decode cc pc = .ok (.ifCond .gt off, 3)) (ht : (pc : Int) + off = (tgt : Int)) (hp : pc + 3 = pc') (kt : 0 < x → VV p l e R s m args below meth c Q g cells slots h tgt vs st) (kf : ¬ 0 < x → VV p l e R s m args below meth c Q g cells slots h pc' vs st) : VV p l e R s m args below meth c Q g cells slots h pc vs (.int x :: st) :=
  fun H locs ls hP hD hS hl => by subst hp; exact lv_if_gt cx.1.1 cx.1.2.1 hd ht (fun q => kt q H locs ls hP hD hS hl) (fun q => kf q H locs ls hP hD hS hl)
theorem vv_icmp_gt (cx : CX p s m args c cc nL own g) {x y : Int32} {off : Int} {tgt : Nat} (hd : decode cc pc = .ok (.if_icmp .gt off, 3)) (ht : (pc : Int) + off = (tgt : Int)) (hp : pc + 3 = pc') (kt : y < x → VV p l e R s m args below meth c Q g cells slots h tgt vs st) (kf : ¬ y < x → VV p l e R s m args below meth c Q g cells slots h pc' vs st) : VV p l e R s m args below meth c Q g cells slots h pc vs (.int y :: .int x :: st) :=
  fun H locs ls hP hD hS hl => by subst hp; exact lv_icmp_gt cx.1.1 cx.1.2.1 hd ht (fun q => kt q H locs ls hP hD hS hl) (fun q => kf q H locs ls hP hD hS hl)
theorem vv_if_le (cx : CX p s m args c cc nL own g) {x : Int32} {off : Int} {tgt : Nat} (hd : decode cc pc = .ok (.ifCond .le off, 3)) (ht : (pc : Int) + off = (tgt : Int)) (hp : pc + 3 = pc') (kt : x ≤ 0 → VV p l e R s m args below meth c Q g cells slots h tgt vs st) (kf : ¬ x ≤ 0 → VV p l e R s m args below meth c Q g cells slots h pc' vs st) : VV p l e R s m args below meth c Q g cells slots h pc vs (.int x :: st) :=
  fun H locs ls hP hD hS hl => by subst hp; exact lv_if_le cx.1.1 cx.1.2.1 hd ht (fun q => kt q H locs ls hP hD hS hl) (fun q => kf q H locs ls hP hD hS hl)
theorem vv_icmp_le (cx : CX p s m args c cc nL own g) {x y : Int32} {off : Int} {tgt : Nat} (hd : decode cc pc = .ok (.if_icmp .le off, 3)) (ht : (pc : Int) + off = (tgt : Int)) (hp : pc + 3 = pc') (kt : x ≤ y → VV p l e R s m args below meth c Q g cells slots h tgt vs st) (kf : ¬ x ≤ y → VV p l e R s m args below meth c Q g cells slots h pc' vs st) : VV p l e R s m args below meth c Q g cells slots h pc vs (.int y :: .int x :: st) :=
  fun H locs ls hP hD hS hl => by subst hp; exact lv_icmp_le cx.1.1 cx.1.2.1 hd ht (fun q => kt q H locs ls hP hD hS hl) (fun q => kf q H locs ls hP hD hS hl)
/-! cells: fields and arrays -/
theorem pq_mk_obj {g : pq_G} {k ci : Nat} {fl : List (Option Nat)} {f : Nat → Int32} (hsh : pq_sh k = .inl (ci, fl)) : pq_mk g (pq_sh k) f = .inr (ci, fl.mapIdx (pq_fv g f)) := by rw [hsh]; rfl
theorem pq_mk_arr {g : pq_G} {k n : Nat} {f : Nat → Int32} (hsh : pq_sh k = .inr (.inl n)) : pq_mk g (pq_sh k) f = .inl (g.2.1.1, n, .inl f) := by rw [hsh]; rfl
theorem pq_mk_long {g : pq_G} {k n : Nat} {f : Nat → Int32} (hsh : pq_sh k = .inr (.inr (.inl n))) : pq_mk g (pq_sh k) f = .inl (g.2.1.2.1, n, .inr (.inl (fun j => (f j).toInt64))) := by rw [hsh]; rfl
theorem pq_mk_grid {g : pq_G} {k n : Nat} {r : Nat → Nat} {f : Nat → Int32} (hsh : pq_sh k = .inr (.inr (.inr (n, r)))) : pq_mk g (pq_sh k) f = .inl (g.2.1.2.2, n, .inr (.inr (.inr (.inr (fun i => if i < n then some (g.2.2 (r i)) else none))))) := by rw [hsh]; rfl
theorem vv_getI (cx : CX p s m args c cc nL own g) {C : String} {T : u_T} {NN ci index : Nat} (k j : Nat) (hk : k < pq_N) {fl : List (Option Nat)} (hsh : pq_sh k = .inl (ci, fl)) (hf : fl[j]? = some none) (hci : vwCl[ci]? = some (C, T, NN)) (hj : j < NN) (hin : ∀ w ∈ u_ws C T NN, w ∈ pq_W) (hlink : Cond.fieldLink own index (T j).1 (T j).2.1 (T j).2.2.1 ∈ pq_W) (hd : decode cc pc = .ok (.getfield index, 3)) (hp : pc + 3 = pc')
    (kk : VV p l e R s m args below meth c Q g cells slots h pc' vs (.int (h k j) :: st)) : VV p l e R s m args below meth c Q g cells slots h pc vs (.ref (g.2.2 k) :: st) := by
  intro H locs ls hP hD hS hl
  subst hp
  obtain ⟨⟨hx, hb, -, hown, hts⟩, hK⟩ := cx
  exact va_get (v := .int (h k j)) hx hb hts hin hown hK hP k (pq_get hk (pq_mk_obj hsh)) hci j hj (hts _ hlink) (fun _ h9 => h9) (pq_fget hf) hd (kk H locs ls hP hD hS hl)
theorem vv_getR (cx : CX p s m args c cc nL own g) {C : String} {T : u_T} {NN ci index : Nat} (k j r : Nat) (hk : k < pq_N) {fl : List (Option Nat)} (hsh : pq_sh k = .inl (ci, fl)) (hf : fl[j]? = some (some r)) (hci : vwCl[ci]? = some (C, T, NN)) (hj : j < NN) (hin : ∀ w ∈ u_ws C T NN, w ∈ pq_W) (hlink : Cond.fieldLink own index (T j).1 (T j).2.1 (T j).2.2.1 ∈ pq_W) (hd : decode cc pc = .ok (.getfield index, 3)) (hp : pc + 3 = pc')
    (kk : VV p l e R s m args below meth c Q g cells slots h pc' vs (.ref (g.2.2 r) :: st)) : VV p l e R s m args below meth c Q g cells slots h pc vs (.ref (g.2.2 k) :: st) := by
  intro H locs ls hP hD hS hl
  subst hp
  obtain ⟨⟨hx, hb, -, hown, hts⟩, hK⟩ := cx
  exact va_get (v := .ref (g.2.2 r)) hx hb hts hin hown hK hP k (pq_get hk (pq_mk_obj hsh)) hci j hj (hts _ hlink) (fun _ h9 => h9) (pq_fget hf) hd (kk H locs ls hP hD hS hl)
theorem vv_putI (cx : CX p s m args c cc nL own g) {C : String} {T : u_T} {NN ci index : Nat} (k j : Nat) (hk : k < pq_N) {fl : List (Option Nat)} (hsh : pq_sh k = .inl (ci, fl)) (hf : fl[j]? = some none) (hci : vwCl[ci]? = some (C, T, NN)) (hj : j < NN) (hin : ∀ w ∈ u_ws C T NN, w ∈ pq_W) (ty0 : Nat → FieldType) (hty : ∀ k, k < NN → parseFieldDescriptor (T k).2.2.1 = some (ty0 k)) (hnm : ∀ a, a < NN → ∀ b, b < NN → a ≠ b → (T a).2.1 ≠ (T b).2.1) (hfin : (T j).2.2.2 = false) {v : Int32} (hn : narrow (ty0 j) (.int v) = .int v) (hfit : fits (ty0 j) (.int v) = true) (hlink : Cond.fieldLink own index (T j).1 (T j).2.1 (T j).2.2.1 ∈ pq_W) (hd : decode cc pc = .ok (.putfield index, 3)) (hp : pc + 3 = pc')
    (kk : VV p l e R s m args below meth c Q g cells slots (va_up h k (upd (h k) j v)) pc' vs st) : VV p l e R s m args below meth c Q g cells slots h pc vs (.int v :: .ref (g.2.2 k) :: st) := by
  intro H locs ls hP hD hS hl
  subst hp
  obtain ⟨⟨hx, hb, -, hown, hts⟩, hK⟩ := cx
  have he : (pq_ws g h).set k (g.2.2 k, .inr (ci, (fl.mapIdx (pq_fv g (h k))).set j (.int v))) = pq_ws g (va_up h k (upd (h k) j v)) :=
    pq_set hk (by rw [pq_mk_obj hsh, pq_fset hf])
  refine va_put (v := .int v) (ty := ty0 j) hx hb hts hin ty0 hty hnm hown hK hP hD hS k (pq_get hk (pq_mk_obj hsh)) hci j hj (hts _ hlink) (fun _ h9 => h9) hfin (hty j hj) hn hfit (by rw [List.length_mapIdx]; exact (List.getElem?_eq_some_iff.mp hf).1) hd (fun H1 locs1 hP1 hD1 hS1 => ?_)
  rw [he] at hP1 hD1
  exact kk H1 locs1 ls hP1 hD1 hS1 hl
theorem vv_iald (cx : CX p s m args c cc nL own g) (k : Nat) (hk : k < pq_N) {n : Nat} (hsh : pq_sh k = .inr (.inl n)) {i : Int32} (hi : vp_in i n) (hd : decode cc pc = .ok (.iaload, 1)) (hp : pc + 1 = pc')
    (kk : VV p l e R s m args below meth c Q g cells slots h pc' vs (.int (h k i.toNatClampNeg) :: st)) : VV p l e R s m args below meth c Q g cells slots h pc vs (.int i :: .ref (g.2.2 k) :: st) := by
  intro H locs ls hP hD hS hl
  subst hp
  exact va_iald cx.1.1 cx.1.2.1 cx.2 hP k 0 (pq_get hk (pq_mk_arr hsh)) rfl hi hd (kk H locs ls hP hD hS hl)
theorem vv_iast (cx : CX p s m args c cc nL own g) (k : Nat) (hk : k < pq_N) {n : Nat} (hsh : pq_sh k = .inr (.inl n)) {i x : Int32} (hi : vp_in i n) (hd : decode cc pc = .ok (.iastore, 1)) (hp : pc + 1 = pc')
    (kk : VV p l e R s m args below meth c Q g cells slots (va_up h k (upd (h k) i.toNatClampNeg x)) pc' vs st) : VV p l e R s m args below meth c Q g cells slots h pc vs (.int x :: .int i :: .ref (g.2.2 k) :: st) := by
  intro H locs ls hP hD hS hl
  subst hp
  refine va_iast cx.1.1 cx.1.2.1 cx.2 hP hD hS k 0 (pq_get hk (pq_mk_arr hsh)) rfl hi hd (fun H1 locs1 hP1 hD1 hS1 => ?_)
  rw [pq_set hk (pq_mk_arr hsh)] at hP1 hD1
  exact kk H1 locs1 ls hP1 hD1 hS1 hl
theorem va_aldR (hexec : p.tables.exec = Jvm.exec) (hb : c.code = cc) {D : va_G} {cl : List vw_C} {tys : List (ClassId × FieldType)} {ws : va_W} {H : Heap} {locs : List Loc} {a : Nat} {ls : Array Slot} {rest : List Value} (hK : va_K D cl tys s) (hP : va_P D cl ws H) (q0 t0 : Nat) {cA : ClassId} {t : FieldType} {n : Nat} {f : Nat → Option Nat} (ha : ws[q0]? = some (a, .inl (cA, n, .inr (.inr (.inr (.inr f)))))) (ht : tys[t0]? = some (cA, .array t)) {i : Int32} (hin : vp_in i n) (hdg : decode cc pc = .ok (.aaload, 1))
    (kk : W p l e R s m args below meth c H locs cells slots Q (F0 m (pc + 1) ls (va_rf (f i.toNatClampNeg) :: rest))) : W p l e R s m args below meth c H locs cells slots Q (F0 m pc ls (.int i :: .ref a :: rest)) := by
  have hlt : i.toNatClampNeg < n := Nat.not_le.mp fun q => hin (Or.inr q)
  exact W.aald (v := va_rf (f i.toNatClampNeg)) (ty := .array t) hexec hb (hP q0 _ ha) ((hK.2 t0 _ ht).1 n (fun j => va_rf (f j))) rfl (fun q => by cases q) (by show ¬ (i < 0 ∨ (arrV _ _ _).slots.size ≤ _); rw [arrV_size]; exact hin) (by show (arrV _ _ _).slots[_]? = _; rw [arrV_read _ _ hlt]) rfl rfl hdg kk
theorem vv_aald (cx : CX p s m args c cc nL own g) (k : Nat) (hk : k < pq_N) {n : Nat} {r : Nat → Nat} (hsh : pq_sh k = .inr (.inr (.inr (n, r)))) {i : Int32} (hi : vp_in i n) (hd : decode cc pc = .ok (.aaload, 1)) (hp : pc + 1 = pc')
    (kk : VV p l e R s m args below meth c Q g cells slots h pc' vs (.ref (g.2.2 (r i.toNatClampNeg)) :: st)) : VV p l e R s m args below meth c Q g cells slots h pc vs (.int i :: .ref (g.2.2 k) :: st) := by
  intro H locs ls hP hD hS hl
  subst hp
  have hlt : i.toNatClampNeg < n := Nat.not_le.mp fun q => hi (Or.inr q)
  refine va_aldR cx.1.1 cx.1.2.1 cx.2 hP k 2 (pq_get hk (pq_mk_grid hsh)) rfl hi hd ?_
  rw [if_pos hlt]
  exact kk H locs ls hP hD hS hl
theorem vv_alen (cx : CX p s m args c cc nL own g) (k : Nat) (hk : k < pq_N) {n : Nat} (hsh : pq_sh k = .inr (.inl n)) {v : Int32} (hv : Int32.ofNat n = v) (hd : decode cc pc = .ok (.arraylength, 1)) (hp : pc + 1 = pc')
    (kk : VV p l e R s m args below meth c Q g cells slots h pc' vs (.int v :: st)) : VV p l e R s m args below meth c Q g cells slots h pc vs (.ref (g.2.2 k) :: st) := by
  intro H locs ls hP hD hS hl
  subst hp
  exact va_alen cx.1.1 cx.1.2.1 cx.2 hP k 0 (pq_get hk (pq_mk_arr hsh)) rfl hv hd (kk H locs ls hP hD hS hl)
theorem vv_copy (cx : CX p s m args c cc nL own g) {index : Nat} (k0 k1 : Nat) (hk0 : k0 < pq_N) (hk1 : k1 < pq_N) {n0 n1 : Nat} (hsh0 : pq_sh k0 = .inr (.inl n0)) (hsh1 : pq_sh k1 = .inr (.inl n1)) {sp dp n : Int32} (h1 : ¬ sp < 0) (h2 : ¬ dp < 0) (h3 : ¬ n < 0) (h4 : sp.toNatClampNeg + n.toNatClampNeg ≤ n0) (h5 : dp.toNatClampNeg + n.toNatClampNeg ≤ n1)
    (hlink : Cond.methodLink own index arraycopyName ∈ pq_W) (hnat : Cond.native arraycopyName ∈ pq_W) (hstat : Cond.static arraycopyName ∈ pq_W) (hini : Cond.initialized "java/lang/System" ∈ pq_W) (hframes : 1 ≤ R.frames) (hlocals : (st.map fun v => v.category).sum + (nativeFrameWords "java/lang/System" "arraycopy" 5 + 11) ≤ R.locals) (hvs : vs.length = nL) (hd : decode cc pc = .ok (.invokestatic index, 3)) (hp : pc + 3 = pc')
    (kk : VV p l e R s m args below meth c Q g cells slots (va_up h k1 (va_cpy (h k0) (h k1) sp.toNatClampNeg dp.toNatClampNeg n.toNatClampNeg)) pc' vs st) : VV p l e R s m args below meth c Q g cells slots h pc vs (.int n :: .int dp :: .ref (g.2.2 k1) :: .int sp :: .ref (g.2.2 k0) :: st) := by
  intro H locs ls hP hD hS hl
  subst hp
  obtain ⟨⟨hx, hb, hml, hown, hts⟩, hK⟩ := cx
  refine va_copyi hx hb (by rw [hml, hl.1, hvs]) hown (hts _ hlink) (hts _ hnat) (hts _ hstat) (hts _ hini) hK hP hD hS k0 k1 0 0 (pq_get hk0 (pq_mk_arr hsh0)) (pq_get hk1 (pq_mk_arr hsh1)) rfl rfl rfl h1 h2 h3 h4 h5 (fun i _ => rfl) hframes hlocals hd (fun H1 locs1 hP1 hD1 hS1 => ?_)
  rw [pq_set hk1 (pq_mk_arr hsh1)] at hP1 hD1
  exact kk H1 locs1 ls hP1 hD1 hS1 hl
theorem vv_max (cx : CX p s m args c cc nL own g) {index : Nat} {x y : Int32} (hlink : Cond.methodLink own index Lib.Math.max.name ∈ pq_W) (hstat : Cond.static Lib.Math.max.name ∈ pq_W) (hini : Cond.initialized "java/lang/Math" ∈ pq_W) (hcode : Cond.code Lib.Math.max.name Lib.Math.max.code 2 (some .int) ∈ pq_W) (hframes : 1 ≤ R.frames) (hlocals : (st.map fun v => v.category).sum + 13 ≤ R.locals) (hc : cells ≤ R.cells) (hs : slots ≤ R.slots) (hvs : vs.length = nL) (hd : decode cc pc = .ok (.invokestatic index, 3)) (hp : pc + 3 = pc')
    (kk : VV p l e R s m args below meth c Q g cells slots h pc' vs (.int (if x < y then y else x) :: st)) : VV p l e R s m args below meth c Q g cells slots h pc vs (.int y :: .int x :: st) := by
  intro H locs ls hP hD hS hl
  subst hp
  obtain ⟨⟨hx, hb, hml, hown, hts⟩, hK⟩ := cx
  exact va_mmax hx hb (by rw [hml, hl.1, hvs]) hown (hts _ hlink) (hts _ hstat) (hts _ hini) (hts _ hcode) hframes hlocals hc hs hd (kk H locs ls hP hD hS hl)
theorem vv_min (cx : CX p s m args c cc nL own g) {index : Nat} {x y : Int32} (hlink : Cond.methodLink own index Lib.Math.min.name ∈ pq_W) (hstat : Cond.static Lib.Math.min.name ∈ pq_W) (hini : Cond.initialized "java/lang/Math" ∈ pq_W) (hcode : Cond.code Lib.Math.min.name Lib.Math.min.code 2 (some .int) ∈ pq_W) (hframes : 1 ≤ R.frames) (hlocals : (st.map fun v => v.category).sum + 13 ≤ R.locals) (hc : cells ≤ R.cells) (hs : slots ≤ R.slots) (hvs : vs.length = nL) (hd : decode cc pc = .ok (.invokestatic index, 3)) (hp : pc + 3 = pc')
    (kk : VV p l e R s m args below meth c Q g cells slots h pc' vs (.int (if y < x then y else x) :: st)) : VV p l e R s m args below meth c Q g cells slots h pc vs (.int y :: .int x :: st) := by
  intro H locs ls hP hD hS hl
  subst hp
  obtain ⟨⟨hx, hb, hml, hown, hts⟩, hK⟩ := cx
  exact va_mmin hx hb (by rw [hml, hl.1, hvs]) hown (hts _ hlink) (hts _ hstat) (hts _ hini) (hts _ hcode) hframes hlocals hc hs hd (kk H locs ls hP hD hS hl)
end LAY
/-! contracts: what a method does to the ints, what it answers, what it throws -/
def pq_I (g : pq_G) (h : pq_H) (A : Nat → Prop) (t : State) : Prop := va_P g.1 vwCl (pq_ws g h) t.heap ∧ va_K g.1 vwCl (pq_tys g) t ∧ va_D A (pq_ws g h)
/-- what a throw needs of the start: the two statics of Throwable, the texts -/
def pq_X (g : pq_G) (sz : Nat) (U : State) : Prop := vx_Zq Bundle.tN "UNASSIGNED_STACK" Bundle.steD (pq_A g sz) U U.heap ∧ vx_Zq Bundle.tN "SUPPRESSED_SENTINEL" Bundle.listD (pq_A g sz) U U.heap ∧ (∀ q ∈ pq_strs, ∃ sa, vk_R q.1 q.2.1 q.2.2 sa U) ∧ ∀ w ∈ pq_Wn, va_Nw w U
theorem pq_nk_on {w : Cond} (h : pq_nk w = true) : w.onTables = true := by cases w <;> first | rfl | cases h
theorem pq_nk_warm {w : Cond} (h : pq_nk w = true) {s U : State} (hW : s.WarmedH U.vm) (hZ : va_Nw w s) : va_Nw w U := by
  cases w <;> first | exact va_Nw.warmD hW hZ | exact va_Nw.warmC hW hZ | exact va_Nw.warmM hW hZ | cases h
def pq_Pc (g : pq_G) (av : List Value) (h : pq_H) (sz : Nat) : Array Value → State → Prop := va_Pc av (fun U => U.heap.size = sz ∧ pq_I g h (fun _ => True) U ∧ pq_X g sz U)
abbrev pq_Qi (g : pq_G) (post : Int32 → pq_H → Prop) (sz : Nat) : Array Value → State → Outcome → State → Prop := va_Qi post (fun h' t => pq_I g h' (pq_A g sz) t) (pq_A g sz)
abbrev pq_Qv (g : pq_G) (post : pq_H → Prop) (sz : Nat) : Array Value → State → Outcome → State → Prop := va_Qv post (fun h' t => pq_I g h' (pq_A g sz) t) (pq_A g sz)
abbrev pq_Qx (g : pq_G) (xpost : String → pq_H → Prop) (sz : Nat) : String → State → State → Prop := vx_X (fun _ : pq_H => True) (fun E h' t => xpost E h' ∧ pq_I g h' (pq_A g sz) t) (pq_A g sz)
def XI (l : Launch) (y : MethodName) (ws : List Cond) (rm : Room) (g : pq_G) (mc ms : Nat) (av : List Value) (h : pq_H) (post : Int32 → pq_H → Prop) (xpost : String → pq_H → Prop) : Prop :=
  ∀ sz, vx_Met l y ws rm (pq_Pc g av h sz) (pq_Qi g post sz) (pq_Qx g xpost sz) mc ms (pq_A g sz)
def XV (l : Launch) (y : MethodName) (ws : List Cond) (rm : Room) (g : pq_G) (mc ms : Nat) (av : List Value) (h : pq_H) (post : pq_H → Prop) (xpost : String → pq_H → Prop) : Prop :=
  ∀ sz, vx_Met l y ws rm (pq_Pc g av h sz) (pq_Qv g post sz) (pq_Qx g xpost sz) mc ms (pq_A g sz)
abbrev pq_no : String → pq_H → Prop := fun _ _ => False
theorem pq_A.up {g : pq_G} {a b q : Nat} (h : a ≤ b) (hq : pq_A g b q) : pq_A g a q := hq.elim Or.inl (fun z => Or.inr (Nat.le_trans h z))
theorem pq_A.of {g : pq_G} {h : pq_H} {sz : Nat} {B : Nat → Prop} (hD : va_D B (pq_ws g h)) : va_D (pq_A g sz) (pq_ws g h) := ⟨hD.1, fun k q hk => by
  obtain ⟨h1, rfl⟩ := pq_get_iff hk
  exact Or.inl ⟨k, h1, rfl⟩⟩
theorem pq_X.calling {g : pq_G} {sz : Nat} {U : State} {f : JFrame} {mk : MethodId} {a : Array Value} (h : pq_X g sz U) : pq_X g sz (U.calling f mk a) :=
  ⟨vx_Zq.moved (u := U) (U := U.calling f mk a) (Vm.Alike.refl U.vm) h.1, vx_Zq.moved (u := U) (U := U.calling f mk a) (Vm.Alike.refl U.vm) h.2.1, fun q hq => by
    obtain ⟨sa, hs⟩ := h.2.2.1 q hq
    exact ⟨sa, vk_R.same rfl hs⟩, fun w hw => va_Nw.same (u := U) (U := U.calling f mk a) (pq_nk_on (pq_Wn_nk w hw)) rfl (h.2.2.2 w hw)⟩
theorem pq_I.calling {g : pq_G} {h : pq_H} {A : Nat → Prop} {U : State} {f : JFrame} {mk : MethodId} {a : Array Value} (hI : pq_I g h A U) : pq_I g h A (U.calling f mk a) :=
  ⟨hI.1, va_K.moved (u := U) (U := U.calling f mk a) (Vm.Alike.refl U.vm) hI.2.1, hI.2.2⟩
theorem pq_Pc.blind {g : pq_G} {av : List Value} {h : pq_H} {sz : Nat} : FrameBlind (pq_Pc g av h sz) := fun _ _ _ _ q => ⟨q.1, q.2.1, q.2.2.1.calling, q.2.2.2.calling⟩
theorem pq_X.at {g : pq_G} {s U : State} {H : Heap} {locs : List Loc} (hX : pq_X g s.heap.size s) (hS : va_S (pq_A g s.heap.size) s.heap H locs) (hU : U.heap = H) (hW : s.WarmedH U.vm) : pq_X g H.size U := by
  subst hU
  refine ⟨vx_Zq.moved hW.alike ((hX.1.kept hS.2.1).narrow (fun q z => pq_A.up hS.1 z)), vx_Zq.moved hW.alike ((hX.2.1.kept hS.2.1).narrow (fun q z => pq_A.up hS.1 z)), fun q hq => ?_, fun w hw => pq_nk_warm (pq_Wn_nk w hw) hW (hX.2.2.2 w hw)⟩
  obtain ⟨sa, hs⟩ := hX.2.2.1 q hq
  exact ⟨sa, vk_R.warm hW hs⟩
theorem pq_Pc.at {g : pq_G} {av : List Value} {h : pq_H} {s U : State} {H : Heap} {locs : List Loc} (hX : pq_X g s.heap.size s) (hK : va_K g.1 vwCl (pq_tys g) s) (hP : va_P g.1 vwCl (pq_ws g h) H) (hD : va_D (pq_A g s.heap.size) (pq_ws g h)) (hS : va_S (pq_A g s.heap.size) s.heap H locs) (hU : U.heap = H) (hW : s.WarmedH U.vm) : pq_Pc g av h H.size av.toArray U :=
  ⟨rfl, by rw [hU], ⟨by rw [hU]; exact hP, va_K.moved hW.alike hK, hD.weaken (fun _ _ _ _ => trivial)⟩, hX.at hS hU hW⟩
/-- an exception of class E is on its way in this frame -/
def VX (p : Program) (l : Launch) (e : Env) (R : Room) (s : State) (m : MethodId) (args : Array Value) (below : List Frame) (meth : Method) (c : Code) (Q : State → Prop) (g : pq_G) (cells slots : Nat) (h : pq_H) (pc : Nat) (vs : List (Option Value)) (st : List Value) (E : String) : Prop :=
  ∀ (H : Heap) (locs : List Loc) (ls : Array Slot) (q : Addr) (ce : Cell), va_P g.1 vwCl (pq_ws g h) H → va_D (pq_A g s.heap.size) (pq_ws g h) → va_S (pq_A g s.heap.size) s.heap H locs → pq_lh ls vs → H[q]? = some ce → ce.vm = .none → s.vm.findClass E = some ce.cls → vx_W p l e R s m args below meth c H locs cells slots Q (F0 m pc ls st) q
section CTR
variable {p : Program} {l : Launch} {e : Env} {R : Room} {s : State} {m : MethodId} {args : Array Value} {below : List Frame} {meth : Method} {c : Code} {Q : State → Prop} {g : pq_G} {cells slots : Nat} {h : pq_H} {pc pc' : Nat} {vs : List (Option Value)} {st st0 rest : List Value}
variable {cc bytes : ByteArray} {nL maxL index n mc ms : Nat} {ws : List Cond} {own C : String} {y : MethodName} {rm : Room} {ret : Option FieldType} {av As : List Value} {xpost : String → pq_H → Prop}
theorem vv_callVi {post : Int32 → pq_H → Prop} (cx : CX p s m args c cc nL own g) (hX : pq_X g s.heap.size s) (hM : XI l y ws rm g mc ms av h post xpost) (cw : CallW R s args own C index y bytes maxL ret ws rm mc ms n) (k : Nat) (hk : k < pq_N) {ci : Nat} {fl : List (Option Nat)} (hsh : pq_sh k = .inl (ci, fl)) {T : u_T} {NN : Nat} (hci : vwCl[ci]? = some (C, T, NN)) (hav : av = .ref (g.2.2 k) :: As) (hn : As.length = n) (hst : st0 = As.reverse ++ .ref (g.2.2 k) :: rest) (hroom : (rest.map fun v => v.category).sum ≤ 8) (hvs : vs.length = nL) (hf : cells + mc ≤ R.cells ∧ slots + ms ≤ R.slots) (hd : decode cc pc = .ok (.invokevirtual index, 3)) (hp : pc + 3 = pc')
    (kx : ∀ (E : String) (h' : pq_H), xpost E h' → VX p l e R s m args below meth c Q g (cells + mc) (slots + ms) h' pc vs rest E)
    (kk : ∀ (r : Int32) (h' : pq_H), post r h' → VV p l e R s m args below meth c Q g (cells + mc) (slots + ms) h' pc' vs (.int r :: rest)) : VV p l e R s m args below meth c Q g cells slots h pc vs st0 := by
  intro H locs ls hP hD hS hl
  subst hp hst hav
  refine vx_calli (a := (Value.ref (g.2.2 k) :: As).toArray) (vx_runV cx.1 (hM H.size) cw ⟨pq_Pc.blind, va_recv cx.2 hP (ci := ci) (q0 := k) hci (pq_get hk (pq_mk_obj hsh)), fun U hU hW => pq_Pc.at hX cx.2 hP hD hS hU hW⟩ rfl hn (hl.1.trans hvs) rfl (lv_room hroom) hd hf) hS (fun q _ z => pq_A.up hS.1 z) (fun q z => pq_A.up hS.1 z) (fun q _ z => pq_A.up hS.1 z) ?_ ?_
  · intro E ce q9 u t H1 locs1 ht hvm _ hB hz hk1 hS1 hce hcv hcl
    obtain ⟨hx, hP1, -, hD1⟩ := hB
    rw [ht] at hP1
    exact kx E u hx H1 locs1 ls q9 ce hP1 (pq_A.of hD1) hS1 hl hce hcv hcl
  · intro r u t H1 locs1 ht hvm hw hB hz hk1 hS1
    obtain ⟨hP1, -, hD1⟩ := hB
    rw [ht] at hP1
    exact kk r u hw H1 locs1 ls hP1 (pq_A.of hD1) hS1 hl
theorem vv_callVv {post : pq_H → Prop} (cx : CX p s m args c cc nL own g) (hX : pq_X g s.heap.size s) (hM : XV l y ws rm g mc ms av h post xpost) (cw : CallW R s args own C index y bytes maxL ret ws rm mc ms n) (k : Nat) (hk : k < pq_N) {ci : Nat} {fl : List (Option Nat)} (hsh : pq_sh k = .inl (ci, fl)) {T : u_T} {NN : Nat} (hci : vwCl[ci]? = some (C, T, NN)) (hav : av = .ref (g.2.2 k) :: As) (hn : As.length = n) (hst : st0 = As.reverse ++ .ref (g.2.2 k) :: rest) (hroom : (rest.map fun v => v.category).sum ≤ 8) (hvs : vs.length = nL) (hf : cells + mc ≤ R.cells ∧ slots + ms ≤ R.slots) (hd : decode cc pc = .ok (.invokevirtual index, 3)) (hp : pc + 3 = pc')
    (kx : ∀ (E : String) (h' : pq_H), xpost E h' → VX p l e R s m args below meth c Q g (cells + mc) (slots + ms) h' pc vs rest E)
    (kk : ∀ (h' : pq_H), post h' → VV p l e R s m args below meth c Q g (cells + mc) (slots + ms) h' pc' vs rest) : VV p l e R s m args below meth c Q g cells slots h pc vs st0 := by
  intro H locs ls hP hD hS hl
  subst hp hst hav
  refine vx_callv (a := (Value.ref (g.2.2 k) :: As).toArray) (vx_runV cx.1 (hM H.size) cw ⟨pq_Pc.blind, va_recv cx.2 hP (ci := ci) (q0 := k) hci (pq_get hk (pq_mk_obj hsh)), fun U hU hW => pq_Pc.at hX cx.2 hP hD hS hU hW⟩ rfl hn (hl.1.trans hvs) rfl (lv_room hroom) hd hf) hS (fun q _ z => pq_A.up hS.1 z) (fun q z => pq_A.up hS.1 z) (fun q _ z => pq_A.up hS.1 z) ?_ ?_
  · intro E ce q9 u t H1 locs1 ht hvm _ hB hz hk1 hS1 hce hcv hcl
    obtain ⟨hx, hP1, -, hD1⟩ := hB
    rw [ht] at hP1
    exact kx E u hx H1 locs1 ls q9 ce hP1 (pq_A.of hD1) hS1 hl hce hcv hcl
  · intro u t H1 locs1 ht hvm hw hB hz hk1 hS1
    obtain ⟨hP1, -, hD1⟩ := hB
    rw [ht] at hP1
    exact kk u hw H1 locs1 ls hP1 (pq_A.of hD1) hS1 hl
theorem vv_callSi {post : Int32 → pq_H → Prop} (cx : CX p s m args c cc nL own g) (hX : pq_X g s.heap.size s) (hM : XI l y ws rm g mc ms av h post xpost) (cw : CallB R s args own index y bytes maxL ret ws rm mc ms n ∧ (Cond.static y).before args s = true) (hn : av.length = n) (hst : st0 = av.reverse ++ rest) (hroom : (rest.map fun v => v.category).sum ≤ 8) (hvs : vs.length = nL) (hf : cells + mc ≤ R.cells ∧ slots + ms ≤ R.slots) (hd : decode cc pc = .ok (.invokestatic index, 3)) (hp : pc + 3 = pc')
    (kx : ∀ (E : String) (h' : pq_H), xpost E h' → VX p l e R s m args below meth c Q g (cells + mc) (slots + ms) h' pc vs rest E)
    (kk : ∀ (r : Int32) (h' : pq_H), post r h' → VV p l e R s m args below meth c Q g (cells + mc) (slots + ms) h' pc' vs (.int r :: rest)) : VV p l e R s m args below meth c Q g cells slots h pc vs st0 := by
  intro H locs ls hP hD hS hl
  subst hp hst
  refine vx_calli (a := av.toArray) (vx_runS cx.1 (hM H.size) cw ⟨pq_Pc.blind, fun U hU hW => pq_Pc.at hX cx.2 hP hD hS hU hW⟩ rfl hn (hl.1.trans hvs) rfl (lv_room hroom) hd hf) hS (fun q _ z => pq_A.up hS.1 z) (fun q z => pq_A.up hS.1 z) (fun q _ z => pq_A.up hS.1 z) ?_ ?_
  · intro E ce q9 u t H1 locs1 ht hvm _ hB hz hk1 hS1 hce hcv hcl
    obtain ⟨hx, hP1, -, hD1⟩ := hB
    rw [ht] at hP1
    exact kx E u hx H1 locs1 ls q9 ce hP1 (pq_A.of hD1) hS1 hl hce hcv hcl
  · intro r u t H1 locs1 ht hvm hw hB hz hk1 hS1
    obtain ⟨hP1, -, hD1⟩ := hB
    rw [ht] at hP1
    exact kk r u hw H1 locs1 ls hP1 (pq_A.of hD1) hS1 hl
/-- a private static of the nest, that doesn't throw -/
theorem XI.met {post : Int32 → pq_H → Prop} (hM : XI l y ws rm g mc ms av h post pq_no) (sz : Nat) : Met l y ws rm (pq_Pc g av h sz) (pq_Qi g post sz) mc ms (pq_A g sz) := by
  intro p e h1 h2 h3 s m args below h4 h5 h6 h7
  obtain ⟨n, o, a1, a2, a3, a4⟩ := hM sz p e h1 h2 h3 s m args below h4 h5 h6 h7
  refine ⟨n, o, a1, a2, a3, ?_⟩
  rcases a4 with q | ⟨q, -, E, ce, L, ⟨u, -, hz, -⟩, -⟩
  · exact q
  · exact hz.1.elim
theorem vv_callNi {host : String} {post : Int32 → pq_H → Prop} (cx : CX p s m args c cc nL own g) (hX : pq_X g s.heap.size s) (hM : XI l y ws rm g mc ms av h post pq_no) (cw : va_CN R s args own index y host bytes maxL ret ws rm mc ms n ∧ (Cond.static y).before args s = true ∧ True) (hn : av.length = n) (hst : st0 = av.reverse ++ rest) (hroom : (rest.map fun v => v.category).sum ≤ 8) (hvs : vs.length = nL) (hf : cells + mc ≤ R.cells ∧ slots + ms ≤ R.slots) (hd : decode cc pc = .ok (.invokestatic index, 3)) (hp : pc + 3 = pc')
    (kk : ∀ (r : Int32) (h' : pq_H), post r h' → VV p l e R s m args below meth c Q g (cells + mc) (slots + ms) h' pc' vs (.int r :: rest)) : VV p l e R s m args below meth c Q g cells slots h pc vs st0 := by
  intro H locs ls hP hD hS hl
  subst hp hst
  refine va_calli (a := av.toArray) (va_runSN cx.1 (hM.met H.size) cw ⟨pq_Pc.blind, fun U hU hW => pq_Pc.at hX cx.2 hP hD hS hU hW⟩ rfl hn (hl.1.trans hvs) rfl (lv_room hroom) hd hf) hS (fun q _ z => pq_A.up hS.1 z) (fun q z => pq_A.up hS.1 z) ?_
  intro r u t H1 locs1 ht hvm hw hB hz hk1 hS1
  obtain ⟨hP1, -, hD1⟩ := hB
  rw [ht] at hP1
  exact kk r u hw H1 locs1 ls hP1 (pq_A.of hD1) hS1 hl
/-! ends -/
theorem vv_iret {post : Int32 → pq_H → Prop} (cx : CX p s m args c cc nL own g) (hr : meth.sig.returnType = some .int) (hlocks : meth.locks = false) (hd : decode cc pc = .ok (.ireturn, 1)) {v : Int32} (hc : cells ≤ mc) (hs : slots ≤ ms) (hpost : post v h) :
    VV p l e R s m args below meth c (vx_MQ below (pq_Qi g post s.heap.size) (pq_Qx g xpost s.heap.size) args s mc ms (pq_A g s.heap.size)) g cells slots h pc vs [.int v] := by
  intro H locs ls hP hD hS hl
  refine W.widen (k := mc) (n := ms) hc hs (vx_ret ?_)
  exact W.iret cx.1.1 cx.1.2.1 hr (fun t ht hW => ⟨⟨v, h, rfl, hpost, by rw [ht]; exact hP, va_K.moved hW.alike cx.2, hD⟩, hS.F ht⟩) hS.2.2 hd hlocks
theorem vv_zret {post : Int32 → pq_H → Prop} (cx : CX p s m args c cc nL own g) (hr : meth.sig.returnType = some .boolean) (hlocks : meth.locks = false) (hd : decode cc pc = .ok (.ireturn, 1)) {v : Int32} (hn : narrow .boolean (.int v) = .int v) (hc : cells ≤ mc) (hs : slots ≤ ms) (hpost : post v h) :
    VV p l e R s m args below meth c (vx_MQ below (pq_Qi g post s.heap.size) (pq_Qx g xpost s.heap.size) args s mc ms (pq_A g s.heap.size)) g cells slots h pc vs [.int v] := by
  intro H locs ls hP hD hS hl
  refine W.widen (k := mc) (n := ms) hc hs (vx_ret ?_)
  exact W.zret cx.1.1 cx.1.2.1 hr hn (fun t ht hW => ⟨⟨v, h, rfl, hpost, by rw [ht]; exact hP, va_K.moved hW.alike cx.2, hD⟩, hS.F ht⟩) hS.2.2 hd hlocks
theorem vv_vret {post : pq_H → Prop} (cx : CX p s m args c cc nL own g) (hr : meth.sig.returnType = none) (hlocks : meth.locks = false) (hd : decode cc pc = .ok (.return_, 1)) (hc : cells ≤ mc) (hs : slots ≤ ms) (hpost : post h) :
    VV p l e R s m args below meth c (vx_MQ below (pq_Qv g post s.heap.size) (pq_Qx g xpost s.heap.size) args s mc ms (pq_A g s.heap.size)) g cells slots h pc vs [] := by
  intro H locs ls hP hD hS hl
  refine W.widen (k := mc) (n := ms) hc hs (vx_ret ?_)
  exact W.vret cx.1.1 cx.1.2.1 hr (fun t ht hW => ⟨⟨h, rfl, hpost, by rw [ht]; exact hP, va_K.moved hW.alike cx.2, hD⟩, hS.F ht⟩) hS.2.2 hd hlocks
/-- an exception of a callee goes on to the caller -/
theorem vx_pass {Qc : Array Value → State → Outcome → State → Prop} {E : String} (cx : CX p s m args c cc nL own g) (hout : ∀ x ∈ c.exceptionTable.toList, False) (hlocks : meth.locks = false) (hc : cells ≤ mc) (hs : slots ≤ ms) (hpost : xpost E h) :
    VX p l e R s m args below meth c (vx_MQ below Qc (pq_Qx g xpost s.heap.size) args s mc ms (pq_A g s.heap.size)) g cells slots h pc vs st E := by
  intro H locs ls q ce hP hD hS hl hce hcv hcl
  exact vx_out (fun x hx => (hout x hx).elim) hlocks hce hcv hcl (fun t ht ha => ⟨h, trivial, ⟨hpost, by rw [ht]; exact hP, va_K.moved ha cx.2, hD⟩, hS.F ht⟩) hS.2.2 hc hs
/-- throw new E("text") -/
theorem vv_throw {Qc : Array Value → State → Outcome → State → Prop} {cls text : String} {names : List String} {ik is ic : Nat} (cx : CX p s m args c cc nL own g) (hX : pq_X g s.heap.size s) (hl : l.stackTraces = false) (hout : ∀ x ∈ c.exceptionTable.toList, False) (hlocks : meth.locks = false) (hcls : Bundle.fit cls = true) (hnames : ∀ n ∈ names, Bundle.fit n = true)
    (hk : Cond.classLink own ik cls ∈ pq_W) (hini : Cond.initialized cls ∈ pq_W) (hat : ∀ w ∈ vx_atS own ic cls names, w ∈ pq_W ∨ w ∈ pq_Wn) (hgood : ∀ w ∈ Cond.classLink own ik cls :: Cond.initialized cls :: vx_atS own ic cls names, vx_ot w = true) (hstr : (own, is, text) ∈ pq_strs)
    (d0 : decode cc pc = .ok (.new ik, 3)) (d3 : decode cc (pc + 3) = .ok (.dup, 1)) (d4 : decode cc (pc + 4) = .ok (.ldc is, 2)) (d6 : decode cc (pc + 6) = .ok (.invokespecial ic, 3)) (d9 : decode cc (pc + 9) = .ok (.athrow, 1)) (hvs : vs.length = nL)
    (hRframes : names.length + 3 < R.frames) (hRlocals : (st.map fun v => v.category).sum + (13 * (names.length + 1) + 43) ≤ R.locals) (hRcells : cells + 1 ≤ R.cells) (hRslots : slots + 6 ≤ R.slots) (hc : cells + 1 ≤ mc) (hs : slots + 6 ≤ ms) (hpost : xpost cls h) :
    VV p l e R s m args below meth c (vx_MQ below Qc (pq_Qx g xpost s.heap.size) args s mc ms (pq_A g s.heap.size)) g cells slots h pc vs st := by
  intro H locs ls hP hD hS hl9
  obtain ⟨⟨hx, hb, hml, hown, hts⟩, hK⟩ := cx
  obtain ⟨sa, hsa⟩ := hX.2.2.1 _ hstr
  exact vx_throwS hx hb hl hown hcls hnames (hts _ hk) (hts _ hini) hsa (fun w hw => (hat w hw).elim (hts w) (fun z => va_Nw.use (pq_nk_on (pq_Wn_nk w z)) (hX.2.2.2 w z))) hgood hX.1 hX.2.1 hS (by rw [hl9.1, hvs, hml]) d0 d3 d4 d6 d9 (fun x hx => (hout x hx).elim) hRframes hRlocals hRcells hRslots hlocks (fun t ha hz hq => by
    have hP2 : va_P g.1 vwCl (pq_ws g h) t.heap := hP.kept (fun k q hk => hq q.1 ((hP k q hk).lt))
    exact ⟨h, trivial, ⟨hpost, hP2, va_K.moved ha hK, hD⟩, Nat.le_trans hS.1 hz, fun q h1 h2 => (hq q (Nat.lt_of_lt_of_le h1 hS.1)).trans (hS.2.1 q h1 h2)⟩) hS.2.2 hc hs
end CTR
/-! entries -/
def pq_ent (n : Nat) (av : List Value) : List (Option Value) := av.map some ++ List.replicate (n - av.length) none
theorem pq_args : ∀ (av : List Value) (n i : Nat) (v : Value), (∀ w ∈ av, w.category = 1) → av[i]? = some v → (n + i, v) ∈ lv_args n av
  | [], n, i, v, _, h => by simp at h
  | w :: r, n, 0, v, hc, h => by
    have : w = v := by simpa using h
    subst this
    simp [lv_args]
  | w :: r, n, i + 1, v, hc, h => by
    have := pq_args r (n + 1) i v (fun z hz => hc z (List.mem_cons_of_mem _ hz)) (by simpa using h)
    have hw : w.category = 1 := hc w List.mem_cons_self
    rw [show n + (i + 1) = n + 1 + i by omega]
    simp [lv_args, hw, this]
theorem pq_entry {ls : Array Slot} {n : Nat} {av : List Value} (hc : ∀ w ∈ av, w.category = 1) (hn : av.length ≤ n) (hl : lv_has ls n (lv_args 0 av)) : pq_lh ls (pq_ent n av) := by
  refine ⟨by rw [hl.1]; simp [pq_ent]; omega, hl.2.1, fun i v hi => ?_⟩
  by_cases h : i < av.length
  · rw [pq_ent, List.getElem?_append_left (by simpa using h), List.getElem?_map] at hi
    have hv : av[i]? = some v := by
      cases hz : av[i]? with
      | none => rw [hz] at hi; cases hi
      | some w => rw [hz] at hi; cases hi; rfl
    have := hl.2.2 _ (pq_args av 0 i v hc hv)
    exact ⟨by simpa using this, hc v (List.mem_of_getElem? hv)⟩
  · rw [pq_ent, List.getElem?_append_right (by simp; omega)] at hi
    rw [List.getElem?_replicate] at hi
    split at hi <;> cases hi
theorem pq_sl {av : List Value} (hc : ∀ w ∈ av, w.category = 1) : (lg_sl av).length = av.length := by
  induction av with
  | nil => rfl
  | cons w r ih =>
    have hw : w.category = 1 := hc w List.mem_cons_self
    have := ih (fun z hz => hc z (List.mem_cons_of_mem _ hz))
    simp only [lg_sl, List.flatMap_cons, List.length_append, List.length_cons] at this ⊢
    rw [this]
    simp [hw]
    omega
section ENT
variable {l : Launch} {y : MethodName}  {rm : Room} {g : pq_G} {mc ms : Nat} {av : List Value} {h : pq_H} {xpost : String → pq_H → Prop} {cc : ByteArray} {maxL : Nat} {ret : Option FieldType}
theorem XI.of {post : Int32 → pq_H → Prop} (hy : plainName y.cls = true)  (hc : ∀ w ∈ av, w.category = 1) (hn : av.length ≤ maxL)
    (body : ∀ (p : Program) (e : Env) (s : State) (m : MethodId) (below : List Frame) (meth : Method) (c : Code), CX p s m av.toArray c cc maxL y.cls g → pq_X g s.heap.size s → meth.sig.returnType = ret → meth.locks = false → (∀ x ∈ c.exceptionTable.toList, False) →
      VV p l e rm s m av.toArray below meth c (vx_MQ below (pq_Qi g post s.heap.size) (pq_Qx g xpost s.heap.size) av.toArray s mc ms (pq_A g s.heap.size)) g 0 0 h 0 (pq_ent maxL av) []) : XI l y (Cond.code y cc maxL ret :: pq_W) rm g mc ms av h post xpost := by
  intro sz
  refine vx_ofW (cc := cc) (maxL := maxL) (ret := ret) hy rfl ?_
  intro p e s m args below meth c s₁ B hml hex hv
  obtain ⟨rfl, hsz, ⟨hP, hK, hD0⟩, hX⟩ := hv
  subst hsz
  have hts : ∀ w ∈ pq_W, w.before av.toArray s = true := fun w hw => atoms_spec (ws := Cond.code y cc maxL ret :: pq_W) B.pre w (List.mem_cons_of_mem _ hw)
  have hown : s.vm.findClass y.cls = some m.cls := findClass_of_methodNamed B.named
  have hl := lv_entry av (n := maxL) (by rw [pq_sl hc]; exact hn)
  rw [lg_entry_eq]
  exact body p e s m below meth c ⟨⟨B.exec, B.bytes, hml, hown, hts⟩, hK⟩ hX B.returns B.notSynchronized hex s.heap [] _ hP (pq_A.of hD0) va_S.rf (pq_entry hc hn hl)
theorem XV.of {post : pq_H → Prop} (hy : plainName y.cls = true)  (hc : ∀ w ∈ av, w.category = 1) (hn : av.length ≤ maxL)
    (body : ∀ (p : Program) (e : Env) (s : State) (m : MethodId) (below : List Frame) (meth : Method) (c : Code), CX p s m av.toArray c cc maxL y.cls g → pq_X g s.heap.size s → meth.sig.returnType = ret → meth.locks = false → (∀ x ∈ c.exceptionTable.toList, False) →
      VV p l e rm s m av.toArray below meth c (vx_MQ below (pq_Qv g post s.heap.size) (pq_Qx g xpost s.heap.size) av.toArray s mc ms (pq_A g s.heap.size)) g 0 0 h 0 (pq_ent maxL av) []) : XV l y (Cond.code y cc maxL ret :: pq_W) rm g mc ms av h post xpost := by
  intro sz
  refine vx_ofW (cc := cc) (maxL := maxL) (ret := ret) hy rfl ?_
  intro p e s m args below meth c s₁ B hml hex hv
  obtain ⟨rfl, hsz, ⟨hP, hK, hD0⟩, hX⟩ := hv
  subst hsz
  have hts : ∀ w ∈ pq_W, w.before av.toArray s = true := fun w hw => atoms_spec (ws := Cond.code y cc maxL ret :: pq_W) B.pre w (List.mem_cons_of_mem _ hw)
  have hown : s.vm.findClass y.cls = some m.cls := findClass_of_methodNamed B.named
  have hl := lv_entry av (n := maxL) (by rw [pq_sl hc]; exact hn)
  rw [lg_entry_eq]
  exact body p e s m below meth c ⟨⟨B.exec, B.bytes, hml, hown, hts⟩, hK⟩ hX B.returns B.notSynchronized hex s.heap [] _ hP (pq_A.of hD0) va_S.rf (pq_entry hc hn hl)
end ENT
end
section
/-! part 05 (printed by wip/whole/gen5.py): layouts, rooms, callee records, call rules -/
theorem lyP : ∀ w ∈ u_ws RP TP 4, w ∈ pq_W := by decide +kernel
theorem lyS : ∀ w ∈ u_ws RS TS 5, w ∈ pq_W := by decide +kernel
theorem lyD : ∀ w ∈ u_ws RD TD 5, w ∈ pq_W := by decide +kernel
theorem lyG : ∀ w ∈ u_ws RG TG 9, w ∈ pq_W := by decide +kernel
theorem lyT : ∀ w ∈ u_ws RT TT 4, w ∈ pq_W := by decide +kernel
theorem lyM : ∀ w ∈ u_ws RM TM 15, w ∈ pq_W := by decide +kernel
theorem sh_0 : pq_sh 0 = .inl (0, [some 1, some 2, some 3, some 4]) := rfl
theorem sh_1 : pq_sh 1 = .inl (1, [none, none, some 8, some 9, some 10]) := rfl
theorem sh_2 : pq_sh 2 = .inl (2, [some 1, some 11, some 12, none, none]) := rfl
theorem sh_3 : pq_sh 3 = .inl (3, [some 1, some 13, none, some 5, some 6, none, none, none, none]) := rfl
theorem sh_4 : pq_sh 4 = .inl (4, [none, some 7, some 14, some 15]) := rfl
theorem sh_5 : pq_sh 5 = .inr (.inr (.inr (30, fun j => 16 + j))) := rfl
theorem sh_6 : pq_sh 6 = .inr (.inr (.inr (30, fun j => 46 + j))) := rfl
theorem sh_7 : pq_sh 7 = .inr (.inr (.inr (40, fun j => 76 + j))) := rfl
theorem sh_8 : pq_sh 8 = .inr (.inl 5) := rfl
theorem sh_9 : pq_sh 9 = .inr (.inl 5) := rfl
theorem sh_10 : pq_sh 10 = .inr (.inl 5) := rfl
theorem sh_11 : pq_sh 11 = .inr (.inl 5) := rfl
theorem sh_12 : pq_sh 12 = .inr (.inl 5) := rfl
theorem sh_13 : pq_sh 13 = .inr (.inl 5) := rfl
theorem sh_14 : pq_sh 14 = .inr (.inl 40) := rfl
theorem sh_15 : pq_sh 15 = .inr (.inl 40) := rfl
theorem sh_116 : pq_sh 116 = .inl (5, [none, none, none, some 117, some 118, some 119, some 120, some 121, none, some 122, none, none, none, none, some 123]) := rfl
theorem sh_117 : pq_sh 117 = .inr (.inl 5) := rfl
theorem sh_118 : pq_sh 118 = .inr (.inl 5) := rfl
theorem sh_119 : pq_sh 119 = .inr (.inl 5) := rfl
theorem sh_120 : pq_sh 120 = .inr (.inl 160) := rfl
theorem sh_121 : pq_sh 121 = .inr (.inl 160) := rfl
theorem sh_122 : pq_sh 122 = .inr (.inl 155) := rfl
theorem sh_123 : pq_sh 123 = .inr (.inl 280) := rfl
theorem sh_124 : pq_sh 124 = .inr (.inr (.inl 1)) := rfl
theorem sh_row {k : Nat} (h1 : 16 ≤ k) (h2 : k < 116) : pq_sh k = .inr (.inl 5) := by
  unfold pq_sh
  rw [if_neg (by omega), if_pos h2]
theorem sh_five {k : Nat} (h : (8 ≤ k ∧ k < 14) ∨ (16 ≤ k ∧ k < 116)) : pq_sh k = .inr (.inl 5) := by
  rcases h with ⟨h1, h2⟩ | ⟨h1, h2⟩
  · have : k = 8 ∨ k = 9 ∨ k = 10 ∨ k = 11 ∨ k = 12 ∨ k = 13 := by omega
    rcases this with rfl | rfl | rfl | rfl | rfl | rfl <;> rfl
  · exact sh_row h1 h2
def pq_cal (y : MethodName) (b : ByteArray) (n : Nat) (r : Option FieldType) (k : Nat) : Prop := Cond.code y b n r ∈ pq_W ∧ Cond.initialized y.cls ∈ pq_W ∧ (y.cls ≠ "java/lang/invoke/MethodHandle" ∧ y.cls ≠ "java/lang/invoke/VarHandle" ∧ (parseMethodDescriptor y.desc).map (fun d => d.parameters.length) = some k)
abbrev pq_rec (y : MethodName) (b : ByteArray) (n : Nat) (r : Option FieldType) (k : Nat) : Prop := pq_cal y b n r k ∧ Cond.instanceMethod y ∈ pq_W ∧ Cond.selects y.cls y y ∈ pq_W
abbrev pq_recS (y : MethodName) (b : ByteArray) (n : Nat) (r : Option FieldType) (k : Nat) : Prop := pq_cal y b n r k ∧ Cond.static y ∈ pq_W
theorem pq_goodIn {y : MethodName} {b : ByteArray} {n : Nat} {r : Option FieldType} (h : Cond.code y b n r ∈ pq_W) : GoodIn pq_W (Cond.code y b n r :: pq_W) := fun w hw => by
  have h2 : w ∈ pq_W := (List.mem_cons.mp hw).elim (fun q => by rw [q]; exact h) id
  exact ⟨h2, good_of_word (pq_Wgood h2)⟩
section CCR
variable {p : Program} {l : Launch} {e : Env} {R : Room} {s : State} {m : MethodId} {args : Array Value} {below : List Frame} {meth : Method} {c : Code} {Q : State → Prop} {g : pq_G} {cells slots : Nat} {h : pq_H} {pc pc' : Nat} {vs : List (Option Value)} {st st0 rest : List Value}
variable {cc bytes : ByteArray} {nL maxL index n mc ms : Nat} {own : String} {y : MethodName} {rm : Room} {ret : Option FieldType} {av As : List Value} {xpost : String → pq_H → Prop}
theorem pq_callB (cx : CX p s m args c cc nL own g) (hc : pq_cal y bytes maxL ret n) (hl : Cond.methodLink own index y ∈ pq_W) (hrc : rm.cells = mc) (hrs : rm.slots = ms) (hR : rm.frames + 1 ≤ R.frames ∧ 8 + (maxL + 11) + rm.locals ≤ R.locals) : CallB R s args own index y bytes maxL ret (Cond.code y bytes maxL ret :: pq_W) rm mc ms n :=
  callB_of n cx.1.2.2.2.2 (pq_goodIn hc.1) rfl hrc hrs (cx.1.2.2.2.2 _ hc.2.1) (cx.1.2.2.2.2 _ hl) hc.2.2 hR
theorem cc_Vi {post : Int32 → pq_H → Prop} (cx : CX p s m args c cc nL own g) (hX : pq_X g s.heap.size s) (hM : XI l y (Cond.code y bytes maxL ret :: pq_W) rm g mc ms av h post xpost) (hc : pq_rec y bytes maxL ret n) (hl : Cond.methodLink own index y ∈ pq_W) (hrc : rm.cells = mc) (hrs : rm.slots = ms) (hR : rm.frames + 1 ≤ R.frames ∧ 8 + (maxL + 11) + rm.locals ≤ R.locals) (k : Nat) (hk : k < pq_N) {ci : Nat} {fl : List (Option Nat)} (hsh : pq_sh k = .inl (ci, fl)) {T : u_T} {NN : Nat} (hci : vwCl[ci]? = some (y.cls, T, NN)) (hav : av = .ref (g.2.2 k) :: As) (hn : As.length = n) (hst : st0 = As.reverse ++ .ref (g.2.2 k) :: rest) (hroom : (rest.map fun v => v.category).sum ≤ 8) (hvs : vs.length = nL) (hf : cells + mc ≤ R.cells ∧ slots + ms ≤ R.slots) (hd : decode cc pc = .ok (.invokevirtual index, 3)) (hp : pc + 3 = pc')
    (kx : ∀ (E : String) (h' : pq_H), xpost E h' → VX p l e R s m args below meth c Q g (cells + mc) (slots + ms) h' pc vs rest E)
    (kk : ∀ (r : Int32) (h' : pq_H), post r h' → VV p l e R s m args below meth c Q g (cells + mc) (slots + ms) h' pc' vs (.int r :: rest)) : VV p l e R s m args below meth c Q g cells slots h pc vs st0 :=
  vv_callVi cx hX hM ⟨pq_callB cx hc.1 hl hrc hrs hR, cx.1.2.2.2.2 _ hc.2.1, cx.1.2.2.2.2 _ hc.2.2⟩ k hk hsh hci hav hn hst hroom hvs hf hd hp kx kk
theorem cc_Vv {post : pq_H → Prop} (cx : CX p s m args c cc nL own g) (hX : pq_X g s.heap.size s) (hM : XV l y (Cond.code y bytes maxL ret :: pq_W) rm g mc ms av h post xpost) (hc : pq_rec y bytes maxL ret n) (hl : Cond.methodLink own index y ∈ pq_W) (hrc : rm.cells = mc) (hrs : rm.slots = ms) (hR : rm.frames + 1 ≤ R.frames ∧ 8 + (maxL + 11) + rm.locals ≤ R.locals) (k : Nat) (hk : k < pq_N) {ci : Nat} {fl : List (Option Nat)} (hsh : pq_sh k = .inl (ci, fl)) {T : u_T} {NN : Nat} (hci : vwCl[ci]? = some (y.cls, T, NN)) (hav : av = .ref (g.2.2 k) :: As) (hn : As.length = n) (hst : st0 = As.reverse ++ .ref (g.2.2 k) :: rest) (hroom : (rest.map fun v => v.category).sum ≤ 8) (hvs : vs.length = nL) (hf : cells + mc ≤ R.cells ∧ slots + ms ≤ R.slots) (hd : decode cc pc = .ok (.invokevirtual index, 3)) (hp : pc + 3 = pc')
    (kx : ∀ (E : String) (h' : pq_H), xpost E h' → VX p l e R s m args below meth c Q g (cells + mc) (slots + ms) h' pc vs rest E)
    (kk : ∀ (h' : pq_H), post h' → VV p l e R s m args below meth c Q g (cells + mc) (slots + ms) h' pc' vs rest) : VV p l e R s m args below meth c Q g cells slots h pc vs st0 :=
  vv_callVv cx hX hM ⟨pq_callB cx hc.1 hl hrc hrs hR, cx.1.2.2.2.2 _ hc.2.1, cx.1.2.2.2.2 _ hc.2.2⟩ k hk hsh hci hav hn hst hroom hvs hf hd hp kx kk
theorem cc_Si {post : Int32 → pq_H → Prop} (cx : CX p s m args c cc nL own g) (hX : pq_X g s.heap.size s) (hM : XI l y (Cond.code y bytes maxL ret :: pq_W) rm g mc ms av h post xpost) (hc : pq_recS y bytes maxL ret n) (hl : Cond.methodLink own index y ∈ pq_W) (hrc : rm.cells = mc) (hrs : rm.slots = ms) (hR : rm.frames + 1 ≤ R.frames ∧ 8 + (maxL + 11) + rm.locals ≤ R.locals) (hn : av.length = n) (hst : st0 = av.reverse ++ rest) (hroom : (rest.map fun v => v.category).sum ≤ 8) (hvs : vs.length = nL) (hf : cells + mc ≤ R.cells ∧ slots + ms ≤ R.slots) (hd : decode cc pc = .ok (.invokestatic index, 3)) (hp : pc + 3 = pc')
    (kx : ∀ (E : String) (h' : pq_H), xpost E h' → VX p l e R s m args below meth c Q g (cells + mc) (slots + ms) h' pc vs rest E)
    (kk : ∀ (r : Int32) (h' : pq_H), post r h' → VV p l e R s m args below meth c Q g (cells + mc) (slots + ms) h' pc' vs (.int r :: rest)) : VV p l e R s m args below meth c Q g cells slots h pc vs st0 :=
  vv_callSi cx hX hM ⟨pq_callB cx hc.1 hl hrc hrs hR, cx.1.2.2.2.2 _ hc.2⟩ hn hst hroom hvs hf hd hp kx kk
theorem cc_Ni {host : String} {post : Int32 → pq_H → Prop} (cx : CX p s m args c cc nL own g) (hX : pq_X g s.heap.size s) (hM : XI l y (Cond.code y bytes maxL ret :: pq_W) rm g mc ms av h post pq_no) (hc : pq_recS y bytes maxL ret n) (hl : Cond.methodLinkNest own index y host ∈ pq_Wn) (hrc : rm.cells = mc) (hrs : rm.slots = ms) (hR : rm.frames + 1 ≤ R.frames ∧ 8 + (maxL + 11) + rm.locals ≤ R.locals) (hn : av.length = n) (hst : st0 = av.reverse ++ rest) (hroom : (rest.map fun v => v.category).sum ≤ 8) (hvs : vs.length = nL) (hf : cells + mc ≤ R.cells ∧ slots + ms ≤ R.slots) (hd : decode cc pc = .ok (.invokestatic index, 3)) (hp : pc + 3 = pc')
    (kk : ∀ (r : Int32) (h' : pq_H), post r h' → VV p l e R s m args below meth c Q g (cells + mc) (slots + ms) h' pc' vs (.int r :: rest)) : VV p l e R s m args below meth c Q g cells slots h pc vs st0 :=
  vv_callNi cx hX hM ⟨va_cnB n cx.1.2.2.2.2 (pq_goodIn hc.1.1) rfl hrc hrs (hX.2.2.2 _ hl) (cx.1.2.2.2.2 _ hc.1.2.1) hc.1.2.2 hR, cx.1.2.2.2.2 _ hc.2, trivial⟩ hn hst hroom hvs hf hd hp kk
end CCR
abbrev rP_init : Room := { frames := 2, cells := 0, slots := 0, locals := 42 }
abbrev rS_init : Room := { frames := 1, cells := 0, slots := 0, locals := 21 }
abbrev rD_init : Room := { frames := 1, cells := 0, slots := 0, locals := 21 }
abbrev rG_init : Room := { frames := 1, cells := 0, slots := 0, locals := 21 }
abbrev rT_init : Room := { frames := 1, cells := 0, slots := 0, locals := 21 }
abbrev rP_column : Room := { frames := 5, cells := 0, slots := 0, locals := 121 }
abbrev wP_column : List Cond := Cond.code yP_column cP_column 1 (some .int) :: pq_W
theorem kP_column : pq_rec yP_column cP_column 1 (some .int) 0 := ⟨⟨ww_158, ww_1, by decide +kernel⟩, ww_156, ww_157⟩
abbrev rD_priceSum : Room := { frames := 4, cells := 0, slots := 0, locals := 101 }
abbrev wD_priceSum : List Cond := Cond.code yD_priceSum cD_priceSum 1 (some .int) :: pq_W
theorem kD_priceSum : pq_rec yD_priceSum cD_priceSum 1 (some .int) 0 := ⟨⟨ww_162, ww_3, by decide +kernel⟩, ww_160, ww_161⟩
abbrev rD_seek : Room := { frames := 3, cells := 0, slots := 0, locals := 77 }
abbrev wD_seek : List Cond := Cond.code yD_seek cD_seek 5 none :: pq_W
theorem kD_seek : pq_rec yD_seek cD_seek 5 none 0 := ⟨⟨ww_166, ww_3, by decide +kernel⟩, ww_165, ws_0⟩
abbrev rS_firstPattern : Room := { frames := 2, cells := 0, slots := 0, locals := 51 }
abbrev wS_firstPattern : List Cond := Cond.code yS_firstPattern cS_firstPattern 3 none :: pq_W
theorem kS_firstPattern : pq_rec yS_firstPattern cS_firstPattern 3 none 2 := ⟨⟨ww_170, ww_2, by decide +kernel⟩, ww_168, ww_169⟩
abbrev rS_fillFrom : Room := { frames := 1, cells := 0, slots := 0, locals := 24 }
abbrev wS_fillFrom : List Cond := Cond.code yS_fillFrom cS_fillFrom 8 none :: pq_W
theorem kS_fillFrom : pq_rec yS_fillFrom cS_fillFrom 8 none 3 := ⟨⟨ww_174, ww_2, by decide +kernel⟩, ww_173, ws_1⟩
abbrev rS_widthOfFirst : Room := { frames := 0, cells := 0, slots := 0, locals := 0 }
abbrev wS_widthOfFirst : List Cond := Cond.code yS_widthOfFirst cS_widthOfFirst 5 (some .int) :: pq_W
theorem kS_widthOfFirst : pq_rec yS_widthOfFirst cS_widthOfFirst 5 (some .int) 2 := ⟨⟨ww_178, ww_2, by decide +kernel⟩, ww_177, ws_2⟩
abbrev rS_priceOf : Room := { frames := 0, cells := 0, slots := 0, locals := 0 }
abbrev wS_priceOf : List Cond := Cond.code yS_priceOf cS_priceOf 4 (some .int) :: pq_W
theorem kS_priceOf : pq_rec yS_priceOf cS_priceOf 4 (some .int) 1 := ⟨⟨ww_185, ww_2, by decide +kernel⟩, ww_183, ww_184⟩
abbrev rD_take : Room := { frames := 1, cells := 0, slots := 0, locals := 40 }
abbrev wD_take : List Cond := Cond.code yD_take cD_take 2 none :: pq_W
theorem kD_take : pq_rec yD_take cD_take 2 none 1 := ⟨⟨ww_189, ww_3, by decide +kernel⟩, ww_188, ws_3⟩
abbrev rS_nextPattern : Room := { frames := 2, cells := 0, slots := 0, locals := 51 }
abbrev wS_nextPattern : List Cond := Cond.code yS_nextPattern cS_nextPattern 7 (some .boolean) :: pq_W
theorem kS_nextPattern : pq_rec yS_nextPattern cS_nextPattern 7 (some .boolean) 4 := ⟨⟨ww_196, ww_2, by decide +kernel⟩, ww_194, ww_195⟩
abbrev rP_bound : Room := { frames := 6, cells := 0, slots := 0, locals := 141 }
abbrev wP_bound : List Cond := Cond.code yP_bound cP_bound 1 (some .int) :: pq_W
theorem kP_bound : pq_rec yP_bound cP_bound 1 (some .int) 0 := ⟨⟨ww_200, ww_1, by decide +kernel⟩, ww_198, ww_199⟩
abbrev rP_boundByPrices : Room := { frames := 5, cells := 0, slots := 0, locals := 121 }
abbrev wP_boundByPrices : List Cond := Cond.code yP_boundByPrices cP_boundByPrices 1 (some .int) :: pq_W
theorem kP_boundByPrices : pq_rec yP_boundByPrices cP_boundByPrices 1 (some .int) 0 := ⟨⟨ww_204, ww_1, by decide +kernel⟩, ww_203, ws_4⟩
abbrev rS_priceOfAll : Room := { frames := 1, cells := 0, slots := 0, locals := 23 }
abbrev wS_priceOfAll : List Cond := Cond.code yS_priceOfAll cS_priceOfAll 1 (some .int) :: pq_W
theorem kS_priceOfAll : pq_rec yS_priceOfAll cS_priceOfAll 1 (some .int) 0 := ⟨⟨ww_208, ww_2, by decide +kernel⟩, ww_206, ww_207⟩
abbrev rP_roundedUp : Room := { frames := 0, cells := 0, slots := 0, locals := 0 }
abbrev wP_roundedUp : List Cond := Cond.code yP_roundedUp cP_roundedUp 2 (some .int) :: pq_W
theorem kP_roundedUp : pq_recS yP_roundedUp cP_roundedUp 2 (some .int) 2 := ⟨⟨ww_212, ww_1, by decide +kernel⟩, ww_211⟩
abbrev rL_sheet : Room := { frames := 7, cells := 1, slots := 6, locals := 121 }
abbrev rP_sheet : Room := { frames := 6, cells := 1, slots := 6, locals := 100 }
abbrev wP_sheet : List Cond := Cond.code yP_sheet cP_sheet 2 none :: pq_W
theorem kP_sheet : pq_rec yP_sheet cP_sheet 2 none 1 := ⟨⟨ww_220, ww_1, by decide +kernel⟩, ww_218, ww_219⟩
abbrev rP_forgetAnswers : Room := { frames := 1, cells := 0, slots := 0, locals := 20 }
abbrev wP_forgetAnswers : List Cond := Cond.code yP_forgetAnswers cP_forgetAnswers 1 none :: pq_W
theorem kP_forgetAnswers : pq_rec yP_forgetAnswers cP_forgetAnswers 1 none 0 := ⟨⟨ww_293, ww_1, by decide +kernel⟩, ww_292, ws_6⟩
abbrev rD_forget : Room := { frames := 0, cells := 0, slots := 0, locals := 0 }
abbrev wD_forget : List Cond := Cond.code yD_forget cD_forget 1 none :: pq_W
theorem kD_forget : pq_rec yD_forget cD_forget 1 none 0 := ⟨⟨ww_297, ww_3, by decide +kernel⟩, ww_295, ww_296⟩
abbrev rG_forget : Room := { frames := 0, cells := 0, slots := 0, locals := 0 }
abbrev wG_forget : List Cond := Cond.code yG_forget cG_forget 1 none :: pq_W
theorem kG_forget : pq_rec yG_forget cG_forget 1 none 0 := ⟨⟨ww_301, ww_4, by decide +kernel⟩, ww_299, ww_300⟩
abbrev rL_order : Room := { frames := 7, cells := 1, slots := 6, locals := 123 }
abbrev rP_order : Room := { frames := 6, cells := 1, slots := 6, locals := 100 }
abbrev wP_order : List Cond := Cond.code yP_order cP_order 4 (some .int) :: pq_W
theorem kP_order : pq_rec yP_order cP_order 4 (some .int) 2 := ⟨⟨ww_309, ww_1, by decide +kernel⟩, ww_307, ww_308⟩
abbrev rS_add : Room := { frames := 0, cells := 0, slots := 0, locals := 0 }
abbrev wS_add : List Cond := Cond.code yS_add cS_add 4 (some .int) :: pq_W
theorem kS_add : pq_rec yS_add cS_add 4 (some .int) 2 := ⟨⟨ww_331, ww_2, by decide +kernel⟩, ww_329, ww_330⟩
abbrev rL_pieces : Room := { frames := 7, cells := 1, slots := 6, locals := 122 }
abbrev rP_pieces : Room := { frames := 6, cells := 1, slots := 6, locals := 100 }
abbrev wP_pieces : List Cond := Cond.code yP_pieces cP_pieces 3 none :: pq_W
theorem kP_pieces : pq_rec yP_pieces cP_pieces 3 none 2 := ⟨⟨ww_339, ww_1, by decide +kernel⟩, ww_337, ww_338⟩
abbrev rS_has : Room := { frames := 0, cells := 0, slots := 0, locals := 0 }
abbrev wS_has : List Cond := Cond.code yS_has cS_has 2 (some .boolean) :: pq_W
theorem kS_has : pq_rec yS_has cS_has 2 (some .boolean) 1 := ⟨⟨ww_343, ww_2, by decide +kernel⟩, ww_341, ww_342⟩
abbrev rL_price : Room := { frames := 7, cells := 1, slots := 6, locals := 122 }
abbrev rP_price : Room := { frames := 6, cells := 1, slots := 6, locals := 100 }
abbrev wP_price : List Cond := Cond.code yP_price cP_price 3 none :: pq_W
theorem kP_price : pq_rec yP_price cP_price 3 none 2 := ⟨⟨ww_366, ww_1, by decide +kernel⟩, ww_364, ww_365⟩
abbrev rL_columnOf : Room := { frames := 7, cells := 1, slots := 6, locals := 143 }
abbrev rP_columnOf : Room := { frames := 6, cells := 1, slots := 6, locals := 122 }
abbrev wP_columnOf : List Cond := Cond.code yP_columnOf cP_columnOf 2 (some .int) :: pq_W
theorem kP_columnOf : pq_rec yP_columnOf cP_columnOf 2 (some .int) 1 := ⟨⟨ww_374, ww_1, by decide +kernel⟩, ww_372, ww_373⟩
abbrev rD_piecesOf : Room := { frames := 4, cells := 0, slots := 0, locals := 101 }
abbrev wD_piecesOf : List Cond := Cond.code yD_piecesOf cD_piecesOf 2 (some .int) :: pq_W
theorem kD_piecesOf : pq_rec yD_piecesOf cD_piecesOf 2 (some .int) 1 := ⟨⟨ww_378, ww_3, by decide +kernel⟩, ww_376, ww_377⟩
abbrev rL_design : Room := { frames := 7, cells := 1, slots := 6, locals := 143 }
abbrev rP_design : Room := { frames := 6, cells := 1, slots := 6, locals := 122 }
abbrev wP_design : List Cond := Cond.code yP_design cP_design 2 (some .int) :: pq_W
theorem kP_design : pq_rec yP_design cP_design 2 (some .int) 1 := ⟨⟨ww_386, ww_1, by decide +kernel⟩, ww_384, ww_385⟩
abbrev rS_somePieceIsTooWide : Room := { frames := 0, cells := 0, slots := 0, locals := 0 }
abbrev wS_somePieceIsTooWide : List Cond := Cond.code yS_somePieceIsTooWide cS_somePieceIsTooWide 2 (some .boolean) :: pq_W
theorem kS_somePieceIsTooWide : pq_rec yS_somePieceIsTooWide cS_somePieceIsTooWide 2 (some .boolean) 0 := ⟨⟨ww_392, ww_2, by decide +kernel⟩, ww_390, ww_391⟩
abbrev rG_run : Room := { frames := 4, cells := 0, slots := 0, locals := 98 }
abbrev wG_run : List Cond := Cond.code yG_run cG_run 5 none :: pq_W
theorem kG_run : pq_rec yG_run cG_run 5 none 1 := ⟨⟨ww_412, ww_4, by decide +kernel⟩, ww_410, ww_411⟩
abbrev rS_widthOfAll : Room := { frames := 1, cells := 0, slots := 0, locals := 24 }
abbrev wS_widthOfAll : List Cond := Cond.code yS_widthOfAll cS_widthOfAll 1 (some .int) :: pq_W
theorem kS_widthOfAll : pq_rec yS_widthOfAll cS_widthOfAll 1 (some .int) 0 := ⟨⟨ww_418, ww_2, by decide +kernel⟩, ww_416, ww_417⟩
abbrev rG_opens : Room := { frames := 3, cells := 0, slots := 0, locals := 73 }
abbrev wG_opens : List Cond := Cond.code yG_opens cG_opens 2 (some .boolean) :: pq_W
theorem kG_opens : pq_rec yG_opens cG_opens 2 (some .boolean) 1 := ⟨⟨ww_422, ww_4, by decide +kernel⟩, ww_421, ws_7⟩
abbrev rS_sheetsFor : Room := { frames := 1, cells := 0, slots := 0, locals := 21 }
abbrev wS_sheetsFor : List Cond := Cond.code yS_sheetsFor cS_sheetsFor 2 (some .int) :: pq_W
theorem kS_sheetsFor : pq_rec yS_sheetsFor cS_sheetsFor 2 (some .int) 1 := ⟨⟨ww_426, ww_2, by decide +kernel⟩, ww_424, ww_425⟩
abbrev rG_takeAsBest : Room := { frames := 1, cells := 0, slots := 0, locals := 40 }
abbrev wG_takeAsBest : List Cond := Cond.code yG_takeAsBest cG_takeAsBest 3 none :: pq_W
theorem kG_takeAsBest : pq_rec yG_takeAsBest cG_takeAsBest 3 none 1 := ⟨⟨ww_431, ww_4, by decide +kernel⟩, ww_430, ws_8⟩
abbrev rG_lay : Room := { frames := 2, cells := 0, slots := 0, locals := 45 }
abbrev wG_lay : List Cond := Cond.code yG_lay cG_lay 3 none :: pq_W
theorem kG_lay : pq_rec yG_lay cG_lay 3 none 1 := ⟨⟨ww_437, ww_4, by decide +kernel⟩, ww_436, ws_9⟩
abbrev rS_widthOf : Room := { frames := 1, cells := 0, slots := 0, locals := 24 }
abbrev wS_widthOf : List Cond := Cond.code yS_widthOf cS_widthOf 2 (some .int) :: pq_W
theorem kS_widthOf : pq_rec yS_widthOf cS_widthOf 2 (some .int) 1 := ⟨⟨ww_441, ww_2, by decide +kernel⟩, ww_439, ww_440⟩
abbrev rG_takeBack : Room := { frames := 2, cells := 0, slots := 0, locals := 45 }
abbrev wG_takeBack : List Cond := Cond.code yG_takeBack cG_takeBack 3 none :: pq_W
theorem kG_takeBack : pq_rec yG_takeBack cG_takeBack 3 none 1 := ⟨⟨ww_445, ww_4, by decide +kernel⟩, ww_444, ws_10⟩
abbrev rG_goesOn : Room := { frames := 3, cells := 0, slots := 0, locals := 77 }
abbrev wG_goesOn : List Cond := Cond.code yG_goesOn cG_goesOn 2 (some .boolean) :: pq_W
theorem kG_goesOn : pq_rec yG_goesOn cG_goesOn 2 (some .boolean) 1 := ⟨⟨ww_449, ww_4, by decide +kernel⟩, ww_448, ws_11⟩
abbrev rG_lowestLeft : Room := { frames := 0, cells := 0, slots := 0, locals := 0 }
abbrev wG_lowestLeft : List Cond := Cond.code yG_lowestLeft cG_lowestLeft 2 (some .int) :: pq_W
theorem kG_lowestLeft : pq_rec yG_lowestLeft cG_lowestLeft 2 (some .int) 0 := ⟨⟨ww_453, ww_4, by decide +kernel⟩, ww_452, ws_12⟩
abbrev rL_designed : Room := { frames := 7, cells := 1, slots := 6, locals := 121 }
abbrev rP_designed : Room := { frames := 6, cells := 1, slots := 6, locals := 100 }
abbrev wP_designed : List Cond := Cond.code yP_designed cP_designed 2 (some .int) :: pq_W
theorem kP_designed : pq_rec yP_designed cP_designed 2 (some .int) 1 := ⟨⟨ww_461, ww_1, by decide +kernel⟩, ww_459, ww_460⟩
abbrev rL_gap : Room := { frames := 8, cells := 1, slots := 6, locals := 162 }
abbrev rP_gap : Room := { frames := 7, cells := 1, slots := 6, locals := 141 }
abbrev wP_gap : List Cond := Cond.code yP_gap cP_gap 2 (some .int) :: pq_W
theorem kP_gap : pq_rec yP_gap cP_gap 2 (some .int) 0 := ⟨⟨ww_470, ww_1, by decide +kernel⟩, ww_468, ww_469⟩
abbrev rP_requireDesign : Room := { frames := 6, cells := 1, slots := 6, locals := 100 }
abbrev wP_requireDesign : List Cond := Cond.code yP_requireDesign cP_requireDesign 1 none :: pq_W
theorem kP_requireDesign : pq_rec yP_requireDesign cP_requireDesign 1 none 0 := ⟨⟨ww_474, ww_1, by decide +kernel⟩, ww_473, ws_13⟩
abbrev rL_cut : Room := { frames := 8, cells := 3, slots := 18, locals := 143 }
abbrev rP_cut : Room := { frames := 7, cells := 3, slots := 18, locals := 121 }
abbrev wP_cut : List Cond := Cond.code yP_cut cP_cut 3 (some .int) :: pq_W
theorem kP_cut : pq_rec yP_cut cP_cut 3 (some .int) 2 := ⟨⟨ww_487, ww_1, by decide +kernel⟩, ww_485, ww_486⟩
abbrev rP_requireSheet : Room := { frames := 6, cells := 1, slots := 6, locals := 100 }
abbrev wP_requireSheet : List Cond := Cond.code yP_requireSheet cP_requireSheet 2 none :: pq_W
theorem kP_requireSheet : pq_rec yP_requireSheet cP_requireSheet 2 none 1 := ⟨⟨ww_491, ww_1, by decide +kernel⟩, ww_490, ws_14⟩
abbrev rL_over : Room := { frames := 8, cells := 2, slots := 12, locals := 142 }
abbrev rP_over : Room := { frames := 7, cells := 2, slots := 12, locals := 121 }
abbrev wP_over : List Cond := Cond.code yP_over cP_over 2 (some .int) :: pq_W
theorem kP_over : pq_rec yP_over cP_over 2 (some .int) 1 := ⟨⟨ww_499, ww_1, by decide +kernel⟩, ww_497, ww_498⟩
abbrev rL_keep : Room := { frames := 8, cells := 3, slots := 18, locals := 145 }
abbrev rP_keep : Room := { frames := 7, cells := 3, slots := 18, locals := 121 }
abbrev wP_keep : List Cond := Cond.code yP_keep cP_keep 5 (some .int) :: pq_W
theorem kP_keep : pq_rec yP_keep cP_keep 5 (some .int) 2 := ⟨⟨ww_507, ww_1, by decide +kernel⟩, ww_505, ww_506⟩
abbrev rT_find : Room := { frames := 1, cells := 0, slots := 0, locals := 22 }
abbrev wT_find : List Cond := Cond.code yT_find cT_find 3 (some .int) :: pq_W
theorem kT_find : pq_rec yT_find cT_find 3 (some .int) 1 := ⟨⟨ww_512, ww_5, by decide +kernel⟩, ww_510, ww_511⟩
abbrev rT_same : Room := { frames := 0, cells := 0, slots := 0, locals := 0 }
abbrev wT_same : List Cond := Cond.code yT_same cT_same 3 (some .boolean) :: pq_W
theorem kT_same : pq_recS yT_same cT_same 3 (some .boolean) 2 := ⟨⟨ww_515, ww_5, by decide +kernel⟩, ww_514⟩
abbrev rT_countAgain : Room := { frames := 1, cells := 0, slots := 0, locals := 24 }
abbrev wT_countAgain : List Cond := Cond.code yT_countAgain cT_countAgain 3 none :: pq_W
theorem kT_countAgain : pq_rec yT_countAgain cT_countAgain 3 none 2 := ⟨⟨ww_519, ww_5, by decide +kernel⟩, ww_517, ww_518⟩
abbrev rT_add : Room := { frames := 1, cells := 0, slots := 0, locals := 40 }
abbrev wT_add : List Cond := Cond.code yT_add cT_add 4 (some .int) :: pq_W
theorem kT_add : pq_rec yT_add cT_add 4 (some .int) 2 := ⟨⟨ww_525, ww_5, by decide +kernel⟩, ww_523, ww_524⟩
abbrev rL_kept : Room := { frames := 7, cells := 1, slots := 6, locals := 122 }
abbrev rP_kept : Room := { frames := 6, cells := 1, slots := 6, locals := 100 }
abbrev wP_kept : List Cond := Cond.code yP_kept cP_kept 3 (some .int) :: pq_W
theorem kP_kept : pq_rec yP_kept cP_kept 3 (some .int) 2 := ⟨⟨ww_533, ww_1, by decide +kernel⟩, ww_531, ww_532⟩
abbrev rL_fitting : Room := { frames := 7, cells := 1, slots := 6, locals := 123 }
abbrev rP_fitting : Room := { frames := 6, cells := 1, slots := 6, locals := 100 }
abbrev wP_fitting : List Cond := Cond.code yP_fitting cP_fitting 4 (some .int) :: pq_W
theorem kP_fitting : pq_rec yP_fitting cP_fitting 4 (some .int) 1 := ⟨⟨ww_541, ww_1, by decide +kernel⟩, ww_539, ww_540⟩
abbrev rS_isPattern : Room := { frames := 2, cells := 0, slots := 0, locals := 45 }
abbrev wS_isPattern : List Cond := Cond.code yS_isPattern cS_isPattern 3 (some .boolean) :: pq_W
theorem kS_isPattern : pq_rec yS_isPattern cS_isPattern 3 (some .boolean) 1 := ⟨⟨ww_546, ww_2, by decide +kernel⟩, ww_544, ww_545⟩
abbrev rM_init : Room := { frames := 1, cells := 0, slots := 0, locals := 21 }
abbrev rM_thrown : Room := { frames := 0, cells := 0, slots := 0, locals := 0 }
abbrev wM_thrown : List Cond := Cond.code yM_thrown cM_thrown 1 (some .int) :: pq_W
theorem kM_thrown : pq_rec yM_thrown cM_thrown 1 (some .int) 0 := ⟨⟨ww_603, ww_6, by decide +kernel⟩, ww_601, ww_602⟩
abbrev rM_sheet : Room := { frames := 1, cells := 0, slots := 0, locals := 24 }
abbrev wM_sheet : List Cond := Cond.code yM_sheet cM_sheet 2 none :: pq_W
theorem kM_sheet : pq_rec yM_sheet cM_sheet 2 none 1 := ⟨⟨ww_607, ww_6, by decide +kernel⟩, ww_605, ww_606⟩
abbrev rM_in : Room := { frames := 0, cells := 0, slots := 0, locals := 0 }
abbrev wM_in : List Cond := Cond.code yM_in cM_in 3 (some .boolean) :: pq_W
theorem kM_in : pq_recS yM_in cM_in 3 (some .boolean) 3 := ⟨⟨ww_610, ww_6, by decide +kernel⟩, ww_609⟩
abbrev rM_throwing : Room := { frames := 0, cells := 0, slots := 0, locals := 0 }
abbrev wM_throwing : List Cond := Cond.code yM_throwing cM_throwing 5 (some .boolean) :: pq_W
theorem kM_throwing : pq_rec yM_throwing cM_throwing 5 (some .boolean) 4 := ⟨⟨ww_614, ww_6, by decide +kernel⟩, ww_613, ws_15⟩
abbrev rM_forget : Room := { frames := 0, cells := 0, slots := 0, locals := 0 }
abbrev wM_forget : List Cond := Cond.code yM_forget cM_forget 1 none :: pq_W
theorem kM_forget : pq_rec yM_forget cM_forget 1 none 0 := ⟨⟨ww_618, ww_6, by decide +kernel⟩, ww_617, ws_16⟩
abbrev rM_order : Room := { frames := 1, cells := 0, slots := 0, locals := 24 }
abbrev wM_order : List Cond := Cond.code yM_order cM_order 3 (some .int) :: pq_W
theorem kM_order : pq_rec yM_order cM_order 3 (some .int) 2 := ⟨⟨ww_622, ww_6, by decide +kernel⟩, ww_620, ww_621⟩
abbrev rM_pieces : Room := { frames := 2, cells := 0, slots := 0, locals := 43 }
abbrev wM_pieces : List Cond := Cond.code yM_pieces cM_pieces 3 none :: pq_W
theorem kM_pieces : pq_rec yM_pieces cM_pieces 3 none 2 := ⟨⟨ww_626, ww_6, by decide +kernel⟩, ww_624, ww_625⟩
abbrev rM_isOrder : Room := { frames := 1, cells := 0, slots := 0, locals := 22 }
abbrev wM_isOrder : List Cond := Cond.code yM_isOrder cM_isOrder 2 (some .boolean) :: pq_W
theorem kM_isOrder : pq_rec yM_isOrder cM_isOrder 2 (some .boolean) 1 := ⟨⟨ww_630, ww_6, by decide +kernel⟩, ww_629, ws_17⟩
abbrev rM_price : Room := { frames := 2, cells := 0, slots := 0, locals := 43 }
abbrev wM_price : List Cond := Cond.code yM_price cM_price 3 none :: pq_W
theorem kM_price : pq_rec yM_price cM_price 3 none 2 := ⟨⟨ww_634, ww_6, by decide +kernel⟩, ww_632, ww_633⟩
abbrev rM_column : Room := { frames := 4, cells := 0, slots := 0, locals := 94 }
abbrev wM_column : List Cond := Cond.code yM_column cM_column 1 (some .int) :: pq_W
theorem kM_column : pq_rec yM_column cM_column 1 (some .int) 0 := ⟨⟨ww_638, ww_6, by decide +kernel⟩, ww_636, ww_637⟩
abbrev rM_findColumn : Room := { frames := 3, cells := 0, slots := 0, locals := 70 }
abbrev wM_findColumn : List Cond := Cond.code yM_findColumn cM_findColumn 5 (some .int) :: pq_W
theorem kM_findColumn : pq_rec yM_findColumn cM_findColumn 5 (some .int) 0 := ⟨⟨ww_642, ww_6, by decide +kernel⟩, ww_641, ws_18⟩
abbrev rM_fill : Room := { frames := 1, cells := 0, slots := 0, locals := 24 }
abbrev wM_fill : List Cond := Cond.code yM_fill cM_fill 5 none :: pq_W
theorem kM_fill : pq_rec yM_fill cM_fill 5 none 2 := ⟨⟨ww_646, ww_6, by decide +kernel⟩, ww_645, ws_19⟩
abbrev rM_roomAt : Room := { frames := 0, cells := 0, slots := 0, locals := 0 }
abbrev wM_roomAt : List Cond := Cond.code yM_roomAt cM_roomAt 5 (some .int) :: pq_W
theorem kM_roomAt : pq_rec yM_roomAt cM_roomAt 5 (some .int) 2 := ⟨⟨ww_650, ww_6, by decide +kernel⟩, ww_649, ws_20⟩
abbrev rM_sumAt : Room := { frames := 0, cells := 0, slots := 0, locals := 0 }
abbrev wM_sumAt : List Cond := Cond.code yM_sumAt cM_sumAt 4 (some .int) :: pq_W
theorem kM_sumAt : pq_rec yM_sumAt cM_sumAt 4 (some .int) 1 := ⟨⟨ww_654, ww_6, by decide +kernel⟩, ww_653, ws_21⟩
abbrev rM_goesDown : Room := { frames := 2, cells := 0, slots := 0, locals := 48 }
abbrev wM_goesDown : List Cond := Cond.code yM_goesDown cM_goesDown 3 (some .boolean) :: pq_W
theorem kM_goesDown : pq_rec yM_goesDown cM_goesDown 3 (some .boolean) 1 := ⟨⟨ww_658, ww_6, by decide +kernel⟩, ww_657, ws_22⟩
abbrev rM_columnOf : Room := { frames := 4, cells := 0, slots := 0, locals := 94 }
abbrev wM_columnOf : List Cond := Cond.code yM_columnOf cM_columnOf 2 (some .int) :: pq_W
theorem kM_columnOf : pq_rec yM_columnOf cM_columnOf 2 (some .int) 1 := ⟨⟨ww_662, ww_6, by decide +kernel⟩, ww_660, ww_661⟩
abbrev rM_bound : Room := { frames := 5, cells := 0, slots := 0, locals := 117 }
abbrev wM_bound : List Cond := Cond.code yM_bound cM_bound 1 (some .int) :: pq_W
theorem kM_bound : pq_rec yM_bound cM_bound 1 (some .int) 0 := ⟨⟨ww_666, ww_6, by decide +kernel⟩, ww_664, ww_665⟩
abbrev rM_boundNow : Room := { frames := 4, cells := 0, slots := 0, locals := 94 }
abbrev wM_boundNow : List Cond := Cond.code yM_boundNow cM_boundNow 4 (some .int) :: pq_W
theorem kM_boundNow : pq_rec yM_boundNow cM_boundNow 4 (some .int) 0 := ⟨⟨ww_670, ww_6, by decide +kernel⟩, ww_669, ws_23⟩
abbrev rM_design : Room := { frames := 4, cells := 0, slots := 0, locals := 96 }
abbrev wM_design : List Cond := Cond.code yM_design cM_design 4 (some .int) :: pq_W
theorem kM_design : pq_rec yM_design cM_design 4 (some .int) 1 := ⟨⟨ww_674, ww_6, by decide +kernel⟩, ww_672, ww_673⟩
abbrev rM_search : Room := { frames := 3, cells := 0, slots := 0, locals := 70 }
abbrev wM_search : List Cond := Cond.code yM_search cM_search 7 none :: pq_W
theorem kM_search : pq_rec yM_search cM_search 7 none 1 := ⟨⟨ww_679, ww_6, by decide +kernel⟩, ww_678, ws_24⟩
abbrev rM_goesOn : Room := { frames := 1, cells := 0, slots := 0, locals := 23 }
abbrev wM_goesOn : List Cond := Cond.code yM_goesOn cM_goesOn 3 (some .boolean) :: pq_W
theorem kM_goesOn : pq_rec yM_goesOn cM_goesOn 3 (some .boolean) 1 := ⟨⟨ww_683, ww_6, by decide +kernel⟩, ww_682, ws_25⟩
abbrev rM_sheetsFor : Room := { frames := 0, cells := 0, slots := 0, locals := 0 }
abbrev wM_sheetsFor : List Cond := Cond.code yM_sheetsFor cM_sheetsFor 4 (some .int) :: pq_W
theorem kM_sheetsFor : pq_rec yM_sheetsFor cM_sheetsFor 4 (some .int) 1 := ⟨⟨ww_687, ww_6, by decide +kernel⟩, ww_686, ws_26⟩
abbrev rM_isNothingLeft : Room := { frames := 0, cells := 0, slots := 0, locals := 0 }
abbrev wM_isNothingLeft : List Cond := Cond.code yM_isNothingLeft cM_isNothingLeft 4 (some .boolean) :: pq_W
theorem kM_isNothingLeft : pq_rec yM_isNothingLeft cM_isNothingLeft 4 (some .boolean) 1 := ⟨⟨ww_691, ww_6, by decide +kernel⟩, ww_690, ws_27⟩
abbrev rM_lowestLeft : Room := { frames := 0, cells := 0, slots := 0, locals := 0 }
abbrev wM_lowestLeft : List Cond := Cond.code yM_lowestLeft cM_lowestLeft 3 (some .int) :: pq_W
theorem kM_lowestLeft : pq_rec yM_lowestLeft cM_lowestLeft 3 (some .int) 1 := ⟨⟨ww_695, ww_6, by decide +kernel⟩, ww_694, ws_28⟩
abbrev rM_designed : Room := { frames := 1, cells := 0, slots := 0, locals := 24 }
abbrev wM_designed : List Cond := Cond.code yM_designed cM_designed 2 (some .int) :: pq_W
theorem kM_designed : pq_rec yM_designed cM_designed 2 (some .int) 1 := ⟨⟨ww_699, ww_6, by decide +kernel⟩, ww_697, ww_698⟩
abbrev rM_gap : Room := { frames := 5, cells := 0, slots := 0, locals := 117 }
abbrev wM_gap : List Cond := Cond.code yM_gap cM_gap 4 (some .int) :: pq_W
theorem kM_gap : pq_rec yM_gap cM_gap 4 (some .int) 0 := ⟨⟨ww_703, ww_6, by decide +kernel⟩, ww_701, ww_702⟩
abbrev rM_cut : Room := { frames := 2, cells := 0, slots := 0, locals := 46 }
abbrev wM_cut : List Cond := Cond.code yM_cut cM_cut 3 (some .int) :: pq_W
theorem kM_cut : pq_rec yM_cut cM_cut 3 (some .int) 2 := ⟨⟨ww_707, ww_6, by decide +kernel⟩, ww_705, ww_706⟩
abbrev rM_refuses : Room := { frames := 1, cells := 0, slots := 0, locals := 24 }
abbrev wM_refuses : List Cond := Cond.code yM_refuses cM_refuses 3 (some .boolean) :: pq_W
theorem kM_refuses : pq_rec yM_refuses cM_refuses 3 (some .boolean) 2 := ⟨⟨ww_711, ww_6, by decide +kernel⟩, ww_710, ws_29⟩
abbrev rM_over : Room := { frames := 2, cells := 0, slots := 0, locals := 46 }
abbrev wM_over : List Cond := Cond.code yM_over cM_over 4 (some .int) :: pq_W
theorem kM_over : pq_rec yM_over cM_over 4 (some .int) 1 := ⟨⟨ww_715, ww_6, by decide +kernel⟩, ww_713, ww_714⟩
abbrev rM_keep : Room := { frames := 2, cells := 0, slots := 0, locals := 46 }
abbrev wM_keep : List Cond := Cond.code yM_keep cM_keep 5 (some .int) :: pq_W
theorem kM_keep : pq_rec yM_keep cM_keep 5 (some .int) 2 := ⟨⟨ww_719, ww_6, by decide +kernel⟩, ww_717, ww_718⟩
abbrev rM_keptAs : Room := { frames := 0, cells := 0, slots := 0, locals := 0 }
abbrev wM_keptAs : List Cond := Cond.code yM_keptAs cM_keptAs 5 (some .int) :: pq_W
theorem kM_keptAs : pq_rec yM_keptAs cM_keptAs 5 (some .int) 1 := ⟨⟨ww_723, ww_6, by decide +kernel⟩, ww_722, ws_30⟩
abbrev rM_kept : Room := { frames := 1, cells := 0, slots := 0, locals := 24 }
abbrev wM_kept : List Cond := Cond.code yM_kept cM_kept 3 (some .int) :: pq_W
theorem kM_kept : pq_rec yM_kept cM_kept 3 (some .int) 2 := ⟨⟨ww_727, ww_6, by decide +kernel⟩, ww_725, ww_726⟩
abbrev rM_fitting : Room := { frames := 1, cells := 0, slots := 0, locals := 24 }
abbrev wM_fitting : List Cond := Cond.code yM_fitting cM_fitting 8 (some .int) :: pq_W
theorem kM_fitting : pq_rec yM_fitting cM_fitting 8 (some .int) 1 := ⟨⟨ww_731, ww_6, by decide +kernel⟩, ww_729, ww_730⟩
theorem thIAE_at : ∀ w ∈ vx_atS "PatternColumns" 43 "java/lang/IllegalArgumentException" ["java/lang/RuntimeException", "java/lang/Exception"], w ∈ pq_W ∨ w ∈ pq_Wn := by decide +kernel
theorem thIAE_good : ∀ w ∈ Cond.classLink "PatternColumns" 39 "java/lang/IllegalArgumentException" :: Cond.initialized "java/lang/IllegalArgumentException" :: vx_atS "PatternColumns" 43 "java/lang/IllegalArgumentException" ["java/lang/RuntimeException", "java/lang/Exception"], vx_ot w = true := by decide +kernel
theorem thISE_at : ∀ w ∈ vx_atS "PatternColumns" 60 "java/lang/IllegalStateException" ["java/lang/RuntimeException", "java/lang/Exception"], w ∈ pq_W ∨ w ∈ pq_Wn := by decide +kernel
theorem thISE_good : ∀ w ∈ Cond.classLink "PatternColumns" 56 "java/lang/IllegalStateException" :: Cond.initialized "java/lang/IllegalStateException" :: vx_atS "PatternColumns" 60 "java/lang/IllegalStateException" ["java/lang/RuntimeException", "java/lang/Exception"], vx_ot w = true := by decide +kernel
theorem thIOE_at : ∀ w ∈ vx_atS "PatternColumns" 77 "java/lang/IndexOutOfBoundsException" ["java/lang/RuntimeException", "java/lang/Exception"], w ∈ pq_W ∨ w ∈ pq_Wn := by decide +kernel
theorem thIOE_good : ∀ w ∈ Cond.classLink "PatternColumns" 73 "java/lang/IndexOutOfBoundsException" :: Cond.initialized "java/lang/IndexOutOfBoundsException" :: vx_atS "PatternColumns" 77 "java/lang/IndexOutOfBoundsException" ["java/lang/RuntimeException", "java/lang/Exception"], vx_ot w = true := by decide +kernel
theorem thUOE_at : ∀ w ∈ vx_atS "PatternColumns" 112 "java/lang/UnsupportedOperationException" ["java/lang/RuntimeException", "java/lang/Exception"], w ∈ pq_W ∨ w ∈ pq_Wn := by decide +kernel
theorem thUOE_good : ∀ w ∈ Cond.classLink "PatternColumns" 108 "java/lang/UnsupportedOperationException" :: Cond.initialized "java/lang/UnsupportedOperationException" :: vx_atS "PatternColumns" 112 "java/lang/UnsupportedOperationException" ["java/lang/RuntimeException", "java/lang/Exception"], vx_ot w = true := by decide +kernel
end
section
/-! part 06: the Slabs: sums, fills, the next pattern -/
def pq_sum (f : Nat → Nat) : Nat → Nat
  | 0 => 0
  | n + 1 => pq_sum f n + f n
theorem pq_sum_congr {f g : Nat → Nat} : ∀ {n : Nat}, (∀ i, i < n → f i = g i) → pq_sum f n = pq_sum g n
  | 0, _ => rfl
  | n + 1, h => by
    show pq_sum f n + f n = pq_sum g n + g n
    rw [pq_sum_congr (fun i hi => h i (by omega)), h n (by omega)]
theorem pq_sum_le {f g : Nat → Nat} : ∀ {n : Nat}, (∀ i, i < n → f i ≤ g i) → pq_sum f n ≤ pq_sum g n
  | 0, _ => Nat.le_refl _
  | n + 1, h => Nat.add_le_add (pq_sum_le (fun i hi => h i (by omega))) (h n (by omega))
theorem pq_sum_mono {f : Nat → Nat} : ∀ {n m : Nat}, n ≤ m → pq_sum f n ≤ pq_sum f m
  | n, 0, h => by rw [Nat.le_zero.mp h]; exact Nat.le_refl _
  | n, m + 1, h => by
    rcases Nat.lt_or_ge n (m + 1) with q | q
    · exact Nat.le_trans (pq_sum_mono (by omega)) (Nat.le_add_right _ _)
    · rw [show n = m + 1 by omega]; exact Nat.le_refl _
theorem pq_sum_bd {f : Nat → Nat} {B : Nat} : ∀ {n : Nat}, (∀ i, i < n → f i ≤ B) → pq_sum f n ≤ n * B
  | 0, _ => by simp [pq_sum]
  | n + 1, h => by
    have := pq_sum_bd (f := f) (B := B) (n := n) (fun i hi => h i (by omega))
    have := h n (by omega)
    show pq_sum f n + f n ≤ (n + 1) * B
    rw [Nat.succ_mul]; omega
theorem pq_nI1 {x : Int32} {i : Nat} (h : x = nI i) : x + Int32.ofInt 1 = nI (i + 1) := by rw [h]; exact nI_1 i
theorem pq_nIm {x : Int32} {i : Nat} (h : x = nI (i + 1)) : x + Int32.ofInt (-1) = nI i := by rw [h]; exact pk_m1 i
/-- the fill of a row from place i on, with so much room left: s places -/
def pq_fillS (w th : Nat → Nat) : Nat → (Nat → Nat) → Nat → Nat → Nat → Nat
  | 0, a, _, _ => a
  | s + 1, a, i, R => pq_fillS w th s (va_up a i (min (th i) (R / w i))) (i + 1) (R - min (th i) (R / w i) * w i)
def pq_fill (W n : Nat) (w th a : Nat → Nat) (i : Nat) : Nat → Nat := pq_fillS w th (n - i) a i (W - pq_sum (fun j => a j * w j) i)
/-- the next row that has less at some place under m; the place z keeps one -/
def pq_next (W n : Nat) (w th a : Nat → Nat) (z : Nat) : Nat → Option (Nat → Nat)
  | 0 => none
  | i + 1 => if (if i = z then 1 else 0) < a i then some (pq_fill W n w th (va_up a i (a i - 1)) (i + 1)) else pq_next W n w th a z i
def pq_pat (W n : Nat) (w th a : Nat → Nat) : Prop := (∀ i, i < n → a i ≤ th i) ∧ pq_sum (fun i => a i * w i) n ≤ W ∧ ∀ i, n ≤ i → i < 5 → a i = 0
theorem pq_fillS_out {w th : Nat → Nat} : ∀ (s : Nat) (a : Nat → Nat) (i R j : Nat), (j < i ∨ i + s ≤ j) → pq_fillS w th s a i R j = a j
  | 0, a, i, R, j, h => rfl
  | s + 1, a, i, R, j, h => by
    show pq_fillS w th s _ _ _ j = a j
    rw [pq_fillS_out s _ _ _ j (by omega), va_up_ne _ _ (by omega)]
theorem pq_fillS_th {w th : Nat → Nat} : ∀ (s : Nat) (a : Nat → Nat) (i R j : Nat), i ≤ j → j < i + s → pq_fillS w th s a i R j ≤ th j
  | 0, a, i, R, j, h, h2 => by omega
  | s + 1, a, i, R, j, h, h2 => by
    show pq_fillS w th s _ _ _ j ≤ th j
    rcases Nat.lt_or_ge i j with q | q
    · exact pq_fillS_th s _ _ _ j (by omega) (by omega)
    · rw [show j = i by omega, pq_fillS_out s _ _ _ i (by omega), va_up_self]
      exact Nat.min_le_left _ _
theorem pq_div_le (t R w : Nat) : min t (R / w) * w ≤ R := Nat.le_trans (Nat.mul_le_mul_right w (Nat.min_le_right t (R / w))) (Nat.div_mul_le_self R w)
theorem pq_fillS_sum {w th : Nat → Nat} : ∀ (s : Nat) (a : Nat → Nat) (i R : Nat), pq_sum (fun j => pq_fillS w th s a i R j * w j) (i + s) ≤ pq_sum (fun j => a j * w j) i + R
  | 0, a, i, R => Nat.le_add_right _ _
  | s + 1, a, i, R => by
    have h := pq_fillS_sum (w := w) (th := th) s (va_up a i (min (th i) (R / w i))) (i + 1) (R - min (th i) (R / w i) * w i)
    rw [show i + 1 + s = i + (s + 1) by omega] at h
    have h2 := pq_div_le (th i) R (w i)
    have h3 : pq_sum (fun j => va_up a i (min (th i) (R / w i)) j * w j) (i + 1) = pq_sum (fun j => a j * w j) i + min (th i) (R / w i) * w i := by
      show pq_sum _ i + va_up a i (min (th i) (R / w i)) i * w i = _
      rw [va_up_self, pq_sum_congr (g := fun j => a j * w j) (fun j hj => by show va_up a i _ j * w j = _; rw [va_up_ne _ _ (by omega)])]
    rw [h3] at h
    show pq_sum (fun j => pq_fillS w th s _ _ _ j * w j) (i + (s + 1)) ≤ _
    omega
theorem pq_fill_pat {W n : Nat} {w th a : Nat → Nat} {i : Nat} (hi : i ≤ n) (h1 : ∀ j, j < i → a j ≤ th j) (h2 : pq_sum (fun j => a j * w j) i ≤ W) (h3 : ∀ j, n ≤ j → j < 5 → a j = 0) : pq_pat W n w th (pq_fill W n w th a i) := by
  refine ⟨fun j hj => ?_, ?_, fun j hj h5 => ?_⟩
  · rcases Nat.lt_or_ge j i with q | q
    · rw [pq_fill, pq_fillS_out _ _ _ _ _ (Or.inl q)]; exact h1 j q
    · exact pq_fillS_th _ _ _ _ _ q (by omega)
  · have := pq_fillS_sum (w := w) (th := th) (n - i) a i (W - pq_sum (fun j => a j * w j) i)
    rw [show i + (n - i) = n by omega] at this
    show pq_sum (fun j => pq_fillS w th (n - i) a i _ j * w j) n ≤ W
    omega
  · rw [pq_fill, pq_fillS_out _ _ _ _ _ (Or.inr (by omega))]; exact h3 j hj h5
theorem pq_next_pat {W n : Nat} {w th a b : Nat → Nat} {z : Nat} (ha : pq_pat W n w th a) : ∀ {m : Nat}, m ≤ n → pq_next W n w th a z m = some b → pq_pat W n w th b
  | 0, _, h => by cases h
  | m + 1, hm, h => by
    by_cases hlt : (if m = z then 1 else 0) < a m
    · rw [pq_next, if_pos hlt] at h
      cases h
      have h0 : 0 < a m := by omega
      refine pq_fill_pat hm (fun j hj => ?_) ?_ (fun j hj h5 => ?_)
      · rcases Nat.lt_or_ge j m with q | q
        · rw [va_up_ne _ _ (by omega)]; exact ha.1 j (by omega)
        · rw [show j = m by omega, va_up_self]; have := ha.1 m (by omega); omega
      · refine Nat.le_trans ?_ (Nat.le_trans (pq_sum_mono hm) ha.2.1)
        exact pq_sum_le (fun j hj => Nat.mul_le_mul_right _ (by
          rcases Nat.lt_or_ge j m with q | q
          · rw [va_up_ne _ _ (by omega)]; exact Nat.le_refl _
          · rw [show j = m by omega, va_up_self]; omega))
      · rw [va_up_ne _ _ (by omega)]; exact ha.2.2 j hj h5
    · rw [pq_next, if_neg hlt] at h
      exact pq_next_pat ha (by omega) h
/-- the cell kr alone has changed -/
def pq_only (kr : Nat) (h h' : pq_H) : Prop := ∀ k, k ≠ kr → h' k = h k
def pq_row (h : pq_H) (k : Nat) (a : Nat → Nat) : Prop := ∀ i, i < 5 → h k i = nI (a i)
/-- the sheets' width and the orders, as they stand in the class's cells -/
def pq_st (h : pq_H) (W n : Nat) (w nm pr : Nat → Nat) : Prop := (h 1 0 = nI W ∧ h 1 1 = nI n ∧ pq_row h 8 w ∧ pq_row h 9 nm ∧ pq_row h 10 pr) ∧ (1 ≤ W ∧ W ≤ 1000 ∧ n ≤ 5) ∧ (∀ i, i < 5 → w i ≤ 1000 ∧ nm i ≤ 6 ∧ pr i ≤ 1000) ∧ (∀ i, i < n → 1 ≤ w i) ∧ ∀ i, n ≤ i → i < 5 → nm i = 0
theorem pq_only.rfl' {kr : Nat} {h : pq_H} : pq_only kr h h := fun _ _ => rfl
theorem pq_only.trans {kr : Nat} {h h' h2 : pq_H} (a : pq_only kr h h') (b : pq_only kr h' h2) : pq_only kr h h2 := fun k hk => (b k hk).trans (a k hk)
theorem pq_only.up {kr : Nat} {h : pq_H} {f : Nat → Int32} : pq_only kr h (va_up h kr f) := fun _ hk => va_up_ne _ _ hk
theorem pq_row.of {h h' : pq_H} {k : Nat} {a : Nat → Nat} (hr : pq_row h k a) (e : h' k = h k) : pq_row h' k a := fun i hi => by rw [e]; exact hr i hi
theorem pq_row.put {h : pq_H} {k i : Nat} {a : Nat → Nat} {x : Int32} {v : Nat} (hr : pq_row h k a) (hx : x = nI v) : pq_row (va_up h k (upd (h k) i x)) k (va_up a i v) := fun j hj => by
  rw [va_up_self]
  by_cases e : j = i
  · subst e; rw [pk_us, va_up_self, hx]
  · rw [pk_un e, va_up_ne _ _ e, hr j hj]
theorem pq_st.of {h h' : pq_H} {W n : Nat} {w nm pr : Nat → Nat} (hs : pq_st h W n w nm pr) (e1 : h' 1 = h 1) (e8 : h' 8 = h 8) (e9 : h' 9 = h 9) (e10 : h' 10 = h 10) : pq_st h' W n w nm pr :=
  ⟨⟨by rw [e1]; exact hs.1.1, by rw [e1]; exact hs.1.2.1, hs.1.2.2.1.of e8, hs.1.2.2.2.1.of e9, hs.1.2.2.2.2.of e10⟩, hs.2⟩
theorem pq_st.only {h h' : pq_H} {W n kr : Nat} {w nm pr : Nat → Nat} (hs : pq_st h W n w nm pr) (ho : pq_only kr h h') (h1 : 10 < kr) : pq_st h' W n w nm pr := hs.of (ho 1 (by omega)) (ho 8 (by omega)) (ho 9 (by omega)) (ho 10 (by omega))
set_option maxRecDepth 100000 in
set_option maxHeartbeats 4000000 in
theorem tS_has (l : Launch) (g : pq_G) (h : pq_H) (x : Int32) : XI l yS_has wS_has rS_has g 0 0 [.ref (g.2.2 1), .int x] h (fun r h9 => h9 = h ∧ ((r = 1 ∧ 0 ≤ x ∧ x < h 1 1) ∨ (r = 0 ∧ ¬ (0 ≤ x ∧ x < h 1 1)))) (pq_no) := by
  refine XI.of (cc := cS_has) (maxL := 2) (ret := (some .boolean)) (by decide +kernel) (by simp [Value.category]) (Nat.le_of_ble_eq_true rfl) ?_
  intro p e s m below meth c cx hX hr hlocks hex
  refine vv_iload_n cx dS_has_0 rfl rfl (pc' := 1) rfl ?_
  refine vv_if_lt cx dS_has_1 (tgt := 16) (by decide) (pc' := 4) rfl (fun c1 => ?_) (fun c1 => ?_)
  · refine vv_iconst cx dS_has_16 (v := 0) (by decide) (pc' := 17) rfl ?_
    refine vv_zret cx hr hlocks dS_has_17 rfl (Nat.le_of_ble_eq_true rfl) (Nat.le_of_ble_eq_true rfl) ?_
    refine ⟨rfl, ?_⟩
    first | exact Or.inl ⟨rfl, Int32.not_lt.mp c1, Int32.not_le.mp c9⟩ | exact Or.inr ⟨rfl, fun q => absurd q.1 (Int32.not_le.mpr c1)⟩ | exact Or.inr ⟨rfl, fun q => absurd q.2 (Int32.not_lt.mpr c9)⟩
  · refine vv_iload_n cx dS_has_4 rfl rfl (pc' := 5) rfl ?_
    refine vv_aload_n cx dS_has_5 rfl rfl (pc' := 6) rfl ?_
    refine vv_getI cx (C := RS) (T := TS) (NN := 5) 1 1 (by decide) sh_1 rfl rfl (by decide) lyS ww_32 dS_has_6 (pc' := 9) rfl ?_
    refine vv_icmp_ge cx dS_has_9 (tgt := 16) (by decide) (pc' := 12) rfl (fun c9 => ?_) (fun c9 => ?_)
    · refine vv_iconst cx dS_has_16 (v := 0) (by decide) (pc' := 17) rfl ?_
      refine vv_zret cx hr hlocks dS_has_17 rfl (Nat.le_of_ble_eq_true rfl) (Nat.le_of_ble_eq_true rfl) ?_
      refine ⟨rfl, ?_⟩
      first | exact Or.inl ⟨rfl, Int32.not_lt.mp c1, Int32.not_le.mp c9⟩ | exact Or.inr ⟨rfl, fun q => absurd q.1 (Int32.not_le.mpr c1)⟩ | exact Or.inr ⟨rfl, fun q => absurd q.2 (Int32.not_lt.mpr c9)⟩
    · refine vv_iconst cx dS_has_12 (v := 1) (by decide) (pc' := 13) rfl ?_
      refine vv_goto cx dS_has_13 (tgt := 17) (by decide) ?_
      refine vv_zret cx hr hlocks dS_has_17 rfl (Nat.le_of_ble_eq_true rfl) (Nat.le_of_ble_eq_true rfl) ?_
      refine ⟨rfl, ?_⟩
      first | exact Or.inl ⟨rfl, Int32.not_lt.mp c1, Int32.not_le.mp c9⟩ | exact Or.inr ⟨rfl, fun q => absurd q.1 (Int32.not_le.mpr c1)⟩ | exact Or.inr ⟨rfl, fun q => absurd q.2 (Int32.not_lt.mpr c9)⟩
set_option maxRecDepth 100000 in
set_option maxHeartbeats 4000000 in
theorem tS_widthOfFirst (l : Launch) (g : pq_G) (h : pq_H) (k n : Nat) (a w : Nat → Nat) (hk : k < pq_N) (hsh : pq_sh k = .inr (.inl 5)) (hn : n ≤ 5) (ha : ∀ i, i < n → h k i = nI (a i)) (hw : ∀ i, i < n → h 8 i = nI (w i)) : XI l yS_widthOfFirst wS_widthOfFirst rS_widthOfFirst g 0 0 [.ref (g.2.2 1), .ref (g.2.2 k), .int (nI n)] h (fun r h9 => h9 = h ∧ r = nI (pq_sum (fun i => a i * w i) n)) (pq_no) := by
  refine XI.of (cc := cS_widthOfFirst) (maxL := 5) (ret := (some .int)) (by decide +kernel) (by simp [Value.category]) (Nat.le_of_ble_eq_true rfl) ?_
  intro p e s m below meth c cx hX hr hlocks hex
  have loop : ∀ (d i : Nat) (x y : Int32), x = nI (pq_sum (fun i => a i * w i) i) → y = nI i → i + d = n → VV p l e rS_widthOfFirst s m [.ref (g.2.2 1), .ref (g.2.2 k), .int (nI n)].toArray below meth c (vx_MQ below (pq_Qi g (fun r h9 => h9 = h ∧ r = nI (pq_sum (fun i => a i * w i) n)) s.heap.size) (pq_Qx g (pq_no) s.heap.size) [.ref (g.2.2 1), .ref (g.2.2 k), .int (nI n)].toArray s 0 0 (pq_A g s.heap.size)) g 0 0 h 5 [some (.ref (g.2.2 1)), some (.ref (g.2.2 k)), some (.int (nI n)), some (.int x), some (.int y)] [] := by
    intro d
    induction d with
    | zero =>
      intro i x y hx hy hi
      have e1 : i = n := by omega
      subst e1
      refine vv_iload cx dS_widthOfFirst_5 rfl (pc' := 7) rfl ?_
      refine vv_iload_n cx dS_widthOfFirst_7 rfl rfl (pc' := 8) rfl ?_
      refine vv_icmp_ge cx dS_widthOfFirst_8 (tgt := 32) (by decide) (pc' := 11) rfl (fun c8 => ?_) (fun c8 => ?_)
      · refine vv_iload_n cx dS_widthOfFirst_32 rfl rfl (pc' := 33) rfl ?_
        refine vv_iret cx hr hlocks dS_widthOfFirst_33 (Nat.le_of_ble_eq_true rfl) (Nat.le_of_ble_eq_true rfl) ?_
        exact ⟨rfl, hx⟩
      · exact absurd (Int32.le_refl _) (by rw [hy] at c8; exact c8)
    | succ d ih =>
      intro i x y hx hy hi
      have hlt : i < n := by omega
      have hv : vp_in y 5 := by rw [hy]; exact vp_in_nI (by omega) (by decide)
      have hcl : y.toNatClampNeg = i := by rw [hy]; exact nI_clamp (by omega)
      refine vv_iload cx dS_widthOfFirst_5 rfl (pc' := 7) rfl ?_
      refine vv_iload_n cx dS_widthOfFirst_7 rfl rfl (pc' := 8) rfl ?_
      refine vv_icmp_ge cx dS_widthOfFirst_8 (tgt := 32) (by decide) (pc' := 11) rfl (fun c8 => ?_) (fun c8 => ?_)
      · exact absurd (by rw [hy] at c8; exact c8) (nI_ge hlt (by omega))
      · refine vv_iload_n cx dS_widthOfFirst_11 rfl rfl (pc' := 12) rfl ?_
        refine vv_aload_n cx dS_widthOfFirst_12 rfl rfl (pc' := 13) rfl ?_
        refine vv_iload cx dS_widthOfFirst_13 rfl (pc' := 15) rfl ?_
        refine vv_iald cx _ hk hsh hv dS_widthOfFirst_15 (pc' := 16) rfl ?_
        refine vv_aload_n cx dS_widthOfFirst_16 rfl rfl (pc' := 17) rfl ?_
        refine vv_getR cx (C := RS) (T := TS) (NN := 5) 1 2 _ (by decide) sh_1 rfl rfl (by decide) lyS ww_36 dS_widthOfFirst_17 (pc' := 20) rfl ?_
        refine vv_iload cx dS_widthOfFirst_20 rfl (pc' := 22) rfl ?_
        refine vv_iald cx _ (by decide) sh_8 hv dS_widthOfFirst_22 (pc' := 23) rfl ?_
        refine vv_imul cx dS_widthOfFirst_23 (pc' := 24) rfl ?_
        refine vv_iadd cx dS_widthOfFirst_24 (pc' := 25) rfl ?_
        refine vv_istore_n cx dS_widthOfFirst_25 rfl (Nat.le_of_ble_eq_true rfl) (pc' := 26) rfl ?_
        refine vv_iinc cx dS_widthOfFirst_26 rfl rfl (pc' := 29) rfl ?_
        refine vv_goto cx dS_widthOfFirst_29 (tgt := 5) (by decide) ?_
        exact ih (i + 1) _ _ (by rw [hx, hcl, ha i hlt, hw i hlt, pk_mul, nI_add]; rfl) (pq_nI1 hy) (by omega)
  refine vv_iconst cx dS_widthOfFirst_0 (v := 0) (by decide) (pc' := 1) rfl ?_
  refine vv_istore_n cx dS_widthOfFirst_1 rfl (Nat.le_of_ble_eq_true rfl) (pc' := 2) rfl ?_
  refine vv_iconst cx dS_widthOfFirst_2 (v := 0) (by decide) (pc' := 3) rfl ?_
  refine vv_istore cx dS_widthOfFirst_3 (Nat.le_of_ble_eq_true rfl) (pc' := 5) rfl ?_
  exact loop n 0 _ _ nI_0.symm nI_0.symm (by omega)
set_option maxRecDepth 100000 in
set_option maxHeartbeats 4000000 in
theorem tS_priceOf (l : Launch) (g : pq_G) (h : pq_H) {W n : Nat} {w nm pr : Nat → Nat} (k : Nat) (a : Nat → Nat) (hk : k < pq_N) (hsh : pq_sh k = .inr (.inl 5)) (hs : pq_st h W n w nm pr) (ha : ∀ i, i < n → h k i = nI (a i)) : XI l yS_priceOf wS_priceOf rS_priceOf g 0 0 [.ref (g.2.2 1), .ref (g.2.2 k)] h (fun r h9 => h9 = h ∧ r = nI (pq_sum (fun i => a i * pr i) n)) (pq_no) := by
  refine XI.of (cc := cS_priceOf) (maxL := 4) (ret := (some .int)) (by decide +kernel) (by simp [Value.category]) (Nat.le_of_ble_eq_true rfl) ?_
  intro p e s m below meth c cx hX hr hlocks hex
  obtain ⟨⟨-, hn, -, -, hpr⟩, ⟨-, -, hn5⟩, -⟩ := id hs
  have loop : ∀ (d i : Nat) (x y : Int32), x = nI (pq_sum (fun i => a i * pr i) i) → y = nI i → i + d = n → VV p l e rS_priceOf s m [.ref (g.2.2 1), .ref (g.2.2 k)].toArray below meth c (vx_MQ below (pq_Qi g (fun r h9 => h9 = h ∧ r = nI (pq_sum (fun i => a i * pr i) n)) s.heap.size) (pq_Qx g (pq_no) s.heap.size) [.ref (g.2.2 1), .ref (g.2.2 k)].toArray s 0 0 (pq_A g s.heap.size)) g 0 0 h 4 [some (.ref (g.2.2 1)), some (.ref (g.2.2 k)), some (.int x), some (.int y)] [] := by
    intro d
    induction d with
    | zero =>
      intro i x y hx hy hi
      have e1 : i = n := by omega
      subst e1
      refine vv_iload_n cx dS_priceOf_4 rfl rfl (pc' := 5) rfl ?_
      refine vv_aload_n cx dS_priceOf_5 rfl rfl (pc' := 6) rfl ?_
      refine vv_getI cx (C := RS) (T := TS) (NN := 5) 1 1 (by decide) sh_1 rfl rfl (by decide) lyS ww_32 dS_priceOf_6 (pc' := 9) rfl ?_
      refine vv_icmp_ge cx dS_priceOf_9 (tgt := 31) (by decide) (pc' := 12) rfl (fun c9 => ?_) (fun c9 => ?_)
      · refine vv_iload_n cx dS_priceOf_31 rfl rfl (pc' := 32) rfl ?_
        refine vv_iret cx hr hlocks dS_priceOf_32 (Nat.le_of_ble_eq_true rfl) (Nat.le_of_ble_eq_true rfl) ?_
        exact ⟨rfl, hx⟩
      · exact absurd (Int32.le_refl _) (by rw [hy, hn] at c9; exact c9)
    | succ d ih =>
      intro i x y hx hy hi
      have hlt : i < n := by omega
      have hv : vp_in y 5 := by rw [hy]; exact vp_in_nI (by omega) (by decide)
      have hcl : y.toNatClampNeg = i := by rw [hy]; exact nI_clamp (by omega)
      refine vv_iload_n cx dS_priceOf_4 rfl rfl (pc' := 5) rfl ?_
      refine vv_aload_n cx dS_priceOf_5 rfl rfl (pc' := 6) rfl ?_
      refine vv_getI cx (C := RS) (T := TS) (NN := 5) 1 1 (by decide) sh_1 rfl rfl (by decide) lyS ww_32 dS_priceOf_6 (pc' := 9) rfl ?_
      refine vv_icmp_ge cx dS_priceOf_9 (tgt := 31) (by decide) (pc' := 12) rfl (fun c9 => ?_) (fun c9 => ?_)
      · exact absurd (by rw [hy, hn] at c9; exact c9) (nI_ge hlt (by omega))
      · refine vv_iload_n cx dS_priceOf_12 rfl rfl (pc' := 13) rfl ?_
        refine vv_aload_n cx dS_priceOf_13 rfl rfl (pc' := 14) rfl ?_
        refine vv_iload_n cx dS_priceOf_14 rfl rfl (pc' := 15) rfl ?_
        refine vv_iald cx _ hk hsh hv dS_priceOf_15 (pc' := 16) rfl ?_
        refine vv_aload_n cx dS_priceOf_16 rfl rfl (pc' := 17) rfl ?_
        refine vv_getR cx (C := RS) (T := TS) (NN := 5) 1 4 _ (by decide) sh_1 rfl rfl (by decide) lyS ww_41 dS_priceOf_17 (pc' := 20) rfl ?_
        refine vv_iload_n cx dS_priceOf_20 rfl rfl (pc' := 21) rfl ?_
        refine vv_iald cx _ (by decide) sh_10 hv dS_priceOf_21 (pc' := 22) rfl ?_
        refine vv_imul cx dS_priceOf_22 (pc' := 23) rfl ?_
        refine vv_iadd cx dS_priceOf_23 (pc' := 24) rfl ?_
        refine vv_istore_n cx dS_priceOf_24 rfl (Nat.le_of_ble_eq_true rfl) (pc' := 25) rfl ?_
        refine vv_iinc cx dS_priceOf_25 rfl rfl (pc' := 28) rfl ?_
        refine vv_goto cx dS_priceOf_28 (tgt := 4) (by decide) ?_
        exact ih (i + 1) _ _ (by rw [hx, hcl, ha i hlt, hpr i (by omega), pk_mul, nI_add]; rfl) (pq_nI1 hy) (by omega)
  refine vv_iconst cx dS_priceOf_0 (v := 0) (by decide) (pc' := 1) rfl ?_
  refine vv_istore_n cx dS_priceOf_1 rfl (Nat.le_of_ble_eq_true rfl) (pc' := 2) rfl ?_
  refine vv_iconst cx dS_priceOf_2 (v := 0) (by decide) (pc' := 3) rfl ?_
  refine vv_istore_n cx dS_priceOf_3 rfl (Nat.le_of_ble_eq_true rfl) (pc' := 4) rfl ?_
  exact loop n 0 _ _ nI_0.symm nI_0.symm (by omega)
set_option maxRecDepth 100000 in
set_option maxHeartbeats 4000000 in
theorem tS_priceOfAll (l : Launch) (g : pq_G) (h : pq_H) {W n : Nat} {w nm pr : Nat → Nat} (hs : pq_st h W n w nm pr) : XI l yS_priceOfAll wS_priceOfAll rS_priceOfAll g 0 0 [.ref (g.2.2 1)] h (fun r h9 => h9 = h ∧ r = nI (pq_sum (fun i => nm i * pr i) n)) (pq_no) := by
  refine XI.of (cc := cS_priceOfAll) (maxL := 1) (ret := (some .int)) (by decide +kernel) (by simp [Value.category]) (Nat.le_of_ble_eq_true rfl) ?_
  intro p e s m below meth c cx hX hr hlocks hex
  refine vv_aload_n cx dS_priceOfAll_0 rfl rfl (pc' := 1) rfl ?_
  refine vv_aload_n cx dS_priceOfAll_1 rfl rfl (pc' := 2) rfl ?_
  refine vv_getR cx (C := RS) (T := TS) (NN := 5) 1 3 _ (by decide) sh_1 rfl rfl (by decide) lyS ww_37 dS_priceOfAll_2 (pc' := 5) rfl ?_
  refine cc_Vi cx hX (tS_priceOf l g h 9 nm (by decide) sh_9 hs (fun i hi => hs.1.2.2.2.1 i (by have := hs.2.1.2.2; omega))) kS_priceOf ww_209 rfl rfl ⟨Nat.le_of_ble_eq_true rfl, Nat.le_of_ble_eq_true rfl⟩ 1 (by decide) sh_1 rfl rfl rfl rfl (Nat.le_of_ble_eq_true rfl) rfl ⟨Nat.le_of_ble_eq_true rfl, Nat.le_of_ble_eq_true rfl⟩ dS_priceOfAll_5 (pc' := 8) rfl (fun _ _ q => q.elim) (fun r5 h5 q5 => ?_)
  refine vv_iret cx hr hlocks dS_priceOfAll_8 (Nat.le_of_ble_eq_true rfl) (Nat.le_of_ble_eq_true rfl) ?_
  exact q5
set_option maxRecDepth 100000 in
set_option maxHeartbeats 4000000 in
theorem tS_widthOf (l : Launch) (g : pq_G) (h : pq_H) {W n : Nat} {w nm pr : Nat → Nat} (k : Nat) (a : Nat → Nat) (hk : k < pq_N) (hsh : pq_sh k = .inr (.inl 5)) (hs : pq_st h W n w nm pr) (ha : ∀ i, i < n → h k i = nI (a i)) : XI l yS_widthOf wS_widthOf rS_widthOf g 0 0 [.ref (g.2.2 1), .ref (g.2.2 k)] h (fun r h9 => h9 = h ∧ r = nI (pq_sum (fun i => a i * w i) n)) (pq_no) := by
  refine XI.of (cc := cS_widthOf) (maxL := 2) (ret := (some .int)) (by decide +kernel) (by simp [Value.category]) (Nat.le_of_ble_eq_true rfl) ?_
  intro p e s m below meth c cx hX hr hlocks hex
  refine vv_aload_n cx dS_widthOf_0 rfl rfl (pc' := 1) rfl ?_
  refine vv_aload_n cx dS_widthOf_1 rfl rfl (pc' := 2) rfl ?_
  refine vv_aload_n cx dS_widthOf_2 rfl rfl (pc' := 3) rfl ?_
  refine vv_getI cx (C := RS) (T := TS) (NN := 5) 1 1 (by decide) sh_1 rfl rfl (by decide) lyS ww_32 dS_widthOf_3 (pc' := 6) rfl ?_
  rw [hs.1.2.1]
  refine cc_Vi cx hX (tS_widthOfFirst l g h k n a w hk hsh hs.2.1.2.2 ha (fun i hi => hs.1.2.2.1 i (by have := hs.2.1.2.2; omega))) kS_widthOfFirst ww_175 rfl rfl ⟨Nat.le_of_ble_eq_true rfl, Nat.le_of_ble_eq_true rfl⟩ 1 (by decide) sh_1 rfl rfl rfl rfl (Nat.le_of_ble_eq_true rfl) rfl ⟨Nat.le_of_ble_eq_true rfl, Nat.le_of_ble_eq_true rfl⟩ dS_widthOf_6 (pc' := 9) rfl (fun _ _ q => q.elim) (fun r6 h6 q6 => ?_)
  refine vv_iret cx hr hlocks dS_widthOf_9 (Nat.le_of_ble_eq_true rfl) (Nat.le_of_ble_eq_true rfl) ?_
  exact q6
set_option maxRecDepth 100000 in
set_option maxHeartbeats 4000000 in
theorem tS_widthOfAll (l : Launch) (g : pq_G) (h : pq_H) {W n : Nat} {w nm pr : Nat → Nat} (hs : pq_st h W n w nm pr) : XI l yS_widthOfAll wS_widthOfAll rS_widthOfAll g 0 0 [.ref (g.2.2 1)] h (fun r h9 => h9 = h ∧ r = nI (pq_sum (fun i => nm i * w i) n)) (pq_no) := by
  refine XI.of (cc := cS_widthOfAll) (maxL := 1) (ret := (some .int)) (by decide +kernel) (by simp [Value.category]) (Nat.le_of_ble_eq_true rfl) ?_
  intro p e s m below meth c cx hX hr hlocks hex
  refine vv_aload_n cx dS_widthOfAll_0 rfl rfl (pc' := 1) rfl ?_
  refine vv_aload_n cx dS_widthOfAll_1 rfl rfl (pc' := 2) rfl ?_
  refine vv_getR cx (C := RS) (T := TS) (NN := 5) 1 3 _ (by decide) sh_1 rfl rfl (by decide) lyS ww_37 dS_widthOfAll_2 (pc' := 5) rfl ?_
  refine vv_aload_n cx dS_widthOfAll_5 rfl rfl (pc' := 6) rfl ?_
  refine vv_getI cx (C := RS) (T := TS) (NN := 5) 1 1 (by decide) sh_1 rfl rfl (by decide) lyS ww_32 dS_widthOfAll_6 (pc' := 9) rfl ?_
  rw [hs.1.2.1]
  refine cc_Vi cx hX (tS_widthOfFirst l g h 9 n nm w (by decide) sh_9 hs.2.1.2.2 (fun i hi => hs.1.2.2.2.1 i (by have := hs.2.1.2.2; omega)) (fun i hi => hs.1.2.2.1 i (by have := hs.2.1.2.2; omega))) kS_widthOfFirst ww_175 rfl rfl ⟨Nat.le_of_ble_eq_true rfl, Nat.le_of_ble_eq_true rfl⟩ 1 (by decide) sh_1 rfl rfl rfl rfl (Nat.le_of_ble_eq_true rfl) rfl ⟨Nat.le_of_ble_eq_true rfl, Nat.le_of_ble_eq_true rfl⟩ dS_widthOfAll_9 (pc' := 12) rfl (fun _ _ q => q.elim) (fun r9 h9 q9 => ?_)
  refine vv_iret cx hr hlocks dS_widthOfAll_12 (Nat.le_of_ble_eq_true rfl) (Nat.le_of_ble_eq_true rfl) ?_
  exact q9
theorem pq_pos {y : Nat} (h : 0 < nI y) : 0 < y := by
  rcases Nat.eq_zero_or_pos y with q | q
  · subst q; exact absurd h (by decide)
  · exact q
def pq_up (x y : Nat) : Nat := if y = 0 then 0 else (x + y - 1) / y
set_option maxRecDepth 100000 in
set_option maxHeartbeats 4000000 in
theorem tP_roundedUp (l : Launch) (g : pq_G) (h : pq_H) (x y : Nat) (hx : x < 2 ^ 30) (hy : y < 2 ^ 30) : XI l yP_roundedUp wP_roundedUp rP_roundedUp g 0 0 [.int (nI x), .int (nI y)] h (fun r h9 => h9 = h ∧ r = nI (pq_up x y)) (pq_no) := by
  refine XI.of (cc := cP_roundedUp) (maxL := 2) (ret := (some .int)) (by decide +kernel) (by simp [Value.category]) (Nat.le_of_ble_eq_true rfl) ?_
  intro p e s m below meth c cx hX hr hlocks hex
  refine vv_iload_n cx dP_roundedUp_0 rfl rfl (pc' := 1) rfl ?_
  refine vv_if_gt cx dP_roundedUp_1 (tgt := 8) (by decide) (pc' := 4) rfl (fun c1 => ?_) (fun c1 => ?_)
  · refine vv_iload_n cx dP_roundedUp_8 rfl rfl (pc' := 9) rfl ?_
    refine vv_iload_n cx dP_roundedUp_9 rfl rfl (pc' := 10) rfl ?_
    refine vv_iadd cx dP_roundedUp_10 (pc' := 11) rfl ?_
    refine vv_iconst cx dP_roundedUp_11 (v := 1) (by decide) (pc' := 12) rfl ?_
    refine vv_isub cx dP_roundedUp_12 (pc' := 13) rfl ?_
    refine vv_iload_n cx dP_roundedUp_13 rfl rfl (pc' := 14) rfl ?_
    have hy0 : 0 < y := pq_pos c1
    refine vv_idiv cx dP_roundedUp_14 (nI_ne0 hy0 (by omega)) (pc' := 15) rfl ?_
    refine vv_iret cx hr hlocks dP_roundedUp_15 (Nat.le_of_ble_eq_true rfl) (Nat.le_of_ble_eq_true rfl) ?_
    refine ⟨rfl, ?_⟩
    first | (have hy0 : y = 0 := Nat.eq_zero_of_not_pos (fun q => c1 (nI_lt q (by omega))); subst hy0; rfl) | (unfold pq_up; rw [if_neg (by omega), nI_add, show (1 : Int32) = nI 1 from rfl, pk_sub (by omega), pk_div (by omega) hy0 (by omega)])
  · refine vv_iconst cx dP_roundedUp_4 (v := 0) (by decide) (pc' := 5) rfl ?_
    refine vv_goto cx dP_roundedUp_5 (tgt := 15) (by decide) ?_
    refine vv_iret cx hr hlocks dP_roundedUp_15 (Nat.le_of_ble_eq_true rfl) (Nat.le_of_ble_eq_true rfl) ?_
    refine ⟨rfl, ?_⟩
    first | (have hy0 : y = 0 := Nat.eq_zero_of_not_pos (fun q => c1 (nI_lt q (by omega))); subst hy0; rfl) | (unfold pq_up; rw [if_neg (by omega), nI_add, show (1 : Int32) = nI 1 from rfl, pk_sub (by omega), pk_div (by omega) hy0 (by omega)])
set_option maxRecDepth 100000 in
set_option maxHeartbeats 4000000 in
theorem tS_sheetsFor (l : Launch) (g : pq_G) (h : pq_H) {W n : Nat} {w nm pr : Nat → Nat} (x : Nat) (hx : x < 2 ^ 30) (hs : pq_st h W n w nm pr) : XI l yS_sheetsFor wS_sheetsFor rS_sheetsFor g 0 0 [.ref (g.2.2 1), .int (nI x)] h (fun r h9 => h9 = h ∧ r = nI (pq_up x W)) (pq_no) := by
  refine XI.of (cc := cS_sheetsFor) (maxL := 2) (ret := (some .int)) (by decide +kernel) (by simp [Value.category]) (Nat.le_of_ble_eq_true rfl) ?_
  intro p e s m below meth c cx hX hr hlocks hex
  refine vv_iload_n cx dS_sheetsFor_0 rfl rfl (pc' := 1) rfl ?_
  refine vv_aload_n cx dS_sheetsFor_1 rfl rfl (pc' := 2) rfl ?_
  refine vv_getI cx (C := RS) (T := TS) (NN := 5) 1 0 (by decide) sh_1 rfl rfl (by decide) lyS ww_30 dS_sheetsFor_2 (pc' := 5) rfl ?_
  rw [hs.1.1]
  refine cc_Ni cx hX (tP_roundedUp l g h x W hx (by have := hs.2.1; omega)) kP_roundedUp (host := "PatternColumns") (by decide +kernel) rfl rfl ⟨Nat.le_of_ble_eq_true rfl, Nat.le_of_ble_eq_true rfl⟩ rfl rfl (Nat.le_of_ble_eq_true rfl) rfl ⟨Nat.le_of_ble_eq_true rfl, Nat.le_of_ble_eq_true rfl⟩ dS_sheetsFor_5 (pc' := 8) rfl (fun r5 h5 q5 => ?_)
  refine vv_iret cx hr hlocks dS_sheetsFor_8 (Nat.le_of_ble_eq_true rfl) (Nat.le_of_ble_eq_true rfl) ?_
  exact q5
end
section
/-! part 07: fillFrom, firstPattern, nextPattern, the other reads of Slabs -/
theorem pq_minI {x y : Nat} (hx : x < 2 ^ 31) (hy : y < 2 ^ 31) : (if nI y < nI x then nI y else nI x) = nI (min x y) := by
  by_cases q : y < x
  · rw [if_pos (nI_lt q hx), Nat.min_eq_right (by omega)]
  · rw [if_neg (nI_nlt (by omega) hy), Nat.min_eq_left (by omega)]
theorem pq_sum_dec {w a : Nat → Nat} {i n : Nat} (h : i < n) : pq_sum (fun j => va_up a i (a i - 1) j * w j) (i + 1) ≤ pq_sum (fun j => a j * w j) n := by
  refine Nat.le_trans (pq_sum_le (fun j hj => Nat.mul_le_mul_right _ ?_)) (pq_sum_mono (show i + 1 ≤ n by omega))
  rcases Nat.lt_or_ge j i with q | q
  · rw [va_up_ne _ _ (by omega)]; exact Nat.le_refl _
  · rw [show j = i by omega, va_up_self]; omega
set_option maxRecDepth 100000 in
set_option maxHeartbeats 4000000 in
theorem tS_fillFrom (l : Launch) (g : pq_G) (h : pq_H) {W n : Nat} {w nm pr : Nat → Nat} (kr kt : Nat) (i0 : Nat) (a th : Nat → Nat) (hkr : (8 ≤ kr ∧ kr < 14) ∨ (16 ≤ kr ∧ kr < 116)) (hkt : (8 ≤ kt ∧ kt < 14) ∨ (16 ≤ kt ∧ kt < 116)) (hr10 : 10 < kr) (hne : kt ≠ kr) (hs : pq_st h W n w nm pr) (ha : pq_row h kr a) (ht : pq_row h kt th) (hi0 : i0 ≤ n) (hsum : pq_sum (fun j => a j * w j) i0 ≤ W) (hth : ∀ i, i < 5 → th i ≤ 6) : XV l yS_fillFrom wS_fillFrom rS_fillFrom g 0 0 [.ref (g.2.2 1), .int (nI i0), .ref (g.2.2 kr), .ref (g.2.2 kt)] h (fun h9 => pq_only kr h h9 ∧ pq_row h9 kr (pq_fill W n w th a i0)) (pq_no) := by
  refine XV.of (cc := cS_fillFrom) (maxL := 8) (ret := none) (by decide +kernel) (by simp [Value.category]) (Nat.le_of_ble_eq_true rfl) ?_
  intro p e s m below meth c cx hX hr hlocks hex
  have hkN : kr < pq_N := by show kr < 125; omega
  have hkM : kt < pq_N := by show kt < 125; omega
  obtain ⟨-, ⟨hW1, hW2, hn5⟩, hb, hw1, -⟩ := id hs
  have loop : ∀ (d i R : Nat) (b : Nat → Nat) (h1 : pq_H) (x y : Int32) (u6 u7 : Option Value), pq_only kr h h1 → pq_row h1 kr b → x = nI R → R ≤ W → y = nI i → i + d = n → pq_fillS w th d b i R = pq_fill W n w th a i0 → VV p l e rS_fillFrom s m [.ref (g.2.2 1), .int (nI i0), .ref (g.2.2 kr), .ref (g.2.2 kt)].toArray below meth c (vx_MQ below (pq_Qv g (fun h9 => pq_only kr h h9 ∧ pq_row h9 kr (pq_fill W n w th a i0)) s.heap.size) (pq_Qx g (pq_no) s.heap.size) [.ref (g.2.2 1), .int (nI i0), .ref (g.2.2 kr), .ref (g.2.2 kt)].toArray s 0 0 (pq_A g s.heap.size)) g 0 0 h1 16 [some (.ref (g.2.2 1)), some (.int (nI i0)), some (.ref (g.2.2 kr)), some (.ref (g.2.2 kt)), some (.int x), some (.int y), u6, u7] [] := by
    intro d
    induction d with
    | zero =>
      intro i R b h1 x y u6 u7 ho hb1 hx hR hy hi hf
      have e1 : i = n := by omega
      subst e1
      have hs1 := hs.only ho hr10
      refine vv_iload cx dS_fillFrom_16 rfl (pc' := 18) rfl ?_
      refine vv_aload_n cx dS_fillFrom_18 rfl rfl (pc' := 19) rfl ?_
      refine vv_getI cx (C := RS) (T := TS) (NN := 5) 1 1 (by decide) sh_1 rfl rfl (by decide) lyS ww_32 dS_fillFrom_19 (pc' := 22) rfl ?_
      refine vv_icmp_ge cx dS_fillFrom_22 (tgt := 81) (by decide) (pc' := 25) rfl (fun c22 => ?_) (fun c22 => ?_)
      · refine vv_vret cx hr hlocks dS_fillFrom_81 (Nat.le_of_ble_eq_true rfl) (Nat.le_of_ble_eq_true rfl) ?_
        exact ⟨ho, hf ▸ hb1⟩
      · exact absurd (Int32.le_refl _) (by rw [hy, hs1.1.2.1] at c22; exact c22)
    | succ d ih =>
      intro i R b h1 x y u6 u7 ho hb1 hx hR hy hi hf
      have hlt : i < n := by omega
      have hs1 := hs.only ho hr10
      have ht1 : pq_row h1 kt th := ht.of (ho kt hne)
      have hv : vp_in y 5 := by rw [hy]; exact vp_in_nI (by omega) (by decide)
      have hcl : y.toNatClampNeg = i := by rw [hy]; exact nI_clamp (by omega)
      have hwi : 0 < w i := hw1 i hlt
      have hw5 : w i ≤ 1000 := (hb i (by omega)).1
      have hti : th i ≤ 6 := hth i (by omega)
      have hdv : R / w i ≤ R := Nat.div_le_self _ _
      have hml := pq_div_le (th i) R (w i)
      have e8 : h1 8 y.toNatClampNeg = nI (w i) := by rw [hcl]; exact hs1.1.2.2.1 i (by omega)
      refine vv_iload cx dS_fillFrom_16 rfl (pc' := 18) rfl ?_
      refine vv_aload_n cx dS_fillFrom_18 rfl rfl (pc' := 19) rfl ?_
      refine vv_getI cx (C := RS) (T := TS) (NN := 5) 1 1 (by decide) sh_1 rfl rfl (by decide) lyS ww_32 dS_fillFrom_19 (pc' := 22) rfl ?_
      refine vv_icmp_ge cx dS_fillFrom_22 (tgt := 81) (by decide) (pc' := 25) rfl (fun c22 => ?_) (fun c22 => ?_)
      · exact absurd (by rw [hy, hs1.1.2.1] at c22; exact c22) (nI_ge hlt (by omega))
      · refine vv_aload_n cx dS_fillFrom_25 rfl rfl (pc' := 26) rfl ?_
        refine vv_getR cx (C := RS) (T := TS) (NN := 5) 1 2 _ (by decide) sh_1 rfl rfl (by decide) lyS ww_36 dS_fillFrom_26 (pc' := 29) rfl ?_
        refine vv_iload cx dS_fillFrom_29 rfl (pc' := 31) rfl ?_
        refine vv_iald cx _ (by decide) sh_8 hv dS_fillFrom_31 (pc' := 32) rfl ?_
        rw [e8]
        refine vv_istore cx dS_fillFrom_32 (Nat.le_of_ble_eq_true rfl) (pc' := 34) rfl ?_
        refine vv_iload cx dS_fillFrom_34 rfl (pc' := 36) rfl ?_
        refine vv_if_gt cx dS_fillFrom_36 (tgt := 43) (by decide) (pc' := 39) rfl (fun c36 => ?_) (fun c36 => ?_)
        · refine vv_iload cx dS_fillFrom_43 rfl (pc' := 45) rfl ?_
          refine vv_iload cx dS_fillFrom_45 rfl (pc' := 47) rfl ?_
          refine vv_idiv cx dS_fillFrom_47 (nI_ne0 hwi (by omega)) (pc' := 48) rfl ?_
          rw [hx, pk_div (by omega) hwi (by omega)]
          refine vv_istore cx dS_fillFrom_48 (Nat.le_of_ble_eq_true rfl) (pc' := 50) rfl ?_
          refine vv_aload_n cx dS_fillFrom_50 rfl rfl (pc' := 51) rfl ?_
          refine vv_iload cx dS_fillFrom_51 rfl (pc' := 53) rfl ?_
          refine vv_aload_n cx dS_fillFrom_53 rfl rfl (pc' := 54) rfl ?_
          refine vv_iload cx dS_fillFrom_54 rfl (pc' := 56) rfl ?_
          refine vv_iald cx _ hkM (sh_five hkt) hv dS_fillFrom_56 (pc' := 57) rfl ?_
          rw [show h1 kt y.toNatClampNeg = nI (th i) by rw [hcl]; exact ht1 i (by omega)]
          refine vv_iload cx dS_fillFrom_57 rfl (pc' := 59) rfl ?_
          refine vv_min cx ww_179 ww_180 ww_13 ww_181 (Nat.le_of_ble_eq_true rfl) (Nat.le_of_ble_eq_true rfl) (Nat.zero_le _) (Nat.zero_le _) rfl dS_fillFrom_59 (pc' := 62) rfl ?_
          have hmin := pq_minI (x := th i) (y := R / w i) (by omega) (by omega)
          refine vv_iast cx _ hkN (sh_five hkr) hv dS_fillFrom_62 (pc' := 63) rfl ?_
          refine vv_iload cx dS_fillFrom_63 rfl (pc' := 65) rfl ?_
          refine vv_aload_n cx dS_fillFrom_65 rfl rfl (pc' := 66) rfl ?_
          refine vv_iload cx dS_fillFrom_66 rfl (pc' := 68) rfl ?_
          refine vv_iald cx _ hkN (sh_five hkr) hv dS_fillFrom_68 (pc' := 69) rfl ?_
          refine vv_iload cx dS_fillFrom_69 rfl (pc' := 71) rfl ?_
          refine vv_imul cx dS_fillFrom_71 (pc' := 72) rfl ?_
          refine vv_isub cx dS_fillFrom_72 (pc' := 73) rfl ?_
          refine vv_istore cx dS_fillFrom_73 (Nat.le_of_ble_eq_true rfl) (pc' := 75) rfl ?_
          refine vv_iinc cx dS_fillFrom_75 rfl rfl (pc' := 78) rfl ?_
          refine vv_goto cx dS_fillFrom_78 (tgt := 16) (by decide) ?_
          exact ih (i + 1) (R - min (th i) (R / w i) * w i) (va_up b i (min (th i) (R / w i))) _ _ _ _ _ (ho.trans pq_only.up) (by rw [hcl]; exact hb1.put hmin) (by rw [va_up_self, hcl, pk_us, hmin, pk_mul, pk_sub hml]) (by omega) (pq_nI1 hy) (by omega) hf
        · exact absurd (nI_lt hwi (by omega)) c36
  refine vv_aload_n cx dS_fillFrom_0 rfl rfl (pc' := 1) rfl ?_
  refine vv_getI cx (C := RS) (T := TS) (NN := 5) 1 0 (by decide) sh_1 rfl rfl (by decide) lyS ww_30 dS_fillFrom_1 (pc' := 4) rfl ?_
  refine vv_aload_n cx dS_fillFrom_4 rfl rfl (pc' := 5) rfl ?_
  refine vv_aload_n cx dS_fillFrom_5 rfl rfl (pc' := 6) rfl ?_
  refine vv_iload_n cx dS_fillFrom_6 rfl rfl (pc' := 7) rfl ?_
  refine cc_Vi cx hX (tS_widthOfFirst l g h kr i0 a w hkN (sh_five hkr) (by omega) (fun i hi => ha i (by omega)) (fun i hi => hs.1.2.2.1 i (by omega))) kS_widthOfFirst ww_175 rfl rfl ⟨Nat.le_of_ble_eq_true rfl, Nat.le_of_ble_eq_true rfl⟩ 1 (by decide) sh_1 rfl rfl rfl rfl (Nat.le_of_ble_eq_true rfl) rfl ⟨Nat.le_of_ble_eq_true rfl, Nat.le_of_ble_eq_true rfl⟩ dS_fillFrom_7 (pc' := 10) rfl (fun _ _ q => q.elim) (fun r7 h7 q7 => ?_)
  obtain ⟨rfl, hq7⟩ := q7
  refine vv_isub cx dS_fillFrom_10 (pc' := 11) rfl ?_
  refine vv_istore cx dS_fillFrom_11 (Nat.le_of_ble_eq_true rfl) (pc' := 13) rfl ?_
  refine vv_iload_n cx dS_fillFrom_13 rfl rfl (pc' := 14) rfl ?_
  refine vv_istore cx dS_fillFrom_14 (Nat.le_of_ble_eq_true rfl) (pc' := 16) rfl ?_
  exact loop (n - i0) i0 (W - pq_sum (fun j => a j * w j) i0) a _ _ _ _ _ pq_only.rfl' ha (by rw [hs.1.1, hq7, pk_sub hsum]) (by omega) rfl (by omega) rfl
set_option maxRecDepth 100000 in
set_option maxHeartbeats 4000000 in
theorem tS_firstPattern (l : Launch) (g : pq_G) (h : pq_H) {W n : Nat} {w nm pr : Nat → Nat} (kr kt : Nat) (a th : Nat → Nat) (hkr : (8 ≤ kr ∧ kr < 14) ∨ (16 ≤ kr ∧ kr < 116)) (hkt : (8 ≤ kt ∧ kt < 14) ∨ (16 ≤ kt ∧ kt < 116)) (hr10 : 10 < kr) (hne : kt ≠ kr) (hs : pq_st h W n w nm pr) (ha : pq_row h kr a) (ht : pq_row h kt th) (hth : ∀ i, i < 5 → th i ≤ 6) : XV l yS_firstPattern wS_firstPattern rS_firstPattern g 0 0 [.ref (g.2.2 1), .ref (g.2.2 kr), .ref (g.2.2 kt)] h (fun h9 => pq_only kr h h9 ∧ pq_row h9 kr (pq_fill W n w th a 0)) (pq_no) := by
  refine XV.of (cc := cS_firstPattern) (maxL := 3) (ret := none) (by decide +kernel) (by simp [Value.category]) (Nat.le_of_ble_eq_true rfl) ?_
  intro p e s m below meth c cx hX hr hlocks hex
  refine vv_aload_n cx dS_firstPattern_0 rfl rfl (pc' := 1) rfl ?_
  refine vv_iconst cx dS_firstPattern_1 (v := 0) (by decide) (pc' := 2) rfl ?_
  refine vv_aload_n cx dS_firstPattern_2 rfl rfl (pc' := 3) rfl ?_
  refine vv_aload_n cx dS_firstPattern_3 rfl rfl (pc' := 4) rfl ?_
  refine cc_Vv cx hX (tS_fillFrom l g h kr kt 0 a th hkr hkt hr10 hne hs ha ht (Nat.zero_le _) (Nat.zero_le _) hth) kS_fillFrom ww_171 rfl rfl ⟨Nat.le_of_ble_eq_true rfl, Nat.le_of_ble_eq_true rfl⟩ 1 (by decide) sh_1 rfl rfl rfl rfl (Nat.le_of_ble_eq_true rfl) rfl ⟨Nat.le_of_ble_eq_true rfl, Nat.le_of_ble_eq_true rfl⟩ dS_firstPattern_4 (pc' := 7) rfl (fun _ _ q => q.elim) (fun h4 q4 => ?_)
  refine vv_vret cx hr hlocks dS_firstPattern_7 (Nat.le_of_ble_eq_true rfl) (Nat.le_of_ble_eq_true rfl) ?_
  exact q4
set_option maxRecDepth 100000 in
set_option maxHeartbeats 4000000 in
theorem tS_nextPattern (l : Launch) (g : pq_G) (h : pq_H) {W n : Nat} {w nm pr : Nat → Nat} (kr kt : Nat) (a th : Nat → Nat) (hg nd : Int32) (z mm : Nat) (hkr : (8 ≤ kr ∧ kr < 14) ∨ (16 ≤ kr ∧ kr < 116)) (hkt : (8 ≤ kt ∧ kt < 14) ∨ (16 ≤ kt ∧ kt < 116)) (hr10 : 10 < kr) (hne : kt ≠ kr) (hs : pq_st h W n w nm pr) (ha : pq_row h kr a) (ht : pq_row h kt th) (hpat : pq_pat W n w th a) (hth : ∀ i, i < 5 → th i ≤ 6) (hnd : ∀ i, i < 5 → (nI i = nd ↔ i = z)) (hmm : mm ≤ n) (htop : (mm = 0 ∧ (if nI n - 1 < hg then nI n - 1 else hg) < 0) ∨ (0 < mm ∧ (if nI n - 1 < hg then nI n - 1 else hg) = nI (mm - 1))) : XI l yS_nextPattern wS_nextPattern rS_nextPattern g 0 0 [.ref (g.2.2 1), .ref (g.2.2 kr), .ref (g.2.2 kt), .int hg, .int nd] h (fun r h9 => (r = 1 ∧ ∃ b, pq_next W n w th a z mm = some b ∧ pq_only kr h h9 ∧ pq_row h9 kr b) ∨ (r = 0 ∧ pq_next W n w th a z mm = none ∧ h9 = h)) (pq_no) := by
  refine XI.of (cc := cS_nextPattern) (maxL := 7) (ret := (some .boolean)) (by decide +kernel) (by simp [Value.category]) (Nat.le_of_ble_eq_true rfl) ?_
  intro p e s m below meth c cx hX hr hlocks hex
  have hkN : kr < pq_N := by show kr < 125; omega
  obtain ⟨-, ⟨hW1, hW2, hn5⟩, hb, hw1, -⟩ := id hs
  have loop : ∀ (i : Nat) (y : Int32) (u6 : Option Value), ((i = 0 ∧ y < 0) ∨ (0 < i ∧ y = nI (i - 1))) → i ≤ mm → pq_next W n w th a z i = pq_next W n w th a z mm → VV p l e rS_nextPattern s m [.ref (g.2.2 1), .ref (g.2.2 kr), .ref (g.2.2 kt), .int hg, .int nd].toArray below meth c (vx_MQ below (pq_Qi g (fun r h9 => (r = 1 ∧ ∃ b, pq_next W n w th a z mm = some b ∧ pq_only kr h h9 ∧ pq_row h9 kr b) ∨ (r = 0 ∧ pq_next W n w th a z mm = none ∧ h9 = h)) s.heap.size) (pq_Qx g (pq_no) s.heap.size) [.ref (g.2.2 1), .ref (g.2.2 kr), .ref (g.2.2 kt), .int hg, .int nd].toArray s 0 0 (pq_A g s.heap.size)) g 0 0 h 12 [some (.ref (g.2.2 1)), some (.ref (g.2.2 kr)), some (.ref (g.2.2 kt)), some (.int hg), some (.int nd), some (.int y), u6] [] := by
    intro i
    induction i with
    | zero =>
      intro y u6 hy hi hf
      have hy0 : y < 0 := by rcases hy with q | q; exact q.2; exact absurd q.1 (by omega)
      refine vv_iload cx dS_nextPattern_12 rfl (pc' := 14) rfl ?_
      refine vv_if_lt cx dS_nextPattern_14 (tgt := 66) (by decide) (pc' := 17) rfl (fun c14 => ?_) (fun c14 => ?_)
      · refine vv_iconst cx dS_nextPattern_66 (v := 0) (by decide) (pc' := 67) rfl ?_
        refine vv_zret cx hr hlocks dS_nextPattern_67 rfl (Nat.le_of_ble_eq_true rfl) (Nat.le_of_ble_eq_true rfl) ?_
        exact Or.inr ⟨rfl, hf.symm, rfl⟩
      · exact absurd hy0 c14
    | succ i ih =>
      intro y u6 hy hi hf
      have hy1 : y = nI i := by rcases hy with q | q; exact absurd q.1 (by omega); exact q.2
      have hv : vp_in y 5 := by rw [hy1]; exact vp_in_nI (by omega) (by decide)
      have hcl : y.toNatClampNeg = i := by rw [hy1]; exact nI_clamp (by omega)
      have ha6 : a i ≤ 6 := Nat.le_trans (hpat.1 i (by omega)) (hth i (by omega))
      have hrow : h kr y.toNatClampNeg = nI (a i) := by rw [hcl]; exact ha i (by omega)
      have hbr : ∀ lf : Nat, lf = (if i = z then 1 else 0) → ∀ (x : Int32), x = nI lf →  VV p l e rS_nextPattern s m [.ref (g.2.2 1), .ref (g.2.2 kr), .ref (g.2.2 kt), .int hg, .int nd].toArray below meth c (vx_MQ below (pq_Qi g (fun r h9 => (r = 1 ∧ ∃ b, pq_next W n w th a z mm = some b ∧ pq_only kr h h9 ∧ pq_row h9 kr b) ∨ (r = 0 ∧ pq_next W n w th a z mm = none ∧ h9 = h)) s.heap.size) (pq_Qx g (pq_no) s.heap.size) [.ref (g.2.2 1), .ref (g.2.2 kr), .ref (g.2.2 kt), .int hg, .int nd].toArray s 0 0 (pq_A g s.heap.size)) g 0 0 h 31 [some (.ref (g.2.2 1)), some (.ref (g.2.2 kr)), some (.ref (g.2.2 kt)), some (.int hg), some (.int nd), some (.int y), some (.int x)] [] := by
        intro lf hlf x hx
        have hlf1 : lf ≤ 1 := by rw [hlf]; split <;> omega
        refine vv_aload_n cx dS_nextPattern_31 rfl rfl (pc' := 32) rfl ?_
        refine vv_iload cx dS_nextPattern_32 rfl (pc' := 34) rfl ?_
        refine vv_iald cx _ hkN (sh_five hkr) hv dS_nextPattern_34 (pc' := 35) rfl ?_
        rw [hrow]
        refine vv_iload cx dS_nextPattern_35 rfl (pc' := 37) rfl ?_
        refine vv_icmp_le cx dS_nextPattern_37 (tgt := 60) (by decide) (pc' := 40) rfl (fun c37 => ?_) (fun c37 => ?_)
        · have hle : a i ≤ lf := by rw [hx] at c37; exact Nat.le_of_not_lt (fun q => nI_ge q (by omega) c37)
          refine vv_iinc cx dS_nextPattern_60 rfl rfl (pc' := 63) rfl ?_
          refine vv_goto cx dS_nextPattern_63 (tgt := 12) (by decide) ?_
          refine ih _ _ ?_ (by omega) (by rw [← hf, pq_next, if_neg (by rw [← hlf]; omega)])
          rcases Nat.eq_zero_or_pos i with q | q
          · exact Or.inl ⟨q, by rw [hy1, q]; decide⟩
          · exact Or.inr ⟨q, by rw [hy1, show i = (i - 1) + 1 by omega]; exact pk_m1 _⟩
        · have hgt : lf < a i := by rw [hx] at c37; exact Nat.lt_of_not_le (fun q => c37 (nI_le q (by omega)))
          have hnx : pq_next W n w th a z mm = some (pq_fill W n w th (va_up a i (a i - 1)) (i + 1)) := by rw [← hf, pq_next, if_pos (hlf ▸ hgt)]
          refine vv_aload_n cx dS_nextPattern_40 rfl rfl (pc' := 41) rfl ?_
          refine vv_iload cx dS_nextPattern_41 rfl (pc' := 43) rfl ?_
          refine vv_dup2 cx dS_nextPattern_43 rfl rfl (pc' := 44) rfl ?_
          refine vv_iald cx _ hkN (sh_five hkr) hv dS_nextPattern_44 (pc' := 45) rfl ?_
          rw [hrow]
          refine vv_iconst cx dS_nextPattern_45 (v := 1) (by decide) (pc' := 46) rfl ?_
          refine vv_isub cx dS_nextPattern_46 (pc' := 47) rfl ?_
          have hdec : nI (a i) - 1 = nI (a i - 1) := by rw [show (1 : Int32) = nI 1 from rfl, pk_sub (by omega)]
          refine vv_iast cx _ hkN (sh_five hkr) hv dS_nextPattern_47 (pc' := 48) rfl ?_
          refine vv_aload_n cx dS_nextPattern_48 rfl rfl (pc' := 49) rfl ?_
          refine vv_iload cx dS_nextPattern_49 rfl (pc' := 51) rfl ?_
          refine vv_iconst cx dS_nextPattern_51 (v := 1) (by decide) (pc' := 52) rfl ?_
          refine vv_iadd cx dS_nextPattern_52 (pc' := 53) rfl ?_
          refine vv_aload_n cx dS_nextPattern_53 rfl rfl (pc' := 54) rfl ?_
          refine vv_aload_n cx dS_nextPattern_54 rfl rfl (pc' := 55) rfl ?_
          rw [hcl, show y + 1 = nI (i + 1) by rw [hy1]; exact nI_1 i]
          refine cc_Vv cx hX (tS_fillFrom l g (va_up h kr (upd (h kr) i (nI (a i) - 1))) kr kt (i + 1) (va_up a i (a i - 1)) th hkr hkt hr10 hne (hs.only pq_only.up hr10) (ha.put hdec) (ht.of (va_up_ne _ _ hne)) (by omega) (Nat.le_trans (pq_sum_dec (by omega)) hpat.2.1) hth) kS_fillFrom ww_171 rfl rfl ⟨Nat.le_of_ble_eq_true rfl, Nat.le_of_ble_eq_true rfl⟩ 1 (by decide) sh_1 rfl rfl rfl rfl (Nat.le_of_ble_eq_true rfl) rfl ⟨Nat.le_of_ble_eq_true rfl, Nat.le_of_ble_eq_true rfl⟩ dS_nextPattern_55 (pc' := 58) rfl (fun _ _ q => q.elim) (fun h55 q55 => ?_)
          refine vv_iconst cx dS_nextPattern_58 (v := 1) (by decide) (pc' := 59) rfl ?_
          refine vv_zret cx hr hlocks dS_nextPattern_59 rfl (Nat.le_of_ble_eq_true rfl) (Nat.le_of_ble_eq_true rfl) ?_
          exact Or.inl ⟨rfl, _, hnx, pq_only.up.trans q55.1, q55.2⟩
      refine vv_iload cx dS_nextPattern_12 rfl (pc' := 14) rfl ?_
      refine vv_if_lt cx dS_nextPattern_14 (tgt := 66) (by decide) (pc' := 17) rfl (fun c14 => ?_) (fun c14 => ?_)
      · exact absurd c14 (by rw [hy1]; exact nI_pos (by omega))
      · refine vv_iload cx dS_nextPattern_17 rfl (pc' := 19) rfl ?_
        refine vv_iload cx dS_nextPattern_19 rfl (pc' := 21) rfl ?_
        refine vv_icmp_ne cx dS_nextPattern_21 (tgt := 28) (by decide) (pc' := 24) rfl (fun c21 => ?_) (fun c21 => ?_)
        · refine vv_iconst cx dS_nextPattern_28 (v := 0) (by decide) (pc' := 29) rfl ?_
          refine vv_istore cx dS_nextPattern_29 (Nat.le_of_ble_eq_true rfl) (pc' := 31) rfl ?_
          first | exact hbr 1 (by rw [if_pos ((hnd i (by omega)).mp (by rw [← hy1]; exact c21))]) _ rfl | exact hbr 0 (by rw [if_neg (fun q => c21 (by rw [hy1]; exact (hnd i (by omega)).mpr q))]) _ rfl
        · refine vv_iconst cx dS_nextPattern_24 (v := 1) (by decide) (pc' := 25) rfl ?_
          refine vv_goto cx dS_nextPattern_25 (tgt := 29) (by decide) ?_
          refine vv_istore cx dS_nextPattern_29 (Nat.le_of_ble_eq_true rfl) (pc' := 31) rfl ?_
          first | exact hbr 1 (by rw [if_pos ((hnd i (by omega)).mp (by rw [← hy1]; exact c21))]) _ rfl | exact hbr 0 (by rw [if_neg (fun q => c21 (by rw [hy1]; exact (hnd i (by omega)).mpr q))]) _ rfl
  refine vv_iload_n cx dS_nextPattern_0 rfl rfl (pc' := 1) rfl ?_
  refine vv_aload_n cx dS_nextPattern_1 rfl rfl (pc' := 2) rfl ?_
  refine vv_getI cx (C := RS) (T := TS) (NN := 5) 1 1 (by decide) sh_1 rfl rfl (by decide) lyS ww_32 dS_nextPattern_2 (pc' := 5) rfl ?_
  refine vv_iconst cx dS_nextPattern_5 (v := 1) (by decide) (pc' := 6) rfl ?_
  refine vv_isub cx dS_nextPattern_6 (pc' := 7) rfl ?_
  refine vv_min cx ww_179 ww_180 ww_13 ww_181 (Nat.le_of_ble_eq_true rfl) (Nat.le_of_ble_eq_true rfl) (Nat.zero_le _) (Nat.zero_le _) rfl dS_nextPattern_7 (pc' := 10) rfl ?_
  rw [hs.1.2.1]
  refine vv_istore cx dS_nextPattern_10 (Nat.le_of_ble_eq_true rfl) (pc' := 12) rfl ?_
  exact loop mm _ _ htop (Nat.le_refl _) rfl
end
section
/-! part 08: the rest of Slabs; the dearest pattern -/
def pq_but (L : List Nat) (h h' : pq_H) : Prop := ∀ k, k ∉ L → h' k = h k
theorem pq_but.rfl' {L : List Nat} {h : pq_H} : pq_but L h h := fun _ _ => rfl
theorem pq_but.trans {L : List Nat} {h h' h2 : pq_H} (a : pq_but L h h') (b : pq_but L h' h2) : pq_but L h h2 := fun k hk => (b k hk).trans (a k hk)
theorem pq_but.mono {L L' : List Nat} {h h' : pq_H} (a : pq_but L h h') (hs : ∀ k, k ∈ L → k ∈ L') : pq_but L' h h' := fun k hk => a k (fun q => hk (hs k q))
theorem pq_only.but {kr : Nat} {L : List Nat} {h h' : pq_H} (a : pq_only kr h h') (hk : kr ∈ L) : pq_but L h h' := fun k hq => a k (fun q => hq (q ▸ hk))
theorem pq_but.up {k : Nat} {L : List Nat} {h : pq_H} {f : Nat → Int32} (hk : k ∈ L) : pq_but L h (va_up h k f) := fun j hj => va_up_ne _ _ (fun q => hj (q ▸ hk))
theorem pq_cpy5 {f g : Nat → Int32} {i : Nat} (hi : i < 5) : va_cpy f g (0 : Int32).toNatClampNeg (0 : Int32).toNatClampNeg (5 : Int32).toNatClampNeg i = f i := by
  rw [show (0 : Int32).toNatClampNeg = 0 from rfl, show (5 : Int32).toNatClampNeg = 5 from rfl, pk_cpy_in (by omega) (by omega)]
  congr 1
  omega
theorem pq_in5 {y : Int32} {i : Nat} (hy : y = nI i) (hi : i < 5) : vp_in y 5 := by rw [hy]; exact vp_in_nI hi (by decide)
theorem pq_clN {y : Int32} {i : Nat} (hy : y = nI i) (hi : i < 1000) : y.toNatClampNeg = i := by rw [hy]; exact nI_clamp (by omega)
set_option maxRecDepth 100000 in
set_option maxHeartbeats 4000000 in
theorem tS_somePieceIsTooWide (l : Launch) (g : pq_G) (h : pq_H) {W n : Nat} {w nm pr : Nat → Nat} (hs : pq_st h W n w nm pr) : XI l yS_somePieceIsTooWide wS_somePieceIsTooWide rS_somePieceIsTooWide g 0 0 [.ref (g.2.2 1)] h (fun r h9 => h9 = h ∧ ((r = 1 ∧ ∃ i, i < n ∧ 0 < nm i ∧ W < w i) ∨ (r = 0 ∧ ∀ i, i < n → ¬ (0 < nm i ∧ W < w i)))) (pq_no) := by
  refine XI.of (cc := cS_somePieceIsTooWide) (maxL := 2) (ret := (some .boolean)) (by decide +kernel) (by simp [Value.category]) (Nat.le_of_ble_eq_true rfl) ?_
  intro p e s m below meth c cx hX hr hlocks hex
  obtain ⟨⟨hW, hn, hw, hnm, -⟩, ⟨hW1, hW2, hn5⟩, hb, -⟩ := id hs
  have loop : ∀ (d i : Nat) (y : Int32), y = nI i → i + d = n → (∀ j, j < i → ¬ (0 < nm j ∧ W < w j)) → VV p l e rS_somePieceIsTooWide s m [.ref (g.2.2 1)].toArray below meth c (vx_MQ below (pq_Qi g (fun r h9 => h9 = h ∧ ((r = 1 ∧ ∃ i, i < n ∧ 0 < nm i ∧ W < w i) ∨ (r = 0 ∧ ∀ i, i < n → ¬ (0 < nm i ∧ W < w i)))) s.heap.size) (pq_Qx g (pq_no) s.heap.size) [.ref (g.2.2 1)].toArray s 0 0 (pq_A g s.heap.size)) g 0 0 h 2 [some (.ref (g.2.2 1)), some (.int y)] [] := by
    intro d
    induction d with
    | zero =>
      intro i y hy hi hj
      have e1 : i = n := by omega
      subst e1
      refine vv_iload_n cx dS_somePieceIsTooWide_2 rfl rfl (pc' := 3) rfl ?_
      refine vv_aload_n cx dS_somePieceIsTooWide_3 rfl rfl (pc' := 4) rfl ?_
      refine vv_getI cx (C := RS) (T := TS) (NN := 5) 1 1 (by decide) sh_1 rfl rfl (by decide) lyS ww_32 dS_somePieceIsTooWide_4 (pc' := 7) rfl ?_
      refine vv_icmp_ge cx dS_somePieceIsTooWide_7 (tgt := 40) (by decide) (pc' := 10) rfl (fun c7 => ?_) (fun c7 => ?_)
      · refine vv_iconst cx dS_somePieceIsTooWide_40 (v := 0) (by decide) (pc' := 41) rfl ?_
        refine vv_zret cx hr hlocks dS_somePieceIsTooWide_41 rfl (Nat.le_of_ble_eq_true rfl) (Nat.le_of_ble_eq_true rfl) ?_
        exact ⟨rfl, Or.inr ⟨rfl, hj⟩⟩
      · exact absurd (Int32.le_refl _) (by rw [hy, hn] at c7; exact c7)
    | succ d ih =>
      intro i y hy hi hj
      have hlt : i < n := by omega
      have hv := pq_in5 hy (show i < 5 by omega)
      have hcl := pq_clN hy (show i < 1000 by omega)
      have hbi := hb i (by omega)
      have hgo : ¬ (0 < nm i ∧ W < w i) → ∀ j, j < i + 1 → ¬ (0 < nm j ∧ W < w j) := fun q j hj2 => by
        rcases Nat.lt_or_ge j i with q2 | q2
        · exact hj j q2
        · rw [show j = i by omega]; exact q
      refine vv_iload_n cx dS_somePieceIsTooWide_2 rfl rfl (pc' := 3) rfl ?_
      refine vv_aload_n cx dS_somePieceIsTooWide_3 rfl rfl (pc' := 4) rfl ?_
      refine vv_getI cx (C := RS) (T := TS) (NN := 5) 1 1 (by decide) sh_1 rfl rfl (by decide) lyS ww_32 dS_somePieceIsTooWide_4 (pc' := 7) rfl ?_
      refine vv_icmp_ge cx dS_somePieceIsTooWide_7 (tgt := 40) (by decide) (pc' := 10) rfl (fun c7 => ?_) (fun c7 => ?_)
      · exact absurd (by rw [hy, hn] at c7; exact c7) (nI_ge hlt (by omega))
      · refine vv_aload_n cx dS_somePieceIsTooWide_10 rfl rfl (pc' := 11) rfl ?_
        refine vv_getR cx (C := RS) (T := TS) (NN := 5) 1 3 _ (by decide) sh_1 rfl rfl (by decide) lyS ww_37 dS_somePieceIsTooWide_11 (pc' := 14) rfl ?_
        refine vv_iload_n cx dS_somePieceIsTooWide_14 rfl rfl (pc' := 15) rfl ?_
        refine vv_iald cx _ (by decide) sh_9 hv dS_somePieceIsTooWide_15 (pc' := 16) rfl ?_
        rw [hcl, hnm i (by omega)]
        refine vv_if_le cx dS_somePieceIsTooWide_16 (tgt := 34) (by decide) (pc' := 19) rfl (fun c16 => ?_) (fun c16 => ?_)
        · first | (replace c29 : ¬ W < w i := fun q => nI_ge q (by omega) c29) | (replace c16 : ¬ 0 < nm i := fun q => nI_nle q (by omega) c16)
          refine vv_iinc cx dS_somePieceIsTooWide_34 rfl rfl (pc' := 37) rfl ?_
          refine vv_goto cx dS_somePieceIsTooWide_37 (tgt := 2) (by decide) ?_
          refine ih (i + 1) _ (pq_nI1 hy) (by omega) (hgo ?_)
          first | exact fun q => c16 q.1 | exact fun q => c29 q.2
        · replace c16 : 0 < nm i := pq_pos (Int32.not_le.mp c16)
          refine vv_aload_n cx dS_somePieceIsTooWide_19 rfl rfl (pc' := 20) rfl ?_
          refine vv_getR cx (C := RS) (T := TS) (NN := 5) 1 2 _ (by decide) sh_1 rfl rfl (by decide) lyS ww_36 dS_somePieceIsTooWide_20 (pc' := 23) rfl ?_
          refine vv_iload_n cx dS_somePieceIsTooWide_23 rfl rfl (pc' := 24) rfl ?_
          refine vv_iald cx _ (by decide) sh_8 hv dS_somePieceIsTooWide_24 (pc' := 25) rfl ?_
          refine vv_aload_n cx dS_somePieceIsTooWide_25 rfl rfl (pc' := 26) rfl ?_
          refine vv_getI cx (C := RS) (T := TS) (NN := 5) 1 0 (by decide) sh_1 rfl rfl (by decide) lyS ww_30 dS_somePieceIsTooWide_26 (pc' := 29) rfl ?_
          rw [hcl, hw i (by omega), hW]
          refine vv_icmp_le cx dS_somePieceIsTooWide_29 (tgt := 34) (by decide) (pc' := 32) rfl (fun c29 => ?_) (fun c29 => ?_)
          · first | (replace c29 : ¬ W < w i := fun q => nI_ge q (by omega) c29) | (replace c16 : ¬ 0 < nm i := fun q => nI_nle q (by omega) c16)
            refine vv_iinc cx dS_somePieceIsTooWide_34 rfl rfl (pc' := 37) rfl ?_
            refine vv_goto cx dS_somePieceIsTooWide_37 (tgt := 2) (by decide) ?_
            refine ih (i + 1) _ (pq_nI1 hy) (by omega) (hgo ?_)
            first | exact fun q => c16 q.1 | exact fun q => c29 q.2
          · refine vv_iconst cx dS_somePieceIsTooWide_32 (v := 1) (by decide) (pc' := 33) rfl ?_
            refine vv_zret cx hr hlocks dS_somePieceIsTooWide_33 rfl (Nat.le_of_ble_eq_true rfl) (Nat.le_of_ble_eq_true rfl) ?_
            exact ⟨rfl, Or.inl ⟨rfl, i, hlt, c16, Nat.lt_of_not_le (fun q => c29 (nI_le q (by omega)))⟩⟩
  refine vv_iconst cx dS_somePieceIsTooWide_0 (v := 0) (by decide) (pc' := 1) rfl ?_
  refine vv_istore_n cx dS_somePieceIsTooWide_1 rfl (Nat.le_of_ble_eq_true rfl) (pc' := 2) rfl ?_
  exact loop n 0 _ nI_0.symm (by omega) (fun j hj => absurd hj (by omega))
set_option maxRecDepth 100000 in
set_option maxHeartbeats 4000000 in
theorem tS_isPattern (l : Launch) (g : pq_G) (h : pq_H) {W n : Nat} {w nm pr : Nat → Nat} (k : Nat) (a : Nat → Nat) (hk : k < pq_N) (hsh : pq_sh k = .inr (.inl 5)) (hs : pq_st h W n w nm pr) (ha : pq_row h k a) (ha6 : ∀ i, i < 5 → a i ≤ 6) : XI l yS_isPattern wS_isPattern rS_isPattern g 0 0 [.ref (g.2.2 1), .ref (g.2.2 k)] h (fun r h9 => h9 = h ∧ ((r = 1 ∧ (∀ i, i < n → a i ≤ nm i) ∧ pq_sum (fun i => a i * w i) n ≤ W) ∨ (r = 0 ∧ ¬ ((∀ i, i < n → a i ≤ nm i) ∧ pq_sum (fun i => a i * w i) n ≤ W)))) (pq_no) := by
  refine XI.of (cc := cS_isPattern) (maxL := 3) (ret := (some .boolean)) (by decide +kernel) (by simp [Value.category]) (Nat.le_of_ble_eq_true rfl) ?_
  intro p e s m below meth c cx hX hr hlocks hex
  obtain ⟨⟨hW, hn, hw, hnm, -⟩, ⟨hW1, hW2, hn5⟩, hb, -⟩ := id hs
  have hbd : pq_sum (fun i => a i * w i) n ≤ 30000 := Nat.le_trans (pq_sum_bd (B := 6000) (fun i hi => Nat.le_trans (Nat.mul_le_mul (ha6 i (by omega)) (hb i (by omega)).1) (by decide))) (by omega)
  have loop : ∀ (d i : Nat) (y : Int32), y = nI i → i + d = n → (∀ j, j < i → a j ≤ nm j) → VV p l e rS_isPattern s m [.ref (g.2.2 1), .ref (g.2.2 k)].toArray below meth c (vx_MQ below (pq_Qi g (fun r h9 => h9 = h ∧ ((r = 1 ∧ (∀ i, i < n → a i ≤ nm i) ∧ pq_sum (fun i => a i * w i) n ≤ W) ∨ (r = 0 ∧ ¬ ((∀ i, i < n → a i ≤ nm i) ∧ pq_sum (fun i => a i * w i) n ≤ W)))) s.heap.size) (pq_Qx g (pq_no) s.heap.size) [.ref (g.2.2 1), .ref (g.2.2 k)].toArray s 0 0 (pq_A g s.heap.size)) g 0 0 h 2 [some (.ref (g.2.2 1)), some (.ref (g.2.2 k)), some (.int y)] [] := by
    intro d
    induction d with
    | zero =>
      intro i y hy hi hj
      have e1 : i = n := by omega
      subst e1
      refine vv_iload_n cx dS_isPattern_2 rfl rfl (pc' := 3) rfl ?_
      refine vv_aload_n cx dS_isPattern_3 rfl rfl (pc' := 4) rfl ?_
      refine vv_getI cx (C := RS) (T := TS) (NN := 5) 1 1 (by decide) sh_1 rfl rfl (by decide) lyS ww_32 dS_isPattern_4 (pc' := 7) rfl ?_
      refine vv_icmp_ge cx dS_isPattern_7 (tgt := 30) (by decide) (pc' := 10) rfl (fun c7 => ?_) (fun c7 => ?_)
      · refine vv_aload_n cx dS_isPattern_30 rfl rfl (pc' := 31) rfl ?_
        refine vv_aload_n cx dS_isPattern_31 rfl rfl (pc' := 32) rfl ?_
        refine cc_Vi cx hX (tS_widthOf l g h k a hk hsh hs (fun i hi => ha i (by omega))) kS_widthOf ww_547 rfl rfl ⟨Nat.le_of_ble_eq_true rfl, Nat.le_of_ble_eq_true rfl⟩ 1 (by decide) sh_1 rfl rfl rfl rfl (Nat.le_of_ble_eq_true rfl) rfl ⟨Nat.le_of_ble_eq_true rfl, Nat.le_of_ble_eq_true rfl⟩ dS_isPattern_32 (pc' := 35) rfl (fun _ _ q => q.elim) (fun r32 h32 q32 => ?_)
        obtain ⟨rfl, rfl⟩ := q32
        refine vv_aload_n cx dS_isPattern_35 rfl rfl (pc' := 36) rfl ?_
        refine vv_getI cx (C := RS) (T := TS) (NN := 5) 1 0 (by decide) sh_1 rfl rfl (by decide) lyS ww_30 dS_isPattern_36 (pc' := 39) rfl ?_
        rw [hW]
        refine vv_icmp_gt cx dS_isPattern_39 (tgt := 46) (by decide) (pc' := 42) rfl (fun c39 => ?_) (fun c39 => ?_)
        · refine vv_iconst cx dS_isPattern_46 (v := 0) (by decide) (pc' := 47) rfl ?_
          refine vv_zret cx hr hlocks dS_isPattern_47 rfl (Nat.le_of_ble_eq_true rfl) (Nat.le_of_ble_eq_true rfl) ?_
          first | exact ⟨rfl, Or.inl ⟨rfl, hj, Nat.le_of_not_lt (fun q => c39 (nI_lt q (by omega)))⟩⟩ | exact ⟨rfl, Or.inr ⟨rfl, fun q => nI_nlt q.2 (by omega) c39⟩⟩
        · refine vv_iconst cx dS_isPattern_42 (v := 1) (by decide) (pc' := 43) rfl ?_
          refine vv_goto cx dS_isPattern_43 (tgt := 47) (by decide) ?_
          refine vv_zret cx hr hlocks dS_isPattern_47 rfl (Nat.le_of_ble_eq_true rfl) (Nat.le_of_ble_eq_true rfl) ?_
          first | exact ⟨rfl, Or.inl ⟨rfl, hj, Nat.le_of_not_lt (fun q => c39 (nI_lt q (by omega)))⟩⟩ | exact ⟨rfl, Or.inr ⟨rfl, fun q => nI_nlt q.2 (by omega) c39⟩⟩
      · exact absurd (Int32.le_refl _) (by rw [hy, hn] at c7; exact c7)
    | succ d ih =>
      intro i y hy hi hj
      have hlt : i < n := by omega
      have hv := pq_in5 hy (show i < 5 by omega)
      have hcl := pq_clN hy (show i < 1000 by omega)
      have hbi := hb i (by omega)
      have hai := ha6 i (by omega)
      refine vv_iload_n cx dS_isPattern_2 rfl rfl (pc' := 3) rfl ?_
      refine vv_aload_n cx dS_isPattern_3 rfl rfl (pc' := 4) rfl ?_
      refine vv_getI cx (C := RS) (T := TS) (NN := 5) 1 1 (by decide) sh_1 rfl rfl (by decide) lyS ww_32 dS_isPattern_4 (pc' := 7) rfl ?_
      refine vv_icmp_ge cx dS_isPattern_7 (tgt := 30) (by decide) (pc' := 10) rfl (fun c7 => ?_) (fun c7 => ?_)
      · exact absurd (by rw [hy, hn] at c7; exact c7) (nI_ge hlt (by omega))
      · refine vv_aload_n cx dS_isPattern_10 rfl rfl (pc' := 11) rfl ?_
        refine vv_iload_n cx dS_isPattern_11 rfl rfl (pc' := 12) rfl ?_
        refine vv_iald cx _ hk hsh hv dS_isPattern_12 (pc' := 13) rfl ?_
        refine vv_aload_n cx dS_isPattern_13 rfl rfl (pc' := 14) rfl ?_
        refine vv_getR cx (C := RS) (T := TS) (NN := 5) 1 3 _ (by decide) sh_1 rfl rfl (by decide) lyS ww_37 dS_isPattern_14 (pc' := 17) rfl ?_
        refine vv_iload_n cx dS_isPattern_17 rfl rfl (pc' := 18) rfl ?_
        refine vv_iald cx _ (by decide) sh_9 hv dS_isPattern_18 (pc' := 19) rfl ?_
        rw [hcl, hnm i (by omega), ha i (by omega)]
        refine vv_icmp_le cx dS_isPattern_19 (tgt := 24) (by decide) (pc' := 22) rfl (fun c19 => ?_) (fun c19 => ?_)
        · refine vv_iinc cx dS_isPattern_24 rfl rfl (pc' := 27) rfl ?_
          refine vv_goto cx dS_isPattern_27 (tgt := 2) (by decide) ?_
          refine ih (i + 1) _ (pq_nI1 hy) (by omega) (fun j hj2 => ?_)
          rcases Nat.lt_or_ge j i with q2 | q2
          · exact hj j q2
          · rw [show j = i by omega]; exact Nat.le_of_not_lt (fun q => nI_ge q (by omega) c19)
        · refine vv_iconst cx dS_isPattern_22 (v := 0) (by decide) (pc' := 23) rfl ?_
          refine vv_zret cx hr hlocks dS_isPattern_23 rfl (Nat.le_of_ble_eq_true rfl) (Nat.le_of_ble_eq_true rfl) ?_
          exact ⟨rfl, Or.inr ⟨rfl, fun q => c19 (nI_le (q.1 i hlt) (by omega))⟩⟩
  refine vv_iconst cx dS_isPattern_0 (v := 0) (by decide) (pc' := 1) rfl ?_
  refine vv_istore_n cx dS_isPattern_1 rfl (Nat.le_of_ble_eq_true rfl) (pc' := 2) rfl ?_
  exact loop n 0 _ nI_0.symm (by omega) (fun j hj => absurd hj (by omega))
set_option maxRecDepth 100000 in
set_option maxHeartbeats 4000000 in
theorem tS_add (l : Launch) (g : pq_G) (h : pq_H) {W n : Nat} {w nm pr : Nat → Nat} (x y : Nat) (hs : pq_st h W n w nm pr) (hn4 : n < 5) (hx : 1 ≤ x ∧ x ≤ 1000) (hy : y ≤ 6) : XI l yS_add wS_add rS_add g 0 0 [.ref (g.2.2 1), .int (nI x), .int (nI y)] h (fun r h9 => r = nI n ∧ pq_but [1, 8, 9, 10] h h9 ∧ pq_st h9 W (n + 1) (va_up w n x) (va_up nm n y) (va_up pr n 0)) (pq_no) := by
  refine XI.of (cc := cS_add) (maxL := 4) (ret := (some .int)) (by decide +kernel) (by simp [Value.category]) (Nat.le_of_ble_eq_true rfl) ?_
  intro p e s m below meth c cx hX hr hlocks hex
  obtain ⟨⟨hW, hn, hw, hnm, hpr⟩, ⟨hW1, hW2, hn5⟩, hb, hb1, hb0⟩ := id hs
  have hv := pq_in5 hn hn4
  have hcl := pq_clN hn (show n < 1000 by omega)
  refine vv_aload_n cx dS_add_0 rfl rfl (pc' := 1) rfl ?_
  refine vv_getI cx (C := RS) (T := TS) (NN := 5) 1 1 (by decide) sh_1 rfl rfl (by decide) lyS ww_32 dS_add_1 (pc' := 4) rfl ?_
  refine vv_istore_n cx dS_add_4 rfl (Nat.le_of_ble_eq_true rfl) (pc' := 5) rfl ?_
  refine vv_aload_n cx dS_add_5 rfl rfl (pc' := 6) rfl ?_
  refine vv_getR cx (C := RS) (T := TS) (NN := 5) 1 2 _ (by decide) sh_1 rfl rfl (by decide) lyS ww_36 dS_add_6 (pc' := 9) rfl ?_
  refine vv_iload_n cx dS_add_9 rfl rfl (pc' := 10) rfl ?_
  refine vv_iload_n cx dS_add_10 rfl rfl (pc' := 11) rfl ?_
  refine vv_iast cx _ (by decide) sh_8 hv dS_add_11 (pc' := 12) rfl ?_
  refine vv_aload_n cx dS_add_12 rfl rfl (pc' := 13) rfl ?_
  refine vv_getR cx (C := RS) (T := TS) (NN := 5) 1 3 _ (by decide) sh_1 rfl rfl (by decide) lyS ww_37 dS_add_13 (pc' := 16) rfl ?_
  refine vv_iload_n cx dS_add_16 rfl rfl (pc' := 17) rfl ?_
  refine vv_iload_n cx dS_add_17 rfl rfl (pc' := 18) rfl ?_
  refine vv_iast cx _ (by decide) sh_9 hv dS_add_18 (pc' := 19) rfl ?_
  refine vv_aload_n cx dS_add_19 rfl rfl (pc' := 20) rfl ?_
  refine vv_getR cx (C := RS) (T := TS) (NN := 5) 1 4 _ (by decide) sh_1 rfl rfl (by decide) lyS ww_41 dS_add_20 (pc' := 23) rfl ?_
  refine vv_iload_n cx dS_add_23 rfl rfl (pc' := 24) rfl ?_
  refine vv_iconst cx dS_add_24 (v := 0) (by decide) (pc' := 25) rfl ?_
  refine vv_iast cx _ (by decide) sh_10 hv dS_add_25 (pc' := 26) rfl ?_
  refine vv_aload_n cx dS_add_26 rfl rfl (pc' := 27) rfl ?_
  refine vv_iload_n cx dS_add_27 rfl rfl (pc' := 28) rfl ?_
  refine vv_iconst cx dS_add_28 (v := 1) (by decide) (pc' := 29) rfl ?_
  refine vv_iadd cx dS_add_29 (pc' := 30) rfl ?_
  refine vv_putI cx (C := RS) (T := TS) (NN := 5) 1 1 (by decide) sh_1 rfl rfl (by decide) lyS tyS tyS_ok nmS rfl rfl rfl ww_32 dS_add_30 (pc' := 33) rfl ?_
  refine vv_iload_n cx dS_add_33 rfl rfl (pc' := 34) rfl ?_
  refine vv_iret cx hr hlocks dS_add_34 (Nat.le_of_ble_eq_true rfl) (Nat.le_of_ble_eq_true rfl) ?_
  refine ⟨hn, fun k hk => ?_, ⟨?_, ?_, ?_, ?_, ?_⟩, ⟨hW1, hW2, by omega⟩, fun i hi => ?_, fun i hi => ?_, fun i hi h5 => ?_⟩
  · simp at hk
    simp [va_up, hk]
  · simp [va_up, upd, hW]
  · simp [va_up, upd, hn]; exact nI_1 n
  · intro i hi
    by_cases e : i = n
    · subst e; simp [va_up, upd, hcl]
    · simp [va_up, upd, hcl, e, hw i hi]
  · intro i hi
    by_cases e : i = n
    · subst e; simp [va_up, upd, hcl]
    · simp [va_up, upd, hcl, e, hnm i hi]
  · intro i hi
    by_cases e : i = n
    · subst e; simp [va_up, upd, hcl]; rfl
    · simp [va_up, upd, hcl, e, hpr i hi]
  · have := hb i hi
    by_cases e : i = n
    · subst e; simp [va_up]; omega
    · simp [va_up, e]; omega
  · by_cases e : i = n
    · subst e; simp [va_up]; omega
    · simp [va_up, e]; exact hb1 i (by omega)
  · rw [va_up_ne _ _ (by omega)]; exact hb0 i (by omega) h5
set_option maxRecDepth 100000 in
set_option maxHeartbeats 4000000 in
theorem tD_forget (l : Launch) (g : pq_G) (h : pq_H)  : XV l yD_forget wD_forget rD_forget g 0 0 [.ref (g.2.2 2)] h (fun h9 => h9 = va_up h 2 (upd (h 2) 4 0)) (pq_no) := by
  refine XV.of (cc := cD_forget) (maxL := 1) (ret := none) (by decide +kernel) (by simp [Value.category]) (Nat.le_of_ble_eq_true rfl) ?_
  intro p e s m below meth c cx hX hr hlocks hex
  refine vv_aload_n cx dD_forget_0 rfl rfl (pc' := 1) rfl ?_
  refine vv_iconst cx dD_forget_1 (v := 0) (by decide) (pc' := 2) rfl ?_
  refine vv_putI cx (C := RD) (T := TD) (NN := 5) 2 4 (by decide) sh_2 rfl rfl (by decide) lyD tyD tyD_ok nmD rfl rfl rfl ww_65 dD_forget_2 (pc' := 5) rfl ?_
  refine vv_vret cx hr hlocks dD_forget_5 (Nat.le_of_ble_eq_true rfl) (Nat.le_of_ble_eq_true rfl) ?_
  exact rfl
set_option maxRecDepth 100000 in
set_option maxHeartbeats 4000000 in
theorem tD_take (l : Launch) (g : pq_G) (h : pq_H) (x : Int32) : XV l yD_take wD_take rD_take g 0 0 [.ref (g.2.2 2), .int x] h (fun h9 => pq_but [2, 11] h h9 ∧ h9 2 3 = x ∧ h9 2 4 = h 2 4 ∧ ∀ i, i < 5 → h9 11 i = h 12 i) (pq_no) := by
  refine XV.of (cc := cD_take) (maxL := 2) (ret := none) (by decide +kernel) (by simp [Value.category]) (Nat.le_of_ble_eq_true rfl) ?_
  intro p e s m below meth c cx hX hr hlocks hex
  refine vv_aload_n cx dD_take_0 rfl rfl (pc' := 1) rfl ?_
  refine vv_iload_n cx dD_take_1 rfl rfl (pc' := 2) rfl ?_
  refine vv_putI cx (C := RD) (T := TD) (NN := 5) 2 3 (by decide) sh_2 rfl rfl (by decide) lyD tyD tyD_ok nmD rfl rfl rfl ww_64 dD_take_2 (pc' := 5) rfl ?_
  refine vv_aload_n cx dD_take_5 rfl rfl (pc' := 6) rfl ?_
  refine vv_getR cx (C := RD) (T := TD) (NN := 5) 2 2 _ (by decide) sh_2 rfl rfl (by decide) lyD ww_63 dD_take_6 (pc' := 9) rfl ?_
  refine vv_iconst cx dD_take_9 (v := 0) (by decide) (pc' := 10) rfl ?_
  refine vv_aload_n cx dD_take_10 rfl rfl (pc' := 11) rfl ?_
  refine vv_getR cx (C := RD) (T := TD) (NN := 5) 2 1 _ (by decide) sh_2 rfl rfl (by decide) lyD ww_62 dD_take_11 (pc' := 14) rfl ?_
  refine vv_iconst cx dD_take_14 (v := 0) (by decide) (pc' := 15) rfl ?_
  refine vv_iconst cx dD_take_15 (v := 5) (by decide) (pc' := 16) rfl ?_
  refine vv_copy cx _ _ (by decide) (by decide) rfl rfl (by decide) (by decide) (by decide) (by decide) (by decide) ww_190 ww_192 ww_191 ww_14 (Nat.le_of_ble_eq_true rfl) (by decide) rfl dD_take_16 (pc' := 19) rfl ?_
  refine vv_vret cx hr hlocks dD_take_19 (Nat.le_of_ble_eq_true rfl) (Nat.le_of_ble_eq_true rfl) ?_
  refine ⟨fun k hk => ?_, ?_, ?_, fun i hi => ?_⟩
  · simp at hk
    simp [va_up, hk]
  · simp [va_up, upd]
  · simp [va_up, upd]
  · rw [va_up_self, pq_cpy5 hi]
    simp [va_up]
end
section
/-! part 09: the column: pure, and the class's search for it -/
theorem pq_fillS_congr {w th : Nat → Nat} : ∀ (s : Nat) (a a' : Nat → Nat) (i R j : Nat), (∀ x, (x < i ∨ i + s ≤ x) → x < 5 → a x = a' x) → j < 5 → pq_fillS w th s a i R j = pq_fillS w th s a' i R j
  | 0, a, a', i, R, j, h, hj => h j (by omega) hj
  | s + 1, a, a', i, R, j, h, hj => by
    show pq_fillS w th s _ _ _ j = pq_fillS w th s _ _ _ j
    refine pq_fillS_congr s _ _ _ _ j (fun x hx h5 => ?_) hj
    by_cases e : x = i
    · subst e; rw [va_up_self, va_up_self]
    · rw [va_up_ne _ _ e, va_up_ne _ _ e]; exact h x (by omega) h5
def pq_first (W n : Nat) (w th : Nat → Nat) : Nat → Nat := pq_fill W n w th (fun _ => 0) 0
theorem pq_fill_first {W n : Nat} {w th a : Nat → Nat} (hz : ∀ j, n ≤ j → j < 5 → a j = 0) : ∀ i, i < 5 → pq_fill W n w th a 0 i = pq_first W n w th i := fun i hi =>
  pq_fillS_congr _ _ _ _ _ _ (fun x hx h5 => by rw [hz x (by omega) h5]) hi
theorem pq_first_pat {W n : Nat} {w th : Nat → Nat} : pq_pat W n w th (pq_first W n w th) := pq_fill_pat (Nat.zero_le _) (fun j hj => absurd hj (by omega)) (Nat.zero_le _) (fun _ _ _ => rfl)
def pq_price (n : Nat) (pr a : Nat → Nat) : Nat := pq_sum (fun i => a i * pr i) n
def pq_colL (W n : Nat) (w nm pr : Nat → Nat) : Nat → Option (Nat → Nat) → Nat → (Nat → Nat) → Nat × (Nat → Nat)
  | 0, _, s, p => (s, p)
  | _ + 1, none, s, p => (s, p)
  | f + 1, some b, s, p => if s < pq_price n pr b then pq_colL W n w nm pr f (pq_next W n w nm b 5 (n - 1)) (pq_price n pr b) b else pq_colL W n w nm pr f (pq_next W n w nm b 5 (n - 1)) s p
def pq_col (W n : Nat) (w nm pr : Nat → Nat) : Nat × (Nat → Nat) := pq_colL W n w nm pr 16807 (pq_next W n w nm (pq_first W n w nm) 5 (n - 1)) (pq_price n pr (pq_first W n w nm)) (pq_first W n w nm)
theorem pq_price_bd {W n : Nat} {w nm pr a : Nat → Nat} (hn : n ≤ 5) (ha : pq_pat W n w nm a) (hb : ∀ i, i < 5 → nm i ≤ 6 ∧ pr i ≤ 1000) : pq_price n pr a ≤ 30000 :=
  Nat.le_trans (pq_sum_bd (B := 6000) (fun i hi => Nat.le_trans (Nat.mul_le_mul (Nat.le_trans (ha.1 i hi) (hb i (by omega)).1) (hb i (by omega)).2) (by decide))) (by omega)
theorem pq_nd5 : ∀ i, i < 5 → (nI i = -1 ↔ i = 5) := by decide +kernel
theorem pq_top2 : ∀ n, n < 6 → (n - 1 = 0 ∧ (if nI n - 1 < nI n - 2 then nI n - 1 else nI n - 2) < 0) ∨ (0 < n - 1 ∧ (if nI n - 1 < nI n - 2 then nI n - 1 else nI n - 2) = nI (n - 1 - 1)) := by decide +kernel
theorem pq_st.but {h h' : pq_H} {W n : Nat} {w nm pr : Nat → Nat} {L : List Nat} (hs : pq_st h W n w nm pr) (hb : pq_but L h h') (hL : 1 ∉ L ∧ 8 ∉ L ∧ 9 ∉ L ∧ 10 ∉ L) : pq_st h' W n w nm pr := hs.of (hb 1 hL.1) (hb 8 hL.2.1) (hb 9 hL.2.2.1) (hb 10 hL.2.2.2)
/-- a row that has nothing beyond the orders -/
def pq_z (h : pq_H) (k n : Nat) : Prop := ∃ a, pq_row h k a ∧ ∀ j, n ≤ j → j < 5 → a j = 0
/-- the dearest pattern is known -/
def pq_dk (h : pq_H) (W n : Nat) (w nm pr : Nat → Nat) : Prop := h 2 4 = 1 ∧ h 2 3 = nI (pq_col W n w nm pr).1 ∧ pq_row h 11 (pq_col W n w nm pr).2
def pq_dn (h : pq_H) (W n : Nat) (w nm pr : Nat → Nat) : Prop := pq_z h 12 n ∧ (pq_dk h W n w nm pr ∨ h 2 4 = 0)
set_option maxRecDepth 100000 in
set_option maxHeartbeats 4000000 in
theorem tD_seek (l : Launch) (g : pq_G) (h : pq_H) {W n : Nat} {w nm pr : Nat → Nat} (hs : pq_st h W n w nm pr) (hd : pq_dn h W n w nm pr) : XV l yD_seek wD_seek rD_seek g 0 0 [.ref (g.2.2 2)] h (fun h9 => pq_but [2, 11, 12] h h9 ∧ pq_z h9 12 n ∧ pq_dk h9 W n w nm pr) (pq_no) := by
  refine XV.of (cc := cD_seek) (maxL := 5) (ret := none) (by decide +kernel) (by simp [Value.category]) (Nat.le_of_ble_eq_true rfl) ?_
  intro p e s m below meth c cx hX hr hlocks hex
  obtain ⟨⟨a0, ha0, hz0⟩, hdk⟩ := id hd
  have hn5 : n ≤ 5 := hs.2.1.2.2
  have hnm6 : ∀ i, i < 5 → nm i ≤ 6 := fun i hi => (hs.2.2.1 i hi).2.1
  have hbb : ∀ i, i < 5 → nm i ≤ 6 ∧ pr i ≤ 1000 := fun i hi => (hs.2.2.1 i hi).2
  have nx := fun (h1 : pq_H) (b : Nat → Nat) (hs1 : pq_st h1 W n w nm pr) (hb1 : pq_row h1 12 b) (hp : pq_pat W n w nm b) => tS_nextPattern l g h1 12 9 b nm (nI n - 2) (-1) 5 (n - 1) (Or.inl ⟨by decide, by decide⟩) (Or.inl ⟨by decide, by decide⟩) (by decide) (by decide) hs1 hb1 hs1.1.2.2.2.1 hp hnm6 pq_nd5 (by omega) (pq_top2 n (by omega))
  have loop : ∀ (f c9 : Nat) (y mo : Int32) (u4 : Option Value) (h1 : pq_H) (s9 : Nat) (p9 : Nat → Nat) (cur : Option (Nat → Nat)), y = nI c9 → c9 + f = 16807 → pq_but [2, 11, 12] h h1 → h1 2 3 = nI s9 → s9 ≤ 30000 → pq_row h1 11 p9 → ((mo = 1 ∧ ∃ b, cur = some b ∧ pq_row h1 12 b ∧ pq_pat W n w nm b) ∨ (mo = 0 ∧ cur = none ∧ pq_z h1 12 n)) → pq_colL W n w nm pr f cur s9 p9 = pq_col W n w nm pr → VV p l e rD_seek s m [.ref (g.2.2 2)].toArray below meth c (vx_MQ below (pq_Qv g (fun h9 => pq_but [2, 11, 12] h h9 ∧ pq_z h9 12 n ∧ pq_dk h9 W n w nm pr) s.heap.size) (pq_Qx g (pq_no) s.heap.size) [.ref (g.2.2 2)].toArray s 0 0 (pq_A g s.heap.size)) g 0 0 h1 74 [some (.ref (g.2.2 2)), some (.int (nI n - 2)), some (.int mo), some (.int y), u4] [] := by
    have hend : ∀ (h1 : pq_H) (s9 : Nat) (p9 : Nat → Nat), pq_but [2, 11, 12] h h1 → h1 2 3 = nI s9 → pq_row h1 11 p9 → pq_z h1 12 n → (s9, p9) = pq_col W n w nm pr → (pq_but [2, 11, 12] h (va_up h1 2 (upd (h1 2) 4 1)) ∧ pq_z (va_up h1 2 (upd (h1 2) 4 1)) 12 n ∧ pq_dk (va_up h1 2 (upd (h1 2) 4 1)) W n w nm pr) := by
      intro h1 s9 p9 hb h3 h11 hz he
      refine ⟨hb.trans (pq_but.up (by decide)), ?_, ?_, ?_, ?_⟩
      · obtain ⟨a, q1, q2⟩ := hz
        exact ⟨a, q1.of (va_up_ne _ _ (by decide)), q2⟩
      · simp [va_up, upd]
      · rw [← he]; simp [va_up, upd, h3]
      · rw [← he]; exact h11.of (va_up_ne _ _ (by decide))
    intro f
    induction f with
    | zero =>
      intro c9 y mo u4 h1 s9 p9 cur hy hc hb h3 hs9 h11 hm hf
      have hcv : c9 = 16807 := by omega
      subst hcv
      have hz : pq_z h1 12 n := by
        rcases hm with ⟨-, b, -, q1, q2⟩ | ⟨-, -, q⟩
        · exact ⟨b, q1, q2.2.2⟩
        · exact q
      refine vv_iload_n cx dD_seek_74 rfl rfl (pc' := 75) rfl ?_
      refine vv_sipush cx dD_seek_75 (v := 16807) (by decide) (pc' := 78) rfl ?_
      refine vv_icmp_ge cx dD_seek_78 (tgt := 140) (by decide) (pc' := 81) rfl (fun c78 => ?_) (fun c78 => ?_)
      · refine vv_aload_n cx dD_seek_140 rfl rfl (pc' := 141) rfl ?_
        refine vv_iconst cx dD_seek_141 (v := 1) (by decide) (pc' := 142) rfl ?_
        refine vv_putI cx (C := RD) (T := TD) (NN := 5) 2 4 (by decide) sh_2 rfl rfl (by decide) lyD tyD tyD_ok nmD rfl rfl rfl ww_65 dD_seek_142 (pc' := 145) rfl ?_
        refine vv_vret cx hr hlocks dD_seek_145 (Nat.le_of_ble_eq_true rfl) (Nat.le_of_ble_eq_true rfl) ?_
        exact hend h1 s9 p9 hb h3 h11 hz hf
      · exact absurd (by rw [hy]; decide) c78
    | succ f ih =>
      intro c9 y mo u4 h1 s9 p9 cur hy hc hb h3 hs9 h11 hm hf
      have hs1 := hs.but hb (by decide)
      rcases hm with ⟨rfl, b, rfl, hb12, hpat⟩ | ⟨rfl, rfl, hz⟩
      · have hj : ∀ (h2 : pq_H) (s8 : Nat) (p8 : Nat → Nat), pq_but [2, 11, 12] h h2 → h2 2 3 = nI s8 → s8 ≤ 30000 → pq_row h2 11 p8 → pq_row h2 12 b → pq_colL W n w nm pr f (pq_next W n w nm b 5 (n - 1)) s8 p8 = pq_col W n w nm pr → ∀ (u5 : Option Value),  VV p l e rD_seek s m [.ref (g.2.2 2)].toArray below meth c (vx_MQ below (pq_Qv g (fun h9 => pq_but [2, 11, 12] h h9 ∧ pq_z h9 12 n ∧ pq_dk h9 W n w nm pr) s.heap.size) (pq_Qx g (pq_no) s.heap.size) [.ref (g.2.2 2)].toArray s 0 0 (pq_A g s.heap.size)) g 0 0 h2 113 [some (.ref (g.2.2 2)), some (.int (nI n - 2)), some (.int 1), some (.int y), u5] [] := by
          intro h2 s8 p8 kb k3 ks k11 k12 kf u5
          have hs2 := hs.but kb (by decide)
          refine vv_aload_n cx dD_seek_113 rfl rfl (pc' := 114) rfl ?_
          refine vv_getR cx (C := RD) (T := TD) (NN := 5) 2 0 _ (by decide) sh_2 rfl rfl (by decide) lyD ww_61 dD_seek_114 (pc' := 117) rfl ?_
          refine vv_aload_n cx dD_seek_117 rfl rfl (pc' := 118) rfl ?_
          refine vv_getR cx (C := RD) (T := TD) (NN := 5) 2 2 _ (by decide) sh_2 rfl rfl (by decide) lyD ww_63 dD_seek_118 (pc' := 121) rfl ?_
          refine vv_aload_n cx dD_seek_121 rfl rfl (pc' := 122) rfl ?_
          refine vv_getR cx (C := RD) (T := TD) (NN := 5) 2 0 _ (by decide) sh_2 rfl rfl (by decide) lyD ww_61 dD_seek_122 (pc' := 125) rfl ?_
          refine vv_getR cx (C := RS) (T := TS) (NN := 5) 1 3 _ (by decide) sh_1 rfl rfl (by decide) lyS ww_40 dD_seek_125 (pc' := 128) rfl ?_
          refine vv_iload_n cx dD_seek_128 rfl rfl (pc' := 129) rfl ?_
          refine vv_iconst cx dD_seek_129 (v := -1) (by decide) (pc' := 130) rfl ?_
          refine cc_Vi cx hX (nx h2 b hs2 k12 hpat) kS_nextPattern ww_193 rfl rfl ⟨Nat.le_of_ble_eq_true rfl, Nat.le_of_ble_eq_true rfl⟩ 1 (by decide) sh_1 rfl rfl rfl rfl (Nat.le_of_ble_eq_true rfl) rfl ⟨Nat.le_of_ble_eq_true rfl, Nat.le_of_ble_eq_true rfl⟩ dD_seek_130 (pc' := 133) rfl (fun _ _ q => q.elim) (fun r130 h130 q130 => ?_)
          refine vv_istore_n cx dD_seek_133 rfl (Nat.le_of_ble_eq_true rfl) (pc' := 134) rfl ?_
          refine vv_iinc cx dD_seek_134 rfl rfl (pc' := 137) rfl ?_
          refine vv_goto cx dD_seek_137 (tgt := 74) (by decide) ?_
          rcases q130 with ⟨rfl, b2, hnx, ho, hrow⟩ | ⟨rfl, hnx, rfl⟩
          · exact ih (c9 + 1) _ _ _ _ s8 p8 _ (pq_nI1 hy) (by omega) (kb.trans (ho.but (by decide))) (by rw [ho 2 (by decide)]; exact k3) ks (k11.of (ho 11 (by decide))) (Or.inl ⟨rfl, b2, rfl, hrow, pq_next_pat hpat (by omega) hnx⟩) (by rw [← hnx]; exact kf)
          · exact ih (c9 + 1) _ _ _ _ s8 p8 _ (pq_nI1 hy) (by omega) kb k3 ks k11 (Or.inr ⟨rfl, rfl, b, k12, hpat.2.2⟩) (by rw [← hnx]; exact kf)
        refine vv_iload_n cx dD_seek_74 rfl rfl (pc' := 75) rfl ?_
        refine vv_sipush cx dD_seek_75 (v := 16807) (by decide) (pc' := 78) rfl ?_
        refine vv_icmp_ge cx dD_seek_78 (tgt := 140) (by decide) (pc' := 81) rfl (fun c78 => ?_) (fun c78 => ?_)
        · exact absurd (by rw [hy]; exact (nI_lt (b := 16807) (by omega) (by decide) : nI c9 < nI 16807)) (Int32.not_lt.mpr c78)
        · refine vv_iload_n cx dD_seek_81 rfl rfl (pc' := 82) rfl ?_
          refine vv_if_eq cx dD_seek_82 (tgt := 140) (by decide) (pc' := 85) rfl (fun c82 => ?_) (fun c82 => ?_)
          · exact absurd c82 (by decide)
          · refine vv_aload_n cx dD_seek_85 rfl rfl (pc' := 86) rfl ?_
            refine vv_getR cx (C := RD) (T := TD) (NN := 5) 2 0 _ (by decide) sh_2 rfl rfl (by decide) lyD ww_61 dD_seek_86 (pc' := 89) rfl ?_
            refine vv_aload_n cx dD_seek_89 rfl rfl (pc' := 90) rfl ?_
            refine vv_getR cx (C := RD) (T := TD) (NN := 5) 2 2 _ (by decide) sh_2 rfl rfl (by decide) lyD ww_63 dD_seek_90 (pc' := 93) rfl ?_
            refine cc_Vi cx hX (tS_priceOf l g h1 12 b (by decide) rfl hs1 (fun i hi => hb12 i (by omega))) kS_priceOf ww_182 rfl rfl ⟨Nat.le_of_ble_eq_true rfl, Nat.le_of_ble_eq_true rfl⟩ 1 (by decide) sh_1 rfl rfl rfl rfl (Nat.le_of_ble_eq_true rfl) rfl ⟨Nat.le_of_ble_eq_true rfl, Nat.le_of_ble_eq_true rfl⟩ dD_seek_93 (pc' := 96) rfl (fun _ _ q => q.elim) (fun r93 h93 q93 => ?_)
            obtain ⟨rfl, rfl⟩ := q93
            have hpb := pq_price_bd hn5 hpat hbb
            refine vv_istore cx dD_seek_96 (Nat.le_of_ble_eq_true rfl) (pc' := 98) rfl ?_
            refine vv_iload cx dD_seek_98 rfl (pc' := 100) rfl ?_
            refine vv_aload_n cx dD_seek_100 rfl rfl (pc' := 101) rfl ?_
            refine vv_getI cx (C := RD) (T := TD) (NN := 5) 2 3 (by decide) sh_2 rfl rfl (by decide) lyD ww_64 dD_seek_101 (pc' := 104) rfl ?_
            rw [h3]
            refine vv_icmp_le cx dD_seek_104 (tgt := 113) (by decide) (pc' := 107) rfl (fun c104 => ?_) (fun c104 => ?_)
            · first | exact hj h110 (pq_price n pr b) b (hb.trans (g1.mono (by decide))) g2 hpb (fun i hi => by rw [g4 i hi]; exact hb12 i hi) (hb12.of (g1 12 (by decide))) (by rw [← hf, pq_colL, if_pos hgt]) _ | exact hj _ s9 p9 hb h3 hs9 h11 hb12 (by rw [← hf, pq_colL, if_neg (show ¬ s9 < pq_price n pr b from fun q => nI_ge q (by omega) c104)]) _
            · refine vv_aload_n cx dD_seek_107 rfl rfl (pc' := 108) rfl ?_
              refine vv_iload cx dD_seek_108 rfl (pc' := 110) rfl ?_
              refine cc_Vv cx hX (tD_take l g _ _) kD_take ww_186 rfl rfl ⟨Nat.le_of_ble_eq_true rfl, Nat.le_of_ble_eq_true rfl⟩ 2 (by decide) sh_2 rfl rfl rfl rfl (Nat.le_of_ble_eq_true rfl) rfl ⟨Nat.le_of_ble_eq_true rfl, Nat.le_of_ble_eq_true rfl⟩ dD_seek_110 (pc' := 113) rfl (fun _ _ q => q.elim) (fun h110 q110 => ?_)
              obtain ⟨g1, g2, g3, g4⟩ := q110
              have hgt : s9 < pq_price n pr b := Nat.lt_of_not_le (fun q => c104 (nI_le q (by omega)))
              first | exact hj h110 (pq_price n pr b) b (hb.trans (g1.mono (by decide))) g2 hpb (fun i hi => by rw [g4 i hi]; exact hb12 i hi) (hb12.of (g1 12 (by decide))) (by rw [← hf, pq_colL, if_pos hgt]) _ | exact hj _ s9 p9 hb h3 hs9 h11 hb12 (by rw [← hf, pq_colL, if_neg (show ¬ s9 < pq_price n pr b from fun q => nI_ge q (by omega) c104)]) _
      · refine vv_iload_n cx dD_seek_74 rfl rfl (pc' := 75) rfl ?_
        refine vv_sipush cx dD_seek_75 (v := 16807) (by decide) (pc' := 78) rfl ?_
        refine vv_icmp_ge cx dD_seek_78 (tgt := 140) (by decide) (pc' := 81) rfl (fun c78 => ?_) (fun c78 => ?_)
        · exact absurd (by rw [hy]; exact (nI_lt (b := 16807) (by omega) (by decide) : nI c9 < nI 16807)) (Int32.not_lt.mpr c78)
        · refine vv_iload_n cx dD_seek_81 rfl rfl (pc' := 82) rfl ?_
          refine vv_if_eq cx dD_seek_82 (tgt := 140) (by decide) (pc' := 85) rfl (fun c82 => ?_) (fun c82 => ?_)
          · refine vv_aload_n cx dD_seek_140 rfl rfl (pc' := 141) rfl ?_
            refine vv_iconst cx dD_seek_141 (v := 1) (by decide) (pc' := 142) rfl ?_
            refine vv_putI cx (C := RD) (T := TD) (NN := 5) 2 4 (by decide) sh_2 rfl rfl (by decide) lyD tyD tyD_ok nmD rfl rfl rfl ww_65 dD_seek_142 (pc' := 145) rfl ?_
            refine vv_vret cx hr hlocks dD_seek_145 (Nat.le_of_ble_eq_true rfl) (Nat.le_of_ble_eq_true rfl) ?_
            exact hend h1 s9 p9 hb h3 h11 hz hf
          · exact absurd rfl c82
  refine vv_aload_n cx dD_seek_0 rfl rfl (pc' := 1) rfl ?_
  refine vv_getI cx (C := RD) (T := TD) (NN := 5) 2 4 (by decide) sh_2 rfl rfl (by decide) lyD ww_65 dD_seek_1 (pc' := 4) rfl ?_
  refine vv_if_eq cx dD_seek_4 (tgt := 8) (by decide) (pc' := 7) rfl (fun c4 => ?_) (fun c4 => ?_)
  · refine vv_aload_n cx dD_seek_8 rfl rfl (pc' := 9) rfl ?_
    refine vv_getR cx (C := RD) (T := TD) (NN := 5) 2 0 _ (by decide) sh_2 rfl rfl (by decide) lyD ww_61 dD_seek_9 (pc' := 12) rfl ?_
    refine vv_aload_n cx dD_seek_12 rfl rfl (pc' := 13) rfl ?_
    refine vv_getR cx (C := RD) (T := TD) (NN := 5) 2 2 _ (by decide) sh_2 rfl rfl (by decide) lyD ww_63 dD_seek_13 (pc' := 16) rfl ?_
    refine vv_aload_n cx dD_seek_16 rfl rfl (pc' := 17) rfl ?_
    refine vv_getR cx (C := RD) (T := TD) (NN := 5) 2 0 _ (by decide) sh_2 rfl rfl (by decide) lyD ww_61 dD_seek_17 (pc' := 20) rfl ?_
    refine vv_getR cx (C := RS) (T := TS) (NN := 5) 1 3 _ (by decide) sh_1 rfl rfl (by decide) lyS ww_40 dD_seek_20 (pc' := 23) rfl ?_
    refine cc_Vv cx hX (tS_firstPattern l g h 12 9 a0 nm (Or.inl ⟨by decide, by decide⟩) (Or.inl ⟨by decide, by decide⟩) (by decide) (by decide) hs ha0 hs.1.2.2.2.1 hnm6) kS_firstPattern ww_167 rfl rfl ⟨Nat.le_of_ble_eq_true rfl, Nat.le_of_ble_eq_true rfl⟩ 1 (by decide) sh_1 rfl rfl rfl rfl (Nat.le_of_ble_eq_true rfl) rfl ⟨Nat.le_of_ble_eq_true rfl, Nat.le_of_ble_eq_true rfl⟩ dD_seek_23 (pc' := 26) rfl (fun _ _ q => q.elim) (fun h23 q23 => ?_)
    have hs23 := hs.only q23.1 (by decide)
    have hf23 : pq_row h23 12 (pq_first W n w nm) := fun i hi => by rw [q23.2 i hi, pq_fill_first hz0 i hi]
    have hpf := pq_price_bd (W := W) (w := w) hn5 (pq_first_pat) hbb
    refine vv_aload_n cx dD_seek_26 rfl rfl (pc' := 27) rfl ?_
    refine vv_aload_n cx dD_seek_27 rfl rfl (pc' := 28) rfl ?_
    refine vv_getR cx (C := RD) (T := TD) (NN := 5) 2 0 _ (by decide) sh_2 rfl rfl (by decide) lyD ww_61 dD_seek_28 (pc' := 31) rfl ?_
    refine vv_aload_n cx dD_seek_31 rfl rfl (pc' := 32) rfl ?_
    refine vv_getR cx (C := RD) (T := TD) (NN := 5) 2 2 _ (by decide) sh_2 rfl rfl (by decide) lyD ww_63 dD_seek_32 (pc' := 35) rfl ?_
    refine cc_Vi cx hX (tS_priceOf l g h23 12 (pq_first W n w nm) (by decide) rfl hs23 (fun i hi => hf23 i (by omega))) kS_priceOf ww_182 rfl rfl ⟨Nat.le_of_ble_eq_true rfl, Nat.le_of_ble_eq_true rfl⟩ 1 (by decide) sh_1 rfl rfl rfl rfl (Nat.le_of_ble_eq_true rfl) rfl ⟨Nat.le_of_ble_eq_true rfl, Nat.le_of_ble_eq_true rfl⟩ dD_seek_35 (pc' := 38) rfl (fun _ _ q => q.elim) (fun r35 h35 q35 => ?_)
    obtain ⟨rfl, rfl⟩ := q35
    refine cc_Vv cx hX (tD_take l g _ _) kD_take ww_186 rfl rfl ⟨Nat.le_of_ble_eq_true rfl, Nat.le_of_ble_eq_true rfl⟩ 2 (by decide) sh_2 rfl rfl rfl rfl (Nat.le_of_ble_eq_true rfl) rfl ⟨Nat.le_of_ble_eq_true rfl, Nat.le_of_ble_eq_true rfl⟩ dD_seek_38 (pc' := 41) rfl (fun _ _ q => q.elim) (fun h38 q38 => ?_)
    obtain ⟨g1, g2, g3, g4⟩ := q38
    have hs38 := hs23.but g1 (by decide)
    have hb38 : pq_but [2, 11, 12] h h38 := (q23.1.but (by decide)).trans (g1.mono (by decide))
    have hr38 : pq_row h38 12 (pq_first W n w nm) := hf23.of (g1 12 (by decide))
    refine vv_aload_n cx dD_seek_41 rfl rfl (pc' := 42) rfl ?_
    refine vv_getR cx (C := RD) (T := TD) (NN := 5) 2 0 _ (by decide) sh_2 rfl rfl (by decide) lyD ww_61 dD_seek_42 (pc' := 45) rfl ?_
    refine vv_getI cx (C := RS) (T := TS) (NN := 5) 1 1 (by decide) sh_1 rfl rfl (by decide) lyS ww_35 dD_seek_45 (pc' := 48) rfl ?_
    refine vv_iconst cx dD_seek_48 (v := 2) (by decide) (pc' := 49) rfl ?_
    refine vv_isub cx dD_seek_49 (pc' := 50) rfl ?_
    rw [hs38.1.2.1]
    refine vv_istore_n cx dD_seek_50 rfl (Nat.le_of_ble_eq_true rfl) (pc' := 51) rfl ?_
    refine vv_aload_n cx dD_seek_51 rfl rfl (pc' := 52) rfl ?_
    refine vv_getR cx (C := RD) (T := TD) (NN := 5) 2 0 _ (by decide) sh_2 rfl rfl (by decide) lyD ww_61 dD_seek_52 (pc' := 55) rfl ?_
    refine vv_aload_n cx dD_seek_55 rfl rfl (pc' := 56) rfl ?_
    refine vv_getR cx (C := RD) (T := TD) (NN := 5) 2 2 _ (by decide) sh_2 rfl rfl (by decide) lyD ww_63 dD_seek_56 (pc' := 59) rfl ?_
    refine vv_aload_n cx dD_seek_59 rfl rfl (pc' := 60) rfl ?_
    refine vv_getR cx (C := RD) (T := TD) (NN := 5) 2 0 _ (by decide) sh_2 rfl rfl (by decide) lyD ww_61 dD_seek_60 (pc' := 63) rfl ?_
    refine vv_getR cx (C := RS) (T := TS) (NN := 5) 1 3 _ (by decide) sh_1 rfl rfl (by decide) lyS ww_40 dD_seek_63 (pc' := 66) rfl ?_
    refine vv_iload_n cx dD_seek_66 rfl rfl (pc' := 67) rfl ?_
    refine vv_iconst cx dD_seek_67 (v := -1) (by decide) (pc' := 68) rfl ?_
    refine cc_Vi cx hX (nx h38 _ hs38 hr38 pq_first_pat) kS_nextPattern ww_193 rfl rfl ⟨Nat.le_of_ble_eq_true rfl, Nat.le_of_ble_eq_true rfl⟩ 1 (by decide) sh_1 rfl rfl rfl rfl (Nat.le_of_ble_eq_true rfl) rfl ⟨Nat.le_of_ble_eq_true rfl, Nat.le_of_ble_eq_true rfl⟩ dD_seek_68 (pc' := 71) rfl (fun _ _ q => q.elim) (fun r68 h68 q68 => ?_)
    refine vv_istore_n cx dD_seek_71 rfl (Nat.le_of_ble_eq_true rfl) (pc' := 72) rfl ?_
    refine vv_iconst cx dD_seek_72 (v := 0) (by decide) (pc' := 73) rfl ?_
    refine vv_istore_n cx dD_seek_73 rfl (Nat.le_of_ble_eq_true rfl) (pc' := 74) rfl ?_
    rcases q68 with ⟨rfl, b2, hnx, ho, hrow⟩ | ⟨rfl, hnx, rfl⟩
    · exact loop 16807 0 _ _ _ _ (pq_price n pr (pq_first W n w nm)) (pq_first W n w nm) _ nI_0.symm (by omega) (hb38.trans (ho.but (by decide))) (by rw [ho 2 (by decide)]; exact g2) hpf (fun i hi => by rw [ho 11 (by decide), g4 i hi]; exact hf23 i hi) (Or.inl ⟨rfl, b2, rfl, hrow, pq_next_pat pq_first_pat (by omega) hnx⟩) (by rw [← hnx]; rfl)
    · exact loop 16807 0 _ _ _ _ (pq_price n pr (pq_first W n w nm)) (pq_first W n w nm) _ nI_0.symm (by omega) hb38 g2 hpf (fun i hi => by rw [g4 i hi]; exact hf23 i hi) (Or.inr ⟨rfl, rfl, _, hr38, pq_first_pat.2.2⟩) (by rw [← hnx]; rfl)
  · refine vv_vret cx hr hlocks dD_seek_7 (Nat.le_of_ble_eq_true rfl) (Nat.le_of_ble_eq_true rfl) ?_
    rcases hdk with q | q
    · exact ⟨pq_but.rfl', hd.1, q⟩
    · exact absurd q c4
set_option maxRecDepth 100000 in
set_option maxHeartbeats 4000000 in
theorem tD_priceSum (l : Launch) (g : pq_G) (h : pq_H) {W n : Nat} {w nm pr : Nat → Nat} (hs : pq_st h W n w nm pr) (hd : pq_dn h W n w nm pr) : XI l yD_priceSum wD_priceSum rD_priceSum g 0 0 [.ref (g.2.2 2)] h (fun r h9 => r = nI (pq_col W n w nm pr).1 ∧ pq_but [2, 11, 12] h h9 ∧ pq_z h9 12 n ∧ pq_dk h9 W n w nm pr) (pq_no) := by
  refine XI.of (cc := cD_priceSum) (maxL := 1) (ret := (some .int)) (by decide +kernel) (by simp [Value.category]) (Nat.le_of_ble_eq_true rfl) ?_
  intro p e s m below meth c cx hX hr hlocks hex
  refine vv_aload_n cx dD_priceSum_0 rfl rfl (pc' := 1) rfl ?_
  refine cc_Vv cx hX (tD_seek l g h hs hd) kD_seek ww_163 rfl rfl ⟨Nat.le_of_ble_eq_true rfl, Nat.le_of_ble_eq_true rfl⟩ 2 (by decide) sh_2 rfl rfl rfl rfl (Nat.le_of_ble_eq_true rfl) rfl ⟨Nat.le_of_ble_eq_true rfl, Nat.le_of_ble_eq_true rfl⟩ dD_priceSum_1 (pc' := 4) rfl (fun _ _ q => q.elim) (fun h1 q1 => ?_)
  refine vv_aload_n cx dD_priceSum_4 rfl rfl (pc' := 5) rfl ?_
  refine vv_getI cx (C := RD) (T := TD) (NN := 5) 2 3 (by decide) sh_2 rfl rfl (by decide) lyD ww_64 dD_priceSum_5 (pc' := 8) rfl ?_
  refine vv_iret cx hr hlocks dD_priceSum_8 (Nat.le_of_ble_eq_true rfl) (Nat.le_of_ble_eq_true rfl) ?_
  exact ⟨q1.2.2.2.1, q1⟩
set_option maxRecDepth 100000 in
set_option maxHeartbeats 4000000 in
theorem tD_piecesOf (l : Launch) (g : pq_G) (h : pq_H) {W n : Nat} {w nm pr : Nat → Nat} (i : Nat) (hs : pq_st h W n w nm pr) (hd : pq_dn h W n w nm pr) (hi : i < 5) : XI l yD_piecesOf wD_piecesOf rD_piecesOf g 0 0 [.ref (g.2.2 2), .int (nI i)] h (fun r h9 => r = nI ((pq_col W n w nm pr).2 i) ∧ pq_but [2, 11, 12] h h9 ∧ pq_z h9 12 n ∧ pq_dk h9 W n w nm pr) (pq_no) := by
  refine XI.of (cc := cD_piecesOf) (maxL := 2) (ret := (some .int)) (by decide +kernel) (by simp [Value.category]) (Nat.le_of_ble_eq_true rfl) ?_
  intro p e s m below meth c cx hX hr hlocks hex
  refine vv_aload_n cx dD_piecesOf_0 rfl rfl (pc' := 1) rfl ?_
  refine cc_Vv cx hX (tD_seek l g h hs hd) kD_seek ww_163 rfl rfl ⟨Nat.le_of_ble_eq_true rfl, Nat.le_of_ble_eq_true rfl⟩ 2 (by decide) sh_2 rfl rfl rfl rfl (Nat.le_of_ble_eq_true rfl) rfl ⟨Nat.le_of_ble_eq_true rfl, Nat.le_of_ble_eq_true rfl⟩ dD_piecesOf_1 (pc' := 4) rfl (fun _ _ q => q.elim) (fun h1 q1 => ?_)
  refine vv_aload_n cx dD_piecesOf_4 rfl rfl (pc' := 5) rfl ?_
  refine vv_getR cx (C := RD) (T := TD) (NN := 5) 2 1 _ (by decide) sh_2 rfl rfl (by decide) lyD ww_62 dD_piecesOf_5 (pc' := 8) rfl ?_
  refine vv_iload_n cx dD_piecesOf_8 rfl rfl (pc' := 9) rfl ?_
  refine vv_iald cx _ (by decide) sh_11 (pq_in5 rfl hi) dD_piecesOf_9 (pc' := 10) rfl ?_
  refine vv_iret cx hr hlocks dD_piecesOf_10 (Nat.le_of_ble_eq_true rfl) (Nat.le_of_ble_eq_true rfl) ?_
  refine ⟨?_, q1⟩
  rw [nI_clamp (by omega)]
  exact q1.2.2.2.2 i hi
end
section
/-! part 10: designing, pure: a machine that takes a pattern, or takes one back, a turn -/
theorem pq_sum_zero {f : Nat → Nat} : ∀ {n : Nat}, pq_sum f n = 0 → ∀ i, i < n → f i = 0
  | 0, _, i, hi => absurd hi (by omega)
  | n + 1, h, i, hi => by
    have h1 : pq_sum f n + f n = 0 := h
    rcases Nat.lt_or_ge i n with q | q
    · exact pq_sum_zero (by omega) i q
    · rw [show i = n by omega]; omega
theorem pq_sum_all0 {f : Nat → Nat} : ∀ {n : Nat}, (∀ i, i < n → f i = 0) → pq_sum f n = 0
  | 0, _ => rfl
  | n + 1, h => by
    show pq_sum f n + f n = 0
    rw [pq_sum_all0 (fun i hi => h i (by omega)), h n (by omega)]
theorem pq_sum_sub {f g : Nat → Nat} : ∀ {n : Nat}, (∀ i, i < n → g i ≤ f i) → pq_sum (fun i => f i - g i) n + pq_sum g n = pq_sum f n
  | 0, _ => rfl
  | n + 1, h => by
    have h1 := pq_sum_sub (f := f) (g := g) (n := n) (fun i hi => h i (by omega))
    have h2 := h n (by omega)
    show (pq_sum (fun i => f i - g i) n + (f n - g n)) + (pq_sum g n + g n) = pq_sum f n + f n
    omega
theorem pq_sum_pos {f : Nat → Nat} {z : Nat} : ∀ {n : Nat}, z < n → f z ≤ pq_sum f n
  | 0, h => absurd h (by omega)
  | n + 1, h => by
    show f z ≤ pq_sum f n + f n
    rcases Nat.lt_or_ge z n with q | q
    · have := pq_sum_pos (f := f) q; omega
    · rw [show z = n by omega]; omega
/-- what is left under the first k rows -/
def pq_L (num : Nat → Nat) (rows : Nat → Nat → Nat) (k i : Nat) : Nat := num i - pq_sum (fun j => rows j i) k
def pq_wd (n : Nat) (w a : Nat → Nat) : Nat := pq_sum (fun i => a i * w i) n
def pq_lowF (th : Nat → Nat) : Nat → Nat → Nat
  | 0, _ => 5
  | f + 1, i => if 0 < th i then i else pq_lowF th f (i + 1)
def pq_low (th : Nat → Nat) (n : Nat) : Nat := pq_lowF th n 0
theorem pq_L0 (num : Nat → Nat) (rows : Nat → Nat → Nat) : pq_L num rows 0 = num := rfl
theorem pq_L_succ {num : Nat → Nat} {rows : Nat → Nat → Nat} {k i : Nat} : pq_L num rows (k + 1) i = pq_L num rows k i - rows k i := by
  show num i - (pq_sum (fun j => rows j i) k + rows k i) = num i - pq_sum (fun j => rows j i) k - rows k i
  omega
theorem pq_L_up {num : Nat → Nat} {rows : Nat → Nat → Nat} {k j : Nat} {b : Nat → Nat} (h : j ≤ k) : pq_L num (va_up rows k b) j = pq_L num rows j := by
  funext i
  show num i - pq_sum (fun x => va_up rows k b x i) j = num i - pq_sum (fun x => rows x i) j
  rw [pq_sum_congr (g := fun x => rows x i) (fun x hx => by show va_up rows k b x i = rows x i; rw [va_up_ne _ _ (by omega)])]
theorem pq_L_le {num : Nat → Nat} {rows : Nat → Nat → Nat} {k i : Nat} : pq_L num rows k i ≤ num i := Nat.sub_le _ _
theorem pq_lowF_spec {th : Nat → Nat} : ∀ (f i : Nat), (pq_lowF th f i = 5 ∧ ∀ j, i ≤ j → j < i + f → th j = 0) ∨ (i ≤ pq_lowF th f i ∧ pq_lowF th f i < i + f ∧ 0 < th (pq_lowF th f i) ∧ ∀ j, i ≤ j → j < pq_lowF th f i → th j = 0)
  | 0, i => Or.inl ⟨rfl, fun j h1 h2 => absurd h2 (by omega)⟩
  | f + 1, i => by
    by_cases h : 0 < th i
    · have e : pq_lowF th (f + 1) i = i := if_pos h
      rw [e]
      exact Or.inr ⟨Nat.le_refl _, by omega, h, fun j h1 h2 => absurd h1 (by omega)⟩
    · have e : pq_lowF th (f + 1) i = pq_lowF th f (i + 1) := if_neg h
      rw [e]
      rcases pq_lowF_spec (th := th) f (i + 1) with ⟨q1, q2⟩ | ⟨q1, q2, q3, q4⟩
      · refine Or.inl ⟨q1, fun j h1 h2 => ?_⟩
        rcases Nat.lt_or_ge i j with z | z
        · exact q2 j z (by omega)
        · rw [show j = i by omega]; omega
      · refine Or.inr ⟨by omega, by omega, q3, fun j h1 h2 => ?_⟩
        rcases Nat.lt_or_ge i j with z | z
        · exact q4 j z h2
        · rw [show j = i by omega]; omega
theorem pq_low_spec {th : Nat → Nat} {n : Nat} : (pq_low th n = 5 ∧ ∀ j, j < n → th j = 0) ∨ (pq_low th n < n ∧ 0 < th (pq_low th n) ∧ ∀ j, j < pq_low th n → th j = 0) := by
  rcases pq_lowF_spec (th := th) n 0 with ⟨q1, q2⟩ | ⟨q1, q2, q3, q4⟩
  · exact Or.inl ⟨q1, fun j h => q2 j (Nat.zero_le _) (by omega)⟩
  · exact Or.inr ⟨by show pq_lowF th n 0 < n; omega, q3, fun j h => q4 j (Nat.zero_le _) h⟩
theorem pq_fillS_at {w th : Nat → Nat} : ∀ (s : Nat) (a : Nat → Nat) (i R z : Nat), i ≤ z → z < i + s → (∀ j, i ≤ j → j < z → th j = 0) → pq_fillS w th s a i R z = min (th z) (R / w z)
  | 0, a, i, R, z, h1, h2, _ => absurd h2 (by omega)
  | s + 1, a, i, R, z, h1, h2, h3 => by
    show pq_fillS w th s _ _ _ z = _
    rcases Nat.lt_or_ge i z with q | q
    · have h0 : min (th i) (R / w i) = 0 := by rw [h3 i (Nat.le_refl _) q]; exact Nat.zero_min _
      rw [h0, Nat.zero_mul, Nat.sub_zero]
      exact pq_fillS_at s _ (i + 1) R z q (by omega) (fun j a1 a2 => h3 j (by omega) a2)
    · have e : z = i := by omega
      subst e
      rw [pq_fillS_out _ _ _ _ _ (by omega), va_up_self]
theorem pq_first_low {W n : Nat} {w th : Nat → Nat} {z : Nat} (hz : z < n) (h1 : 1 ≤ w z) (hw : w z ≤ W) (ht : 0 < th z) (h0 : ∀ j, j < z → th j = 0) : 1 ≤ pq_first W n w th z := by
  show 1 ≤ pq_fillS w th (n - 0) _ 0 (W - 0) z
  rw [pq_fillS_at _ _ _ _ _ (Nat.zero_le _) (by omega) (fun j _ h => h0 j h)]
  have : 1 ≤ (W - 0) / w z := (Nat.le_div_iff_mul_le (by omega)).mpr (by omega)
  exact Nat.le_min.mpr ⟨ht, this⟩
theorem pq_next_low {W n : Nat} {w th a b : Nat → Nat} {z : Nat} (ha : 1 ≤ a z) (h0 : ∀ j, j < z → a j = 0) : ∀ {m : Nat}, pq_next W n w th a z m = some b → 1 ≤ b z
  | 0, h => by cases h
  | m + 1, h => by
    by_cases hlt : (if m = z then 1 else 0) < a m
    · rw [pq_next, if_pos hlt] at h
      cases h
      rcases Nat.lt_or_ge m z with q | q
      · rw [h0 m q] at hlt; exact absurd hlt (by omega)
      · rw [pq_fill, pq_fillS_out _ _ _ _ _ (by omega)]
        by_cases e : m = z
        · subst e
          rw [if_pos rfl] at hlt
          rw [va_up_self]; omega
        · rw [va_up_ne _ _ (fun q => e q.symm)]; exact ha
    · rw [pq_next, if_neg hlt] at h
      exact pq_next_low ha h0 h
/-- mode (0 a pattern is to be taken, 1 none is, 2 the end), sheets, rows, best sheets, best rows, steps, spent -/
abbrev pq_D : Type := Nat × Nat × (Nat → Nat → Nat) × Option Nat × (Nat → Nat → Nat) × Nat × Nat
def pq_bound (W n : Nat) (w lf : Nat → Nat) (k : Nat) : Option Nat → Prop
  | none => False
  | some b => b ≤ k + pq_up (pq_wd n w lf) W
def pq_boundb (W n : Nat) (w lf : Nat → Nat) (k : Nat) : Option Nat → Bool
  | none => false
  | some b => decide (b ≤ k + pq_up (pq_wd n w lf) W)
theorem pq_boundb_iff {W n : Nat} {w lf : Nat → Nat} {k : Nat} {bs : Option Nat} : pq_boundb W n w lf k bs = true ↔ pq_bound W n w lf k bs := by
  cases bs <;> simp [pq_boundb, pq_bound]
def pq_open (W n : Nat) (w num : Nat → Nat) (k : Nat) (rows : Nat → Nat → Nat) (bs : Option Nat) (best : Nat → Nat → Nat) (st sp : Nat) : pq_D :=
  if pq_boundb W n w (pq_L num rows k) k bs = true then (1, k, rows, bs, best, st, sp)
  else if pq_wd n w (pq_L num rows k) = 0 then (1, k, rows, some k, rows, st, sp)
  else (0, k, va_up rows k (pq_first W n w (pq_L num rows k)), bs, best, st, sp)
def pq_back (W n : Nat) (w num : Nat → Nat) (k : Nat) (rows : Nat → Nat → Nat) (bs : Option Nat) (best : Nat → Nat → Nat) (st sp : Nat) : pq_D :=
  match pq_next W n w (pq_L num rows k) (rows k) (pq_low (pq_L num rows k) n) n with
  | some b => (0, k, va_up rows k b, bs, best, st, sp)
  | none => (1, k, rows, bs, best, st, sp)
def pq_stp (W n : Nat) (w num : Nat → Nat) (most : Nat) : pq_D → pq_D
  | (0, k, rows, bs, best, st, sp) => if most ≤ st then (2, k, rows, bs, best, st, 1) else pq_open W n w num (k + 1) rows bs best (st + 1) sp
  | (1, 0, rows, bs, best, st, sp) => (2, 0, rows, bs, best, st, sp)
  | (1, k + 1, rows, bs, best, st, sp) => pq_back W n w num k rows bs best st sp
  | d => d
def pq_it (f : pq_D → pq_D) : Nat → pq_D → pq_D
  | 0, d => d
  | n + 1, d => f (pq_it f n d)
def pq_start (W n : Nat) (w num : Nat → Nat) : pq_D := pq_open W n w num 0 (fun _ _ => 0) none (fun _ _ => 0) 0 0
def pq_reach (W n : Nat) (w num : Nat → Nat) (most : Nat) (d : pq_D) : Prop := ∃ j, pq_it (pq_stp W n w num most) j (pq_start W n w num) = d
theorem pq_reach.stp {W n : Nat} {w num : Nat → Nat} {most : Nat} {d : pq_D} (h : pq_reach W n w num most d) : pq_reach W n w num most (pq_stp W n w num most d) := by
  obtain ⟨j, rfl⟩ := h
  exact ⟨j + 1, rfl⟩
theorem pq_it_add {f : pq_D → pq_D} {d e : pq_D} (he : f e = e) : ∀ {i j : Nat}, i ≤ j → pq_it f i d = e → pq_it f j d = e
  | i, 0, h, q => by rw [Nat.le_zero.mp h] at q; exact q
  | i, j + 1, h, q => by
    rcases Nat.lt_or_ge i (j + 1) with z | z
    · show f (pq_it f j d) = e
      rw [pq_it_add he (show i ≤ j by omega) q, he]
    · rw [show j + 1 = i by omega]; exact q
theorem pq_stp_done {W n : Nat} {w num : Nat → Nat} {most : Nat} {d : pq_D} (h : d.1 = 2) : pq_stp W n w num most d = d := by
  obtain ⟨m, r⟩ := d
  have : m = 2 := h
  subst this
  rfl
theorem pq_reach_one {W n : Nat} {w num : Nat → Nat} {most : Nat} {d e : pq_D} (h1 : pq_reach W n w num most d) (h2 : pq_reach W n w num most e) (hd : d.1 = 2) (he : e.1 = 2) : d = e := by
  obtain ⟨i, hi⟩ := h1
  obtain ⟨j, hj⟩ := h2
  rcases Nat.le_total i j with q | q
  · rw [← hj]; exact (pq_it_add (pq_stp_done hd) q hi).symm
  · rw [← hi]; exact pq_it_add (pq_stp_done he) q hj
/-- a row of the design so far -/
def pq_ok (W n : Nat) (w num : Nat → Nat) (rows : Nat → Nat → Nat) (j : Nat) : Prop := pq_pat W n w (pq_L num rows j) (rows j) ∧ pq_low (pq_L num rows j) n < n ∧ 1 ≤ rows j (pq_low (pq_L num rows j) n)
theorem pq_ok.up {W n : Nat} {w num : Nat → Nat} {rows : Nat → Nat → Nat} {j k : Nat} {b : Nat → Nat} (h : pq_ok W n w num rows j) (hj : j < k) : pq_ok W n w num (va_up rows k b) j := by
  unfold pq_ok
  rw [pq_L_up (by omega), va_up_ne _ _ (by omega)]
  exact h
theorem pq_tot {W n : Nat} {w num : Nat → Nat} {rows : Nat → Nat → Nat} : ∀ {k : Nat}, (∀ j, j < k → pq_ok W n w num rows j) → pq_sum (pq_L num rows k) n + k ≤ pq_sum num n
  | 0, _ => Nat.le_refl _
  | k + 1, h => by
    have h1 := pq_tot (k := k) (fun j hj => h j (by omega))
    obtain ⟨p1, p2, p3⟩ := h k (by omega)
    have h2 := pq_sum_sub (f := pq_L num rows k) (g := rows k) (n := n) p1.1
    have h3 := pq_sum_pos (f := rows k) p2
    have h4 : pq_sum (pq_L num rows (k + 1)) n = pq_sum (fun i => pq_L num rows k i - rows k i) n := pq_sum_congr (fun i _ => pq_L_succ)
    omega
/-- a row of small numbers, nothing beyond the orders -/
def pq_sm (n : Nat) (a : Nat → Nat) : Prop := ∀ i, i < 5 → a i ≤ 6 ∧ (n ≤ i → a i = 0)
def pq_inv (W n : Nat) (w num : Nat → Nat) : pq_D → Prop
  | (mo, k, rows, bs, best, _, _) => (∀ j, j < k → pq_ok W n w num rows j) ∧ (mo = 0 → pq_ok W n w num rows k) ∧ ∀ b, bs = some b → b ≤ 30 ∧ ∀ j, j < b → pq_sm n (best j)
/-- what is asked of the orders -/
def pq_env (W n : Nat) (w num : Nat → Nat) : Prop := n ≤ 5 ∧ (∀ i, i < 5 → num i ≤ 6) ∧ (∀ i, n ≤ i → i < 5 → num i = 0) ∧ (∀ i, i < n → 1 ≤ w i) ∧ ∀ i, i < n → 0 < num i → w i ≤ W
theorem pq_ok.sm {W n : Nat} {w num : Nat → Nat} (he : pq_env W n w num) {rows : Nat → Nat → Nat} {j : Nat} (h : pq_ok W n w num rows j) : pq_sm n (rows j) := fun i hi => by
  rcases Nat.lt_or_ge i n with q | q
  · exact ⟨Nat.le_trans (h.1.1 i q) (Nat.le_trans pq_L_le (he.2.1 i hi)), fun z => absurd z (by omega)⟩
  · rw [h.1.2.2 i q hi]; exact ⟨by omega, fun _ => rfl⟩
theorem pq_env.tot {W n : Nat} {w num : Nat → Nat} (h : pq_env W n w num) : pq_sum num n ≤ 30 := Nat.le_trans (pq_sum_bd (B := 6) (fun i hi => h.2.1 i (by have := h.1; omega))) (by have := h.1; omega)
theorem pq_wd_zero {n : Nat} {w a : Nat → Nat} (hw : ∀ i, i < n → 1 ≤ w i) (h : pq_wd n w a = 0) : ∀ i, i < n → a i = 0 := fun i hi => by
  have h1 := pq_sum_zero h i hi
  have h2 := hw i hi
  rcases Nat.mul_eq_zero.mp h1 with q | q
  · exact q
  · omega
theorem pq_low_of {W n : Nat} {w num : Nat → Nat} (he : pq_env W n w num) {rows : Nat → Nat → Nat} {k : Nat} (h : pq_wd n w (pq_L num rows k) ≠ 0) : pq_low (pq_L num rows k) n < n ∧ 0 < pq_L num rows k (pq_low (pq_L num rows k) n) ∧ ∀ j, j < pq_low (pq_L num rows k) n → pq_L num rows k j = 0 := by
  rcases pq_low_spec (th := pq_L num rows k) (n := n) with ⟨-, q⟩ | q
  · exact absurd (pq_sum_all0 (fun i hi => by rw [q i hi, Nat.zero_mul])) h
  · exact q
theorem pq_first_ok {W n : Nat} {w num : Nat → Nat} (he : pq_env W n w num) {rows : Nat → Nat → Nat} {k : Nat} (h : pq_wd n w (pq_L num rows k) ≠ 0) : pq_ok W n w num (va_up rows k (pq_first W n w (pq_L num rows k))) k := by
  unfold pq_ok
  rw [pq_L_up (Nat.le_refl _), va_up_self]
  obtain ⟨q1, q2, q3⟩ := pq_low_of he h
  exact ⟨pq_first_pat, q1, pq_first_low q1 (he.2.2.2.1 _ q1) (he.2.2.2.2 _ q1 (Nat.lt_of_lt_of_le q2 pq_L_le)) q2 q3⟩
theorem pq_next_ok {W n : Nat} {w num : Nat → Nat} (he : pq_env W n w num) {rows : Nat → Nat → Nat} {k : Nat} {b : Nat → Nat} (h : pq_ok W n w num rows k) (hb : pq_next W n w (pq_L num rows k) (rows k) (pq_low (pq_L num rows k) n) n = some b) : pq_ok W n w num (va_up rows k b) k := by
  unfold pq_ok
  rw [pq_L_up (Nat.le_refl _), va_up_self]
  obtain ⟨p1, p2, p3⟩ := h
  refine ⟨pq_next_pat p1 (Nat.le_refl _) hb, p2, pq_next_low p3 (fun j hj => ?_) hb⟩
  rcases pq_low_spec (th := pq_L num rows k) (n := n) with ⟨q, -⟩ | ⟨-, -, q⟩
  · have := he.1
    omega
  · have := p1.1 j (by omega)
    rw [q j hj] at this
    omega
theorem pq_inv_open {W n : Nat} {w num : Nat → Nat} (he : pq_env W n w num) {k : Nat} {rows best : Nat → Nat → Nat} {bs : Option Nat} {st sp : Nat} (h : ∀ j, j < k → pq_ok W n w num rows j) (hb : ∀ b, bs = some b → b ≤ 30 ∧ ∀ j, j < b → pq_sm n (best j)) : pq_inv W n w num (pq_open W n w num k rows bs best st sp) := by
  unfold pq_open
  split
  · exact ⟨h, fun q => absurd q (by decide), hb⟩
  · split
    · exact ⟨h, fun q => absurd q (by decide), fun b q => by
        cases q
        have := pq_tot h
        have := he.tot
        exact ⟨by omega, fun j hj => (h j hj).sm he⟩⟩
    · rename_i h2
      exact ⟨fun j hj => (h j hj).up hj, fun _ => pq_first_ok he h2, hb⟩
theorem pq_inv_stp {W n : Nat} {w num : Nat → Nat} {most : Nat} (he : pq_env W n w num) : ∀ {d : pq_D}, pq_inv W n w num d → pq_inv W n w num (pq_stp W n w num most d)
  | (0, k, rows, bs, best, st, sp), h => by
    show pq_inv W n w num (if most ≤ st then (2, k, rows, bs, best, st, 1) else pq_open W n w num (k + 1) rows bs best (st + 1) sp)
    split
    · exact ⟨h.1, fun q => absurd q (by decide), h.2.2⟩
    · refine pq_inv_open he (fun j hj => ?_) h.2.2
      rcases Nat.lt_or_ge j k with q | q
      · exact h.1 j q
      · rw [show j = k by omega]; exact h.2.1 rfl
  | (1, 0, rows, bs, best, st, sp), h => ⟨h.1, fun q => absurd q (by decide), h.2.2⟩
  | (1, k + 1, rows, bs, best, st, sp), h => by
    show pq_inv W n w num (pq_back W n w num k rows bs best st sp)
    unfold pq_back
    split
    · rename_i b hb
      exact ⟨fun j hj => (h.1 j (by omega)).up hj, fun _ => pq_next_ok he (h.1 k (by omega)) hb, h.2.2⟩
    · exact ⟨fun j hj => h.1 j (by omega), fun q => absurd q (by decide), h.2.2⟩
  | (m + 2, k, rows, bs, best, st, sp), h => h
theorem pq_inv_start {W n : Nat} {w num : Nat → Nat} (he : pq_env W n w num) : pq_inv W n w num (pq_start W n w num) := pq_inv_open he (fun j hj => absurd hj (by omega)) (fun b q => nomatch q)
end
section
/-! part 11: Designing -/
section AQ
variable {p : Program} {l : Launch} {e : Env} {R : Room} {s : State} {m : MethodId} {args : Array Value} {below : List Frame} {meth : Method} {c : Code} {Q : State → Prop} {g : pq_G} {cells slots : Nat} {h : pq_H} {pc pc' : Nat} {vs : List (Option Value)} {st : List Value} {cc : ByteArray} {nL : Nat} {own : String}
theorem vv_aaldq (cx : CX p s m args c cc nL own g) (k : Nat) (hk : k < pq_N) {n : Nat} {r : Nat → Nat} (hsh : pq_sh k = .inr (.inr (.inr (n, r)))) {i : Int32} {q : Nat} (hq : r i.toNatClampNeg = q) (hi : vp_in i n) (hd : decode cc pc = .ok (.aaload, 1)) (hp : pc + 1 = pc')
    (kk : VV p l e R s m args below meth c Q g cells slots h pc' vs (.ref (g.2.2 q) :: st)) : VV p l e R s m args below meth c Q g cells slots h pc vs (.int i :: .ref (g.2.2 k) :: st) := by
  subst hq
  exact vv_aald cx k hk hsh hi hd hp kk
end AQ
def pq_bsI : Option Nat → Int32
  | none => -1
  | some b => nI b
def pq_gb (h h' : pq_H) : Prop := ∀ k, k ≠ 3 → k ≠ 13 → ¬ (16 ≤ k ∧ k < 76) → h' k = h k
theorem pq_gb.rfl' {h : pq_H} : pq_gb h h := fun _ _ _ _ => rfl
theorem pq_gb.trans {h h' h2 : pq_H} (a : pq_gb h h') (b : pq_gb h' h2) : pq_gb h h2 := fun k q1 q2 q3 => (b k q1 q2 q3).trans (a k q1 q2 q3)
theorem pq_but.gb {h h' : pq_H} (a : pq_but [3, 13] h h') : pq_gb h h' := fun k q1 q2 _ => a k (by simp [q1, q2])
theorem pq_only.gb {h h' : pq_H} {kr : Nat} (a : pq_only kr h h') (hk : 16 ≤ kr ∧ kr < 76) : pq_gb h h' := fun k _ _ q3 => a k (fun e => q3 (by rw [e]; exact hk))
theorem pq_st.gb {h h' : pq_H} {W n : Nat} {w nm pr : Nat → Nat} (hs : pq_st h W n w nm pr) (hb : pq_gb h h') : pq_st h' W n w nm pr := hs.of (hb 1 (by decide) (by decide) (by decide)) (hb 8 (by decide) (by decide) (by decide)) (hb 9 (by decide) (by decide) (by decide)) (hb 10 (by decide) (by decide) (by decide))
def pq_cr (h : pq_H) (lf : Nat → Nat) (X : Nat) (bs : Option Nat) (sp st : Nat) : Prop := pq_row h 13 lf ∧ h 3 2 = nI X ∧ h 3 5 = pq_bsI bs ∧ h 3 6 = 1 ∧ h 3 7 = nI sp ∧ h 3 8 = nI st
def pq_rws (h : pq_H) (base : Nat) (rows : Nat → Nat → Nat) (k : Nat) : Prop := ∀ j, j < k → pq_row h (base + j) (rows j)
def pq_zs (h : pq_H) (n : Nat) : Prop := ∀ j, j < 30 → pq_z h (16 + j) n
theorem pq_rws.of {h h' : pq_H} {base k : Nat} {rows : Nat → Nat → Nat} (a : pq_rws h base rows k) (e : ∀ j, j < k → h' (base + j) = h (base + j)) : pq_rws h' base rows k := fun j hj => (a j hj).of (e j hj)
theorem pq_z.of {h h' : pq_H} {k n : Nat} (a : pq_z h k n) (e : h' k = h k) : pq_z h' k n := by
  obtain ⟨b, q1, q2⟩ := a
  exact ⟨b, q1.of e, q2⟩
theorem pq_zs.of {h h' : pq_H} {n : Nat} (a : pq_zs h n) (e : ∀ j, j < 30 → h' (16 + j) = h (16 + j)) : pq_zs h' n := fun j hj => (a j hj).of (e j hj)
set_option maxRecDepth 100000 in
set_option maxHeartbeats 4000000 in
theorem tG_forget (l : Launch) (g : pq_G) (h : pq_H)  : XV l yG_forget wG_forget rG_forget g 0 0 [.ref (g.2.2 3)] h (fun h9 => pq_only 3 h h9 ∧ h9 3 5 = -1 ∧ h9 3 6 = 0 ∧ h9 3 7 = 0 ∧ h9 3 8 = 0) (pq_no) := by
  refine XV.of (cc := cG_forget) (maxL := 1) (ret := none) (by decide +kernel) (by simp [Value.category]) (Nat.le_of_ble_eq_true rfl) ?_
  intro p e s m below meth c cx hX hr hlocks hex
  refine vv_aload_n cx dG_forget_0 rfl rfl (pc' := 1) rfl ?_
  refine vv_iconst cx dG_forget_1 (v := -1) (by decide) (pc' := 2) rfl ?_
  refine vv_putI cx (C := RG) (T := TG) (NN := 9) 3 5 (by decide) sh_3 rfl rfl (by decide) lyG tyG tyG_ok nmG rfl rfl rfl ww_91 dG_forget_2 (pc' := 5) rfl ?_
  refine vv_aload_n cx dG_forget_5 rfl rfl (pc' := 6) rfl ?_
  refine vv_iconst cx dG_forget_6 (v := 0) (by decide) (pc' := 7) rfl ?_
  refine vv_putI cx (C := RG) (T := TG) (NN := 9) 3 6 (by decide) sh_3 rfl rfl (by decide) lyG tyG tyG_ok nmG rfl rfl rfl ww_93 dG_forget_7 (pc' := 10) rfl ?_
  refine vv_aload_n cx dG_forget_10 rfl rfl (pc' := 11) rfl ?_
  refine vv_iconst cx dG_forget_11 (v := 0) (by decide) (pc' := 12) rfl ?_
  refine vv_putI cx (C := RG) (T := TG) (NN := 9) 3 7 (by decide) sh_3 rfl rfl (by decide) lyG tyG tyG_ok nmG rfl rfl rfl ww_95 dG_forget_12 (pc' := 15) rfl ?_
  refine vv_aload_n cx dG_forget_15 rfl rfl (pc' := 16) rfl ?_
  refine vv_iconst cx dG_forget_16 (v := 0) (by decide) (pc' := 17) rfl ?_
  refine vv_putI cx (C := RG) (T := TG) (NN := 9) 3 8 (by decide) sh_3 rfl rfl (by decide) lyG tyG tyG_ok nmG rfl rfl rfl ww_97 dG_forget_17 (pc' := 20) rfl ?_
  refine vv_vret cx hr hlocks dG_forget_20 (Nat.le_of_ble_eq_true rfl) (Nat.le_of_ble_eq_true rfl) ?_
  refine ⟨fun k hk => by simp [va_up, hk], ?_, ?_, ?_, ?_⟩ <;> simp [va_up, upd]
set_option maxRecDepth 100000 in
set_option maxHeartbeats 4000000 in
theorem tG_lowestLeft (l : Launch) (g : pq_G) (h : pq_H) {W n : Nat} {w nm pr : Nat → Nat} (lf : Nat → Nat) (hs : pq_st h W n w nm pr) (hl9 : pq_row h 13 lf) (hlf : ∀ i, i < 5 → lf i ≤ 6) : XI l yG_lowestLeft wG_lowestLeft rG_lowestLeft g 0 0 [.ref (g.2.2 3)] h (fun r h9 => h9 = h ∧ ∀ i, i < 5 → (nI i = r ↔ i = pq_low lf n)) (pq_no) := by
  refine XI.of (cc := cG_lowestLeft) (maxL := 2) (ret := (some .int)) (by decide +kernel) (by simp [Value.category]) (Nat.le_of_ble_eq_true rfl) ?_
  intro p e s m below meth c cx hX hr hlocks hex
  have hn5 : n ≤ 5 := hs.2.1.2.2
  have hn := hs.1.2.1
  have loop : ∀ (d i : Nat) (y : Int32), y = nI i → i + d = n → pq_lowF lf d i = pq_low lf n → VV p l e rG_lowestLeft s m [.ref (g.2.2 3)].toArray below meth c (vx_MQ below (pq_Qi g (fun r h9 => h9 = h ∧ ∀ i, i < 5 → (nI i = r ↔ i = pq_low lf n)) s.heap.size) (pq_Qx g (pq_no) s.heap.size) [.ref (g.2.2 3)].toArray s 0 0 (pq_A g s.heap.size)) g 0 0 h 2 [some (.ref (g.2.2 3)), some (.int y)] [] := by
    intro d
    induction d with
    | zero =>
      intro i y hy hi hf
      have e1 : i = n := by omega
      subst e1
      refine vv_iload_n cx dG_lowestLeft_2 rfl rfl (pc' := 3) rfl ?_
      refine vv_aload_n cx dG_lowestLeft_3 rfl rfl (pc' := 4) rfl ?_
      refine vv_getR cx (C := RG) (T := TG) (NN := 9) 3 0 _ (by decide) sh_3 rfl rfl (by decide) lyG ww_85 dG_lowestLeft_4 (pc' := 7) rfl ?_
      refine vv_getI cx (C := RS) (T := TS) (NN := 5) 1 1 (by decide) sh_1 rfl rfl (by decide) lyS ww_34 dG_lowestLeft_7 (pc' := 10) rfl ?_
      refine vv_icmp_ge cx dG_lowestLeft_10 (tgt := 30) (by decide) (pc' := 13) rfl (fun c10 => ?_) (fun c10 => ?_)
      · refine vv_iconst cx dG_lowestLeft_30 (v := -1) (by decide) (pc' := 31) rfl ?_
        refine vv_iret cx hr hlocks dG_lowestLeft_31 (Nat.le_of_ble_eq_true rfl) (Nat.le_of_ble_eq_true rfl) ?_
        refine ⟨rfl, ?_⟩
        rw [← hf]
        exact pq_nd5
      · exact absurd (Int32.le_refl _) (by rw [hy, hn] at c10; exact c10)
    | succ d ih =>
      intro i y hy hi hf
      have hlt : i < n := by omega
      have hv := pq_in5 hy (show i < 5 by omega)
      have hcl := pq_clN hy (show i < 1000 by omega)
      have hli := hlf i (by omega)
      refine vv_iload_n cx dG_lowestLeft_2 rfl rfl (pc' := 3) rfl ?_
      refine vv_aload_n cx dG_lowestLeft_3 rfl rfl (pc' := 4) rfl ?_
      refine vv_getR cx (C := RG) (T := TG) (NN := 9) 3 0 _ (by decide) sh_3 rfl rfl (by decide) lyG ww_85 dG_lowestLeft_4 (pc' := 7) rfl ?_
      refine vv_getI cx (C := RS) (T := TS) (NN := 5) 1 1 (by decide) sh_1 rfl rfl (by decide) lyS ww_34 dG_lowestLeft_7 (pc' := 10) rfl ?_
      refine vv_icmp_ge cx dG_lowestLeft_10 (tgt := 30) (by decide) (pc' := 13) rfl (fun c10 => ?_) (fun c10 => ?_)
      · exact absurd (by rw [hy, hn] at c10; exact c10) (nI_ge hlt (by omega))
      · refine vv_aload_n cx dG_lowestLeft_13 rfl rfl (pc' := 14) rfl ?_
        refine vv_getR cx (C := RG) (T := TG) (NN := 9) 3 1 _ (by decide) sh_3 rfl rfl (by decide) lyG ww_86 dG_lowestLeft_14 (pc' := 17) rfl ?_
        refine vv_iload_n cx dG_lowestLeft_17 rfl rfl (pc' := 18) rfl ?_
        refine vv_iald cx _ (by decide) sh_13 hv dG_lowestLeft_18 (pc' := 19) rfl ?_
        rw [hcl, hl9 i (by omega)]
        refine vv_if_le cx dG_lowestLeft_19 (tgt := 24) (by decide) (pc' := 22) rfl (fun c19 => ?_) (fun c19 => ?_)
        · refine vv_iinc cx dG_lowestLeft_24 rfl rfl (pc' := 27) rfl ?_
          refine vv_goto cx dG_lowestLeft_27 (tgt := 2) (by decide) ?_
          exact ih (i + 1) _ (pq_nI1 hy) (by omega) (by rw [← hf]; exact (if_neg (fun q => nI_nle q (by omega) c19)).symm)
        · refine vv_iload_n cx dG_lowestLeft_22 rfl rfl (pc' := 23) rfl ?_
          refine vv_iret cx hr hlocks dG_lowestLeft_23 (Nat.le_of_ble_eq_true rfl) (Nat.le_of_ble_eq_true rfl) ?_
          have e9 : pq_low lf n = i := by rw [← hf]; exact if_pos (pq_pos (Int32.not_le.mp c19))
          refine ⟨rfl, fun j hj => ?_⟩
          rw [hy, e9]
          exact nI_eq (by omega) (by omega)
  refine vv_iconst cx dG_lowestLeft_0 (v := 0) (by decide) (pc' := 1) rfl ?_
  refine vv_istore_n cx dG_lowestLeft_1 rfl (Nat.le_of_ble_eq_true rfl) (pc' := 2) rfl ?_
  exact loop n 0 _ nI_0.symm (by omega) rfl
set_option maxRecDepth 100000 in
set_option maxHeartbeats 4000000 in
theorem tG_lay (l : Launch) (g : pq_G) (h : pq_H) {W n : Nat} {w nm pr : Nat → Nat} (kr X : Nat) (a lf : Nat → Nat) (hkr : 16 ≤ kr ∧ kr < 116) (hs : pq_st h W n w nm pr) (ha : pq_row h kr a) (hl9 : pq_row h 13 lf) (hX9 : h 3 2 = nI X) (ha0 : ∀ i, n ≤ i → i < 5 → a i = 0) (hal : ∀ i, i < n → a i ≤ lf i) (hXa : pq_wd n w a ≤ X) : XV l yG_lay wG_lay rG_lay g 0 0 [.ref (g.2.2 3), .ref (g.2.2 kr)] h (fun h9 => pq_but [3, 13] h h9 ∧ pq_row h9 13 (fun i => lf i - a i) ∧ h9 3 2 = nI (X - pq_wd n w a) ∧ ∀ j, j ≠ 2 → h9 3 j = h 3 j) (pq_no) := by
  refine XV.of (cc := cG_lay) (maxL := 3) (ret := none) (by decide +kernel) (by simp [Value.category]) (Nat.le_of_ble_eq_true rfl) ?_
  intro p e s m below meth c cx hX hr hlocks hex
  have hn5 : n ≤ 5 := hs.2.1.2.2
  have hkN : kr < pq_N := by show kr < 125; omega
  have loop : ∀ (d i : Nat) (y : Int32) (b : Nat → Nat) (h1 : pq_H), y = nI i → i + d = n → pq_but [13] h h1 → pq_row h1 13 b → (∀ j, j < i → b j = lf j - a j) → (∀ j, i ≤ j → b j = lf j) → VV p l e rG_lay s m [.ref (g.2.2 3), .ref (g.2.2 kr)].toArray below meth c (vx_MQ below (pq_Qv g (fun h9 => pq_but [3, 13] h h9 ∧ pq_row h9 13 (fun i => lf i - a i) ∧ h9 3 2 = nI (X - pq_wd n w a) ∧ ∀ j, j ≠ 2 → h9 3 j = h 3 j) s.heap.size) (pq_Qx g (pq_no) s.heap.size) [.ref (g.2.2 3), .ref (g.2.2 kr)].toArray s 0 0 (pq_A g s.heap.size)) g 0 0 h1 2 [some (.ref (g.2.2 3)), some (.ref (g.2.2 kr)), some (.int y)] [] := by
    intro d
    induction d with
    | zero =>
      intro i y b h1 hy hi hb hb1 hlo hhi
      have e1 : i = n := by omega
      subst e1
      have hs1 := hs.but hb (by decide)
      have hn := hs1.1.2.1
      refine vv_iload_n cx dG_lay_2 rfl rfl (pc' := 3) rfl ?_
      refine vv_aload_n cx dG_lay_3 rfl rfl (pc' := 4) rfl ?_
      refine vv_getR cx (C := RG) (T := TG) (NN := 9) 3 0 _ (by decide) sh_3 rfl rfl (by decide) lyG ww_85 dG_lay_4 (pc' := 7) rfl ?_
      refine vv_getI cx (C := RS) (T := TS) (NN := 5) 1 1 (by decide) sh_1 rfl rfl (by decide) lyS ww_34 dG_lay_7 (pc' := 10) rfl ?_
      refine vv_icmp_ge cx dG_lay_10 (tgt := 31) (by decide) (pc' := 13) rfl (fun c10 => ?_) (fun c10 => ?_)
      · refine vv_aload_n cx dG_lay_31 rfl rfl (pc' := 32) rfl ?_
        refine vv_dup cx dG_lay_32 rfl (pc' := 33) rfl ?_
        refine vv_getI cx (C := RG) (T := TG) (NN := 9) 3 2 (by decide) sh_3 rfl rfl (by decide) lyG ww_87 dG_lay_33 (pc' := 36) rfl ?_
        refine vv_aload_n cx dG_lay_36 rfl rfl (pc' := 37) rfl ?_
        refine vv_getR cx (C := RG) (T := TG) (NN := 9) 3 0 _ (by decide) sh_3 rfl rfl (by decide) lyG ww_85 dG_lay_37 (pc' := 40) rfl ?_
        refine vv_aload_n cx dG_lay_40 rfl rfl (pc' := 41) rfl ?_
        refine cc_Vi cx hX (tS_widthOf l g h1 kr a hkN (sh_row hkr.1 hkr.2) hs1 (fun i hi => by rw [hb kr (by simp; omega)]; exact ha i (by omega))) kS_widthOf ww_438 rfl rfl ⟨Nat.le_of_ble_eq_true rfl, Nat.le_of_ble_eq_true rfl⟩ 1 (by decide) sh_1 rfl rfl rfl rfl (Nat.le_of_ble_eq_true rfl) rfl ⟨Nat.le_of_ble_eq_true rfl, Nat.le_of_ble_eq_true rfl⟩ dG_lay_41 (pc' := 44) rfl (fun _ _ q => q.elim) (fun r41 h41 q41 => ?_)
        obtain ⟨rfl, rfl⟩ := q41
        refine vv_isub cx dG_lay_44 (pc' := 45) rfl ?_
        refine vv_putI cx (C := RG) (T := TG) (NN := 9) 3 2 (by decide) sh_3 rfl rfl (by decide) lyG tyG tyG_ok nmG rfl rfl rfl ww_87 dG_lay_45 (pc' := 48) rfl ?_
        refine vv_vret cx hr hlocks dG_lay_48 (Nat.le_of_ble_eq_true rfl) (Nat.le_of_ble_eq_true rfl) ?_
        refine ⟨(hb.mono (by decide)).trans (pq_but.up (by decide)), fun j hj => ?_, ?_, fun j hj => ?_⟩
        · rw [va_up_ne _ _ (by decide), hb1 j hj]
          congr 1
          rcases Nat.lt_or_ge j i with q | q
          · exact hlo j q
          · show b j = lf j - a j
            rw [hhi j q, ha0 j q hj]; rfl
        · rw [va_up_self, pk_us, hb 3 (by decide), hX9]
          exact pk_sub hXa
        · rw [va_up_self, pk_un hj, hb 3 (by decide)]
      · exact absurd (Int32.le_refl _) (by rw [hy, hn] at c10; exact c10)
    | succ d ih =>
      intro i y b h1 hy hi hb hb1 hlo hhi
      have hlt : i < n := by omega
      have hs1 := hs.but hb (by decide)
      have hn := hs1.1.2.1
      have hv := pq_in5 hy (show i < 5 by omega)
      have hcl := pq_clN hy (show i < 1000 by omega)
      refine vv_iload_n cx dG_lay_2 rfl rfl (pc' := 3) rfl ?_
      refine vv_aload_n cx dG_lay_3 rfl rfl (pc' := 4) rfl ?_
      refine vv_getR cx (C := RG) (T := TG) (NN := 9) 3 0 _ (by decide) sh_3 rfl rfl (by decide) lyG ww_85 dG_lay_4 (pc' := 7) rfl ?_
      refine vv_getI cx (C := RS) (T := TS) (NN := 5) 1 1 (by decide) sh_1 rfl rfl (by decide) lyS ww_34 dG_lay_7 (pc' := 10) rfl ?_
      refine vv_icmp_ge cx dG_lay_10 (tgt := 31) (by decide) (pc' := 13) rfl (fun c10 => ?_) (fun c10 => ?_)
      · exact absurd (by rw [hy, hn] at c10; exact c10) (nI_ge hlt (by omega))
      · refine vv_aload_n cx dG_lay_13 rfl rfl (pc' := 14) rfl ?_
        refine vv_getR cx (C := RG) (T := TG) (NN := 9) 3 1 _ (by decide) sh_3 rfl rfl (by decide) lyG ww_86 dG_lay_14 (pc' := 17) rfl ?_
        refine vv_iload_n cx dG_lay_17 rfl rfl (pc' := 18) rfl ?_
        refine vv_dup2 cx dG_lay_18 rfl rfl (pc' := 19) rfl ?_
        refine vv_iald cx _ (by decide) sh_13 hv dG_lay_19 (pc' := 20) rfl ?_
        refine vv_aload_n cx dG_lay_20 rfl rfl (pc' := 21) rfl ?_
        refine vv_iload_n cx dG_lay_21 rfl rfl (pc' := 22) rfl ?_
        refine vv_iald cx _ hkN (sh_row hkr.1 hkr.2) hv dG_lay_22 (pc' := 23) rfl ?_
        refine vv_isub cx dG_lay_23 (pc' := 24) rfl ?_
        rw [hcl, hb1 i (by omega), hhi i (Nat.le_refl _), show h1 kr i = nI (a i) by rw [hb kr (by simp; omega)]; exact ha i (by omega), pk_sub (hal i hlt)]
        refine vv_iast cx _ (by decide) sh_13 hv dG_lay_24 (pc' := 25) rfl ?_
        rw [hcl]
        refine vv_iinc cx dG_lay_25 rfl rfl (pc' := 28) rfl ?_
        refine vv_goto cx dG_lay_28 (tgt := 2) (by decide) ?_
        refine ih (i + 1) _ (va_up b i (lf i - a i)) _ (pq_nI1 hy) (by omega) (hb.trans (pq_but.up (by decide))) (hb1.put rfl) (fun j hj => ?_) (fun j hj => ?_)
        · by_cases e9 : j = i
          · subst e9; rw [va_up_self]
          · rw [va_up_ne _ _ e9]; exact hlo j (by omega)
        · rw [va_up_ne _ _ (by omega)]; exact hhi j (by omega)
  refine vv_iconst cx dG_lay_0 (v := 0) (by decide) (pc' := 1) rfl ?_
  refine vv_istore_n cx dG_lay_1 rfl (Nat.le_of_ble_eq_true rfl) (pc' := 2) rfl ?_
  exact loop n 0 _ lf _ nI_0.symm (by omega) pq_but.rfl' hl9 (fun j hj => absurd hj (by omega)) (fun j _ => rfl)
set_option maxRecDepth 100000 in
set_option maxHeartbeats 4000000 in
theorem tG_takeBack (l : Launch) (g : pq_G) (h : pq_H) {W n : Nat} {w nm pr : Nat → Nat} (kr X : Nat) (a lf : Nat → Nat) (hkr : 16 ≤ kr ∧ kr < 116) (hs : pq_st h W n w nm pr) (ha : pq_row h kr a) (hl9 : pq_row h 13 lf) (hX9 : h 3 2 = nI X) (ha0 : ∀ i, n ≤ i → i < 5 → a i = 0) : XV l yG_takeBack wG_takeBack rG_takeBack g 0 0 [.ref (g.2.2 3), .ref (g.2.2 kr)] h (fun h9 => pq_but [3, 13] h h9 ∧ pq_row h9 13 (fun i => lf i + a i) ∧ h9 3 2 = nI (X + pq_wd n w a) ∧ ∀ j, j ≠ 2 → h9 3 j = h 3 j) (pq_no) := by
  refine XV.of (cc := cG_takeBack) (maxL := 3) (ret := none) (by decide +kernel) (by simp [Value.category]) (Nat.le_of_ble_eq_true rfl) ?_
  intro p e s m below meth c cx hX hr hlocks hex
  have hn5 : n ≤ 5 := hs.2.1.2.2
  have hkN : kr < pq_N := by show kr < 125; omega
  have loop : ∀ (d i : Nat) (y : Int32) (b : Nat → Nat) (h1 : pq_H), y = nI i → i + d = n → pq_but [13] h h1 → pq_row h1 13 b → (∀ j, j < i → b j = lf j + a j) → (∀ j, i ≤ j → b j = lf j) → VV p l e rG_takeBack s m [.ref (g.2.2 3), .ref (g.2.2 kr)].toArray below meth c (vx_MQ below (pq_Qv g (fun h9 => pq_but [3, 13] h h9 ∧ pq_row h9 13 (fun i => lf i + a i) ∧ h9 3 2 = nI (X + pq_wd n w a) ∧ ∀ j, j ≠ 2 → h9 3 j = h 3 j) s.heap.size) (pq_Qx g (pq_no) s.heap.size) [.ref (g.2.2 3), .ref (g.2.2 kr)].toArray s 0 0 (pq_A g s.heap.size)) g 0 0 h1 2 [some (.ref (g.2.2 3)), some (.ref (g.2.2 kr)), some (.int y)] [] := by
    intro d
    induction d with
    | zero =>
      intro i y b h1 hy hi hb hb1 hlo hhi
      have e1 : i = n := by omega
      subst e1
      have hs1 := hs.but hb (by decide)
      have hn := hs1.1.2.1
      refine vv_iload_n cx dG_takeBack_2 rfl rfl (pc' := 3) rfl ?_
      refine vv_aload_n cx dG_takeBack_3 rfl rfl (pc' := 4) rfl ?_
      refine vv_getR cx (C := RG) (T := TG) (NN := 9) 3 0 _ (by decide) sh_3 rfl rfl (by decide) lyG ww_85 dG_takeBack_4 (pc' := 7) rfl ?_
      refine vv_getI cx (C := RS) (T := TS) (NN := 5) 1 1 (by decide) sh_1 rfl rfl (by decide) lyS ww_34 dG_takeBack_7 (pc' := 10) rfl ?_
      refine vv_icmp_ge cx dG_takeBack_10 (tgt := 31) (by decide) (pc' := 13) rfl (fun c10 => ?_) (fun c10 => ?_)
      · refine vv_aload_n cx dG_takeBack_31 rfl rfl (pc' := 32) rfl ?_
        refine vv_dup cx dG_takeBack_32 rfl (pc' := 33) rfl ?_
        refine vv_getI cx (C := RG) (T := TG) (NN := 9) 3 2 (by decide) sh_3 rfl rfl (by decide) lyG ww_87 dG_takeBack_33 (pc' := 36) rfl ?_
        refine vv_aload_n cx dG_takeBack_36 rfl rfl (pc' := 37) rfl ?_
        refine vv_getR cx (C := RG) (T := TG) (NN := 9) 3 0 _ (by decide) sh_3 rfl rfl (by decide) lyG ww_85 dG_takeBack_37 (pc' := 40) rfl ?_
        refine vv_aload_n cx dG_takeBack_40 rfl rfl (pc' := 41) rfl ?_
        refine cc_Vi cx hX (tS_widthOf l g h1 kr a hkN (sh_row hkr.1 hkr.2) hs1 (fun i hi => by rw [hb kr (by simp; omega)]; exact ha i (by omega))) kS_widthOf ww_438 rfl rfl ⟨Nat.le_of_ble_eq_true rfl, Nat.le_of_ble_eq_true rfl⟩ 1 (by decide) sh_1 rfl rfl rfl rfl (Nat.le_of_ble_eq_true rfl) rfl ⟨Nat.le_of_ble_eq_true rfl, Nat.le_of_ble_eq_true rfl⟩ dG_takeBack_41 (pc' := 44) rfl (fun _ _ q => q.elim) (fun r41 h41 q41 => ?_)
        obtain ⟨rfl, rfl⟩ := q41
        refine vv_iadd cx dG_takeBack_44 (pc' := 45) rfl ?_
        refine vv_putI cx (C := RG) (T := TG) (NN := 9) 3 2 (by decide) sh_3 rfl rfl (by decide) lyG tyG tyG_ok nmG rfl rfl rfl ww_87 dG_takeBack_45 (pc' := 48) rfl ?_
        refine vv_vret cx hr hlocks dG_takeBack_48 (Nat.le_of_ble_eq_true rfl) (Nat.le_of_ble_eq_true rfl) ?_
        refine ⟨(hb.mono (by decide)).trans (pq_but.up (by decide)), fun j hj => ?_, ?_, fun j hj => ?_⟩
        · rw [va_up_ne _ _ (by decide), hb1 j hj]
          congr 1
          rcases Nat.lt_or_ge j i with q | q
          · exact hlo j q
          · show b j = lf j + a j
            rw [hhi j q, ha0 j q hj]; rfl
        · rw [va_up_self, pk_us, hb 3 (by decide), hX9]
          exact nI_add _ _
        · rw [va_up_self, pk_un hj, hb 3 (by decide)]
      · exact absurd (Int32.le_refl _) (by rw [hy, hn] at c10; exact c10)
    | succ d ih =>
      intro i y b h1 hy hi hb hb1 hlo hhi
      have hlt : i < n := by omega
      have hs1 := hs.but hb (by decide)
      have hn := hs1.1.2.1
      have hv := pq_in5 hy (show i < 5 by omega)
      have hcl := pq_clN hy (show i < 1000 by omega)
      refine vv_iload_n cx dG_takeBack_2 rfl rfl (pc' := 3) rfl ?_
      refine vv_aload_n cx dG_takeBack_3 rfl rfl (pc' := 4) rfl ?_
      refine vv_getR cx (C := RG) (T := TG) (NN := 9) 3 0 _ (by decide) sh_3 rfl rfl (by decide) lyG ww_85 dG_takeBack_4 (pc' := 7) rfl ?_
      refine vv_getI cx (C := RS) (T := TS) (NN := 5) 1 1 (by decide) sh_1 rfl rfl (by decide) lyS ww_34 dG_takeBack_7 (pc' := 10) rfl ?_
      refine vv_icmp_ge cx dG_takeBack_10 (tgt := 31) (by decide) (pc' := 13) rfl (fun c10 => ?_) (fun c10 => ?_)
      · exact absurd (by rw [hy, hn] at c10; exact c10) (nI_ge hlt (by omega))
      · refine vv_aload_n cx dG_takeBack_13 rfl rfl (pc' := 14) rfl ?_
        refine vv_getR cx (C := RG) (T := TG) (NN := 9) 3 1 _ (by decide) sh_3 rfl rfl (by decide) lyG ww_86 dG_takeBack_14 (pc' := 17) rfl ?_
        refine vv_iload_n cx dG_takeBack_17 rfl rfl (pc' := 18) rfl ?_
        refine vv_dup2 cx dG_takeBack_18 rfl rfl (pc' := 19) rfl ?_
        refine vv_iald cx _ (by decide) sh_13 hv dG_takeBack_19 (pc' := 20) rfl ?_
        refine vv_aload_n cx dG_takeBack_20 rfl rfl (pc' := 21) rfl ?_
        refine vv_iload_n cx dG_takeBack_21 rfl rfl (pc' := 22) rfl ?_
        refine vv_iald cx _ hkN (sh_row hkr.1 hkr.2) hv dG_takeBack_22 (pc' := 23) rfl ?_
        refine vv_iadd cx dG_takeBack_23 (pc' := 24) rfl ?_
        rw [hcl, hb1 i (by omega), hhi i (Nat.le_refl _), show h1 kr i = nI (a i) by rw [hb kr (by simp; omega)]; exact ha i (by omega), nI_add]
        refine vv_iast cx _ (by decide) sh_13 hv dG_takeBack_24 (pc' := 25) rfl ?_
        rw [hcl]
        refine vv_iinc cx dG_takeBack_25 rfl rfl (pc' := 28) rfl ?_
        refine vv_goto cx dG_takeBack_28 (tgt := 2) (by decide) ?_
        refine ih (i + 1) _ (va_up b i (lf i + a i)) _ (pq_nI1 hy) (by omega) (hb.trans (pq_but.up (by decide))) (hb1.put rfl) (fun j hj => ?_) (fun j hj => ?_)
        · by_cases e9 : j = i
          · subst e9; rw [va_up_self]
          · rw [va_up_ne _ _ e9]; exact hlo j (by omega)
        · rw [va_up_ne _ _ (by omega)]; exact hhi j (by omega)
  refine vv_iconst cx dG_takeBack_0 (v := 0) (by decide) (pc' := 1) rfl ?_
  refine vv_istore_n cx dG_takeBack_1 rfl (Nat.le_of_ble_eq_true rfl) (pc' := 2) rfl ?_
  exact loop n 0 _ lf _ nI_0.symm (by omega) pq_but.rfl' hl9 (fun j hj => absurd hj (by omega)) (fun j _ => rfl)
set_option maxRecDepth 100000 in
set_option maxHeartbeats 4000000 in
theorem tG_takeAsBest (l : Launch) (g : pq_G) (h : pq_H) (k : Nat) (hk : k ≤ 30) : XV l yG_takeAsBest wG_takeAsBest rG_takeAsBest g 0 0 [.ref (g.2.2 3), .int (nI k)] h (fun h9 => (∀ q, q ≠ 3 → ¬ (46 ≤ q ∧ q < 76) → h9 q = h q) ∧ (∀ j, j < k → ∀ i, i < 5 → h9 (46 + j) i = h (16 + j) i) ∧ h9 3 5 = nI k ∧ ∀ j, j ≠ 5 → h9 3 j = h 3 j) (pq_no) := by
  refine XV.of (cc := cG_takeAsBest) (maxL := 3) (ret := none) (by decide +kernel) (by simp [Value.category]) (Nat.le_of_ble_eq_true rfl) ?_
  intro p e s m below meth c cx hX hr hlocks hex
  have loop : ∀ (d i : Nat) (y : Int32) (h1 : pq_H), y = nI i → i + d = k → (∀ q, ¬ (46 ≤ q ∧ q < 76) → h1 q = h q) → (∀ j, j < i → ∀ x, x < 5 → h1 (46 + j) x = h (16 + j) x) → VV p l e rG_takeAsBest s m [.ref (g.2.2 3), .int (nI k)].toArray below meth c (vx_MQ below (pq_Qv g (fun h9 => (∀ q, q ≠ 3 → ¬ (46 ≤ q ∧ q < 76) → h9 q = h q) ∧ (∀ j, j < k → ∀ i, i < 5 → h9 (46 + j) i = h (16 + j) i) ∧ h9 3 5 = nI k ∧ ∀ j, j ≠ 5 → h9 3 j = h 3 j) s.heap.size) (pq_Qx g (pq_no) s.heap.size) [.ref (g.2.2 3), .int (nI k)].toArray s 0 0 (pq_A g s.heap.size)) g 0 0 h1 2 [some (.ref (g.2.2 3)), some (.int (nI k)), some (.int y)] [] := by
    intro d
    induction d with
    | zero =>
      intro i y h1 hy hi hb hc
      have e1 : i = k := by omega
      subst e1
      refine vv_iload_n cx dG_takeAsBest_2 rfl rfl (pc' := 3) rfl ?_
      refine vv_iload_n cx dG_takeAsBest_3 rfl rfl (pc' := 4) rfl ?_
      refine vv_icmp_ge cx dG_takeAsBest_4 (tgt := 37) (by decide) (pc' := 7) rfl (fun c4 => ?_) (fun c4 => ?_)
      · refine vv_aload_n cx dG_takeAsBest_37 rfl rfl (pc' := 38) rfl ?_
        refine vv_iload_n cx dG_takeAsBest_38 rfl rfl (pc' := 39) rfl ?_
        refine vv_putI cx (C := RG) (T := TG) (NN := 9) 3 5 (by decide) sh_3 rfl rfl (by decide) lyG tyG tyG_ok nmG rfl rfl rfl ww_91 dG_takeAsBest_39 (pc' := 42) rfl ?_
        refine vv_vret cx hr hlocks dG_takeAsBest_42 (Nat.le_of_ble_eq_true rfl) (Nat.le_of_ble_eq_true rfl) ?_
        refine ⟨fun q q1 q2 => ?_, fun j hj x hx => ?_, ?_, fun j hj => ?_⟩
        · rw [va_up_ne _ _ q1]; exact hb q q2
        · rw [va_up_ne _ _ (by omega)]; exact hc j hj x hx
        · rw [va_up_self, pk_us]
        · rw [va_up_self, pk_un hj, hb 3 (by decide)]
      · exact absurd (Int32.le_refl _) (by rw [hy] at c4; exact c4)
    | succ d ih =>
      intro i y h1 hy hi hb hc
      have hlt : i < k := by omega
      have hv : vp_in y 30 := by rw [hy]; exact vp_in_nI (by omega) (by decide)
      have hcl := pq_clN hy (show i < 1000 by omega)
      have r0 : 16 + i < pq_N := by show 16 + i < 125; omega
      have r1 : 46 + i < pq_N := by show 46 + i < 125; omega
      refine vv_iload_n cx dG_takeAsBest_2 rfl rfl (pc' := 3) rfl ?_
      refine vv_iload_n cx dG_takeAsBest_3 rfl rfl (pc' := 4) rfl ?_
      refine vv_icmp_ge cx dG_takeAsBest_4 (tgt := 37) (by decide) (pc' := 7) rfl (fun c4 => ?_) (fun c4 => ?_)
      · exact absurd (by rw [hy] at c4; exact c4) (nI_ge hlt (by omega))
      · refine vv_iload_n cx dG_takeAsBest_7 rfl rfl (pc' := 8) rfl ?_
        refine vv_bipush cx dG_takeAsBest_8 (v := 30) (by decide) (pc' := 10) rfl ?_
        refine vv_icmp_ge cx dG_takeAsBest_10 (tgt := 37) (by decide) (pc' := 13) rfl (fun c10 => ?_) (fun c10 => ?_)
        · exact absurd (by rw [hy] at c10; exact c10) (nI_ge (b := 30) (by omega) (by decide))
        · refine vv_aload_n cx dG_takeAsBest_13 rfl rfl (pc' := 14) rfl ?_
          refine vv_getR cx (C := RG) (T := TG) (NN := 9) 3 3 _ (by decide) sh_3 rfl rfl (by decide) lyG ww_88 dG_takeAsBest_14 (pc' := 17) rfl ?_
          refine vv_iload_n cx dG_takeAsBest_17 rfl rfl (pc' := 18) rfl ?_
          refine vv_aaldq cx _ (by decide) sh_5 (show 16 + y.toNatClampNeg = 16 + i by rw [hcl]) hv dG_takeAsBest_18 (pc' := 19) rfl ?_
          refine vv_iconst cx dG_takeAsBest_19 (v := 0) (by decide) (pc' := 20) rfl ?_
          refine vv_aload_n cx dG_takeAsBest_20 rfl rfl (pc' := 21) rfl ?_
          refine vv_getR cx (C := RG) (T := TG) (NN := 9) 3 4 _ (by decide) sh_3 rfl rfl (by decide) lyG ww_89 dG_takeAsBest_21 (pc' := 24) rfl ?_
          refine vv_iload_n cx dG_takeAsBest_24 rfl rfl (pc' := 25) rfl ?_
          refine vv_aaldq cx _ (by decide) sh_6 (show 46 + y.toNatClampNeg = 46 + i by rw [hcl]) hv dG_takeAsBest_25 (pc' := 26) rfl ?_
          refine vv_iconst cx dG_takeAsBest_26 (v := 0) (by decide) (pc' := 27) rfl ?_
          refine vv_iconst cx dG_takeAsBest_27 (v := 5) (by decide) (pc' := 28) rfl ?_
          refine vv_copy cx _ _ r0 r1 (sh_row (by omega) (by omega)) (sh_row (by omega) (by omega)) (by decide) (by decide) (by decide) (by decide) (by decide) ww_414 ww_192 ww_191 ww_14 (Nat.le_of_ble_eq_true rfl) (by decide) rfl dG_takeAsBest_28 (pc' := 31) rfl ?_
          refine vv_iinc cx dG_takeAsBest_31 rfl rfl (pc' := 34) rfl ?_
          refine vv_goto cx dG_takeAsBest_34 (tgt := 2) (by decide) ?_
          refine ih (i + 1) _ _ (pq_nI1 hy) (by omega) (fun q hq => ?_) (fun j hj x hx => ?_)
          · rw [va_up_ne _ _ (by omega)]; exact hb q hq
          · by_cases e9 : j = i
            · subst e9
              rw [va_up_self, pq_cpy5 hx, hb (16 + j) (by omega)]
            · rw [va_up_ne _ _ (by omega)]; exact hc j (by omega) x hx
  refine vv_iconst cx dG_takeAsBest_0 (v := 0) (by decide) (pc' := 1) rfl ?_
  refine vv_istore_n cx dG_takeAsBest_1 rfl (Nat.le_of_ble_eq_true rfl) (pc' := 2) rfl ?_
  exact loop k 0 _ _ nI_0.symm (by omega) (fun q _ => rfl) (fun j hj => absurd hj (by omega))
end
section
/-! part 12: Designing: opens, goesOn, run -/
theorem pq_top1 : ∀ n, n < 6 → (n = 0 ∧ (if nI n - 1 < nI n - 1 then nI n - 1 else nI n - 1) < 0) ∨ (0 < n ∧ (if nI n - 1 < nI n - 1 then nI n - 1 else nI n - 1) = nI (n - 1)) := by decide +kernel
theorem pq_up_bd {x W : Nat} : pq_up x W ≤ x := by
  unfold pq_up
  split
  · omega
  · rename_i h
    rcases Nat.eq_zero_or_pos x with q | q
    · subst q; rw [Nat.div_eq_of_lt (by omega)]; exact Nat.le_refl _
    · refine Nat.le_trans (Nat.div_le_div_right (c := W) (show x + W - 1 ≤ x * W by
        have h1 : W ≤ x * W := Nat.le_mul_of_pos_left W q
        have h2 : x ≤ x * W := Nat.le_mul_of_pos_right x (by omega)
        rcases Nat.eq_or_lt_of_le (show 1 ≤ x from q) with e1 | e1
        · rw [← e1]; omega
        · rcases Nat.eq_or_lt_of_le (show 1 ≤ W by omega) with e2 | e2
          · rw [← e2]; omega
          · have : x * W = (x - 1) * (W - 1) + x + W - 1 := by
              obtain ⟨a, rfl⟩ : ∃ a, x = a + 1 := ⟨x - 1, by omega⟩
              obtain ⟨b, rfl⟩ : ∃ b, W = b + 1 := ⟨W - 1, by omega⟩
              simp [Nat.add_mul, Nat.mul_add]
              omega
            omega)) ?_
      rw [Nat.mul_div_cancel _ (by omega)]
      exact Nat.le_refl _
theorem pq_wd_bd {n : Nat} {w a : Nat → Nat} (hn : n ≤ 5) (ha : ∀ i, i < n → a i ≤ 6) (hw : ∀ i, i < n → w i ≤ 1000) : pq_wd n w a ≤ 30000 :=
  Nat.le_trans (pq_sum_bd (B := 6000) (fun i hi => Nat.le_trans (Nat.mul_le_mul (ha i hi) (hw i hi)) (by decide))) (by omega)
theorem pq_wd_sub {n : Nat} {w a lf : Nat → Nat} (h : ∀ i, i < n → a i ≤ lf i) : pq_wd n w lf - pq_wd n w a = pq_wd n w (fun i => lf i - a i) ∧ pq_wd n w a ≤ pq_wd n w lf := by
  have h1 := pq_sum_sub (f := fun i => lf i * w i) (g := fun i => a i * w i) (n := n) (fun i hi => Nat.mul_le_mul_right _ (h i hi))
  have h2 : pq_sum (fun i => (lf i - a i) * w i) n = pq_sum (fun i => lf i * w i - a i * w i) n := pq_sum_congr (fun i _ => Nat.sub_mul _ _ _)
  constructor
  · show pq_sum (fun i => lf i * w i) n - pq_sum (fun i => a i * w i) n = pq_sum (fun i => (lf i - a i) * w i) n
    omega
  · show pq_sum (fun i => a i * w i) n ≤ pq_sum (fun i => lf i * w i) n
    omega
theorem pq_bsI_ne {b : Nat} (h : b ≤ 30) : ¬ nI b = -1 := by
  intro q
  have h1 : (nI b).toInt = (-1 : Int32).toInt := by rw [q]
  rw [nI_toInt (by omega)] at h1
  have h2 : (-1 : Int32).toInt = -1 := by decide
  omega
theorem pq_bsI_some {bs : Option Nat} (h : ¬ pq_bsI bs = -1) : ∃ b, bs = some b := by
  cases bs with
  | none => exact absurd rfl h
  | some b => exact ⟨b, rfl⟩
set_option maxRecDepth 100000 in
set_option maxHeartbeats 4000000 in
theorem tG_goesOn (l : Launch) (g : pq_G) (h : pq_H) {W n : Nat} {w nm pr : Nat → Nat} (kr : Nat) (a lf : Nat → Nat) (hkr : 16 ≤ kr ∧ kr < 116) (hs : pq_st h W n w nm pr) (ha : pq_row h kr a) (hl9 : pq_row h 13 lf) (hlf : ∀ i, i < 5 → lf i ≤ 6) (hpat : pq_pat W n w lf a) : XI l yG_goesOn wG_goesOn rG_goesOn g 0 0 [.ref (g.2.2 3), .ref (g.2.2 kr)] h (fun r h9 => (r = 1 ∧ ∃ b, pq_next W n w lf a (pq_low lf n) n = some b ∧ pq_only kr h h9 ∧ pq_row h9 kr b) ∨ (r = 0 ∧ pq_next W n w lf a (pq_low lf n) n = none ∧ h9 = h)) (pq_no) := by
  refine XI.of (cc := cG_goesOn) (maxL := 2) (ret := (some .boolean)) (by decide +kernel) (by simp [Value.category]) (Nat.le_of_ble_eq_true rfl) ?_
  intro p e s m below meth c cx hX hr hlocks hex
  have hn5 : n ≤ 5 := hs.2.1.2.2
  refine vv_aload_n cx dG_goesOn_0 rfl rfl (pc' := 1) rfl ?_
  refine vv_getR cx (C := RG) (T := TG) (NN := 9) 3 0 _ (by decide) sh_3 rfl rfl (by decide) lyG ww_85 dG_goesOn_1 (pc' := 4) rfl ?_
  refine vv_aload_n cx dG_goesOn_4 rfl rfl (pc' := 5) rfl ?_
  refine vv_aload_n cx dG_goesOn_5 rfl rfl (pc' := 6) rfl ?_
  refine vv_getR cx (C := RG) (T := TG) (NN := 9) 3 1 _ (by decide) sh_3 rfl rfl (by decide) lyG ww_86 dG_goesOn_6 (pc' := 9) rfl ?_
  refine vv_aload_n cx dG_goesOn_9 rfl rfl (pc' := 10) rfl ?_
  refine vv_getR cx (C := RG) (T := TG) (NN := 9) 3 0 _ (by decide) sh_3 rfl rfl (by decide) lyG ww_85 dG_goesOn_10 (pc' := 13) rfl ?_
  refine vv_getI cx (C := RS) (T := TS) (NN := 5) 1 1 (by decide) sh_1 rfl rfl (by decide) lyS ww_34 dG_goesOn_13 (pc' := 16) rfl ?_
  rw [hs.1.2.1]
  refine vv_iconst cx dG_goesOn_16 (v := 1) (by decide) (pc' := 17) rfl ?_
  refine vv_isub cx dG_goesOn_17 (pc' := 18) rfl ?_
  refine vv_aload_n cx dG_goesOn_18 rfl rfl (pc' := 19) rfl ?_
  refine cc_Vi cx hX (tG_lowestLeft l g h lf hs hl9 hlf) kG_lowestLeft ww_450 rfl rfl ⟨Nat.le_of_ble_eq_true rfl, Nat.le_of_ble_eq_true rfl⟩ 3 (by decide) sh_3 rfl rfl rfl rfl (Nat.le_of_ble_eq_true rfl) rfl ⟨Nat.le_of_ble_eq_true rfl, Nat.le_of_ble_eq_true rfl⟩ dG_goesOn_19 (pc' := 22) rfl (fun _ _ q => q.elim) (fun r19 h19 q19 => ?_)
  obtain ⟨rfl, hnd⟩ := q19
  refine cc_Vi cx hX (tS_nextPattern l g _ kr 13 a lf (nI n - 1) r19 (pq_low lf n) n (Or.inr hkr) (Or.inl ⟨by decide, by decide⟩) (by omega) (by omega) hs ha hl9 hpat hlf hnd (Nat.le_refl _) (pq_top1 n (by omega))) kS_nextPattern ww_454 rfl rfl ⟨Nat.le_of_ble_eq_true rfl, Nat.le_of_ble_eq_true rfl⟩ 1 (by decide) sh_1 rfl rfl rfl rfl (Nat.le_of_ble_eq_true rfl) rfl ⟨Nat.le_of_ble_eq_true rfl, Nat.le_of_ble_eq_true rfl⟩ dG_goesOn_22 (pc' := 25) rfl (fun _ _ q => q.elim) (fun r22 h22 q22 => ?_)
  refine vv_zret cx hr hlocks dG_goesOn_25 (by rcases q22 with q | q <;> rw [q.1] <;> rfl) (Nat.le_of_ble_eq_true rfl) (Nat.le_of_ble_eq_true rfl) ?_
  exact q22
set_option maxRecDepth 100000 in
set_option maxHeartbeats 4000000 in
theorem tG_opens (l : Launch) (g : pq_G) (h : pq_H) {W n : Nat} {w nm pr : Nat → Nat} (k : Nat) (lf : Nat → Nat) (bs : Option Nat) (sp st : Nat) (hs : pq_st h W n w nm pr) (hc : pq_cr h lf (pq_wd n w lf) bs sp st) (hlf : ∀ i, i < 5 → lf i ≤ 6) (hk : k ≤ 30) (hk30 : ¬ pq_wd n w lf = 0 → k < 30) (hb : ∀ b, bs = some b → b ≤ 30) (hz : pq_zs h n) : XI l yG_opens wG_opens rG_opens g 0 0 [.ref (g.2.2 3), .int (nI k)] h (fun r h9 => (r = 0 ∧ pq_boundb W n w lf k bs = true ∧ h9 = h) ∨ (r = 0 ∧ ¬ pq_boundb W n w lf k bs = true ∧ pq_wd n w lf = 0 ∧ pq_gb h h9 ∧ pq_cr h9 lf (pq_wd n w lf) (some k) sp st ∧ (∀ j, j < 30 → h9 (16 + j) = h (16 + j)) ∧ ∀ j, j < k → ∀ i, i < 5 → h9 (46 + j) i = h (16 + j) i) ∨ (r = 1 ∧ ¬ pq_boundb W n w lf k bs = true ∧ ¬ pq_wd n w lf = 0 ∧ pq_only (16 + k) h h9 ∧ pq_row h9 (16 + k) (pq_first W n w lf))) (pq_no) := by
  refine XI.of (cc := cG_opens) (maxL := 2) (ret := (some .boolean)) (by decide +kernel) (by simp [Value.category]) (Nat.le_of_ble_eq_true rfl) ?_
  intro p e s m below meth c cx hX hr hlocks hex
  have hn5 : n ≤ 5 := hs.2.1.2.2
  have hXb : pq_wd n w lf ≤ 30000 := pq_wd_bd hn5 (fun i hi => hlf i (by omega)) (fun i hi => (hs.2.2.1 i (by omega)).1)
  have hub : pq_up (pq_wd n w lf) W ≤ 30000 := Nat.le_trans pq_up_bd hXb
  obtain ⟨c1, c2, c3, c4, c5, c6⟩ := id hc
  have hgo : ¬ pq_boundb W n w lf k bs = true →  VV p l e rG_opens s m [.ref (g.2.2 3), .int (nI k)].toArray below meth c (vx_MQ below (pq_Qi g (fun r h9 => (r = 0 ∧ pq_boundb W n w lf k bs = true ∧ h9 = h) ∨ (r = 0 ∧ ¬ pq_boundb W n w lf k bs = true ∧ pq_wd n w lf = 0 ∧ pq_gb h h9 ∧ pq_cr h9 lf (pq_wd n w lf) (some k) sp st ∧ (∀ j, j < 30 → h9 (16 + j) = h (16 + j)) ∧ ∀ j, j < k → ∀ i, i < 5 → h9 (46 + j) i = h (16 + j) i) ∨ (r = 1 ∧ ¬ pq_boundb W n w lf k bs = true ∧ ¬ pq_wd n w lf = 0 ∧ pq_only (16 + k) h h9 ∧ pq_row h9 (16 + k) (pq_first W n w lf))) s.heap.size) (pq_Qx g (pq_no) s.heap.size) [.ref (g.2.2 3), .int (nI k)].toArray s 0 0 (pq_A g s.heap.size)) g 0 0 h 30 [some (.ref (g.2.2 3)), some (.int (nI k))] [] := by
    intro hnb
    refine vv_aload_n cx dG_opens_30 rfl rfl (pc' := 31) rfl ?_
    refine vv_getI cx (C := RG) (T := TG) (NN := 9) 3 2 (by decide) sh_3 rfl rfl (by decide) lyG ww_87 dG_opens_31 (pc' := 34) rfl ?_
    rw [c2]
    refine vv_if_ne cx dG_opens_34 (tgt := 44) (by decide) (pc' := 37) rfl (fun c34 => ?_) (fun c34 => ?_)
    · have hX0 : ¬ pq_wd n w lf = 0 := fun q => c34 (by rw [q]; rfl)
      have hkl := hk30 hX0
      obtain ⟨a0, ha0, hz0⟩ := hz k hkl
      have hv : vp_in (nI k) 30 := vp_in_nI hkl (by decide)
      refine vv_iload_n cx dG_opens_44 rfl rfl (pc' := 45) rfl ?_
      refine vv_bipush cx dG_opens_45 (v := 30) (by decide) (pc' := 47) rfl ?_
      refine vv_icmp_lt cx dG_opens_47 (tgt := 52) (by decide) (pc' := 50) rfl (fun c47 => ?_) (fun c47 => ?_)
      · refine vv_aload_n cx dG_opens_52 rfl rfl (pc' := 53) rfl ?_
        refine vv_getR cx (C := RG) (T := TG) (NN := 9) 3 0 _ (by decide) sh_3 rfl rfl (by decide) lyG ww_85 dG_opens_53 (pc' := 56) rfl ?_
        refine vv_aload_n cx dG_opens_56 rfl rfl (pc' := 57) rfl ?_
        refine vv_getR cx (C := RG) (T := TG) (NN := 9) 3 3 _ (by decide) sh_3 rfl rfl (by decide) lyG ww_88 dG_opens_57 (pc' := 60) rfl ?_
        refine vv_iload_n cx dG_opens_60 rfl rfl (pc' := 61) rfl ?_
        refine vv_aaldq cx _ (by decide) sh_5 (show 16 + (nI k).toNatClampNeg = 16 + k by rw [nI_clamp (by omega)]) hv dG_opens_61 (pc' := 62) rfl ?_
        refine vv_aload_n cx dG_opens_62 rfl rfl (pc' := 63) rfl ?_
        refine vv_getR cx (C := RG) (T := TG) (NN := 9) 3 1 _ (by decide) sh_3 rfl rfl (by decide) lyG ww_86 dG_opens_63 (pc' := 66) rfl ?_
        refine cc_Vv cx hX (tS_firstPattern l g h (16 + k) 13 a0 lf (Or.inr ⟨by omega, by omega⟩) (Or.inl ⟨by decide, by decide⟩) (by omega) (by omega) hs ha0 c1 hlf) kS_firstPattern ww_432 rfl rfl ⟨Nat.le_of_ble_eq_true rfl, Nat.le_of_ble_eq_true rfl⟩ 1 (by decide) sh_1 rfl rfl rfl rfl (Nat.le_of_ble_eq_true rfl) rfl ⟨Nat.le_of_ble_eq_true rfl, Nat.le_of_ble_eq_true rfl⟩ dG_opens_66 (pc' := 69) rfl (fun _ _ q => q.elim) (fun h66 q66 => ?_)
        refine vv_iconst cx dG_opens_69 (v := 1) (by decide) (pc' := 70) rfl ?_
        refine vv_zret cx hr hlocks dG_opens_70 rfl (Nat.le_of_ble_eq_true rfl) (Nat.le_of_ble_eq_true rfl) ?_
        exact Or.inr (Or.inr ⟨rfl, hnb, hX0, q66.1, fun i hi => by rw [q66.2 i hi, pq_fill_first hz0 i hi]⟩)
      · exact absurd (nI_lt (b := 30) hkl (by decide) : nI k < nI 30) c47
    · have hX0 : pq_wd n w lf = 0 := Decidable.byContradiction (fun q => nI_ne0 (Nat.pos_of_ne_zero q) (by omega) c34)
      refine vv_aload_n cx dG_opens_37 rfl rfl (pc' := 38) rfl ?_
      refine vv_iload_n cx dG_opens_38 rfl rfl (pc' := 39) rfl ?_
      refine cc_Vv cx hX (tG_takeAsBest l g h k hk) kG_takeAsBest ww_428 rfl rfl ⟨Nat.le_of_ble_eq_true rfl, Nat.le_of_ble_eq_true rfl⟩ 3 (by decide) sh_3 rfl rfl rfl rfl (Nat.le_of_ble_eq_true rfl) rfl ⟨Nat.le_of_ble_eq_true rfl, Nat.le_of_ble_eq_true rfl⟩ dG_opens_39 (pc' := 42) rfl (fun _ _ q => q.elim) (fun h39 q39 => ?_)
      obtain ⟨g1, g2, g3, g4⟩ := q39
      refine vv_iconst cx dG_opens_42 (v := 0) (by decide) (pc' := 43) rfl ?_
      refine vv_zret cx hr hlocks dG_opens_43 rfl (Nat.le_of_ble_eq_true rfl) (Nat.le_of_ble_eq_true rfl) ?_
      refine Or.inr (Or.inl ⟨rfl, hnb, hX0, fun q a1 a2 a3 => g1 q a1 (by omega), ⟨c1.of (g1 13 (by decide) (by decide)), ?_, g3, ?_, ?_, ?_⟩, fun j hj => g1 (16 + j) (by omega) (by omega), g2⟩)
      · rw [g4 2 (by decide)]; exact c2
      · rw [g4 6 (by decide)]; exact c4
      · rw [g4 7 (by decide)]; exact c5
      · rw [g4 8 (by decide)]; exact c6
  refine vv_aload_n cx dG_opens_0 rfl rfl (pc' := 1) rfl ?_
  refine vv_getI cx (C := RG) (T := TG) (NN := 9) 3 5 (by decide) sh_3 rfl rfl (by decide) lyG ww_91 dG_opens_1 (pc' := 4) rfl ?_
  refine vv_iconst cx dG_opens_4 (v := -1) (by decide) (pc' := 5) rfl ?_
  rw [c3]
  refine vv_icmp_eq cx dG_opens_5 (tgt := 30) (by decide) (pc' := 8) rfl (fun c5 => ?_) (fun c5 => ?_)
  · refine hgo ?_
    cases bs with
    | none => exact (fun q => nomatch q)
    | some b => exact absurd c5 (pq_bsI_ne (hb b rfl))
  · obtain ⟨b, rfl⟩ := pq_bsI_some c5
    have hb30 := hb b rfl
    refine vv_iload_n cx dG_opens_8 rfl rfl (pc' := 9) rfl ?_
    refine vv_aload_n cx dG_opens_9 rfl rfl (pc' := 10) rfl ?_
    refine vv_getR cx (C := RG) (T := TG) (NN := 9) 3 0 _ (by decide) sh_3 rfl rfl (by decide) lyG ww_85 dG_opens_10 (pc' := 13) rfl ?_
    refine vv_aload_n cx dG_opens_13 rfl rfl (pc' := 14) rfl ?_
    refine vv_getI cx (C := RG) (T := TG) (NN := 9) 3 2 (by decide) sh_3 rfl rfl (by decide) lyG ww_87 dG_opens_14 (pc' := 17) rfl ?_
    rw [c2]
    refine cc_Vi cx hX (tS_sheetsFor l g h (pq_wd n w lf) (by omega) hs) kS_sheetsFor ww_423 rfl rfl ⟨Nat.le_of_ble_eq_true rfl, Nat.le_of_ble_eq_true rfl⟩ 1 (by decide) sh_1 rfl rfl rfl rfl (Nat.le_of_ble_eq_true rfl) rfl ⟨Nat.le_of_ble_eq_true rfl, Nat.le_of_ble_eq_true rfl⟩ dG_opens_17 (pc' := 20) rfl (fun _ _ q => q.elim) (fun r17 h17 q17 => ?_)
    obtain ⟨rfl, rfl⟩ := q17
    refine vv_iadd cx dG_opens_20 (pc' := 21) rfl ?_
    refine vv_aload_n cx dG_opens_21 rfl rfl (pc' := 22) rfl ?_
    refine vv_getI cx (C := RG) (T := TG) (NN := 9) 3 5 (by decide) sh_3 rfl rfl (by decide) lyG ww_91 dG_opens_22 (pc' := 25) rfl ?_
    rw [c3, nI_add]
    refine vv_icmp_lt cx dG_opens_25 (tgt := 30) (by decide) (pc' := 28) rfl (fun c25 => ?_) (fun c25 => ?_)
    · exact hgo (fun q => nI_nlt (pq_boundb_iff.mp q) (by omega) c25)
    · refine vv_iconst cx dG_opens_28 (v := 0) (by decide) (pc' := 29) rfl ?_
      refine vv_zret cx hr hlocks dG_opens_29 rfl (Nat.le_of_ble_eq_true rfl) (Nat.le_of_ble_eq_true rfl) ?_
      exact Or.inl ⟨rfl, pq_boundb_iff.mpr (Nat.le_of_not_lt (fun q => c25 (nI_lt q (by omega)))), rfl⟩
end
section
/-! part 13: Designing.run follows the machine -/
theorem pq_open_b {W n : Nat} {w num : Nat → Nat} {k : Nat} {rows best : Nat → Nat → Nat} {bs : Option Nat} {st sp : Nat} (h : pq_boundb W n w (pq_L num rows k) k bs = true) : pq_open W n w num k rows bs best st sp = (1, k, rows, bs, best, st, sp) := if_pos h
theorem pq_open_z {W n : Nat} {w num : Nat → Nat} {k : Nat} {rows best : Nat → Nat → Nat} {bs : Option Nat} {st sp : Nat} (h : ¬ pq_boundb W n w (pq_L num rows k) k bs = true) (h0 : pq_wd n w (pq_L num rows k) = 0) : pq_open W n w num k rows bs best st sp = (1, k, rows, some k, rows, st, sp) := (if_neg h).trans (if_pos h0)
theorem pq_open_f {W n : Nat} {w num : Nat → Nat} {k : Nat} {rows best : Nat → Nat → Nat} {bs : Option Nat} {st sp : Nat} (h : ¬ pq_boundb W n w (pq_L num rows k) k bs = true) (h0 : ¬ pq_wd n w (pq_L num rows k) = 0) : pq_open W n w num k rows bs best st sp = (0, k, va_up rows k (pq_first W n w (pq_L num rows k)), bs, best, st, sp) := (if_neg h).trans (if_neg h0)
theorem pq_back_s {W n : Nat} {w num : Nat → Nat} {k : Nat} {rows best : Nat → Nat → Nat} {bs : Option Nat} {st sp : Nat} {b : Nat → Nat} (h : pq_next W n w (pq_L num rows k) (rows k) (pq_low (pq_L num rows k) n) n = some b) : pq_back W n w num k rows bs best st sp = (0, k, va_up rows k b, bs, best, st, sp) := by
  unfold pq_back; rw [h]
theorem pq_back_n {W n : Nat} {w num : Nat → Nat} {k : Nat} {rows best : Nat → Nat → Nat} {bs : Option Nat} {st sp : Nat} (h : pq_next W n w (pq_L num rows k) (rows k) (pq_low (pq_L num rows k) n) n = none) : pq_back W n w num k rows bs best st sp = (1, k, rows, bs, best, st, sp) := by
  unfold pq_back; rw [h]
theorem pq_stp0 {W n : Nat} {w num : Nat → Nat} {most k : Nat} {rows best : Nat → Nat → Nat} {bs : Option Nat} {st sp : Nat} (h : st < most) : pq_stp W n w num most (0, k, rows, bs, best, st, sp) = pq_open W n w num (k + 1) rows bs best (st + 1) sp := if_neg (by omega)
theorem pq_stp0e {W n : Nat} {w num : Nat → Nat} {most k : Nat} {rows best : Nat → Nat → Nat} {bs : Option Nat} {st sp : Nat} (h : most ≤ st) : pq_stp W n w num most (0, k, rows, bs, best, st, sp) = (2, k, rows, bs, best, st, 1) := if_pos h
/-- how a designing ends, in the class's cells -/
def pq_fin (h9 : pq_H) (W n : Nat) (w nm : Nat → Nat) (most : Nat) : Prop := ∃ (k : Nat) (rows best : Nat → Nat → Nat) (bs : Option Nat) (st sp : Nat), pq_reach W n w nm most (2, k, rows, bs, best, st, sp) ∧ h9 3 5 = pq_bsI bs ∧ h9 3 6 = 1 ∧ h9 3 7 = nI sp ∧ h9 3 8 = nI st ∧ ∀ b, bs = some b → b ≤ 30 ∧ (∀ j, j < b → pq_sm n (best j)) ∧ pq_rws h9 46 best b
theorem pq_L_hi {W n : Nat} {w num : Nat → Nat} (he : pq_env W n w num) {rows : Nat → Nat → Nat} {k i : Nat} (h : n ≤ i) (h5 : i < 5) : pq_L num rows k i = 0 := by
  have := he.2.2.1 i h h5
  have := pq_L_le (num := num) (rows := rows) (k := k) (i := i)
  omega
theorem pq_L_back {W n : Nat} {w num : Nat → Nat} (he : pq_env W n w num) {rows : Nat → Nat → Nat} {k : Nat} (h : pq_ok W n w num rows k) {i : Nat} (h5 : i < 5) : pq_L num rows (k + 1) i + rows k i = pq_L num rows k i := by
  rw [pq_L_succ]
  rcases Nat.lt_or_ge i n with q | q
  · have := h.1.1 i q; omega
  · rw [h.1.2.2 i q h5, pq_L_hi he q h5]
theorem pq_k_lt {W n : Nat} {w num : Nat → Nat} (he : pq_env W n w num) {rows : Nat → Nat → Nat} {k : Nat} (h : ∀ j, j < k → pq_ok W n w num rows j) (h0 : ¬ pq_wd n w (pq_L num rows k) = 0) : k < 30 := by
  have h1 := pq_tot h
  have h2 := he.tot
  obtain ⟨q1, q2, -⟩ := pq_low_of he h0
  have h3 := pq_sum_pos (f := pq_L num rows k) q1
  omega
theorem pq_ok_wd {W n : Nat} {w num : Nat → Nat} (he : pq_env W n w num) {rows : Nat → Nat → Nat} {k : Nat} (h : pq_ok W n w num rows k) : ¬ pq_wd n w (pq_L num rows k) = 0 := fun q => by
  have h1 := pq_wd_zero he.2.2.2.1 q _ h.2.1
  have h2 := h.1.1 _ h.2.1
  have h3 := h.2.2
  omega
set_option maxRecDepth 100000 in
set_option maxHeartbeats 4000000 in
theorem tG_run (l : Launch) (g : pq_G) (h : pq_H) {W n : Nat} {w nm pr : Nat → Nat} (most : Nat) (hs : pq_st h W n w nm pr) (he : pq_env W n w nm) (hm : most ≤ 100000) (hz : pq_zs h n) : XV l yG_run wG_run rG_run g 0 0 [.ref (g.2.2 3), .int (nI most)] h (fun h9 => pq_gb h h9 ∧ pq_zs h9 n ∧ pq_fin h9 W n w nm most) (pq_no) := by
  refine XV.of (cc := cG_run) (maxL := 5) (ret := none) (by decide +kernel) (by simp [Value.category]) (Nat.le_of_ble_eq_true rfl) ?_
  intro p e s m below meth c cx hX hr hlocks hex
  have hn5 : n ≤ 5 := hs.2.1.2.2
  have hL6 : ∀ (rows : Nat → Nat → Nat) (k i : Nat), i < 5 → pq_L nm rows k i ≤ 6 := fun rows k i hi => Nat.le_trans pq_L_le (he.2.1 i hi)
  have loop : ∀ (F tt mo k : Nat) (rows best : Nat → Nat → Nat) (bs : Option Nat) (st sp : Nat) (h1 : pq_H) (y2 y3 y4 : Int32), tt + F = 200002 → tt + k = 2 * st → st ≤ most → y2 = nI k → ((mo = 0 ∧ y3 = 1 ∧ pq_rws h1 16 rows (k + 1)) ∨ (mo = 1 ∧ y3 = 0 ∧ pq_rws h1 16 rows k)) → y4 = nI tt → pq_reach W n w nm most (mo, k, rows, bs, best, st, sp) → pq_inv W n w nm (mo, k, rows, bs, best, st, sp) → pq_gb h h1 → pq_cr h1 (pq_L nm rows k) (pq_wd n w (pq_L nm rows k)) bs sp st → pq_zs h1 n → (∀ b, bs = some b → pq_rws h1 46 best b) → VV p l e rG_run s m [.ref (g.2.2 3), .int (nI most)].toArray below meth c (vx_MQ below (pq_Qv g (fun h9 => pq_gb h h9 ∧ pq_zs h9 n ∧ pq_fin h9 W n w nm most) s.heap.size) (pq_Qx g (pq_no) s.heap.size) [.ref (g.2.2 3), .int (nI most)].toArray s 0 0 (pq_A g s.heap.size)) g 0 0 h1 48 [some (.ref (g.2.2 3)), some (.int (nI most)), some (.int y2), some (.int y3), some (.int y4)] [] := by
    intro F
    induction F with
    | zero =>
      intro tt mo k rows best bs st sp h1 y2 y3 y4 h2 h3 h4
      exact absurd h2 (by omega)
    | succ F ih =>
      intro tt mo k rows best bs st sp h1 y2 y3 y4 hF htt hst hy2 hmo hy4 hre hin hgb hcr hzs hbest
      have hs1 := hs.gb hgb
      obtain ⟨c1, c2, c3, c4, c5, c6⟩ := id hcr
      have h52 : ¬ (200002 : Int32) ≤ y4 := by rw [hy4]; exact (nI_ge (b := 200002) (by omega) (by decide) : ¬ nI 200002 ≤ nI tt)
      have hk30 : k ≤ 30 := by have := pq_tot hin.1; have := he.tot; omega
      have hb30 : ∀ b, bs = some b → b ≤ 30 := fun b q => (hin.2.2 b q).1
      rcases hmo with ⟨rfl, rfl, hrws⟩ | ⟨rfl, rfl, hrws⟩
      · refine vv_iload cx dG_run_48 rfl (pc' := 50) rfl ?_
        refine vv_ldc cx (v := 200002) dG_run_50 ww_433 (pc' := 52) rfl ?_
        refine vv_icmp_ge cx dG_run_52 (tgt := 140) (by decide) (pc' := 55) rfl (fun c52 => ?_) (fun c52 => ?_)
        · exact absurd c52 h52
        · refine vv_iload_n cx dG_run_55 rfl rfl (pc' := 56) rfl ?_
          refine vv_if_eq cx dG_run_56 (tgt := 105) (by decide) (pc' := 59) rfl (fun c56 => ?_) (fun c56 => ?_)
          · exact absurd c56 (by decide)
          · have hokk := hin.2.1 rfl
            have hk29 : k < 30 := pq_k_lt he hin.1 (pq_ok_wd he hokk)
            have hv2 : vp_in y2 30 := by rw [hy2]; exact vp_in_nI hk29 (by decide)
            have hcl2 := pq_clN hy2 (show k < 1000 by omega)
            have hin1 : ∀ j, j < k + 1 → pq_ok W n w nm rows j := fun j hj => (Nat.lt_or_ge j k).elim (hin.1 j) (fun q => by rw [show j = k by omega]; exact hokk)
            have hws := pq_wd_sub (w := w) hokk.1.1
            have hLe : pq_wd n w (fun i => pq_L nm rows k i - rows k i) = pq_wd n w (pq_L nm rows (k + 1)) := pq_sum_congr (fun i _ => by rw [pq_L_succ])
            refine vv_aload_n cx dG_run_59 rfl rfl (pc' := 60) rfl ?_
            refine vv_getI cx (C := RG) (T := TG) (NN := 9) 3 8 (by decide) sh_3 rfl rfl (by decide) lyG ww_97 dG_run_60 (pc' := 63) rfl ?_
            refine vv_iload_n cx dG_run_63 rfl rfl (pc' := 64) rfl ?_
            rw [c6]
            refine vv_icmp_lt cx dG_run_64 (tgt := 73) (by decide) (pc' := 67) rfl (fun c64 => ?_) (fun c64 => ?_)
            · have hms : st < most := Nat.lt_of_not_le (fun q => nI_nlt q (by omega) c64)
              refine vv_aload_n cx dG_run_73 rfl rfl (pc' := 74) rfl ?_
              refine vv_dup cx dG_run_74 rfl (pc' := 75) rfl ?_
              refine vv_getI cx (C := RG) (T := TG) (NN := 9) 3 8 (by decide) sh_3 rfl rfl (by decide) lyG ww_97 dG_run_75 (pc' := 78) rfl ?_
              refine vv_iconst cx dG_run_78 (v := 1) (by decide) (pc' := 79) rfl ?_
              refine vv_iadd cx dG_run_79 (pc' := 80) rfl ?_
              rw [c6, nI_1]
              refine vv_putI cx (C := RG) (T := TG) (NN := 9) 3 8 (by decide) sh_3 rfl rfl (by decide) lyG tyG tyG_ok nmG rfl rfl rfl ww_97 dG_run_80 (pc' := 83) rfl ?_
              have hs2 := hs1.but (L := [3]) (pq_but.up (h := h1) (k := 3) (f := upd (h1 3) 8 (nI (st + 1))) (by decide)) (by decide)
              refine vv_aload_n cx dG_run_83 rfl rfl (pc' := 84) rfl ?_
              refine vv_aload_n cx dG_run_84 rfl rfl (pc' := 85) rfl ?_
              refine vv_getR cx (C := RG) (T := TG) (NN := 9) 3 3 _ (by decide) sh_3 rfl rfl (by decide) lyG ww_88 dG_run_85 (pc' := 88) rfl ?_
              refine vv_iload_n cx dG_run_88 rfl rfl (pc' := 89) rfl ?_
              refine vv_aaldq cx _ (by decide) sh_5 (show 16 + y2.toNatClampNeg = 16 + k by rw [hcl2]) hv2 dG_run_89 (pc' := 90) rfl ?_
              refine cc_Vv cx hX (tG_lay l g _ (16 + k) (pq_wd n w (pq_L nm rows k)) (rows k) (pq_L nm rows k) ⟨by omega, by omega⟩ hs2 ((hrws k (by omega)).of (va_up_ne _ _ (by omega))) (c1.of (va_up_ne _ _ (by decide))) (by rw [va_up_self, pk_un (by decide)]; exact c2) hokk.1.2.2 hokk.1.1 hws.2) kG_lay ww_434 rfl rfl ⟨Nat.le_of_ble_eq_true rfl, Nat.le_of_ble_eq_true rfl⟩ 3 (by decide) sh_3 rfl rfl rfl rfl (Nat.le_of_ble_eq_true rfl) rfl ⟨Nat.le_of_ble_eq_true rfl, Nat.le_of_ble_eq_true rfl⟩ dG_run_90 (pc' := 93) rfl (fun _ _ q => q.elim) (fun h90 q90 => ?_)
              obtain ⟨g1, g2, g3, g4⟩ := q90
              have hs90 := hs2.but g1 (by decide)
              have hgb90 : pq_gb h h90 := hgb.trans (pq_but.gb ((pq_but.up (by decide)).trans g1))
              have hrow90 : ∀ q, q ≠ 3 → q ≠ 13 → h90 q = h1 q := fun q q1 q2 => (g1 q (by simp [q1, q2])).trans (va_up_ne _ _ q1)
              have hcr90 : pq_cr h90 (pq_L nm rows (k + 1)) (pq_wd n w (pq_L nm rows (k + 1))) bs sp (st + 1) := ⟨fun i hi => by rw [g2 i hi, pq_L_succ], by rw [g3, hws.1, hLe], by rw [g4 5 (by decide), va_up_self, pk_un (by decide)]; exact c3, by rw [g4 6 (by decide), va_up_self, pk_un (by decide)]; exact c4, by rw [g4 7 (by decide), va_up_self, pk_un (by decide)]; exact c5, by rw [g4 8 (by decide), va_up_self, pk_us]⟩
              have hzs90 : pq_zs h90 n := hzs.of (fun j hj => hrow90 (16 + j) (by omega) (by omega))
              have hrws90 : pq_rws h90 16 rows (k + 1) := hrws.of (fun j hj => hrow90 (16 + j) (by omega) (by omega))
              have hre2 := hre.stp
              have hin2 := pq_inv_stp (most := most) he hin
              rw [pq_stp0 hms] at hre2 hin2
              refine vv_iinc cx dG_run_93 rfl rfl (pc' := 96) rfl ?_
              refine vv_aload_n cx dG_run_96 rfl rfl (pc' := 97) rfl ?_
              refine vv_iload_n cx dG_run_97 rfl rfl (pc' := 98) rfl ?_
              rw [pq_nI1 hy2]
              refine cc_Vi cx hX (tG_opens l g h90 (k + 1) (pq_L nm rows (k + 1)) bs sp (st + 1) hs90 hcr90 (fun i hi => hL6 rows (k + 1) i hi) (by omega) (pq_k_lt he hin1) hb30 hzs90) kG_opens ww_419 rfl rfl ⟨Nat.le_of_ble_eq_true rfl, Nat.le_of_ble_eq_true rfl⟩ 3 (by decide) sh_3 rfl rfl rfl rfl (Nat.le_of_ble_eq_true rfl) rfl ⟨Nat.le_of_ble_eq_true rfl, Nat.le_of_ble_eq_true rfl⟩ dG_run_98 (pc' := 101) rfl (fun _ _ q => q.elim) (fun r98 h98 q98 => ?_)
              refine vv_istore_n cx dG_run_101 rfl (Nat.le_of_ble_eq_true rfl) (pc' := 102) rfl ?_
              refine vv_goto cx dG_run_102 (tgt := 134) (by decide) ?_
              refine vv_iinc cx dG_run_134 rfl rfl (pc' := 137) rfl ?_
              refine vv_goto cx dG_run_137 (tgt := 48) (by decide) ?_
              rcases q98 with ⟨rfl, b1, rfl⟩ | ⟨rfl, b1, b2, b3, b4, b5, b6⟩ | ⟨rfl, b1, b2, b3, b4⟩
              · rw [pq_open_b b1] at hre2 hin2
                exact ih (tt + 1) 1 (k + 1) rows best bs (st + 1) sp _ _ _ _ (by omega) (by omega) (by omega) rfl (Or.inr ⟨rfl, rfl, hrws90⟩) (pq_nI1 hy4) hre2 hin2 hgb90 hcr90 hzs90 (fun b q => (hbest b q).of (fun j hj => hrow90 (46 + j) (by omega) (by omega)))
              · rw [pq_open_z b1 b2] at hre2 hin2
                exact ih (tt + 1) 1 (k + 1) rows rows (some (k + 1)) (st + 1) sp _ _ _ _ (by omega) (by omega) (by omega) rfl (Or.inr ⟨rfl, rfl, hrws90.of (fun j hj => b5 j (by omega))⟩) (pq_nI1 hy4) hre2 hin2 (hgb90.trans b3) b4 (hzs90.of (fun j hj => b5 j hj)) (fun b q => by cases q; exact fun j hj i hi => by rw [b6 j hj i hi]; exact hrws90 j hj i hi)
              · rw [pq_open_f b1 b2] at hre2 hin2
                have hk1 : k + 1 < 30 := pq_k_lt he hin1 b2
                refine ih (tt + 1) 0 (k + 1) (va_up rows (k + 1) (pq_first W n w (pq_L nm rows (k + 1)))) best bs (st + 1) sp _ _ _ _ (by omega) (by omega) (by omega) rfl (Or.inl ⟨rfl, rfl, fun j hj => ?_⟩) (pq_nI1 hy4) hre2 hin2 (hgb90.trans (b3.gb ⟨by omega, by omega⟩)) ?_ (fun j hj => ?_) (fun b q => (hbest b q).of (fun j hj => (b3 (46 + j) (by omega)).trans (hrow90 (46 + j) (by omega) (by omega))))
                · by_cases e9 : j = k + 1
                  · subst e9; rw [va_up_self]; exact b4
                  · rw [va_up_ne _ _ e9]; exact (hrws90 j (by omega)).of (b3 (16 + j) (by omega))
                · rw [pq_L_up (Nat.le_refl _)]
                  obtain ⟨d1, d2, d3, d4, d5, d6⟩ := hcr90
                  exact ⟨d1.of (b3 13 (by omega)), by rw [b3 3 (by omega)]; exact d2, by rw [b3 3 (by omega)]; exact d3, by rw [b3 3 (by omega)]; exact d4, by rw [b3 3 (by omega)]; exact d5, by rw [b3 3 (by omega)]; exact d6⟩
                · by_cases e9 : j = k + 1
                  · subst e9; exact ⟨_, b4, pq_first_pat.2.2⟩
                  · exact (hzs90 j hj).of (b3 (16 + j) (by omega))
            · have hms : most ≤ st := Nat.le_of_not_lt (fun q => c64 (nI_lt q (by omega)))
              refine vv_aload_n cx dG_run_67 rfl rfl (pc' := 68) rfl ?_
              refine vv_iconst cx dG_run_68 (v := 1) (by decide) (pc' := 69) rfl ?_
              refine vv_putI cx (C := RG) (T := TG) (NN := 9) 3 7 (by decide) sh_3 rfl rfl (by decide) lyG tyG tyG_ok nmG rfl rfl rfl ww_95 dG_run_69 (pc' := 72) rfl ?_
              refine vv_vret cx hr hlocks dG_run_72 (Nat.le_of_ble_eq_true rfl) (Nat.le_of_ble_eq_true rfl) ?_
              refine ⟨hgb.trans (pq_but.gb (pq_but.up (by decide))), hzs.of (fun j hj => va_up_ne _ _ (by omega)), k, rows, best, bs, st, 1, ?_, ?_, ?_, ?_, ?_, fun b q => ⟨(hin.2.2 b q).1, (hin.2.2 b q).2, (hbest b q).of (fun j hj => va_up_ne _ _ (by omega))⟩⟩
              · have := hre.stp
                rw [pq_stp0e hms] at this
                exact this
              · rw [va_up_self, pk_un (by decide)]; exact c3
              · rw [va_up_self, pk_un (by decide)]; exact c4
              · rw [va_up_self, pk_us]; rfl
              · rw [va_up_self, pk_un (by decide)]; exact c6
      · refine vv_iload cx dG_run_48 rfl (pc' := 50) rfl ?_
        refine vv_ldc cx (v := 200002) dG_run_50 ww_433 (pc' := 52) rfl ?_
        refine vv_icmp_ge cx dG_run_52 (tgt := 140) (by decide) (pc' := 55) rfl (fun c52 => ?_) (fun c52 => ?_)
        · exact absurd c52 h52
        · refine vv_iload_n cx dG_run_55 rfl rfl (pc' := 56) rfl ?_
          refine vv_if_eq cx dG_run_56 (tgt := 105) (by decide) (pc' := 59) rfl (fun c56 => ?_) (fun c56 => ?_)
          · refine vv_iload_n cx dG_run_105 rfl rfl (pc' := 106) rfl ?_
            refine vv_if_gt cx dG_run_106 (tgt := 110) (by decide) (pc' := 109) rfl (fun c106 => ?_) (fun c106 => ?_)
            · have hkp : 0 < k := by rw [hy2] at c106; exact pq_pos c106
              obtain ⟨k, rfl⟩ : ∃ k9, k = k9 + 1 := ⟨k - 1, by omega⟩
              have hokk := hin.1 k (by omega)
              have hv2 : vp_in (nI k) 30 := vp_in_nI (by omega) (by decide)
              have hws := pq_wd_sub (w := w) hokk.1.1
              have hLe : pq_wd n w (fun i => pq_L nm rows k i - rows k i) = pq_wd n w (pq_L nm rows (k + 1)) := pq_sum_congr (fun i _ => by rw [pq_L_succ])
              refine vv_iinc cx dG_run_110 rfl (pq_nIm hy2) (pc' := 113) rfl ?_
              refine vv_aload_n cx dG_run_113 rfl rfl (pc' := 114) rfl ?_
              refine vv_aload_n cx dG_run_114 rfl rfl (pc' := 115) rfl ?_
              refine vv_getR cx (C := RG) (T := TG) (NN := 9) 3 3 _ (by decide) sh_3 rfl rfl (by decide) lyG ww_88 dG_run_115 (pc' := 118) rfl ?_
              refine vv_iload_n cx dG_run_118 rfl rfl (pc' := 119) rfl ?_
              refine vv_aaldq cx _ (by decide) sh_5 (show 16 + (nI k).toNatClampNeg = 16 + k by rw [nI_clamp (by omega)]) hv2 dG_run_119 (pc' := 120) rfl ?_
              refine cc_Vv cx hX (tG_takeBack l g h1 (16 + k) (pq_wd n w (pq_L nm rows (k + 1))) (rows k) (pq_L nm rows (k + 1)) ⟨by omega, by omega⟩ hs1 (hrws k (by omega)) c1 c2 hokk.1.2.2) kG_takeBack ww_442 rfl rfl ⟨Nat.le_of_ble_eq_true rfl, Nat.le_of_ble_eq_true rfl⟩ 3 (by decide) sh_3 rfl rfl rfl rfl (Nat.le_of_ble_eq_true rfl) rfl ⟨Nat.le_of_ble_eq_true rfl, Nat.le_of_ble_eq_true rfl⟩ dG_run_120 (pc' := 123) rfl (fun _ _ q => q.elim) (fun h120 q120 => ?_)
              obtain ⟨g1, g2, g3, g4⟩ := q120
              have hs120 := hs1.but g1 (by decide)
              have hgb120 : pq_gb h h120 := hgb.trans (pq_but.gb g1)
              have hrow120 : ∀ q, q ≠ 3 → q ≠ 13 → h120 q = h1 q := fun q q1 q2 => g1 q (by simp [q1, q2])
              have hcr120 : pq_cr h120 (pq_L nm rows k) (pq_wd n w (pq_L nm rows k)) bs sp st := ⟨fun i hi => (g2 i hi).trans (congrArg nI (pq_L_back he hokk hi)), by rw [g3, ← hLe, ← hws.1, Nat.sub_add_cancel hws.2], by rw [g4 5 (by decide)]; exact c3, by rw [g4 6 (by decide)]; exact c4, by rw [g4 7 (by decide)]; exact c5, by rw [g4 8 (by decide)]; exact c6⟩
              have hzs120 : pq_zs h120 n := hzs.of (fun j hj => hrow120 (16 + j) (by omega) (by omega))
              have hrws120 : pq_rws h120 16 rows (k + 1) := hrws.of (fun j hj => hrow120 (16 + j) (by omega) (by omega))
              have hre2 : pq_reach W n w nm most (pq_back W n w nm k rows bs best st sp) := hre.stp
              have hin2 : pq_inv W n w nm (pq_back W n w nm k rows bs best st sp) := pq_inv_stp (most := most) he hin
              refine vv_aload_n cx dG_run_123 rfl rfl (pc' := 124) rfl ?_
              refine vv_aload_n cx dG_run_124 rfl rfl (pc' := 125) rfl ?_
              refine vv_getR cx (C := RG) (T := TG) (NN := 9) 3 3 _ (by decide) sh_3 rfl rfl (by decide) lyG ww_88 dG_run_125 (pc' := 128) rfl ?_
              refine vv_iload_n cx dG_run_128 rfl rfl (pc' := 129) rfl ?_
              refine vv_aaldq cx _ (by decide) sh_5 (show 16 + (nI k).toNatClampNeg = 16 + k by rw [nI_clamp (by omega)]) hv2 dG_run_129 (pc' := 130) rfl ?_
              refine cc_Vi cx hX (tG_goesOn l g h120 (16 + k) (rows k) (pq_L nm rows k) ⟨by omega, by omega⟩ hs120 (hrws120 k (by omega)) hcr120.1 (fun i hi => hL6 rows k i hi) hokk.1) kG_goesOn ww_446 rfl rfl ⟨Nat.le_of_ble_eq_true rfl, Nat.le_of_ble_eq_true rfl⟩ 3 (by decide) sh_3 rfl rfl rfl rfl (Nat.le_of_ble_eq_true rfl) rfl ⟨Nat.le_of_ble_eq_true rfl, Nat.le_of_ble_eq_true rfl⟩ dG_run_130 (pc' := 133) rfl (fun _ _ q => q.elim) (fun r130 h130 q130 => ?_)
              refine vv_istore_n cx dG_run_133 rfl (Nat.le_of_ble_eq_true rfl) (pc' := 134) rfl ?_
              refine vv_iinc cx dG_run_134 rfl rfl (pc' := 137) rfl ?_
              refine vv_goto cx dG_run_137 (tgt := 48) (by decide) ?_
              rcases q130 with ⟨rfl, b, b1, b3, b4⟩ | ⟨rfl, b1, rfl⟩
              · rw [pq_back_s b1] at hre2 hin2
                refine ih (tt + 1) 0 k (va_up rows k b) best bs st sp _ _ _ _ (by omega) (by omega) hst rfl (Or.inl ⟨rfl, rfl, fun j hj => ?_⟩) (pq_nI1 hy4) hre2 hin2 (hgb120.trans (b3.gb ⟨by omega, by omega⟩)) ?_ (fun j hj => ?_) (fun b q => (hbest b q).of (fun j hj => (b3 (46 + j) (by omega)).trans (hrow120 (46 + j) (by omega) (by omega))))
                · by_cases e9 : j = k
                  · subst e9; rw [va_up_self]; exact b4
                  · rw [va_up_ne _ _ e9]; exact (hrws120 j (by omega)).of (b3 (16 + j) (by omega))
                · rw [pq_L_up (Nat.le_refl _)]
                  obtain ⟨d1, d2, d3, d4, d5, d6⟩ := hcr120
                  exact ⟨d1.of (b3 13 (by omega)), by rw [b3 3 (by omega)]; exact d2, by rw [b3 3 (by omega)]; exact d3, by rw [b3 3 (by omega)]; exact d4, by rw [b3 3 (by omega)]; exact d5, by rw [b3 3 (by omega)]; exact d6⟩
                · by_cases e9 : j = k
                  · subst e9; exact ⟨_, b4, (pq_next_pat hokk.1 (Nat.le_refl _) b1).2.2⟩
                  · exact (hzs120 j hj).of (b3 (16 + j) (by omega))
              · rw [pq_back_n b1] at hre2 hin2
                exact ih (tt + 1) 1 k rows best bs st sp _ _ _ _ (by omega) (by omega) hst rfl (Or.inr ⟨rfl, rfl, fun j hj => hrws120 j (by omega)⟩) (pq_nI1 hy4) hre2 hin2 hgb120 hcr120 hzs120 (fun b q => (hbest b q).of (fun j hj => hrow120 (46 + j) (by omega) (by omega)))
            · refine vv_vret cx hr hlocks dG_run_109 (Nat.le_of_ble_eq_true rfl) (Nat.le_of_ble_eq_true rfl) ?_
              have hk0 : k = 0 := Nat.eq_zero_of_not_pos (fun q => c106 (by rw [hy2]; exact nI_lt q (by omega)))
              subst hk0
              refine ⟨hgb, hzs, 0, rows, best, bs, st, sp, ?_, c3, c4, c5, c6, fun b q => ⟨(hin.2.2 b q).1, (hin.2.2 b q).2, hbest b q⟩⟩
              exact hre.stp
          · exact absurd rfl c56
  refine vv_aload_n cx dG_run_0 rfl rfl (pc' := 1) rfl ?_
  refine cc_Vv cx hX (tG_forget l g h) kG_forget ww_413 rfl rfl ⟨Nat.le_of_ble_eq_true rfl, Nat.le_of_ble_eq_true rfl⟩ 3 (by decide) sh_3 rfl rfl rfl rfl (Nat.le_of_ble_eq_true rfl) rfl ⟨Nat.le_of_ble_eq_true rfl, Nat.le_of_ble_eq_true rfl⟩ dG_run_1 (pc' := 4) rfl (fun _ _ q => q.elim) (fun h1 q1 => ?_)
  obtain ⟨f1, f5, f6, f7, f8⟩ := q1
  refine vv_aload_n cx dG_run_4 rfl rfl (pc' := 5) rfl ?_
  refine vv_iconst cx dG_run_5 (v := 1) (by decide) (pc' := 6) rfl ?_
  refine vv_putI cx (C := RG) (T := TG) (NN := 9) 3 6 (by decide) sh_3 rfl rfl (by decide) lyG tyG tyG_ok nmG rfl rfl rfl ww_93 dG_run_6 (pc' := 9) rfl ?_
  have hst1 : pq_st (va_up h1 3 (upd (h1 3) 6 1)) W n w nm pr := (hs.but (f1.but (L := [3]) (by decide)) (by decide)).but (L := [3]) (pq_but.up (by decide)) (by decide)
  refine vv_aload_n cx dG_run_9 rfl rfl (pc' := 10) rfl ?_
  refine vv_getR cx (C := RG) (T := TG) (NN := 9) 3 0 _ (by decide) sh_3 rfl rfl (by decide) lyG ww_85 dG_run_10 (pc' := 13) rfl ?_
  refine vv_getR cx (C := RS) (T := TS) (NN := 5) 1 3 _ (by decide) sh_1 rfl rfl (by decide) lyS ww_38 dG_run_13 (pc' := 16) rfl ?_
  refine vv_iconst cx dG_run_16 (v := 0) (by decide) (pc' := 17) rfl ?_
  refine vv_aload_n cx dG_run_17 rfl rfl (pc' := 18) rfl ?_
  refine vv_getR cx (C := RG) (T := TG) (NN := 9) 3 1 _ (by decide) sh_3 rfl rfl (by decide) lyG ww_86 dG_run_18 (pc' := 21) rfl ?_
  refine vv_iconst cx dG_run_21 (v := 0) (by decide) (pc' := 22) rfl ?_
  refine vv_iconst cx dG_run_22 (v := 5) (by decide) (pc' := 23) rfl ?_
  refine vv_copy cx _ _ (by decide) (by decide) rfl rfl (by decide) (by decide) (by decide) (by decide) (by decide) ww_414 ww_192 ww_191 ww_14 (Nat.le_of_ble_eq_true rfl) (by decide) rfl dG_run_23 (pc' := 26) rfl ?_
  refine vv_aload_n cx dG_run_26 rfl rfl (pc' := 27) rfl ?_
  refine vv_aload_n cx dG_run_27 rfl rfl (pc' := 28) rfl ?_
  refine vv_getR cx (C := RG) (T := TG) (NN := 9) 3 0 _ (by decide) sh_3 rfl rfl (by decide) lyG ww_85 dG_run_28 (pc' := 31) rfl ?_
  generalize hg2 : va_up (va_up h1 3 (upd (h1 3) 6 1)) 13 _ = h2
  have hb2 : pq_but [3, 13] h h2 := by rw [← hg2]; exact ((f1.but (by decide)).trans (pq_but.up (by decide))).trans (pq_but.up (by decide))
  have hs2 := hs.but hb2 (by decide)
  have h213 : pq_row h2 13 nm := fun i hi => by rw [← hg2, va_up_self, pq_cpy5 hi]; exact hst1.1.2.2.2.1 i hi
  have h23 : h2 3 = upd (h1 3) 6 1 := by rw [← hg2, va_up_ne _ _ (by decide), va_up_self]
  refine cc_Vi cx hX (tS_widthOfAll l g h2 hs2) kS_widthOfAll ww_415 rfl rfl ⟨Nat.le_of_ble_eq_true rfl, Nat.le_of_ble_eq_true rfl⟩ 1 (by decide) sh_1 rfl rfl rfl rfl (Nat.le_of_ble_eq_true rfl) rfl ⟨Nat.le_of_ble_eq_true rfl, Nat.le_of_ble_eq_true rfl⟩ dG_run_31 (pc' := 34) rfl (fun _ _ q => q.elim) (fun r31 h31 q31 => ?_)
  obtain ⟨rfl, rfl⟩ := q31
  refine vv_putI cx (C := RG) (T := TG) (NN := 9) 3 2 (by decide) sh_3 rfl rfl (by decide) lyG tyG tyG_ok nmG rfl rfl rfl ww_87 dG_run_34 (pc' := 37) rfl ?_
  refine vv_iconst cx dG_run_37 (v := 0) (by decide) (pc' := 38) rfl ?_
  refine vv_istore_n cx dG_run_38 rfl (Nat.le_of_ble_eq_true rfl) (pc' := 39) rfl ?_
  refine vv_aload_n cx dG_run_39 rfl rfl (pc' := 40) rfl ?_
  refine vv_iload_n cx dG_run_40 rfl rfl (pc' := 41) rfl ?_
  have hc0 : pq_cr (va_up h31 3 (upd (h31 3) 2 (nI (pq_sum (fun i => nm i * w i) n)))) (pq_L nm (fun _ _ => 0) 0) (pq_wd n w (pq_L nm (fun _ _ => 0) 0)) none 0 0 := ⟨h213.of (va_up_ne _ _ (by decide)), by rw [va_up_self, pk_us]; rfl, by rw [va_up_self, pk_un (by decide), h23, pk_un (by decide)]; exact f5, by rw [va_up_self, pk_un (by decide), h23, pk_us], by rw [va_up_self, pk_un (by decide), h23, pk_un (by decide), f7]; rfl, by rw [va_up_self, pk_un (by decide), h23, pk_un (by decide), f8]; rfl⟩
  have hb0 : pq_but [3, 13] h (va_up h31 3 (upd (h31 3) 2 (nI (pq_sum (fun i => nm i * w i) n)))) := hb2.trans (pq_but.up (by decide))
  have hz0 : pq_zs (va_up h31 3 (upd (h31 3) 2 (nI (pq_sum (fun i => nm i * w i) n)))) n := hz.of (fun j hj => hb0 (16 + j) (by simp; omega))
  have hre0 : pq_reach W n w nm most (pq_open W n w nm 0 (fun _ _ => 0) none (fun _ _ => 0) 0 0) := ⟨0, rfl⟩
  have hin0 : pq_inv W n w nm (pq_open W n w nm 0 (fun _ _ => 0) none (fun _ _ => 0) 0 0) := pq_inv_start he
  refine cc_Vi cx hX (tG_opens l g _ 0 (pq_L nm (fun _ _ => 0) 0) none 0 0 (hs.but hb0 (by decide)) hc0 (fun i hi => hL6 _ 0 i hi) (by omega) (fun _ => by omega) (fun b q => nomatch q) hz0) kG_opens ww_419 rfl rfl ⟨Nat.le_of_ble_eq_true rfl, Nat.le_of_ble_eq_true rfl⟩ 3 (by decide) sh_3 rfl rfl rfl rfl (Nat.le_of_ble_eq_true rfl) rfl ⟨Nat.le_of_ble_eq_true rfl, Nat.le_of_ble_eq_true rfl⟩ dG_run_41 (pc' := 44) rfl (fun _ _ q => q.elim) (fun r41 h41 q41 => ?_)
  refine vv_istore_n cx dG_run_44 rfl (Nat.le_of_ble_eq_true rfl) (pc' := 45) rfl ?_
  refine vv_iconst cx dG_run_45 (v := 0) (by decide) (pc' := 46) rfl ?_
  refine vv_istore cx dG_run_46 (Nat.le_of_ble_eq_true rfl) (pc' := 48) rfl ?_
  rcases q41 with ⟨rfl, b1, rfl⟩ | ⟨rfl, b1, b2, b3, b4, b5, b6⟩ | ⟨rfl, b1, b2, b3, b4⟩
  · exact nomatch b1
  · rw [pq_open_z b1 b2] at hre0 hin0
    exact loop 200002 0 1 0 _ _ (some 0) 0 0 _ _ _ _ (by omega) (by omega) (by omega) nI_0.symm (Or.inr ⟨rfl, rfl, fun j hj => absurd hj (by omega)⟩) nI_0.symm hre0 hin0 ((pq_but.gb hb0).trans b3) b4 (hz0.of (fun j hj => b5 j hj)) (fun b q => by cases q; exact fun j hj => absurd hj (by omega))
  · rw [pq_open_f b1 b2] at hre0 hin0
    refine loop 200002 0 0 0 (va_up (fun _ _ => 0) 0 (pq_first W n w (pq_L nm (fun _ _ => 0) 0))) _ none 0 0 _ _ _ _ (by omega) (by omega) (by omega) nI_0.symm (Or.inl ⟨rfl, rfl, fun j hj => ?_⟩) nI_0.symm hre0 hin0 ((pq_but.gb hb0).trans (b3.gb ⟨by omega, by omega⟩)) ?_ (fun j hj => ?_) (fun b q => nomatch q)
    · rw [show j = 0 by omega, va_up_self]; exact b4
    · rw [pq_L_up (Nat.le_refl _)]
      obtain ⟨d1, d2, d3, d4, d5, d6⟩ := hc0
      exact ⟨d1.of (b3 13 (by omega)), by rw [b3 3 (by omega)]; exact d2, by rw [b3 3 (by omega)]; exact d3, by rw [b3 3 (by omega)]; exact d4, by rw [b3 3 (by omega)]; exact d5, by rw [b3 3 (by omega)]; exact d6⟩
    · by_cases e9 : j = 0
      · subst e9; exact ⟨_, b4, pq_first_pat.2.2⟩
      · exact (hz0 j hj).of (b3 (16 + j) (by omega))
end
section
/-! part 14: the store; what the face's methods share -/
abbrev xIAE : String := "java/lang/IllegalArgumentException"
abbrev xISE : String := "java/lang/IllegalStateException"
abbrev xIOE : String := "java/lang/IndexOutOfBoundsException"
abbrev xUOE : String := "java/lang/UnsupportedOperationException"
set_option maxRecDepth 100000 in
set_option maxHeartbeats 4000000 in
theorem tT_same (l : Launch) (g : pq_G) (h : pq_H) (k1 k2 : Nat) (hk1 : 16 ≤ k1 ∧ k1 < 116) (hk2 : 16 ≤ k2 ∧ k2 < 116) : XI l yT_same wT_same rT_same g 0 0 [.ref (g.2.2 k1), .ref (g.2.2 k2)] h (fun r h9 => h9 = h ∧ ((r = 1 ∧ ∀ i, i < 5 → h k1 i = h k2 i) ∨ (r = 0 ∧ ¬ ∀ i, i < 5 → h k1 i = h k2 i))) (pq_no) := by
  refine XI.of (cc := cT_same) (maxL := 3) (ret := (some .boolean)) (by decide +kernel) (by simp [Value.category]) (Nat.le_of_ble_eq_true rfl) ?_
  intro p e s m below meth c cx hX hr hlocks hex
  have r1 : k1 < pq_N := by show k1 < 125; omega
  have r2 : k2 < pq_N := by show k2 < 125; omega
  have loop : ∀ (d i : Nat) (y : Int32), y = nI i → i + d = 5 → (∀ j, j < i → h k1 j = h k2 j) → VV p l e rT_same s m [.ref (g.2.2 k1), .ref (g.2.2 k2)].toArray below meth c (vx_MQ below (pq_Qi g (fun r h9 => h9 = h ∧ ((r = 1 ∧ ∀ i, i < 5 → h k1 i = h k2 i) ∨ (r = 0 ∧ ¬ ∀ i, i < 5 → h k1 i = h k2 i))) s.heap.size) (pq_Qx g (pq_no) s.heap.size) [.ref (g.2.2 k1), .ref (g.2.2 k2)].toArray s 0 0 (pq_A g s.heap.size)) g 0 0 h 2 [some (.ref (g.2.2 k1)), some (.ref (g.2.2 k2)), some (.int y)] [] := by
    intro d
    induction d with
    | zero =>
      intro i y hy hi hj
      have e1 : i = 5 := by omega
      subst e1
      refine vv_iload_n cx dT_same_2 rfl rfl (pc' := 3) rfl ?_
      refine vv_iconst cx dT_same_3 (v := 5) (by decide) (pc' := 4) rfl ?_
      refine vv_icmp_ge cx dT_same_4 (tgt := 24) (by decide) (pc' := 7) rfl (fun c4 => ?_) (fun c4 => ?_)
      · refine vv_iconst cx dT_same_24 (v := 1) (by decide) (pc' := 25) rfl ?_
        refine vv_zret cx hr hlocks dT_same_25 rfl (Nat.le_of_ble_eq_true rfl) (Nat.le_of_ble_eq_true rfl) ?_
        exact ⟨rfl, Or.inl ⟨rfl, hj⟩⟩
      · exact absurd (Int32.le_refl _) (by rw [hy] at c4; exact c4)
    | succ d ih =>
      intro i y hy hi hj
      have hv := pq_in5 hy (show i < 5 by omega)
      have hcl := pq_clN hy (show i < 1000 by omega)
      refine vv_iload_n cx dT_same_2 rfl rfl (pc' := 3) rfl ?_
      refine vv_iconst cx dT_same_3 (v := 5) (by decide) (pc' := 4) rfl ?_
      refine vv_icmp_ge cx dT_same_4 (tgt := 24) (by decide) (pc' := 7) rfl (fun c4 => ?_) (fun c4 => ?_)
      · exact absurd (by rw [hy] at c4; exact c4) (nI_ge (b := 5) (by omega) (by decide))
      · refine vv_aload_n cx dT_same_7 rfl rfl (pc' := 8) rfl ?_
        refine vv_iload_n cx dT_same_8 rfl rfl (pc' := 9) rfl ?_
        refine vv_iald cx _ r1 (sh_row hk1.1 hk1.2) hv dT_same_9 (pc' := 10) rfl ?_
        refine vv_aload_n cx dT_same_10 rfl rfl (pc' := 11) rfl ?_
        refine vv_iload_n cx dT_same_11 rfl rfl (pc' := 12) rfl ?_
        refine vv_iald cx _ r2 (sh_row hk2.1 hk2.2) hv dT_same_12 (pc' := 13) rfl ?_
        refine vv_icmp_eq cx dT_same_13 (tgt := 18) (by decide) (pc' := 16) rfl (fun c13 => ?_) (fun c13 => ?_)
        · refine vv_iinc cx dT_same_18 rfl rfl (pc' := 21) rfl ?_
          refine vv_goto cx dT_same_21 (tgt := 2) (by decide) ?_
          refine ih (i + 1) _ (pq_nI1 hy) (by omega) (fun j hj2 => ?_)
          rcases Nat.lt_or_ge j i with q | q
          · exact hj j q
          · rw [show j = i by omega]; rw [hcl] at c13; exact c13
        · refine vv_iconst cx dT_same_16 (v := 0) (by decide) (pc' := 17) rfl ?_
          refine vv_zret cx hr hlocks dT_same_17 rfl (Nat.le_of_ble_eq_true rfl) (Nat.le_of_ble_eq_true rfl) ?_
          exact ⟨rfl, Or.inr ⟨rfl, fun q => c13 (by rw [hcl]; exact q i (by omega))⟩⟩
  refine vv_iconst cx dT_same_0 (v := 0) (by decide) (pc' := 1) rfl ?_
  refine vv_istore_n cx dT_same_1 rfl (Nat.le_of_ble_eq_true rfl) (pc' := 2) rfl ?_
  exact loop 5 0 _ nI_0.symm (by omega) (fun j hj => absurd hj (by omega))
set_option maxRecDepth 100000 in
set_option maxHeartbeats 4000000 in
theorem tT_find (l : Launch) (g : pq_G) (h : pq_H) (kr c9 : Nat) (hkr : 16 ≤ kr ∧ kr < 116) (hc : h 4 0 = nI c9) (hc40 : c9 ≤ 40) : XI l yT_find wT_find rT_find g 0 0 [.ref (g.2.2 4), .ref (g.2.2 kr)] h (fun r h9 => h9 = h ∧ ((∃ j, j < c9 ∧ r = nI j ∧ (∀ i, i < 5 → h (76 + j) i = h kr i) ∧ ∀ x, x < j → ¬ (∀ i, i < 5 → h (76 + x) i = h kr i)) ∨ (r = -1 ∧ ∀ x, x < c9 → ¬ (∀ i, i < 5 → h (76 + x) i = h kr i)))) (pq_no) := by
  refine XI.of (cc := cT_find) (maxL := 3) (ret := (some .int)) (by decide +kernel) (by simp [Value.category]) (Nat.le_of_ble_eq_true rfl) ?_
  intro p e s m below meth c cx hX hr hlocks hex
  have loop : ∀ (d i : Nat) (y : Int32), y = nI i → i + d = c9 → (∀ x, x < i → ¬ (∀ i, i < 5 → h (76 + x) i = h kr i)) → VV p l e rT_find s m [.ref (g.2.2 4), .ref (g.2.2 kr)].toArray below meth c (vx_MQ below (pq_Qi g (fun r h9 => h9 = h ∧ ((∃ j, j < c9 ∧ r = nI j ∧ (∀ i, i < 5 → h (76 + j) i = h kr i) ∧ ∀ x, x < j → ¬ (∀ i, i < 5 → h (76 + x) i = h kr i)) ∨ (r = -1 ∧ ∀ x, x < c9 → ¬ (∀ i, i < 5 → h (76 + x) i = h kr i)))) s.heap.size) (pq_Qx g (pq_no) s.heap.size) [.ref (g.2.2 4), .ref (g.2.2 kr)].toArray s 0 0 (pq_A g s.heap.size)) g 0 0 h 2 [some (.ref (g.2.2 4)), some (.ref (g.2.2 kr)), some (.int y)] [] := by
    intro d
    induction d with
    | zero =>
      intro i y hy hi hj
      have e1 : i = c9 := by omega
      subst e1
      refine vv_iload_n cx dT_find_2 rfl rfl (pc' := 3) rfl ?_
      refine vv_aload_n cx dT_find_3 rfl rfl (pc' := 4) rfl ?_
      refine vv_getI cx (C := RT) (T := TT) (NN := 4) 4 0 (by decide) sh_4 rfl rfl (by decide) lyT ww_125 dT_find_4 (pc' := 7) rfl ?_
      refine vv_icmp_ge cx dT_find_7 (tgt := 31) (by decide) (pc' := 10) rfl (fun c7 => ?_) (fun c7 => ?_)
      · refine vv_iconst cx dT_find_31 (v := -1) (by decide) (pc' := 32) rfl ?_
        refine vv_iret cx hr hlocks dT_find_32 (Nat.le_of_ble_eq_true rfl) (Nat.le_of_ble_eq_true rfl) ?_
        exact ⟨rfl, Or.inr ⟨rfl, hj⟩⟩
      · exact absurd (Int32.le_refl _) (by rw [hy, hc] at c7; exact c7)
    | succ d ih =>
      intro i y hy hi hj
      have hlt : i < c9 := by omega
      have hv : vp_in y 40 := by rw [hy]; exact vp_in_nI (by omega) (by decide)
      have hcl := pq_clN hy (show i < 1000 by omega)
      refine vv_iload_n cx dT_find_2 rfl rfl (pc' := 3) rfl ?_
      refine vv_aload_n cx dT_find_3 rfl rfl (pc' := 4) rfl ?_
      refine vv_getI cx (C := RT) (T := TT) (NN := 4) 4 0 (by decide) sh_4 rfl rfl (by decide) lyT ww_125 dT_find_4 (pc' := 7) rfl ?_
      refine vv_icmp_ge cx dT_find_7 (tgt := 31) (by decide) (pc' := 10) rfl (fun c7 => ?_) (fun c7 => ?_)
      · exact absurd (by rw [hy, hc] at c7; exact c7) (nI_ge hlt (by omega))
      · refine vv_aload_n cx dT_find_10 rfl rfl (pc' := 11) rfl ?_
        refine vv_getR cx (C := RT) (T := TT) (NN := 4) 4 1 _ (by decide) sh_4 rfl rfl (by decide) lyT ww_127 dT_find_11 (pc' := 14) rfl ?_
        refine vv_iload_n cx dT_find_14 rfl rfl (pc' := 15) rfl ?_
        refine vv_aaldq cx _ (by decide) sh_7 (show 76 + y.toNatClampNeg = 76 + i by rw [hcl]) hv dT_find_15 (pc' := 16) rfl ?_
        refine vv_aload_n cx dT_find_16 rfl rfl (pc' := 17) rfl ?_
        refine cc_Si cx hX (tT_same l g h (76 + i) kr ⟨by omega, by omega⟩ hkr) kT_same ww_513 rfl rfl ⟨Nat.le_of_ble_eq_true rfl, Nat.le_of_ble_eq_true rfl⟩ rfl rfl (Nat.le_of_ble_eq_true rfl) rfl ⟨Nat.le_of_ble_eq_true rfl, Nat.le_of_ble_eq_true rfl⟩ dT_find_17 (pc' := 20) rfl (fun _ _ q => q.elim) (fun r17 h17 q17 => ?_)
        obtain ⟨rfl, q17⟩ := q17
        refine vv_if_eq cx dT_find_20 (tgt := 25) (by decide) (pc' := 23) rfl (fun c20 => ?_) (fun c20 => ?_)
        · refine vv_iinc cx dT_find_25 rfl rfl (pc' := 28) rfl ?_
          refine vv_goto cx dT_find_28 (tgt := 2) (by decide) ?_
          refine ih (i + 1) _ (pq_nI1 hy) (by omega) (fun x hx => ?_)
          rcases q17 with ⟨q1, q2⟩ | ⟨q1, q2⟩
          · exact absurd c20 (by rw [q1]; decide)
          · rcases Nat.lt_or_ge x i with q | q
            · exact hj x q
            · rw [show x = i by omega]; exact q2
        · refine vv_iload_n cx dT_find_23 rfl rfl (pc' := 24) rfl ?_
          refine vv_iret cx hr hlocks dT_find_24 (Nat.le_of_ble_eq_true rfl) (Nat.le_of_ble_eq_true rfl) ?_
          rcases q17 with ⟨q1, q2⟩ | ⟨q1, q2⟩
          · exact ⟨rfl, Or.inl ⟨i, hlt, hy, q2, hj⟩⟩
          · exact absurd q1 c20
  refine vv_iconst cx dT_find_0 (v := 0) (by decide) (pc' := 1) rfl ?_
  refine vv_istore_n cx dT_find_1 rfl (Nat.le_of_ble_eq_true rfl) (pc' := 2) rfl ?_
  exact loop c9 0 _ nI_0.symm (by omega) (fun j hj => absurd hj (by omega))
set_option maxRecDepth 100000 in
set_option maxHeartbeats 4000000 in
theorem tT_countAgain (l : Launch) (g : pq_G) (h : pq_H) (j : Nat) (x : Int32) (hj : j < 40) : XV l yT_countAgain wT_countAgain rT_countAgain g 0 0 [.ref (g.2.2 4), .int (nI j), .int x] h (fun h9 => pq_but [14, 15] h h9 ∧ h9 14 = upd (h 14) j (h 14 j + 1) ∧ h9 15 = upd (h 15) j (if h 15 j < x then x else h 15 j)) (pq_no) := by
  refine XV.of (cc := cT_countAgain) (maxL := 3) (ret := none) (by decide +kernel) (by simp [Value.category]) (Nat.le_of_ble_eq_true rfl) ?_
  intro p e s m below meth c cx hX hr hlocks hex
  have hv : vp_in (nI j) 40 := vp_in_nI hj (by decide)
  have hcl : (nI j).toNatClampNeg = j := nI_clamp (by omega)
  refine vv_aload_n cx dT_countAgain_0 rfl rfl (pc' := 1) rfl ?_
  refine vv_getR cx (C := RT) (T := TT) (NN := 4) 4 2 _ (by decide) sh_4 rfl rfl (by decide) lyT ww_129 dT_countAgain_1 (pc' := 4) rfl ?_
  refine vv_iload_n cx dT_countAgain_4 rfl rfl (pc' := 5) rfl ?_
  refine vv_dup2 cx dT_countAgain_5 rfl rfl (pc' := 6) rfl ?_
  refine vv_iald cx _ (by decide) sh_14 hv dT_countAgain_6 (pc' := 7) rfl ?_
  refine vv_iconst cx dT_countAgain_7 (v := 1) (by decide) (pc' := 8) rfl ?_
  refine vv_iadd cx dT_countAgain_8 (pc' := 9) rfl ?_
  refine vv_iast cx _ (by decide) sh_14 hv dT_countAgain_9 (pc' := 10) rfl ?_
  refine vv_aload_n cx dT_countAgain_10 rfl rfl (pc' := 11) rfl ?_
  refine vv_getR cx (C := RT) (T := TT) (NN := 4) 4 3 _ (by decide) sh_4 rfl rfl (by decide) lyT ww_131 dT_countAgain_11 (pc' := 14) rfl ?_
  refine vv_iload_n cx dT_countAgain_14 rfl rfl (pc' := 15) rfl ?_
  refine vv_aload_n cx dT_countAgain_15 rfl rfl (pc' := 16) rfl ?_
  refine vv_getR cx (C := RT) (T := TT) (NN := 4) 4 3 _ (by decide) sh_4 rfl rfl (by decide) lyT ww_131 dT_countAgain_16 (pc' := 19) rfl ?_
  refine vv_iload_n cx dT_countAgain_19 rfl rfl (pc' := 20) rfl ?_
  refine vv_iald cx _ (by decide) sh_15 hv dT_countAgain_20 (pc' := 21) rfl ?_
  refine vv_iload_n cx dT_countAgain_21 rfl rfl (pc' := 22) rfl ?_
  refine vv_max cx ww_520 ww_479 ww_13 ww_480 (Nat.le_of_ble_eq_true rfl) (Nat.le_of_ble_eq_true rfl) (Nat.le_of_ble_eq_true rfl) (Nat.le_of_ble_eq_true rfl) rfl dT_countAgain_22 (pc' := 25) rfl ?_
  refine vv_iast cx _ (by decide) sh_15 hv dT_countAgain_25 (pc' := 26) rfl ?_
  refine vv_vret cx hr hlocks dT_countAgain_26 (Nat.le_of_ble_eq_true rfl) (Nat.le_of_ble_eq_true rfl) ?_
  refine ⟨(pq_but.up (by decide)).trans (pq_but.up (by decide)), ?_, ?_⟩
  · rw [va_up_ne _ _ (by decide), va_up_self, hcl]
  · rw [va_up_self, hcl, va_up_ne _ _ (by decide)]
set_option maxRecDepth 100000 in
set_option maxHeartbeats 4000000 in
theorem tT_add (l : Launch) (g : pq_G) (h : pq_H) (kr c9 : Nat) (x : Int32) (hkr : 16 ≤ kr ∧ kr < 116) (hc : h 4 0 = nI c9) (hc40 : c9 < 40) : XI l yT_add wT_add rT_add g 0 0 [.ref (g.2.2 4), .ref (g.2.2 kr), .int x] h (fun r h9 => r = nI c9 ∧ pq_but [4, 14, 15, 76 + c9] h h9 ∧ h9 4 0 = nI (c9 + 1) ∧ (∀ i, i < 5 → h9 (76 + c9) i = h kr i) ∧ h9 14 = upd (h 14) c9 1 ∧ h9 15 = upd (h 15) c9 x) (pq_no) := by
  refine XI.of (cc := cT_add) (maxL := 4) (ret := (some .int)) (by decide +kernel) (by simp [Value.category]) (Nat.le_of_ble_eq_true rfl) ?_
  intro p e s m below meth c cx hX hr hlocks hex
  have hv : vp_in (h 4 0) 40 := by rw [hc]; exact vp_in_nI hc40 (by decide)
  have hcl : (h 4 0).toNatClampNeg = c9 := by rw [hc]; exact nI_clamp (by omega)
  have r1 : kr < pq_N := by show kr < 125; omega
  have r2 : 76 + c9 < pq_N := by show 76 + c9 < 125; omega
  refine vv_aload_n cx dT_add_0 rfl rfl (pc' := 1) rfl ?_
  refine vv_getI cx (C := RT) (T := TT) (NN := 4) 4 0 (by decide) sh_4 rfl rfl (by decide) lyT ww_125 dT_add_1 (pc' := 4) rfl ?_
  refine vv_istore_n cx dT_add_4 rfl (Nat.le_of_ble_eq_true rfl) (pc' := 5) rfl ?_
  refine vv_aload_n cx dT_add_5 rfl rfl (pc' := 6) rfl ?_
  refine vv_iconst cx dT_add_6 (v := 0) (by decide) (pc' := 7) rfl ?_
  refine vv_aload_n cx dT_add_7 rfl rfl (pc' := 8) rfl ?_
  refine vv_getR cx (C := RT) (T := TT) (NN := 4) 4 1 _ (by decide) sh_4 rfl rfl (by decide) lyT ww_127 dT_add_8 (pc' := 11) rfl ?_
  refine vv_iload_n cx dT_add_11 rfl rfl (pc' := 12) rfl ?_
  refine vv_aaldq cx _ (by decide) sh_7 (show 76 + (h 4 0).toNatClampNeg = 76 + c9 by rw [hcl]) hv dT_add_12 (pc' := 13) rfl ?_
  refine vv_iconst cx dT_add_13 (v := 0) (by decide) (pc' := 14) rfl ?_
  refine vv_iconst cx dT_add_14 (v := 5) (by decide) (pc' := 15) rfl ?_
  refine vv_copy cx _ _ r1 r2 (sh_row hkr.1 hkr.2) (sh_row (by omega) (by omega)) (by decide) (by decide) (by decide) (by decide) (by decide) ww_526 ww_192 ww_191 ww_14 (Nat.le_of_ble_eq_true rfl) (by decide) rfl dT_add_15 (pc' := 18) rfl ?_
  refine vv_aload_n cx dT_add_18 rfl rfl (pc' := 19) rfl ?_
  refine vv_getR cx (C := RT) (T := TT) (NN := 4) 4 2 _ (by decide) sh_4 rfl rfl (by decide) lyT ww_129 dT_add_19 (pc' := 22) rfl ?_
  refine vv_iload_n cx dT_add_22 rfl rfl (pc' := 23) rfl ?_
  refine vv_iconst cx dT_add_23 (v := 1) (by decide) (pc' := 24) rfl ?_
  refine vv_iast cx _ (by decide) sh_14 hv dT_add_24 (pc' := 25) rfl ?_
  refine vv_aload_n cx dT_add_25 rfl rfl (pc' := 26) rfl ?_
  refine vv_getR cx (C := RT) (T := TT) (NN := 4) 4 3 _ (by decide) sh_4 rfl rfl (by decide) lyT ww_131 dT_add_26 (pc' := 29) rfl ?_
  refine vv_iload_n cx dT_add_29 rfl rfl (pc' := 30) rfl ?_
  refine vv_iload_n cx dT_add_30 rfl rfl (pc' := 31) rfl ?_
  refine vv_iast cx _ (by decide) sh_15 hv dT_add_31 (pc' := 32) rfl ?_
  refine vv_aload_n cx dT_add_32 rfl rfl (pc' := 33) rfl ?_
  refine vv_iload_n cx dT_add_33 rfl rfl (pc' := 34) rfl ?_
  refine vv_iconst cx dT_add_34 (v := 1) (by decide) (pc' := 35) rfl ?_
  refine vv_iadd cx dT_add_35 (pc' := 36) rfl ?_
  refine vv_putI cx (C := RT) (T := TT) (NN := 4) 4 0 (by decide) sh_4 rfl rfl (by decide) lyT tyT tyT_ok nmT rfl rfl rfl ww_125 dT_add_36 (pc' := 39) rfl ?_
  refine vv_iload_n cx dT_add_39 rfl rfl (pc' := 40) rfl ?_
  refine vv_iret cx hr hlocks dT_add_40 (Nat.le_of_ble_eq_true rfl) (Nat.le_of_ble_eq_true rfl) ?_
  rw [hcl]
  refine ⟨hc, fun k hk => ?_, ?_, fun i hi => ?_, ?_, ?_⟩
  · simp at hk
    rw [va_up_ne _ _ hk.1, va_up_ne _ _ hk.2.2.1, va_up_ne _ _ hk.2.1, va_up_ne _ _ hk.2.2.2]
  · rw [va_up_self, pk_us, hc]; exact nI_1 c9
  · rw [va_up_ne _ _ (by omega), va_up_ne _ _ (by omega), va_up_ne _ _ (by omega), va_up_self, pq_cpy5 hi]
  · rw [va_up_ne _ _ (by decide), va_up_ne _ _ (by decide), va_up_self, va_up_ne _ _ (by omega)]
  · rw [va_up_ne _ _ (by decide), va_up_self, va_up_ne _ _ (by decide), va_up_ne _ _ (by omega)]
set_option maxRecDepth 100000 in
set_option maxHeartbeats 4000000 in
theorem tP_forgetAnswers (l : Launch) (g : pq_G) (h : pq_H)  : XV l yP_forgetAnswers wP_forgetAnswers rP_forgetAnswers g 0 0 [.ref (g.2.2 0)] h (fun h9 => pq_but [2, 3] h h9 ∧ h9 2 4 = 0 ∧ (∀ j, j ≠ 4 → h9 2 j = h 2 j) ∧ h9 3 5 = -1 ∧ h9 3 6 = 0) (pq_no) := by
  refine XV.of (cc := cP_forgetAnswers) (maxL := 1) (ret := none) (by decide +kernel) (by simp [Value.category]) (Nat.le_of_ble_eq_true rfl) ?_
  intro p e s m below meth c cx hX hr hlocks hex
  refine vv_aload_n cx dP_forgetAnswers_0 rfl rfl (pc' := 1) rfl ?_
  refine vv_getR cx (C := RP) (T := TP) (NN := 4) 0 1 _ (by decide) sh_0 rfl rfl (by decide) lyP ww_143 dP_forgetAnswers_1 (pc' := 4) rfl ?_
  refine cc_Vv cx hX (tD_forget l g h) kD_forget ww_294 rfl rfl ⟨Nat.le_of_ble_eq_true rfl, Nat.le_of_ble_eq_true rfl⟩ 2 (by decide) sh_2 rfl rfl rfl rfl (Nat.le_of_ble_eq_true rfl) rfl ⟨Nat.le_of_ble_eq_true rfl, Nat.le_of_ble_eq_true rfl⟩ dP_forgetAnswers_4 (pc' := 7) rfl (fun _ _ q => q.elim) (fun h4 q4 => ?_)
  subst q4
  refine vv_aload_n cx dP_forgetAnswers_7 rfl rfl (pc' := 8) rfl ?_
  refine vv_getR cx (C := RP) (T := TP) (NN := 4) 0 2 _ (by decide) sh_0 rfl rfl (by decide) lyP ww_144 dP_forgetAnswers_8 (pc' := 11) rfl ?_
  refine cc_Vv cx hX (tG_forget l g _) kG_forget ww_298 rfl rfl ⟨Nat.le_of_ble_eq_true rfl, Nat.le_of_ble_eq_true rfl⟩ 3 (by decide) sh_3 rfl rfl rfl rfl (Nat.le_of_ble_eq_true rfl) rfl ⟨Nat.le_of_ble_eq_true rfl, Nat.le_of_ble_eq_true rfl⟩ dP_forgetAnswers_11 (pc' := 14) rfl (fun _ _ q => q.elim) (fun h11 q11 => ?_)
  refine vv_vret cx hr hlocks dP_forgetAnswers_14 (Nat.le_of_ble_eq_true rfl) (Nat.le_of_ble_eq_true rfl) ?_
  obtain ⟨f1, f5, f6, f7, f8⟩ := q11
  refine ⟨(pq_but.up (by decide)).trans (f1.but (by decide)), ?_, fun j hj => ?_, f5, f6⟩
  · rw [f1 2 (by decide), va_up_self, pk_us]
  · rw [f1 2 (by decide), va_up_self, pk_un hj]
set_option maxRecDepth 100000 in
set_option maxHeartbeats 4000000 in
theorem tP_requireDesign (l : Launch) (hl : l.stackTraces = false) (g : pq_G) (h : pq_H)  : XV l yP_requireDesign wP_requireDesign rP_requireDesign g 1 6 [.ref (g.2.2 0)] h (fun h9 => h9 = h ∧ ¬ h 3 5 = -1) (fun E h9 => E = xISE ∧ h9 = h ∧ h 3 5 = -1) := by
  refine XV.of (cc := cP_requireDesign) (maxL := 1) (ret := none) (by decide +kernel) (by simp [Value.category]) (Nat.le_of_ble_eq_true rfl) ?_
  intro p e s m below meth c cx hX hr hlocks hex
  refine vv_aload_n cx dP_requireDesign_0 rfl rfl (pc' := 1) rfl ?_
  refine vv_getR cx (C := RP) (T := TP) (NN := 4) 0 2 _ (by decide) sh_0 rfl rfl (by decide) lyP ww_144 dP_requireDesign_1 (pc' := 4) rfl ?_
  refine vv_getI cx (C := RG) (T := TG) (NN := 9) 3 5 (by decide) sh_3 rfl rfl (by decide) lyG ww_92 dP_requireDesign_4 (pc' := 7) rfl ?_
  refine vv_iconst cx dP_requireDesign_7 (v := -1) (by decide) (pc' := 8) rfl ?_
  refine vv_icmp_ne cx dP_requireDesign_8 (tgt := 21) (by decide) (pc' := 11) rfl (fun c8 => ?_) (fun c8 => ?_)
  · refine vv_vret cx hr hlocks dP_requireDesign_21 (Nat.le_of_ble_eq_true rfl) (Nat.le_of_ble_eq_true rfl) ?_
    exact ⟨rfl, c8⟩
  · refine vv_throw cx hX hl hex hlocks (cls := "java/lang/IllegalStateException") (text := "there is no design") (names := ["java/lang/RuntimeException", "java/lang/Exception"]) (by decide +kernel) (by decide +kernel) ww_310 ww_11 thISE_at thISE_good (by decide +kernel) dP_requireDesign_11 dP_requireDesign_14 dP_requireDesign_15 dP_requireDesign_17 dP_requireDesign_20 rfl (Nat.le_of_ble_eq_true rfl) (Nat.le_of_ble_eq_true rfl) (Nat.le_of_ble_eq_true rfl) (Nat.le_of_ble_eq_true rfl) (Nat.le_of_ble_eq_true rfl) (Nat.le_of_ble_eq_true rfl) ?_
    exact ⟨rfl, rfl, c8⟩
set_option maxRecDepth 100000 in
set_option maxHeartbeats 4000000 in
theorem tP_requireSheet (l : Launch) (hl : l.stackTraces = false) (g : pq_G) (h : pq_H) (x : Int32) : XV l yP_requireSheet wP_requireSheet rP_requireSheet g 1 6 [.ref (g.2.2 0), .int x] h (fun h9 => h9 = h ∧ 0 ≤ x ∧ x < h 3 5) (fun E h9 => E = xIOE ∧ h9 = h ∧ ¬ (0 ≤ x ∧ x < h 3 5)) := by
  refine XV.of (cc := cP_requireSheet) (maxL := 2) (ret := none) (by decide +kernel) (by simp [Value.category]) (Nat.le_of_ble_eq_true rfl) ?_
  intro p e s m below meth c cx hX hr hlocks hex
  refine vv_iload_n cx dP_requireSheet_0 rfl rfl (pc' := 1) rfl ?_
  refine vv_if_lt cx dP_requireSheet_1 (tgt := 15) (by decide) (pc' := 4) rfl (fun c1 => ?_) (fun c1 => ?_)
  · refine vv_throw cx hX hl hex hlocks (cls := "java/lang/IndexOutOfBoundsException") (text := "no such sheet of the design") (names := ["java/lang/RuntimeException", "java/lang/Exception"]) (by decide +kernel) (by decide +kernel) ww_344 ww_12 thIOE_at thIOE_good (by decide +kernel) dP_requireSheet_15 dP_requireSheet_18 dP_requireSheet_19 dP_requireSheet_21 dP_requireSheet_24 rfl (Nat.le_of_ble_eq_true rfl) (Nat.le_of_ble_eq_true rfl) (Nat.le_of_ble_eq_true rfl) (Nat.le_of_ble_eq_true rfl) (Nat.le_of_ble_eq_true rfl) (Nat.le_of_ble_eq_true rfl) ?_
    first | exact ⟨rfl, rfl, fun q => absurd q.1 (Int32.not_le.mpr c1)⟩ | exact ⟨rfl, rfl, fun q => absurd q.2 c12⟩
  · refine vv_iload_n cx dP_requireSheet_4 rfl rfl (pc' := 5) rfl ?_
    refine vv_aload_n cx dP_requireSheet_5 rfl rfl (pc' := 6) rfl ?_
    refine vv_getR cx (C := RP) (T := TP) (NN := 4) 0 2 _ (by decide) sh_0 rfl rfl (by decide) lyP ww_144 dP_requireSheet_6 (pc' := 9) rfl ?_
    refine vv_getI cx (C := RG) (T := TG) (NN := 9) 3 5 (by decide) sh_3 rfl rfl (by decide) lyG ww_92 dP_requireSheet_9 (pc' := 12) rfl ?_
    refine vv_icmp_lt cx dP_requireSheet_12 (tgt := 25) (by decide) (pc' := 15) rfl (fun c12 => ?_) (fun c12 => ?_)
    · refine vv_vret cx hr hlocks dP_requireSheet_25 (Nat.le_of_ble_eq_true rfl) (Nat.le_of_ble_eq_true rfl) ?_
      exact ⟨rfl, Int32.not_lt.mp c1, c12⟩
    · refine vv_throw cx hX hl hex hlocks (cls := "java/lang/IndexOutOfBoundsException") (text := "no such sheet of the design") (names := ["java/lang/RuntimeException", "java/lang/Exception"]) (by decide +kernel) (by decide +kernel) ww_344 ww_12 thIOE_at thIOE_good (by decide +kernel) dP_requireSheet_15 dP_requireSheet_18 dP_requireSheet_19 dP_requireSheet_21 dP_requireSheet_24 rfl (Nat.le_of_ble_eq_true rfl) (Nat.le_of_ble_eq_true rfl) (Nat.le_of_ble_eq_true rfl) (Nat.le_of_ble_eq_true rfl) (Nat.le_of_ble_eq_true rfl) (Nat.le_of_ble_eq_true rfl) ?_
      first | exact ⟨rfl, rfl, fun q => absurd q.1 (Int32.not_le.mpr c1)⟩ | exact ⟨rfl, rfl, fun q => absurd q.2 c12⟩
end
section
/-! part 15: the face's methods, first half -/
theorem pq_idx {x : Int32} {n : Nat} (h0 : 0 ≤ x) (h1 : x < nI n) (hn : n < 2 ^ 31) : ∃ i, i < n ∧ x = nI i := by
  rcases pk_ix x hn with q | q | q
  · exact absurd h0 (Int32.not_le.mpr q)
  · exact absurd h1 (Int32.not_lt.mpr q)
  · exact q
theorem pq_rng {x M : Int32} {n : Nat} (hM : M.toInt = n) (h0 : 0 ≤ x) (h1 : x ≤ M) : ∃ j, j ≤ n ∧ x = nI j := nI_of2 hM (Int32.not_lt.mpr h0) h1
theorem pq_col_bd {W n : Nat} {w nm pr : Nat → Nat} (hn : n ≤ 5) (hb : ∀ i, i < 5 → nm i ≤ 6 ∧ pr i ≤ 1000) : (pq_col W n w nm pr).1 ≤ 30000 := by
  have key : ∀ (f : Nat) (cur : Option (Nat → Nat)) (s : Nat) (p : Nat → Nat), s ≤ 30000 → (∀ b, cur = some b → pq_pat W n w nm b) → (pq_colL W n w nm pr f cur s p).1 ≤ 30000 := by
    intro f
    induction f with
    | zero => intro cur s p hs _; exact hs
    | succ f ih =>
      intro cur s p hs hc
      cases cur with
      | none => exact hs
      | some b =>
        have hp := hc b rfl
        have hx := fun b2 (q : pq_next W n w nm b 5 (n - 1) = some b2) => pq_next_pat hp (by omega) q
        show (if s < pq_price n pr b then pq_colL W n w nm pr f _ (pq_price n pr b) b else pq_colL W n w nm pr f _ s p).1 ≤ 30000
        split
        · exact ih _ _ _ (pq_price_bd hn hp hb) hx
        · exact ih _ _ _ hs hx
  exact key _ _ _ _ (pq_price_bd hn pq_first_pat hb) (fun b q => pq_next_pat pq_first_pat (by omega) q)
set_option maxRecDepth 100000 in
set_option maxHeartbeats 4000000 in
theorem tP_sheet (l : Launch) (hl : l.stackTraces = false) (g : pq_G) (h : pq_H) (x : Int32) : XV l yP_sheet wP_sheet rP_sheet g 1 6 [.ref (g.2.2 0), .int x] h (fun h9 => (1 ≤ x ∧ x ≤ 1000) ∧ pq_but [1, 2, 3] h h9 ∧ h9 1 = upd (h 1) 0 x ∧ h9 2 4 = 0 ∧ (∀ j, j ≠ 4 → h9 2 j = h 2 j) ∧ h9 3 5 = -1 ∧ h9 3 6 = 0) (fun E h9 => E = xIAE ∧ h9 = h ∧ ¬ (1 ≤ x ∧ x ≤ 1000)) := by
  refine XV.of (cc := cP_sheet) (maxL := 2) (ret := none) (by decide +kernel) (by simp [Value.category]) (Nat.le_of_ble_eq_true rfl) ?_
  intro p e s m below meth c cx hX hr hlocks hex
  refine vv_iload_n cx dP_sheet_0 rfl rfl (pc' := 1) rfl ?_
  refine vv_iconst cx dP_sheet_1 (v := 1) (by decide) (pc' := 2) rfl ?_
  refine vv_icmp_lt cx dP_sheet_2 (tgt := 12) (by decide) (pc' := 5) rfl (fun c2 => ?_) (fun c2 => ?_)
  · refine vv_throw cx hX hl hex hlocks (cls := "java/lang/IllegalArgumentException") (text := "no such width of sheets") (names := ["java/lang/RuntimeException", "java/lang/Exception"]) (by decide +kernel) (by decide +kernel) ww_221 ww_10 thIAE_at thIAE_good (by decide +kernel) dP_sheet_12 dP_sheet_15 dP_sheet_16 dP_sheet_18 dP_sheet_21 rfl (Nat.le_of_ble_eq_true rfl) (Nat.le_of_ble_eq_true rfl) (Nat.le_of_ble_eq_true rfl) (Nat.le_of_ble_eq_true rfl) (Nat.le_of_ble_eq_true rfl) (Nat.le_of_ble_eq_true rfl) ?_
    first | exact ⟨rfl, rfl, fun q => absurd q.1 (Int32.not_le.mpr c2)⟩ | exact ⟨rfl, rfl, fun q => absurd q.2 c9⟩
  · refine vv_iload_n cx dP_sheet_5 rfl rfl (pc' := 6) rfl ?_
    refine vv_sipush cx dP_sheet_6 (v := 1000) (by decide) (pc' := 9) rfl ?_
    refine vv_icmp_le cx dP_sheet_9 (tgt := 22) (by decide) (pc' := 12) rfl (fun c9 => ?_) (fun c9 => ?_)
    · refine vv_aload_n cx dP_sheet_22 rfl rfl (pc' := 23) rfl ?_
      refine vv_getR cx (C := RP) (T := TP) (NN := 4) 0 0 _ (by decide) sh_0 rfl rfl (by decide) lyP ww_142 dP_sheet_23 (pc' := 26) rfl ?_
      refine vv_iload_n cx dP_sheet_26 rfl rfl (pc' := 27) rfl ?_
      refine vv_putI cx (C := RS) (T := TS) (NN := 5) 1 0 (by decide) sh_1 rfl rfl (by decide) lyS tyS tyS_ok nmS rfl rfl rfl ww_31 dP_sheet_27 (pc' := 30) rfl ?_
      refine vv_aload_n cx dP_sheet_30 rfl rfl (pc' := 31) rfl ?_
      refine cc_Vv cx hX (tP_forgetAnswers l g _) kP_forgetAnswers ww_290 rfl rfl ⟨Nat.le_of_ble_eq_true rfl, Nat.le_of_ble_eq_true rfl⟩ 0 (by decide) sh_0 rfl rfl rfl rfl (Nat.le_of_ble_eq_true rfl) rfl ⟨Nat.le_of_ble_eq_true rfl, Nat.le_of_ble_eq_true rfl⟩ dP_sheet_31 (pc' := 34) rfl (fun _ _ q => q.elim) (fun h31 q31 => ?_)
      refine vv_vret cx hr hlocks dP_sheet_34 (Nat.le_of_ble_eq_true rfl) (Nat.le_of_ble_eq_true rfl) ?_
      obtain ⟨f1, f2, f3, f4, f5⟩ := q31
      refine ⟨⟨Int32.not_lt.mp c2, c9⟩, (pq_but.up (by decide)).trans (f1.mono (by decide)), ?_, f2, fun j hj => ?_, f4, f5⟩
      · rw [f1 1 (by decide), va_up_self]
      · rw [f3 j hj, va_up_ne _ _ (by decide)]
    · refine vv_throw cx hX hl hex hlocks (cls := "java/lang/IllegalArgumentException") (text := "no such width of sheets") (names := ["java/lang/RuntimeException", "java/lang/Exception"]) (by decide +kernel) (by decide +kernel) ww_221 ww_10 thIAE_at thIAE_good (by decide +kernel) dP_sheet_12 dP_sheet_15 dP_sheet_16 dP_sheet_18 dP_sheet_21 rfl (Nat.le_of_ble_eq_true rfl) (Nat.le_of_ble_eq_true rfl) (Nat.le_of_ble_eq_true rfl) (Nat.le_of_ble_eq_true rfl) (Nat.le_of_ble_eq_true rfl) (Nat.le_of_ble_eq_true rfl) ?_
      first | exact ⟨rfl, rfl, fun q => absurd q.1 (Int32.not_le.mpr c2)⟩ | exact ⟨rfl, rfl, fun q => absurd q.2 c9⟩
set_option maxRecDepth 100000 in
set_option maxHeartbeats 4000000 in
theorem tP_order (l : Launch) (hl : l.stackTraces = false) (g : pq_G) (h : pq_H) {W n : Nat} {w nm pr : Nat → Nat} (x y : Int32) (hs : pq_st h W n w nm pr) : XI l yP_order wP_order rP_order g 1 6 [.ref (g.2.2 0), .int x, .int y] h (fun r h9 => ∃ x9 y9, x = nI x9 ∧ y = nI y9 ∧ n < 5 ∧ (1 ≤ x9 ∧ x9 ≤ 1000) ∧ y9 ≤ 6 ∧ r = nI n ∧ pq_but [1, 2, 3, 8, 9, 10] h h9 ∧ pq_st h9 W (n + 1) (va_up w n x9) (va_up nm n y9) (va_up pr n 0) ∧ h9 2 4 = 0 ∧ (∀ j, j ≠ 4 → h9 2 j = h 2 j) ∧ h9 3 5 = -1 ∧ h9 3 6 = 0) (fun E h9 => h9 = h ∧ ((E = xISE ∧ n = 5) ∨ (E = xIAE ∧ n < 5 ∧ ¬ (1 ≤ x ∧ x ≤ 1000 ∧ 0 ≤ y ∧ y ≤ 6)))) := by
  refine XI.of (cc := cP_order) (maxL := 4) (ret := (some .int)) (by decide +kernel) (by simp [Value.category]) (Nat.le_of_ble_eq_true rfl) ?_
  intro p e s m below meth c cx hX hr hlocks hex
  have hn5 := hs.2.1.2.2
  refine vv_aload_n cx dP_order_0 rfl rfl (pc' := 1) rfl ?_
  refine vv_getR cx (C := RP) (T := TP) (NN := 4) 0 0 _ (by decide) sh_0 rfl rfl (by decide) lyP ww_142 dP_order_1 (pc' := 4) rfl ?_
  refine vv_getI cx (C := RS) (T := TS) (NN := 5) 1 1 (by decide) sh_1 rfl rfl (by decide) lyS ww_33 dP_order_4 (pc' := 7) rfl ?_
  refine vv_iconst cx dP_order_7 (v := 5) (by decide) (pc' := 8) rfl ?_
  rw [hs.1.2.1]
  refine vv_icmp_lt cx dP_order_8 (tgt := 21) (by decide) (pc' := 11) rfl (fun c8 => ?_) (fun c8 => ?_)
  · have hlt : n < 5 := Nat.lt_of_not_le (fun q => nI_nlt (a := n) (b := 5) q (by omega) c8)
    refine vv_iload_n cx dP_order_21 rfl rfl (pc' := 22) rfl ?_
    refine vv_iconst cx dP_order_22 (v := 1) (by decide) (pc' := 23) rfl ?_
    refine vv_icmp_lt cx dP_order_23 (tgt := 33) (by decide) (pc' := 26) rfl (fun c23 => ?_) (fun c23 => ?_)
    · refine vv_throw cx hX hl hex hlocks (cls := "java/lang/IllegalArgumentException") (text := "no such width of pieces") (names := ["java/lang/RuntimeException", "java/lang/Exception"]) (by decide +kernel) (by decide +kernel) ww_221 ww_10 thIAE_at thIAE_good (by decide +kernel) dP_order_33 dP_order_36 dP_order_37 dP_order_39 dP_order_42 rfl (Nat.le_of_ble_eq_true rfl) (Nat.le_of_ble_eq_true rfl) (Nat.le_of_ble_eq_true rfl) (Nat.le_of_ble_eq_true rfl) (Nat.le_of_ble_eq_true rfl) (Nat.le_of_ble_eq_true rfl) ?_
      first | exact ⟨rfl, Or.inr ⟨rfl, hlt, fun q => absurd q.1 (Int32.not_le.mpr c23)⟩⟩ | exact ⟨rfl, Or.inr ⟨rfl, hlt, fun q => absurd q.2.1 c30⟩⟩
    · refine vv_iload_n cx dP_order_26 rfl rfl (pc' := 27) rfl ?_
      refine vv_sipush cx dP_order_27 (v := 1000) (by decide) (pc' := 30) rfl ?_
      refine vv_icmp_le cx dP_order_30 (tgt := 43) (by decide) (pc' := 33) rfl (fun c30 => ?_) (fun c30 => ?_)
      · refine vv_iload_n cx dP_order_43 rfl rfl (pc' := 44) rfl ?_
        refine vv_if_lt cx dP_order_44 (tgt := 53) (by decide) (pc' := 47) rfl (fun c44 => ?_) (fun c44 => ?_)
        · refine vv_throw cx hX hl hex hlocks (cls := "java/lang/IllegalArgumentException") (text := "no such number of pieces") (names := ["java/lang/RuntimeException", "java/lang/Exception"]) (by decide +kernel) (by decide +kernel) ww_221 ww_10 thIAE_at thIAE_good (by decide +kernel) dP_order_53 dP_order_56 dP_order_57 dP_order_59 dP_order_62 rfl (Nat.le_of_ble_eq_true rfl) (Nat.le_of_ble_eq_true rfl) (Nat.le_of_ble_eq_true rfl) (Nat.le_of_ble_eq_true rfl) (Nat.le_of_ble_eq_true rfl) (Nat.le_of_ble_eq_true rfl) ?_
          first | exact ⟨rfl, Or.inr ⟨rfl, hlt, fun q => absurd q.2.2.1 (Int32.not_le.mpr c44)⟩⟩ | exact ⟨rfl, Or.inr ⟨rfl, hlt, fun q => absurd q.2.2.2 c50⟩⟩
        · refine vv_iload_n cx dP_order_47 rfl rfl (pc' := 48) rfl ?_
          refine vv_bipush cx dP_order_48 (v := 6) (by decide) (pc' := 50) rfl ?_
          refine vv_icmp_le cx dP_order_50 (tgt := 63) (by decide) (pc' := 53) rfl (fun c50 => ?_) (fun c50 => ?_)
          · obtain ⟨x9, hx9, rfl⟩ := pq_rng (n := 1000) (M := 1000) rfl (Int32.le_trans (by decide) (Int32.not_lt.mp c23)) c30
            obtain ⟨y9, hy9, rfl⟩ := pq_rng (n := 6) (M := 6) rfl (Int32.not_lt.mp c44) c50
            have hx1 : 1 ≤ x9 := Nat.le_of_not_lt (fun q => c23 (nI_lt (b := 1) q (by decide)))
            refine vv_aload_n cx dP_order_63 rfl rfl (pc' := 64) rfl ?_
            refine vv_getR cx (C := RP) (T := TP) (NN := 4) 0 0 _ (by decide) sh_0 rfl rfl (by decide) lyP ww_142 dP_order_64 (pc' := 67) rfl ?_
            refine vv_iload_n cx dP_order_67 rfl rfl (pc' := 68) rfl ?_
            refine vv_iload_n cx dP_order_68 rfl rfl (pc' := 69) rfl ?_
            refine cc_Vi cx hX (tS_add l g h x9 y9 hs hlt ⟨hx1, hx9⟩ hy9) kS_add ww_328 rfl rfl ⟨Nat.le_of_ble_eq_true rfl, Nat.le_of_ble_eq_true rfl⟩ 1 (by decide) sh_1 rfl rfl rfl rfl (Nat.le_of_ble_eq_true rfl) rfl ⟨Nat.le_of_ble_eq_true rfl, Nat.le_of_ble_eq_true rfl⟩ dP_order_69 (pc' := 72) rfl (fun _ _ q => q.elim) (fun r69 h69 q69 => ?_)
            obtain ⟨rfl, g1, g2⟩ := q69
            refine vv_istore_n cx dP_order_72 rfl (Nat.le_of_ble_eq_true rfl) (pc' := 73) rfl ?_
            refine vv_aload_n cx dP_order_73 rfl rfl (pc' := 74) rfl ?_
            refine cc_Vv cx hX (tP_forgetAnswers l g _) kP_forgetAnswers ww_290 rfl rfl ⟨Nat.le_of_ble_eq_true rfl, Nat.le_of_ble_eq_true rfl⟩ 0 (by decide) sh_0 rfl rfl rfl rfl (Nat.le_of_ble_eq_true rfl) rfl ⟨Nat.le_of_ble_eq_true rfl, Nat.le_of_ble_eq_true rfl⟩ dP_order_74 (pc' := 77) rfl (fun _ _ q => q.elim) (fun h74 q74 => ?_)
            refine vv_iload_n cx dP_order_77 rfl rfl (pc' := 78) rfl ?_
            refine vv_iret cx hr hlocks dP_order_78 (Nat.le_of_ble_eq_true rfl) (Nat.le_of_ble_eq_true rfl) ?_
            obtain ⟨f1, f2, f3, f4, f5⟩ := q74
            refine ⟨x9, y9, rfl, rfl, hlt, ⟨hx1, hx9⟩, hy9, rfl, (g1.mono (by decide)).trans (f1.mono (by decide)), g2.but f1 (by decide), f2, fun j hj => ?_, f4, f5⟩
            rw [f3 j hj, g1 2 (by decide)]
          · refine vv_throw cx hX hl hex hlocks (cls := "java/lang/IllegalArgumentException") (text := "no such number of pieces") (names := ["java/lang/RuntimeException", "java/lang/Exception"]) (by decide +kernel) (by decide +kernel) ww_221 ww_10 thIAE_at thIAE_good (by decide +kernel) dP_order_53 dP_order_56 dP_order_57 dP_order_59 dP_order_62 rfl (Nat.le_of_ble_eq_true rfl) (Nat.le_of_ble_eq_true rfl) (Nat.le_of_ble_eq_true rfl) (Nat.le_of_ble_eq_true rfl) (Nat.le_of_ble_eq_true rfl) (Nat.le_of_ble_eq_true rfl) ?_
            first | exact ⟨rfl, Or.inr ⟨rfl, hlt, fun q => absurd q.2.2.1 (Int32.not_le.mpr c44)⟩⟩ | exact ⟨rfl, Or.inr ⟨rfl, hlt, fun q => absurd q.2.2.2 c50⟩⟩
      · refine vv_throw cx hX hl hex hlocks (cls := "java/lang/IllegalArgumentException") (text := "no such width of pieces") (names := ["java/lang/RuntimeException", "java/lang/Exception"]) (by decide +kernel) (by decide +kernel) ww_221 ww_10 thIAE_at thIAE_good (by decide +kernel) dP_order_33 dP_order_36 dP_order_37 dP_order_39 dP_order_42 rfl (Nat.le_of_ble_eq_true rfl) (Nat.le_of_ble_eq_true rfl) (Nat.le_of_ble_eq_true rfl) (Nat.le_of_ble_eq_true rfl) (Nat.le_of_ble_eq_true rfl) (Nat.le_of_ble_eq_true rfl) ?_
        first | exact ⟨rfl, Or.inr ⟨rfl, hlt, fun q => absurd q.1 (Int32.not_le.mpr c23)⟩⟩ | exact ⟨rfl, Or.inr ⟨rfl, hlt, fun q => absurd q.2.1 c30⟩⟩
  · refine vv_throw cx hX hl hex hlocks (cls := "java/lang/IllegalStateException") (text := "there are five orders") (names := ["java/lang/RuntimeException", "java/lang/Exception"]) (by decide +kernel) (by decide +kernel) ww_310 ww_11 thISE_at thISE_good (by decide +kernel) dP_order_11 dP_order_14 dP_order_15 dP_order_17 dP_order_20 rfl (Nat.le_of_ble_eq_true rfl) (Nat.le_of_ble_eq_true rfl) (Nat.le_of_ble_eq_true rfl) (Nat.le_of_ble_eq_true rfl) (Nat.le_of_ble_eq_true rfl) (Nat.le_of_ble_eq_true rfl) ?_
    exact ⟨rfl, Or.inl ⟨rfl, by have := Nat.le_of_not_lt (fun q => c8 (nI_lt (b := 5) q (by decide))); omega⟩⟩
set_option maxRecDepth 100000 in
set_option maxHeartbeats 4000000 in
theorem tP_pieces (l : Launch) (hl : l.stackTraces = false) (g : pq_G) (h : pq_H) {W n : Nat} {w nm pr : Nat → Nat} (x y : Int32) (hs : pq_st h W n w nm pr) : XV l yP_pieces wP_pieces rP_pieces g 1 6 [.ref (g.2.2 0), .int x, .int y] h (fun h9 => ∃ i y9, x = nI i ∧ i < n ∧ y = nI y9 ∧ y9 ≤ 6 ∧ pq_but [2, 3, 9] h h9 ∧ h9 9 = upd (h 9) i (nI y9) ∧ h9 2 4 = 0 ∧ (∀ j, j ≠ 4 → h9 2 j = h 2 j) ∧ h9 3 5 = -1 ∧ h9 3 6 = 0) (fun E h9 => h9 = h ∧ ((E = xIOE ∧ ¬ (0 ≤ x ∧ x < nI n)) ∨ (E = xIAE ∧ (0 ≤ x ∧ x < nI n) ∧ ¬ (0 ≤ y ∧ y ≤ 6)))) := by
  refine XV.of (cc := cP_pieces) (maxL := 3) (ret := none) (by decide +kernel) (by simp [Value.category]) (Nat.le_of_ble_eq_true rfl) ?_
  intro p e s m below meth c cx hX hr hlocks hex
  have hn5 := hs.2.1.2.2
  have hn := hs.1.2.1
  refine vv_aload_n cx dP_pieces_0 rfl rfl (pc' := 1) rfl ?_
  refine vv_getR cx (C := RP) (T := TP) (NN := 4) 0 0 _ (by decide) sh_0 rfl rfl (by decide) lyP ww_142 dP_pieces_1 (pc' := 4) rfl ?_
  refine vv_iload_n cx dP_pieces_4 rfl rfl (pc' := 5) rfl ?_
  refine cc_Vi cx hX (tS_has l g h x) kS_has ww_340 rfl rfl ⟨Nat.le_of_ble_eq_true rfl, Nat.le_of_ble_eq_true rfl⟩ 1 (by decide) sh_1 rfl rfl rfl rfl (Nat.le_of_ble_eq_true rfl) rfl ⟨Nat.le_of_ble_eq_true rfl, Nat.le_of_ble_eq_true rfl⟩ dP_pieces_5 (pc' := 8) rfl (fun _ _ q => q.elim) (fun r5 h5 q5 => ?_)
  obtain ⟨rfl, q5⟩ := q5
  rw [hn] at q5
  refine vv_if_ne cx dP_pieces_8 (tgt := 21) (by decide) (pc' := 11) rfl (fun c8 => ?_) (fun c8 => ?_)
  · have hix : 0 ≤ x ∧ x < nI n := by rcases q5 with q | q; exact q.2; exact absurd q.1 c8
    obtain ⟨i, hi, hxi⟩ := pq_idx hix.1 hix.2 (by omega)
    refine vv_iload_n cx dP_pieces_21 rfl rfl (pc' := 22) rfl ?_
    refine vv_if_lt cx dP_pieces_22 (tgt := 31) (by decide) (pc' := 25) rfl (fun c22 => ?_) (fun c22 => ?_)
    · refine vv_throw cx hX hl hex hlocks (cls := "java/lang/IllegalArgumentException") (text := "no such number of pieces") (names := ["java/lang/RuntimeException", "java/lang/Exception"]) (by decide +kernel) (by decide +kernel) ww_221 ww_10 thIAE_at thIAE_good (by decide +kernel) dP_pieces_31 dP_pieces_34 dP_pieces_35 dP_pieces_37 dP_pieces_40 rfl (Nat.le_of_ble_eq_true rfl) (Nat.le_of_ble_eq_true rfl) (Nat.le_of_ble_eq_true rfl) (Nat.le_of_ble_eq_true rfl) (Nat.le_of_ble_eq_true rfl) (Nat.le_of_ble_eq_true rfl) ?_
      first | exact ⟨rfl, Or.inr ⟨rfl, hix, fun q => absurd q.1 (Int32.not_le.mpr c22)⟩⟩ | exact ⟨rfl, Or.inr ⟨rfl, hix, fun q => absurd q.2 c28⟩⟩
    · refine vv_iload_n cx dP_pieces_25 rfl rfl (pc' := 26) rfl ?_
      refine vv_bipush cx dP_pieces_26 (v := 6) (by decide) (pc' := 28) rfl ?_
      refine vv_icmp_le cx dP_pieces_28 (tgt := 41) (by decide) (pc' := 31) rfl (fun c28 => ?_) (fun c28 => ?_)
      · obtain ⟨y9, hy9, rfl⟩ := pq_rng (n := 6) (M := 6) rfl (Int32.not_lt.mp c22) c28
        refine vv_aload_n cx dP_pieces_41 rfl rfl (pc' := 42) rfl ?_
        refine vv_getR cx (C := RP) (T := TP) (NN := 4) 0 0 _ (by decide) sh_0 rfl rfl (by decide) lyP ww_142 dP_pieces_42 (pc' := 45) rfl ?_
        refine vv_getR cx (C := RS) (T := TS) (NN := 5) 1 3 _ (by decide) sh_1 rfl rfl (by decide) lyS ww_39 dP_pieces_45 (pc' := 48) rfl ?_
        refine vv_iload_n cx dP_pieces_48 rfl rfl (pc' := 49) rfl ?_
        refine vv_iload_n cx dP_pieces_49 rfl rfl (pc' := 50) rfl ?_
        refine vv_iast cx _ (by decide) sh_9 (pq_in5 hxi (by omega)) dP_pieces_50 (pc' := 51) rfl ?_
        refine vv_aload_n cx dP_pieces_51 rfl rfl (pc' := 52) rfl ?_
        refine cc_Vv cx hX (tP_forgetAnswers l g _) kP_forgetAnswers ww_290 rfl rfl ⟨Nat.le_of_ble_eq_true rfl, Nat.le_of_ble_eq_true rfl⟩ 0 (by decide) sh_0 rfl rfl rfl rfl (Nat.le_of_ble_eq_true rfl) rfl ⟨Nat.le_of_ble_eq_true rfl, Nat.le_of_ble_eq_true rfl⟩ dP_pieces_52 (pc' := 55) rfl (fun _ _ q => q.elim) (fun h52 q52 => ?_)
        refine vv_vret cx hr hlocks dP_pieces_55 (Nat.le_of_ble_eq_true rfl) (Nat.le_of_ble_eq_true rfl) ?_
        obtain ⟨f1, f2, f3, f4, f5⟩ := q52
        refine ⟨i, y9, hxi, hi, rfl, hy9, (pq_but.up (by decide)).trans (f1.mono (by decide)), ?_, f2, fun j hj => ?_, f4, f5⟩
        · rw [f1 9 (by decide), va_up_self, pq_clN hxi (by omega)]
        · rw [f3 j hj, va_up_ne _ _ (by decide)]
      · refine vv_throw cx hX hl hex hlocks (cls := "java/lang/IllegalArgumentException") (text := "no such number of pieces") (names := ["java/lang/RuntimeException", "java/lang/Exception"]) (by decide +kernel) (by decide +kernel) ww_221 ww_10 thIAE_at thIAE_good (by decide +kernel) dP_pieces_31 dP_pieces_34 dP_pieces_35 dP_pieces_37 dP_pieces_40 rfl (Nat.le_of_ble_eq_true rfl) (Nat.le_of_ble_eq_true rfl) (Nat.le_of_ble_eq_true rfl) (Nat.le_of_ble_eq_true rfl) (Nat.le_of_ble_eq_true rfl) (Nat.le_of_ble_eq_true rfl) ?_
        first | exact ⟨rfl, Or.inr ⟨rfl, hix, fun q => absurd q.1 (Int32.not_le.mpr c22)⟩⟩ | exact ⟨rfl, Or.inr ⟨rfl, hix, fun q => absurd q.2 c28⟩⟩
  · refine vv_throw cx hX hl hex hlocks (cls := "java/lang/IndexOutOfBoundsException") (text := "no such order") (names := ["java/lang/RuntimeException", "java/lang/Exception"]) (by decide +kernel) (by decide +kernel) ww_344 ww_12 thIOE_at thIOE_good (by decide +kernel) dP_pieces_11 dP_pieces_14 dP_pieces_15 dP_pieces_17 dP_pieces_20 rfl (Nat.le_of_ble_eq_true rfl) (Nat.le_of_ble_eq_true rfl) (Nat.le_of_ble_eq_true rfl) (Nat.le_of_ble_eq_true rfl) (Nat.le_of_ble_eq_true rfl) (Nat.le_of_ble_eq_true rfl) ?_
    rcases q5 with q | q
    · exact absurd c8 (by rw [q.1]; decide)
    · exact ⟨rfl, Or.inl ⟨rfl, q.2⟩⟩
set_option maxRecDepth 100000 in
set_option maxHeartbeats 4000000 in
theorem tP_price (l : Launch) (hl : l.stackTraces = false) (g : pq_G) (h : pq_H) {W n : Nat} {w nm pr : Nat → Nat} (x y : Int32) (hs : pq_st h W n w nm pr) : XV l yP_price wP_price rP_price g 1 6 [.ref (g.2.2 0), .int x, .int y] h (fun h9 => ∃ i y9, x = nI i ∧ i < n ∧ y = nI y9 ∧ y9 ≤ 1000 ∧ pq_but [2, 10] h h9 ∧ h9 10 = upd (h 10) i (nI y9) ∧ h9 2 4 = 0 ∧ ∀ j, j ≠ 4 → h9 2 j = h 2 j) (fun E h9 => h9 = h ∧ ((E = xIOE ∧ ¬ (0 ≤ x ∧ x < nI n)) ∨ (E = xIAE ∧ (0 ≤ x ∧ x < nI n) ∧ ¬ (0 ≤ y ∧ y ≤ 1000)))) := by
  refine XV.of (cc := cP_price) (maxL := 3) (ret := none) (by decide +kernel) (by simp [Value.category]) (Nat.le_of_ble_eq_true rfl) ?_
  intro p e s m below meth c cx hX hr hlocks hex
  have hn5 := hs.2.1.2.2
  have hn := hs.1.2.1
  refine vv_aload_n cx dP_price_0 rfl rfl (pc' := 1) rfl ?_
  refine vv_getR cx (C := RP) (T := TP) (NN := 4) 0 0 _ (by decide) sh_0 rfl rfl (by decide) lyP ww_142 dP_price_1 (pc' := 4) rfl ?_
  refine vv_iload_n cx dP_price_4 rfl rfl (pc' := 5) rfl ?_
  refine cc_Vi cx hX (tS_has l g h x) kS_has ww_340 rfl rfl ⟨Nat.le_of_ble_eq_true rfl, Nat.le_of_ble_eq_true rfl⟩ 1 (by decide) sh_1 rfl rfl rfl rfl (Nat.le_of_ble_eq_true rfl) rfl ⟨Nat.le_of_ble_eq_true rfl, Nat.le_of_ble_eq_true rfl⟩ dP_price_5 (pc' := 8) rfl (fun _ _ q => q.elim) (fun r5 h5 q5 => ?_)
  obtain ⟨rfl, q5⟩ := q5
  rw [hn] at q5
  refine vv_if_ne cx dP_price_8 (tgt := 21) (by decide) (pc' := 11) rfl (fun c8 => ?_) (fun c8 => ?_)
  · have hix : 0 ≤ x ∧ x < nI n := by rcases q5 with q | q; exact q.2; exact absurd q.1 c8
    obtain ⟨i, hi, hxi⟩ := pq_idx hix.1 hix.2 (by omega)
    refine vv_iload_n cx dP_price_21 rfl rfl (pc' := 22) rfl ?_
    refine vv_if_lt cx dP_price_22 (tgt := 32) (by decide) (pc' := 25) rfl (fun c22 => ?_) (fun c22 => ?_)
    · refine vv_throw cx hX hl hex hlocks (cls := "java/lang/IllegalArgumentException") (text := "no such price") (names := ["java/lang/RuntimeException", "java/lang/Exception"]) (by decide +kernel) (by decide +kernel) ww_221 ww_10 thIAE_at thIAE_good (by decide +kernel) dP_price_32 dP_price_35 dP_price_36 dP_price_38 dP_price_41 rfl (Nat.le_of_ble_eq_true rfl) (Nat.le_of_ble_eq_true rfl) (Nat.le_of_ble_eq_true rfl) (Nat.le_of_ble_eq_true rfl) (Nat.le_of_ble_eq_true rfl) (Nat.le_of_ble_eq_true rfl) ?_
      first | exact ⟨rfl, Or.inr ⟨rfl, hix, fun q => absurd q.1 (Int32.not_le.mpr c22)⟩⟩ | exact ⟨rfl, Or.inr ⟨rfl, hix, fun q => absurd q.2 c29⟩⟩
    · refine vv_iload_n cx dP_price_25 rfl rfl (pc' := 26) rfl ?_
      refine vv_sipush cx dP_price_26 (v := 1000) (by decide) (pc' := 29) rfl ?_
      refine vv_icmp_le cx dP_price_29 (tgt := 42) (by decide) (pc' := 32) rfl (fun c29 => ?_) (fun c29 => ?_)
      · obtain ⟨y9, hy9, rfl⟩ := pq_rng (n := 1000) (M := 1000) rfl (Int32.not_lt.mp c22) c29
        refine vv_aload_n cx dP_price_42 rfl rfl (pc' := 43) rfl ?_
        refine vv_getR cx (C := RP) (T := TP) (NN := 4) 0 0 _ (by decide) sh_0 rfl rfl (by decide) lyP ww_142 dP_price_43 (pc' := 46) rfl ?_
        refine vv_getR cx (C := RS) (T := TS) (NN := 5) 1 4 _ (by decide) sh_1 rfl rfl (by decide) lyS ww_42 dP_price_46 (pc' := 49) rfl ?_
        refine vv_iload_n cx dP_price_49 rfl rfl (pc' := 50) rfl ?_
        refine vv_iload_n cx dP_price_50 rfl rfl (pc' := 51) rfl ?_
        refine vv_iast cx _ (by decide) sh_10 (pq_in5 hxi (by omega)) dP_price_51 (pc' := 52) rfl ?_
        refine vv_aload_n cx dP_price_52 rfl rfl (pc' := 53) rfl ?_
        refine vv_getR cx (C := RP) (T := TP) (NN := 4) 0 1 _ (by decide) sh_0 rfl rfl (by decide) lyP ww_143 dP_price_53 (pc' := 56) rfl ?_
        refine cc_Vv cx hX (tD_forget l g _) kD_forget ww_294 rfl rfl ⟨Nat.le_of_ble_eq_true rfl, Nat.le_of_ble_eq_true rfl⟩ 2 (by decide) sh_2 rfl rfl rfl rfl (Nat.le_of_ble_eq_true rfl) rfl ⟨Nat.le_of_ble_eq_true rfl, Nat.le_of_ble_eq_true rfl⟩ dP_price_56 (pc' := 59) rfl (fun _ _ q => q.elim) (fun h56 q56 => ?_)
        subst q56
        refine vv_vret cx hr hlocks dP_price_59 (Nat.le_of_ble_eq_true rfl) (Nat.le_of_ble_eq_true rfl) ?_
        refine ⟨i, y9, hxi, hi, rfl, hy9, (pq_but.up (by decide)).trans (pq_but.up (by decide)), ?_, ?_, fun j hj => ?_⟩
        · rw [va_up_ne _ _ (by decide), va_up_self, pq_clN hxi (by omega)]
        · rw [va_up_self, pk_us]
        · rw [va_up_self, pk_un hj, va_up_ne _ _ (by decide)]
      · refine vv_throw cx hX hl hex hlocks (cls := "java/lang/IllegalArgumentException") (text := "no such price") (names := ["java/lang/RuntimeException", "java/lang/Exception"]) (by decide +kernel) (by decide +kernel) ww_221 ww_10 thIAE_at thIAE_good (by decide +kernel) dP_price_32 dP_price_35 dP_price_36 dP_price_38 dP_price_41 rfl (Nat.le_of_ble_eq_true rfl) (Nat.le_of_ble_eq_true rfl) (Nat.le_of_ble_eq_true rfl) (Nat.le_of_ble_eq_true rfl) (Nat.le_of_ble_eq_true rfl) (Nat.le_of_ble_eq_true rfl) ?_
        first | exact ⟨rfl, Or.inr ⟨rfl, hix, fun q => absurd q.1 (Int32.not_le.mpr c22)⟩⟩ | exact ⟨rfl, Or.inr ⟨rfl, hix, fun q => absurd q.2 c29⟩⟩
  · refine vv_throw cx hX hl hex hlocks (cls := "java/lang/IndexOutOfBoundsException") (text := "no such order") (names := ["java/lang/RuntimeException", "java/lang/Exception"]) (by decide +kernel) (by decide +kernel) ww_344 ww_12 thIOE_at thIOE_good (by decide +kernel) dP_price_11 dP_price_14 dP_price_15 dP_price_17 dP_price_20 rfl (Nat.le_of_ble_eq_true rfl) (Nat.le_of_ble_eq_true rfl) (Nat.le_of_ble_eq_true rfl) (Nat.le_of_ble_eq_true rfl) (Nat.le_of_ble_eq_true rfl) (Nat.le_of_ble_eq_true rfl) ?_
    rcases q5 with q | q
    · exact absurd c8 (by rw [q.1]; decide)
    · exact ⟨rfl, Or.inl ⟨rfl, q.2⟩⟩
set_option maxRecDepth 100000 in
set_option maxHeartbeats 4000000 in
theorem tP_column (l : Launch) (g : pq_G) (h : pq_H) {W n : Nat} {w nm pr : Nat → Nat} (hs : pq_st h W n w nm pr) (hd : pq_dn h W n w nm pr) : XI l yP_column wP_column rP_column g 0 0 [.ref (g.2.2 0)] h (fun r h9 => r = nI (pq_col W n w nm pr).1 ∧ pq_but [2, 11, 12] h h9 ∧ pq_z h9 12 n ∧ pq_dk h9 W n w nm pr) (pq_no) := by
  refine XI.of (cc := cP_column) (maxL := 1) (ret := (some .int)) (by decide +kernel) (by simp [Value.category]) (Nat.le_of_ble_eq_true rfl) ?_
  intro p e s m below meth c cx hX hr hlocks hex
  refine vv_aload_n cx dP_column_0 rfl rfl (pc' := 1) rfl ?_
  refine vv_getR cx (C := RP) (T := TP) (NN := 4) 0 1 _ (by decide) sh_0 rfl rfl (by decide) lyP ww_143 dP_column_1 (pc' := 4) rfl ?_
  refine cc_Vi cx hX (tD_priceSum l g h hs hd) kD_priceSum ww_159 rfl rfl ⟨Nat.le_of_ble_eq_true rfl, Nat.le_of_ble_eq_true rfl⟩ 2 (by decide) sh_2 rfl rfl rfl rfl (Nat.le_of_ble_eq_true rfl) rfl ⟨Nat.le_of_ble_eq_true rfl, Nat.le_of_ble_eq_true rfl⟩ dP_column_4 (pc' := 7) rfl (fun _ _ q => q.elim) (fun r4 h4 q4 => ?_)
  refine vv_iret cx hr hlocks dP_column_7 (Nat.le_of_ble_eq_true rfl) (Nat.le_of_ble_eq_true rfl) ?_
  exact q4
set_option maxRecDepth 100000 in
set_option maxHeartbeats 4000000 in
theorem tP_columnOf (l : Launch) (hl : l.stackTraces = false) (g : pq_G) (h : pq_H) {W n : Nat} {w nm pr : Nat → Nat} (x : Int32) (hs : pq_st h W n w nm pr) (hd : pq_dn h W n w nm pr) : XI l yP_columnOf wP_columnOf rP_columnOf g 1 6 [.ref (g.2.2 0), .int x] h (fun r h9 => ∃ i, x = nI i ∧ i < n ∧ r = nI ((pq_col W n w nm pr).2 i) ∧ pq_but [2, 11, 12] h h9 ∧ pq_z h9 12 n ∧ pq_dk h9 W n w nm pr) (fun E h9 => E = xIOE ∧ h9 = h ∧ ¬ (0 ≤ x ∧ x < nI n)) := by
  refine XI.of (cc := cP_columnOf) (maxL := 2) (ret := (some .int)) (by decide +kernel) (by simp [Value.category]) (Nat.le_of_ble_eq_true rfl) ?_
  intro p e s m below meth c cx hX hr hlocks hex
  have hn5 := hs.2.1.2.2
  have hn := hs.1.2.1
  refine vv_aload_n cx dP_columnOf_0 rfl rfl (pc' := 1) rfl ?_
  refine vv_getR cx (C := RP) (T := TP) (NN := 4) 0 0 _ (by decide) sh_0 rfl rfl (by decide) lyP ww_142 dP_columnOf_1 (pc' := 4) rfl ?_
  refine vv_iload_n cx dP_columnOf_4 rfl rfl (pc' := 5) rfl ?_
  refine cc_Vi cx hX (tS_has l g h x) kS_has ww_340 rfl rfl ⟨Nat.le_of_ble_eq_true rfl, Nat.le_of_ble_eq_true rfl⟩ 1 (by decide) sh_1 rfl rfl rfl rfl (Nat.le_of_ble_eq_true rfl) rfl ⟨Nat.le_of_ble_eq_true rfl, Nat.le_of_ble_eq_true rfl⟩ dP_columnOf_5 (pc' := 8) rfl (fun _ _ q => q.elim) (fun r5 h5 q5 => ?_)
  obtain ⟨rfl, q5⟩ := q5
  rw [hn] at q5
  refine vv_if_ne cx dP_columnOf_8 (tgt := 21) (by decide) (pc' := 11) rfl (fun c8 => ?_) (fun c8 => ?_)
  · have hix : 0 ≤ x ∧ x < nI n := by rcases q5 with q | q; exact q.2; exact absurd q.1 c8
    obtain ⟨i, hi, rfl⟩ := pq_idx hix.1 hix.2 (by omega)
    refine vv_aload_n cx dP_columnOf_21 rfl rfl (pc' := 22) rfl ?_
    refine vv_getR cx (C := RP) (T := TP) (NN := 4) 0 1 _ (by decide) sh_0 rfl rfl (by decide) lyP ww_143 dP_columnOf_22 (pc' := 25) rfl ?_
    refine vv_iload_n cx dP_columnOf_25 rfl rfl (pc' := 26) rfl ?_
    refine cc_Vi cx hX (tD_piecesOf l g h5 i hs hd (by omega)) kD_piecesOf ww_375 rfl rfl ⟨Nat.le_of_ble_eq_true rfl, Nat.le_of_ble_eq_true rfl⟩ 2 (by decide) sh_2 rfl rfl rfl rfl (Nat.le_of_ble_eq_true rfl) rfl ⟨Nat.le_of_ble_eq_true rfl, Nat.le_of_ble_eq_true rfl⟩ dP_columnOf_26 (pc' := 29) rfl (fun _ _ q => q.elim) (fun r26 h26 q26 => ?_)
    refine vv_iret cx hr hlocks dP_columnOf_29 (Nat.le_of_ble_eq_true rfl) (Nat.le_of_ble_eq_true rfl) ?_
    exact ⟨i, rfl, hi, q26⟩
  · refine vv_throw cx hX hl hex hlocks (cls := "java/lang/IndexOutOfBoundsException") (text := "no such order") (names := ["java/lang/RuntimeException", "java/lang/Exception"]) (by decide +kernel) (by decide +kernel) ww_344 ww_12 thIOE_at thIOE_good (by decide +kernel) dP_columnOf_11 dP_columnOf_14 dP_columnOf_15 dP_columnOf_17 dP_columnOf_20 rfl (Nat.le_of_ble_eq_true rfl) (Nat.le_of_ble_eq_true rfl) (Nat.le_of_ble_eq_true rfl) (Nat.le_of_ble_eq_true rfl) (Nat.le_of_ble_eq_true rfl) (Nat.le_of_ble_eq_true rfl) ?_
    rcases q5 with q | q
    · exact absurd c8 (by rw [q.1]; decide)
    · exact ⟨rfl, rfl, q.2⟩
set_option maxRecDepth 100000 in
set_option maxHeartbeats 4000000 in
theorem tP_boundByPrices (l : Launch) (g : pq_G) (h : pq_H) {W n : Nat} {w nm pr : Nat → Nat} (hs : pq_st h W n w nm pr) (hd : pq_dn h W n w nm pr) : XI l yP_boundByPrices wP_boundByPrices rP_boundByPrices g 0 0 [.ref (g.2.2 0)] h (fun r h9 => r = nI (pq_up (pq_price n pr nm) (pq_col W n w nm pr).1) ∧ pq_but [2, 11, 12] h h9 ∧ pq_z h9 12 n ∧ pq_dk h9 W n w nm pr) (pq_no) := by
  refine XI.of (cc := cP_boundByPrices) (maxL := 1) (ret := (some .int)) (by decide +kernel) (by simp [Value.category]) (Nat.le_of_ble_eq_true rfl) ?_
  intro p e s m below meth c cx hX hr hlocks hex
  have hn5 := hs.2.1.2.2
  have hbb : ∀ i, i < 5 → nm i ≤ 6 ∧ pr i ≤ 1000 := fun i hi => (hs.2.2.1 i hi).2
  have hcb := pq_col_bd (W := W) (w := w) hn5 hbb
  have hpb : pq_sum (fun i => nm i * pr i) n ≤ 30000 := Nat.le_trans (pq_sum_bd (B := 6000) (fun i hi => Nat.le_trans (Nat.mul_le_mul (hbb i (by omega)).1 (hbb i (by omega)).2) (by decide))) (by omega)
  refine vv_aload_n cx dP_boundByPrices_0 rfl rfl (pc' := 1) rfl ?_
  refine vv_getR cx (C := RP) (T := TP) (NN := 4) 0 0 _ (by decide) sh_0 rfl rfl (by decide) lyP ww_142 dP_boundByPrices_1 (pc' := 4) rfl ?_
  refine cc_Vi cx hX (tS_priceOfAll l g h hs) kS_priceOfAll ww_205 rfl rfl ⟨Nat.le_of_ble_eq_true rfl, Nat.le_of_ble_eq_true rfl⟩ 1 (by decide) sh_1 rfl rfl rfl rfl (Nat.le_of_ble_eq_true rfl) rfl ⟨Nat.le_of_ble_eq_true rfl, Nat.le_of_ble_eq_true rfl⟩ dP_boundByPrices_4 (pc' := 7) rfl (fun _ _ q => q.elim) (fun r4 h4 q4 => ?_)
  obtain ⟨rfl, rfl⟩ := q4
  refine vv_aload_n cx dP_boundByPrices_7 rfl rfl (pc' := 8) rfl ?_
  refine vv_getR cx (C := RP) (T := TP) (NN := 4) 0 1 _ (by decide) sh_0 rfl rfl (by decide) lyP ww_143 dP_boundByPrices_8 (pc' := 11) rfl ?_
  refine cc_Vi cx hX (tD_priceSum l g _ hs hd) kD_priceSum ww_159 rfl rfl ⟨Nat.le_of_ble_eq_true rfl, Nat.le_of_ble_eq_true rfl⟩ 2 (by decide) sh_2 rfl rfl rfl rfl (Nat.le_of_ble_eq_true rfl) rfl ⟨Nat.le_of_ble_eq_true rfl, Nat.le_of_ble_eq_true rfl⟩ dP_boundByPrices_11 (pc' := 14) rfl (fun _ _ q => q.elim) (fun r11 h11 q11 => ?_)
  obtain ⟨rfl, q11⟩ := q11
  refine cc_Si cx hX (tP_roundedUp l g _ _ _ (by omega) (by omega)) kP_roundedUp ww_210 rfl rfl ⟨Nat.le_of_ble_eq_true rfl, Nat.le_of_ble_eq_true rfl⟩ rfl rfl (Nat.le_of_ble_eq_true rfl) rfl ⟨Nat.le_of_ble_eq_true rfl, Nat.le_of_ble_eq_true rfl⟩ dP_boundByPrices_14 (pc' := 17) rfl (fun _ _ q => q.elim) (fun r14 h14 q14 => ?_)
  obtain ⟨rfl, rfl⟩ := q14
  refine vv_iret cx hr hlocks dP_boundByPrices_17 (Nat.le_of_ble_eq_true rfl) (Nat.le_of_ble_eq_true rfl) ?_
  exact ⟨rfl, q11⟩
set_option maxRecDepth 100000 in
set_option maxHeartbeats 4000000 in
theorem tP_bound (l : Launch) (g : pq_G) (h : pq_H) {W n : Nat} {w nm pr : Nat → Nat} (hs : pq_st h W n w nm pr) (hd : pq_dn h W n w nm pr) : XI l yP_bound wP_bound rP_bound g 0 0 [.ref (g.2.2 0)] h (fun r h9 => r = nI (pq_up (pq_price n pr nm) (pq_col W n w nm pr).1) ∧ pq_but [2, 11, 12] h h9 ∧ pq_z h9 12 n ∧ pq_dk h9 W n w nm pr) (pq_no) := by
  refine XI.of (cc := cP_bound) (maxL := 1) (ret := (some .int)) (by decide +kernel) (by simp [Value.category]) (Nat.le_of_ble_eq_true rfl) ?_
  intro p e s m below meth c cx hX hr hlocks hex
  refine vv_aload_n cx dP_bound_0 rfl rfl (pc' := 1) rfl ?_
  refine cc_Vi cx hX (tP_boundByPrices l g h hs hd) kP_boundByPrices ww_201 rfl rfl ⟨Nat.le_of_ble_eq_true rfl, Nat.le_of_ble_eq_true rfl⟩ 0 (by decide) sh_0 rfl rfl rfl rfl (Nat.le_of_ble_eq_true rfl) rfl ⟨Nat.le_of_ble_eq_true rfl, Nat.le_of_ble_eq_true rfl⟩ dP_bound_1 (pc' := 4) rfl (fun _ _ q => q.elim) (fun r1 h1 q1 => ?_)
  refine vv_iret cx hr hlocks dP_bound_4 (Nat.le_of_ble_eq_true rfl) (Nat.le_of_ble_eq_true rfl) ?_
  exact q1
end
section
/-! part 16: the face's methods, second half -/
/-- the design that stands: its sheets, its rows -/
def pq_de (h : pq_H) (n : Nat) (bs : Option Nat) (best : Nat → Nat → Nat) : Prop := h 3 5 = pq_bsI bs ∧ ∀ b, bs = some b → b ≤ 30 ∧ (∀ j, j < b → pq_sm n (best j)) ∧ pq_rws h 46 best b
/-- the kept patterns -/
def pq_so (h : pq_H) (c : Nat) (kp : Nat → Nat → Nat) : Prop := h 4 0 = nI c ∧ c ≤ 40 ∧ ∀ j, j < c → pq_row h (76 + j) (kp j) ∧ ∀ i, i < 5 → kp j i ≤ 6
theorem pq_bsI_lt {bs : Option Nat} {x : Int32} (hb : ∀ b, bs = some b → b ≤ 30) (h0 : 0 ≤ x) (h1 : x < pq_bsI bs) : ∃ b j, bs = some b ∧ j < b ∧ x = nI j := by
  cases bs with
  | none => exact absurd (Int32.lt_of_le_of_lt h0 h1) (by decide)
  | some b =>
    obtain ⟨j, hj, e⟩ := pq_idx h0 h1 (by have := hb b rfl; omega)
    exact ⟨b, j, rfl, hj, e⟩
theorem pq_lt5 {i : Nat} {y : Int32} (hi : i ≤ 6) (hyi : y = nI i) (h6 : ¬ y = 6) (h5 : ¬ y = 5) : i < 5 := by
  rcases (show i = 6 ∨ i = 5 ∨ i < 5 by omega) with q | q | q
  · exact absurd (by rw [hyi, q]; rfl) h6
  · exact absurd (by rw [hyi, q]; rfl) h5
  · exact q
theorem pq_ne1 {k : Nat} (h : k < 1000) : ¬ nI k = -1 := by
  intro q
  have h1 : (nI k).toInt = (-1 : Int32).toInt := by rw [q]
  rw [nI_toInt (by omega)] at h1
  have h2 : (-1 : Int32).toInt = -1 := by decide
  omega
theorem pq_maxI {x y : Nat} (hx : x < 2 ^ 31) (hy : y < 2 ^ 31) : (if nI x < nI y then nI y else nI x) = nI (max x y) := by
  by_cases q : x < y
  · rw [if_pos (nI_lt q hy), Nat.max_eq_right (by omega)]
  · rw [if_neg (nI_nlt (by omega) hx), Nat.max_eq_left (by omega)]
set_option maxRecDepth 100000 in
set_option maxHeartbeats 4000000 in
theorem tP_design (l : Launch) (hl : l.stackTraces = false) (g : pq_G) (h : pq_H) {W n : Nat} {w nm pr : Nat → Nat} (x : Int32) (hs : pq_st h W n w nm pr) (hz : pq_zs h n) : XI l yP_design wP_design rP_design g 1 6 [.ref (g.2.2 0), .int x] h (fun r h9 => ∃ most, x = nI most ∧ most ≤ 100000 ∧ (∀ i, i < n → ¬ (0 < nm i ∧ W < w i)) ∧ r = h9 3 5 ∧ pq_gb h h9 ∧ pq_zs h9 n ∧ pq_fin h9 W n w nm most) (fun E h9 => h9 = h ∧ ((E = xIAE ∧ ¬ (0 ≤ x ∧ x ≤ 100000)) ∨ (E = xUOE ∧ (0 ≤ x ∧ x ≤ 100000) ∧ ∃ i, i < n ∧ 0 < nm i ∧ W < w i))) := by
  refine XI.of (cc := cP_design) (maxL := 2) (ret := (some .int)) (by decide +kernel) (by simp [Value.category]) (Nat.le_of_ble_eq_true rfl) ?_
  intro p e s m below meth c cx hX hr hlocks hex
  refine vv_iload_n cx dP_design_0 rfl rfl (pc' := 1) rfl ?_
  refine vv_if_lt cx dP_design_1 (tgt := 10) (by decide) (pc' := 4) rfl (fun c1 => ?_) (fun c1 => ?_)
  · refine vv_throw cx hX hl hex hlocks (cls := "java/lang/IllegalArgumentException") (text := "no such number of steps") (names := ["java/lang/RuntimeException", "java/lang/Exception"]) (by decide +kernel) (by decide +kernel) ww_221 ww_10 thIAE_at thIAE_good (by decide +kernel) dP_design_10 dP_design_13 dP_design_14 dP_design_16 dP_design_19 rfl (Nat.le_of_ble_eq_true rfl) (Nat.le_of_ble_eq_true rfl) (Nat.le_of_ble_eq_true rfl) (Nat.le_of_ble_eq_true rfl) (Nat.le_of_ble_eq_true rfl) (Nat.le_of_ble_eq_true rfl) ?_
    first | exact ⟨rfl, Or.inl ⟨rfl, fun q => absurd q.1 (Int32.not_le.mpr c1)⟩⟩ | exact ⟨rfl, Or.inl ⟨rfl, fun q => absurd q.2 c7⟩⟩
  · refine vv_iload_n cx dP_design_4 rfl rfl (pc' := 5) rfl ?_
    refine vv_ldc cx (v := 100000) dP_design_5 ww_387 (pc' := 7) rfl ?_
    refine vv_icmp_le cx dP_design_7 (tgt := 20) (by decide) (pc' := 10) rfl (fun c7 => ?_) (fun c7 => ?_)
    · have hrg : 0 ≤ x ∧ x ≤ 100000 := ⟨Int32.not_lt.mp c1, c7⟩
      obtain ⟨most, hm, rfl⟩ := pq_rng (n := 100000) (M := 100000) rfl hrg.1 hrg.2
      refine vv_aload_n cx dP_design_20 rfl rfl (pc' := 21) rfl ?_
      refine vv_getR cx (C := RP) (T := TP) (NN := 4) 0 0 _ (by decide) sh_0 rfl rfl (by decide) lyP ww_142 dP_design_21 (pc' := 24) rfl ?_
      refine cc_Vi cx hX (tS_somePieceIsTooWide l g h hs) kS_somePieceIsTooWide ww_389 rfl rfl ⟨Nat.le_of_ble_eq_true rfl, Nat.le_of_ble_eq_true rfl⟩ 1 (by decide) sh_1 rfl rfl rfl rfl (Nat.le_of_ble_eq_true rfl) rfl ⟨Nat.le_of_ble_eq_true rfl, Nat.le_of_ble_eq_true rfl⟩ dP_design_24 (pc' := 27) rfl (fun _ _ q => q.elim) (fun r24 h24 q24 => ?_)
      obtain ⟨rfl, q24⟩ := q24
      refine vv_if_eq cx dP_design_27 (tgt := 40) (by decide) (pc' := 30) rfl (fun c27 => ?_) (fun c27 => ?_)
      · have hno : ∀ i, i < n → ¬ (0 < nm i ∧ W < w i) := by rcases q24 with q | q; exact absurd c27 (by rw [q.1]; decide); exact q.2
        have he : pq_env W n w nm := ⟨hs.2.1.2.2, fun i hi => (hs.2.2.1 i hi).2.1, hs.2.2.2.2, hs.2.2.2.1, fun i hi q => Nat.le_of_not_lt (fun z => hno i hi ⟨q, z⟩)⟩
        refine vv_aload_n cx dP_design_40 rfl rfl (pc' := 41) rfl ?_
        refine vv_getR cx (C := RP) (T := TP) (NN := 4) 0 2 _ (by decide) sh_0 rfl rfl (by decide) lyP ww_144 dP_design_41 (pc' := 44) rfl ?_
        refine vv_iload_n cx dP_design_44 rfl rfl (pc' := 45) rfl ?_
        refine cc_Vv cx hX (tG_run l g _ most hs he hm hz) kG_run ww_409 rfl rfl ⟨Nat.le_of_ble_eq_true rfl, Nat.le_of_ble_eq_true rfl⟩ 3 (by decide) sh_3 rfl rfl rfl rfl (Nat.le_of_ble_eq_true rfl) rfl ⟨Nat.le_of_ble_eq_true rfl, Nat.le_of_ble_eq_true rfl⟩ dP_design_45 (pc' := 48) rfl (fun _ _ q => q.elim) (fun h45 q45 => ?_)
        refine vv_aload_n cx dP_design_48 rfl rfl (pc' := 49) rfl ?_
        refine vv_getR cx (C := RP) (T := TP) (NN := 4) 0 2 _ (by decide) sh_0 rfl rfl (by decide) lyP ww_144 dP_design_49 (pc' := 52) rfl ?_
        refine vv_getI cx (C := RG) (T := TG) (NN := 9) 3 5 (by decide) sh_3 rfl rfl (by decide) lyG ww_92 dP_design_52 (pc' := 55) rfl ?_
        refine vv_iret cx hr hlocks dP_design_55 (Nat.le_of_ble_eq_true rfl) (Nat.le_of_ble_eq_true rfl) ?_
        exact ⟨most, rfl, hm, hno, rfl, q45⟩
      · refine vv_throw cx hX hl hex hlocks (cls := "java/lang/UnsupportedOperationException") (text := "a piece is wider than a sheet") (names := ["java/lang/RuntimeException", "java/lang/Exception"]) (by decide +kernel) (by decide +kernel) ww_393 ww_15 thUOE_at thUOE_good (by decide +kernel) dP_design_30 dP_design_33 dP_design_34 dP_design_36 dP_design_39 rfl (Nat.le_of_ble_eq_true rfl) (Nat.le_of_ble_eq_true rfl) (Nat.le_of_ble_eq_true rfl) (Nat.le_of_ble_eq_true rfl) (Nat.le_of_ble_eq_true rfl) (Nat.le_of_ble_eq_true rfl) ?_
        rcases q24 with q | q
        · exact ⟨rfl, Or.inr ⟨rfl, hrg, q.2⟩⟩
        · exact absurd q.1 c27
    · refine vv_throw cx hX hl hex hlocks (cls := "java/lang/IllegalArgumentException") (text := "no such number of steps") (names := ["java/lang/RuntimeException", "java/lang/Exception"]) (by decide +kernel) (by decide +kernel) ww_221 ww_10 thIAE_at thIAE_good (by decide +kernel) dP_design_10 dP_design_13 dP_design_14 dP_design_16 dP_design_19 rfl (Nat.le_of_ble_eq_true rfl) (Nat.le_of_ble_eq_true rfl) (Nat.le_of_ble_eq_true rfl) (Nat.le_of_ble_eq_true rfl) (Nat.le_of_ble_eq_true rfl) (Nat.le_of_ble_eq_true rfl) ?_
      first | exact ⟨rfl, Or.inl ⟨rfl, fun q => absurd q.1 (Int32.not_le.mpr c1)⟩⟩ | exact ⟨rfl, Or.inl ⟨rfl, fun q => absurd q.2 c7⟩⟩
set_option maxRecDepth 100000 in
set_option maxHeartbeats 4000000 in
theorem tP_designed (l : Launch) (hl : l.stackTraces = false) (g : pq_G) (h : pq_H) (x : Int32) : XI l yP_designed wP_designed rP_designed g 1 6 [.ref (g.2.2 0), .int x] h (fun r h9 => h9 = h ∧ (0 ≤ x ∧ x ≤ 1) ∧ ¬ h 3 6 = 0 ∧ ((x = 0 ∧ h 3 7 = 0 ∧ r = 0) ∨ (x = 0 ∧ ¬ h 3 7 = 0 ∧ r = 1) ∨ (¬ x = 0 ∧ r = h 3 8))) (fun E h9 => h9 = h ∧ ((E = xIOE ∧ ¬ (0 ≤ x ∧ x ≤ 1)) ∨ (E = xISE ∧ (0 ≤ x ∧ x ≤ 1) ∧ h 3 6 = 0))) := by
  refine XI.of (cc := cP_designed) (maxL := 2) (ret := (some .int)) (by decide +kernel) (by simp [Value.category]) (Nat.le_of_ble_eq_true rfl) ?_
  intro p e s m below meth c cx hX hr hlocks hex
  refine vv_iload_n cx dP_designed_0 rfl rfl (pc' := 1) rfl ?_
  refine vv_if_lt cx dP_designed_1 (tgt := 9) (by decide) (pc' := 4) rfl (fun c1 => ?_) (fun c1 => ?_)
  · refine vv_throw cx hX hl hex hlocks (cls := "java/lang/IndexOutOfBoundsException") (text := "no such what") (names := ["java/lang/RuntimeException", "java/lang/Exception"]) (by decide +kernel) (by decide +kernel) ww_344 ww_12 thIOE_at thIOE_good (by decide +kernel) dP_designed_9 dP_designed_12 dP_designed_13 dP_designed_15 dP_designed_18 rfl (Nat.le_of_ble_eq_true rfl) (Nat.le_of_ble_eq_true rfl) (Nat.le_of_ble_eq_true rfl) (Nat.le_of_ble_eq_true rfl) (Nat.le_of_ble_eq_true rfl) (Nat.le_of_ble_eq_true rfl) ?_
    first | exact ⟨rfl, Or.inl ⟨rfl, fun q => absurd q.1 (Int32.not_le.mpr c1)⟩⟩ | exact ⟨rfl, Or.inl ⟨rfl, fun q => absurd q.2 c6⟩⟩
  · refine vv_iload_n cx dP_designed_4 rfl rfl (pc' := 5) rfl ?_
    refine vv_iconst cx dP_designed_5 (v := 1) (by decide) (pc' := 6) rfl ?_
    refine vv_icmp_le cx dP_designed_6 (tgt := 19) (by decide) (pc' := 9) rfl (fun c6 => ?_) (fun c6 => ?_)
    · refine vv_aload_n cx dP_designed_19 rfl rfl (pc' := 20) rfl ?_
      refine vv_getR cx (C := RP) (T := TP) (NN := 4) 0 2 _ (by decide) sh_0 rfl rfl (by decide) lyP ww_144 dP_designed_20 (pc' := 23) rfl ?_
      refine vv_getI cx (C := RG) (T := TG) (NN := 9) 3 6 (by decide) sh_3 rfl rfl (by decide) lyG ww_94 dP_designed_23 (pc' := 26) rfl ?_
      refine vv_if_ne cx dP_designed_26 (tgt := 39) (by decide) (pc' := 29) rfl (fun c26 => ?_) (fun c26 => ?_)
      · refine vv_iload_n cx dP_designed_39 rfl rfl (pc' := 40) rfl ?_
        refine vv_if_ne cx dP_designed_40 (tgt := 59) (by decide) (pc' := 43) rfl (fun c40 => ?_) (fun c40 => ?_)
        · refine vv_aload_n cx dP_designed_59 rfl rfl (pc' := 60) rfl ?_
          refine vv_getR cx (C := RP) (T := TP) (NN := 4) 0 2 _ (by decide) sh_0 rfl rfl (by decide) lyP ww_144 dP_designed_60 (pc' := 63) rfl ?_
          refine vv_getI cx (C := RG) (T := TG) (NN := 9) 3 8 (by decide) sh_3 rfl rfl (by decide) lyG ww_98 dP_designed_63 (pc' := 66) rfl ?_
          refine vv_iret cx hr hlocks dP_designed_66 (Nat.le_of_ble_eq_true rfl) (Nat.le_of_ble_eq_true rfl) ?_
          exact ⟨rfl, ⟨Int32.not_lt.mp c1, c6⟩, c26, Or.inr (Or.inr ⟨c40, rfl⟩)⟩
        · refine vv_aload_n cx dP_designed_43 rfl rfl (pc' := 44) rfl ?_
          refine vv_getR cx (C := RP) (T := TP) (NN := 4) 0 2 _ (by decide) sh_0 rfl rfl (by decide) lyP ww_144 dP_designed_44 (pc' := 47) rfl ?_
          refine vv_getI cx (C := RG) (T := TG) (NN := 9) 3 7 (by decide) sh_3 rfl rfl (by decide) lyG ww_96 dP_designed_47 (pc' := 50) rfl ?_
          refine vv_if_eq cx dP_designed_50 (tgt := 57) (by decide) (pc' := 53) rfl (fun c50 => ?_) (fun c50 => ?_)
          · refine vv_iconst cx dP_designed_57 (v := 0) (by decide) (pc' := 58) rfl ?_
            refine vv_iret cx hr hlocks dP_designed_58 (Nat.le_of_ble_eq_true rfl) (Nat.le_of_ble_eq_true rfl) ?_
            first | exact ⟨rfl, ⟨Int32.not_lt.mp c1, c6⟩, c26, Or.inl ⟨c40, c50, rfl⟩⟩ | exact ⟨rfl, ⟨Int32.not_lt.mp c1, c6⟩, c26, Or.inr (Or.inl ⟨c40, c50, rfl⟩)⟩
          · refine vv_iconst cx dP_designed_53 (v := 1) (by decide) (pc' := 54) rfl ?_
            refine vv_goto cx dP_designed_54 (tgt := 58) (by decide) ?_
            refine vv_iret cx hr hlocks dP_designed_58 (Nat.le_of_ble_eq_true rfl) (Nat.le_of_ble_eq_true rfl) ?_
            first | exact ⟨rfl, ⟨Int32.not_lt.mp c1, c6⟩, c26, Or.inl ⟨c40, c50, rfl⟩⟩ | exact ⟨rfl, ⟨Int32.not_lt.mp c1, c6⟩, c26, Or.inr (Or.inl ⟨c40, c50, rfl⟩)⟩
      · refine vv_throw cx hX hl hex hlocks (cls := "java/lang/IllegalStateException") (text := "nothing was designed") (names := ["java/lang/RuntimeException", "java/lang/Exception"]) (by decide +kernel) (by decide +kernel) ww_310 ww_11 thISE_at thISE_good (by decide +kernel) dP_designed_29 dP_designed_32 dP_designed_33 dP_designed_35 dP_designed_38 rfl (Nat.le_of_ble_eq_true rfl) (Nat.le_of_ble_eq_true rfl) (Nat.le_of_ble_eq_true rfl) (Nat.le_of_ble_eq_true rfl) (Nat.le_of_ble_eq_true rfl) (Nat.le_of_ble_eq_true rfl) ?_
        exact ⟨rfl, Or.inr ⟨rfl, ⟨Int32.not_lt.mp c1, c6⟩, c26⟩⟩
    · refine vv_throw cx hX hl hex hlocks (cls := "java/lang/IndexOutOfBoundsException") (text := "no such what") (names := ["java/lang/RuntimeException", "java/lang/Exception"]) (by decide +kernel) (by decide +kernel) ww_344 ww_12 thIOE_at thIOE_good (by decide +kernel) dP_designed_9 dP_designed_12 dP_designed_13 dP_designed_15 dP_designed_18 rfl (Nat.le_of_ble_eq_true rfl) (Nat.le_of_ble_eq_true rfl) (Nat.le_of_ble_eq_true rfl) (Nat.le_of_ble_eq_true rfl) (Nat.le_of_ble_eq_true rfl) (Nat.le_of_ble_eq_true rfl) ?_
      first | exact ⟨rfl, Or.inl ⟨rfl, fun q => absurd q.1 (Int32.not_le.mpr c1)⟩⟩ | exact ⟨rfl, Or.inl ⟨rfl, fun q => absurd q.2 c6⟩⟩
set_option maxRecDepth 100000 in
set_option maxHeartbeats 4000000 in
theorem tP_gap (l : Launch) (hl : l.stackTraces = false) (g : pq_G) (h : pq_H) {W n : Nat} {w nm pr : Nat → Nat} (hs : pq_st h W n w nm pr) (hd : pq_dn h W n w nm pr) : XI l yP_gap wP_gap rP_gap g 1 6 [.ref (g.2.2 0)] h (fun r h9 => ¬ h 3 5 = -1 ∧ r = h 3 5 - nI (max (pq_up (pq_wd n w nm) W) (pq_up (pq_price n pr nm) (pq_col W n w nm pr).1)) ∧ pq_but [2, 11, 12] h h9 ∧ pq_z h9 12 n ∧ pq_dk h9 W n w nm pr) (fun E h9 => E = xISE ∧ h9 = h ∧ h 3 5 = -1) := by
  refine XI.of (cc := cP_gap) (maxL := 2) (ret := (some .int)) (by decide +kernel) (by simp [Value.category]) (Nat.le_of_ble_eq_true rfl) ?_
  intro p e s m below meth c cx hX hr hlocks hex
  have hn5 := hs.2.1.2.2
  have hXb : pq_wd n w nm ≤ 30000 := pq_wd_bd hn5 (fun i hi => (hs.2.2.1 i (by omega)).2.1) (fun i hi => (hs.2.2.1 i (by omega)).1)
  have hub : pq_up (pq_wd n w nm) W ≤ 30000 := Nat.le_trans pq_up_bd hXb
  have hbb : ∀ i, i < 5 → nm i ≤ 6 ∧ pr i ≤ 1000 := fun i hi => (hs.2.2.1 i hi).2
  have hpb : pq_price n pr nm ≤ 30000 := Nat.le_trans (pq_sum_bd (B := 6000) (fun i hi => Nat.le_trans (Nat.mul_le_mul (hbb i (by omega)).1 (hbb i (by omega)).2) (by decide))) (by omega)
  have hvb : pq_up (pq_price n pr nm) (pq_col W n w nm pr).1 ≤ 30000 := Nat.le_trans pq_up_bd hpb
  refine vv_aload_n cx dP_gap_0 rfl rfl (pc' := 1) rfl ?_
  refine cc_Vv cx hX (tP_requireDesign l hl g h) kP_requireDesign ww_471 rfl rfl ⟨Nat.le_of_ble_eq_true rfl, Nat.le_of_ble_eq_true rfl⟩ 0 (by decide) sh_0 rfl rfl rfl rfl (Nat.le_of_ble_eq_true rfl) rfl ⟨Nat.le_of_ble_eq_true rfl, Nat.le_of_ble_eq_true rfl⟩ dP_gap_1 (pc' := 4) rfl (fun E h9 q9 => vx_pass cx hex hlocks (Nat.le_of_ble_eq_true rfl) (Nat.le_of_ble_eq_true rfl) (q9)) (fun h1 q1 => ?_)
  obtain ⟨rfl, q1⟩ := q1
  refine vv_aload_n cx dP_gap_4 rfl rfl (pc' := 5) rfl ?_
  refine vv_getR cx (C := RP) (T := TP) (NN := 4) 0 0 _ (by decide) sh_0 rfl rfl (by decide) lyP ww_142 dP_gap_5 (pc' := 8) rfl ?_
  refine vv_aload_n cx dP_gap_8 rfl rfl (pc' := 9) rfl ?_
  refine vv_getR cx (C := RP) (T := TP) (NN := 4) 0 0 _ (by decide) sh_0 rfl rfl (by decide) lyP ww_142 dP_gap_9 (pc' := 12) rfl ?_
  refine cc_Vi cx hX (tS_widthOfAll l g _ hs) kS_widthOfAll ww_476 rfl rfl ⟨Nat.le_of_ble_eq_true rfl, Nat.le_of_ble_eq_true rfl⟩ 1 (by decide) sh_1 rfl rfl rfl rfl (Nat.le_of_ble_eq_true rfl) rfl ⟨Nat.le_of_ble_eq_true rfl, Nat.le_of_ble_eq_true rfl⟩ dP_gap_12 (pc' := 15) rfl (fun _ _ q => q.elim) (fun r12 h12 q12 => ?_)
  obtain ⟨rfl, rfl⟩ := q12
  refine cc_Vi cx hX (tS_sheetsFor l g _ (pq_wd n w nm) (by omega) hs) kS_sheetsFor ww_477 rfl rfl ⟨Nat.le_of_ble_eq_true rfl, Nat.le_of_ble_eq_true rfl⟩ 1 (by decide) sh_1 rfl rfl rfl rfl (Nat.le_of_ble_eq_true rfl) rfl ⟨Nat.le_of_ble_eq_true rfl, Nat.le_of_ble_eq_true rfl⟩ dP_gap_15 (pc' := 18) rfl (fun _ _ q => q.elim) (fun r15 h15 q15 => ?_)
  obtain ⟨rfl, rfl⟩ := q15
  refine vv_istore_n cx dP_gap_18 rfl (Nat.le_of_ble_eq_true rfl) (pc' := 19) rfl ?_
  refine vv_aload_n cx dP_gap_19 rfl rfl (pc' := 20) rfl ?_
  refine vv_getR cx (C := RP) (T := TP) (NN := 4) 0 2 _ (by decide) sh_0 rfl rfl (by decide) lyP ww_144 dP_gap_20 (pc' := 23) rfl ?_
  refine vv_getI cx (C := RG) (T := TG) (NN := 9) 3 5 (by decide) sh_3 rfl rfl (by decide) lyG ww_92 dP_gap_23 (pc' := 26) rfl ?_
  refine vv_iload_n cx dP_gap_26 rfl rfl (pc' := 27) rfl ?_
  refine vv_aload_n cx dP_gap_27 rfl rfl (pc' := 28) rfl ?_
  refine cc_Vi cx hX (tP_boundByPrices l g _ hs hd) kP_boundByPrices ww_201 rfl rfl ⟨Nat.le_of_ble_eq_true rfl, Nat.le_of_ble_eq_true rfl⟩ 0 (by decide) sh_0 rfl rfl rfl rfl (Nat.le_of_ble_eq_true rfl) rfl ⟨Nat.le_of_ble_eq_true rfl, Nat.le_of_ble_eq_true rfl⟩ dP_gap_28 (pc' := 31) rfl (fun _ _ q => q.elim) (fun r28 h28 q28 => ?_)
  obtain ⟨rfl, q28⟩ := q28
  refine vv_max cx ww_478 ww_479 ww_13 ww_480 (Nat.le_of_ble_eq_true rfl) (Nat.le_of_ble_eq_true rfl) (Nat.le_of_ble_eq_true rfl) (Nat.le_of_ble_eq_true rfl) rfl dP_gap_31 (pc' := 34) rfl ?_
  rw [pq_maxI (by omega) (by omega)]
  refine vv_isub cx dP_gap_34 (pc' := 35) rfl ?_
  refine vv_iret cx hr hlocks dP_gap_35 (Nat.le_of_ble_eq_true rfl) (Nat.le_of_ble_eq_true rfl) ?_
  exact ⟨q1, rfl, q28⟩
set_option maxRecDepth 100000 in
set_option maxHeartbeats 4000000 in
theorem tP_cut (l : Launch) (hl : l.stackTraces = false) (g : pq_G) (h : pq_H) {W n : Nat} {w nm pr : Nat → Nat} (bs : Option Nat) (best : Nat → Nat → Nat) (x y : Int32) (hs : pq_st h W n w nm pr) (hde : pq_de h n bs best) : XI l yP_cut wP_cut rP_cut g 3 18 [.ref (g.2.2 0), .int x, .int y] h (fun r h9 => h9 = h ∧ ∃ b j i, bs = some b ∧ x = nI j ∧ j < b ∧ y = nI i ∧ i < n ∧ r = nI (best j i)) (fun E h9 => h9 = h ∧ ((E = xISE ∧ h 3 5 = -1) ∨ (E = xIOE ∧ ¬ h 3 5 = -1 ∧ ¬ (0 ≤ x ∧ x < h 3 5 ∧ 0 ≤ y ∧ y < nI n)))) := by
  refine XI.of (cc := cP_cut) (maxL := 3) (ret := (some .int)) (by decide +kernel) (by simp [Value.category]) (Nat.le_of_ble_eq_true rfl) ?_
  intro p e s m below meth c cx hX hr hlocks hex
  have hn5 := hs.2.1.2.2
  have hn := hs.1.2.1
  refine vv_aload_n cx dP_cut_0 rfl rfl (pc' := 1) rfl ?_
  refine cc_Vv cx hX (tP_requireDesign l hl g h) kP_requireDesign ww_471 rfl rfl ⟨Nat.le_of_ble_eq_true rfl, Nat.le_of_ble_eq_true rfl⟩ 0 (by decide) sh_0 rfl rfl rfl rfl (Nat.le_of_ble_eq_true rfl) rfl ⟨Nat.le_of_ble_eq_true rfl, Nat.le_of_ble_eq_true rfl⟩ dP_cut_1 (pc' := 4) rfl (fun E h9 q9 => vx_pass cx hex hlocks (Nat.le_of_ble_eq_true rfl) (Nat.le_of_ble_eq_true rfl) (⟨q9.2.1, Or.inl ⟨q9.1, q9.2.2⟩⟩)) (fun h1 q1 => ?_)
  obtain ⟨rfl, q1⟩ := q1
  refine vv_aload_n cx dP_cut_4 rfl rfl (pc' := 5) rfl ?_
  refine vv_iload_n cx dP_cut_5 rfl rfl (pc' := 6) rfl ?_
  refine cc_Vv cx hX (tP_requireSheet l hl g _ x) kP_requireSheet ww_488 rfl rfl ⟨Nat.le_of_ble_eq_true rfl, Nat.le_of_ble_eq_true rfl⟩ 0 (by decide) sh_0 rfl rfl rfl rfl (Nat.le_of_ble_eq_true rfl) rfl ⟨Nat.le_of_ble_eq_true rfl, Nat.le_of_ble_eq_true rfl⟩ dP_cut_6 (pc' := 9) rfl (fun E h9 q9 => vx_pass cx hex hlocks (Nat.le_of_ble_eq_true rfl) (Nat.le_of_ble_eq_true rfl) (⟨q9.2.1, Or.inr ⟨q9.1, q1, fun z => q9.2.2 ⟨z.1, z.2.1⟩⟩⟩)) (fun h6 q6 => ?_)
  obtain ⟨rfl, q6⟩ := q6
  have hbs : ∀ b, bs = some b → b ≤ 30 := fun b q => (hde.2 b q).1
  have hx2 := q6.2
  rw [hde.1] at hx2
  obtain ⟨b, j, hb, hj, hxj⟩ := pq_bsI_lt hbs q6.1 hx2
  subst hb
  have hbb := hde.2 b rfl
  have hv : vp_in x 30 := by rw [hxj]; exact vp_in_nI (by omega) (by decide)
  have hcl := pq_clN hxj (show j < 1000 by omega)
  refine vv_aload_n cx dP_cut_9 rfl rfl (pc' := 10) rfl ?_
  refine vv_getR cx (C := RP) (T := TP) (NN := 4) 0 0 _ (by decide) sh_0 rfl rfl (by decide) lyP ww_142 dP_cut_10 (pc' := 13) rfl ?_
  refine vv_iload_n cx dP_cut_13 rfl rfl (pc' := 14) rfl ?_
  refine cc_Vi cx hX (tS_has l g _ y) kS_has ww_340 rfl rfl ⟨Nat.le_of_ble_eq_true rfl, Nat.le_of_ble_eq_true rfl⟩ 1 (by decide) sh_1 rfl rfl rfl rfl (Nat.le_of_ble_eq_true rfl) rfl ⟨Nat.le_of_ble_eq_true rfl, Nat.le_of_ble_eq_true rfl⟩ dP_cut_14 (pc' := 17) rfl (fun _ _ q => q.elim) (fun r14 h14 q14 => ?_)
  obtain ⟨rfl, q14⟩ := q14
  rw [hn] at q14
  refine vv_if_ne cx dP_cut_17 (tgt := 30) (by decide) (pc' := 20) rfl (fun c17 => ?_) (fun c17 => ?_)
  · have hiy : 0 ≤ y ∧ y < nI n := by rcases q14 with q | q; exact q.2; exact absurd q.1 c17
    obtain ⟨i, hi, hyi⟩ := pq_idx hiy.1 hiy.2 (by omega)
    refine vv_aload_n cx dP_cut_30 rfl rfl (pc' := 31) rfl ?_
    refine vv_getR cx (C := RP) (T := TP) (NN := 4) 0 2 _ (by decide) sh_0 rfl rfl (by decide) lyP ww_144 dP_cut_31 (pc' := 34) rfl ?_
    refine vv_getR cx (C := RG) (T := TG) (NN := 9) 3 4 _ (by decide) sh_3 rfl rfl (by decide) lyG ww_90 dP_cut_34 (pc' := 37) rfl ?_
    refine vv_iload_n cx dP_cut_37 rfl rfl (pc' := 38) rfl ?_
    refine vv_aaldq cx _ (by decide) sh_6 (show 46 + x.toNatClampNeg = 46 + j by rw [hcl]) hv dP_cut_38 (pc' := 39) rfl ?_
    refine vv_iload_n cx dP_cut_39 rfl rfl (pc' := 40) rfl ?_
    refine vv_iald cx _ (show 46 + j < 125 by omega) (sh_row (by omega) (by omega)) (pq_in5 hyi (by omega)) dP_cut_40 (pc' := 41) rfl ?_
    refine vv_iret cx hr hlocks dP_cut_41 (Nat.le_of_ble_eq_true rfl) (Nat.le_of_ble_eq_true rfl) ?_
    exact ⟨rfl, b, j, i, rfl, hxj, hj, hyi, hi, by rw [pq_clN hyi (by omega)]; exact hbb.2.2 j hj i (by omega)⟩
  · refine vv_throw cx hX hl hex hlocks (cls := "java/lang/IndexOutOfBoundsException") (text := "no such order") (names := ["java/lang/RuntimeException", "java/lang/Exception"]) (by decide +kernel) (by decide +kernel) ww_344 ww_12 thIOE_at thIOE_good (by decide +kernel) dP_cut_20 dP_cut_23 dP_cut_24 dP_cut_26 dP_cut_29 rfl (Nat.le_of_ble_eq_true rfl) (Nat.le_of_ble_eq_true rfl) (Nat.le_of_ble_eq_true rfl) (Nat.le_of_ble_eq_true rfl) (Nat.le_of_ble_eq_true rfl) (Nat.le_of_ble_eq_true rfl) ?_
    rcases q14 with q | q
    · exact absurd c17 (by rw [q.1]; decide)
    · exact ⟨rfl, Or.inr ⟨rfl, q1, fun z => q.2 z.2.2⟩⟩
set_option maxRecDepth 100000 in
set_option maxHeartbeats 4000000 in
theorem tP_over (l : Launch) (hl : l.stackTraces = false) (g : pq_G) (h : pq_H) {W n : Nat} {w nm pr : Nat → Nat} (bs : Option Nat) (best : Nat → Nat → Nat) (x : Int32) (hs : pq_st h W n w nm pr) (hde : pq_de h n bs best) : XI l yP_over wP_over rP_over g 2 12 [.ref (g.2.2 0), .int x] h (fun r h9 => h9 = h ∧ ∃ b j, bs = some b ∧ x = nI j ∧ j < b ∧ r = nI W - nI (pq_sum (fun i => best j i * w i) n)) (fun E h9 => h9 = h ∧ ((E = xISE ∧ h 3 5 = -1) ∨ (E = xIOE ∧ ¬ h 3 5 = -1 ∧ ¬ (0 ≤ x ∧ x < h 3 5)))) := by
  refine XI.of (cc := cP_over) (maxL := 2) (ret := (some .int)) (by decide +kernel) (by simp [Value.category]) (Nat.le_of_ble_eq_true rfl) ?_
  intro p e s m below meth c cx hX hr hlocks hex
  have hn5 := hs.2.1.2.2
  refine vv_aload_n cx dP_over_0 rfl rfl (pc' := 1) rfl ?_
  refine cc_Vv cx hX (tP_requireDesign l hl g h) kP_requireDesign ww_471 rfl rfl ⟨Nat.le_of_ble_eq_true rfl, Nat.le_of_ble_eq_true rfl⟩ 0 (by decide) sh_0 rfl rfl rfl rfl (Nat.le_of_ble_eq_true rfl) rfl ⟨Nat.le_of_ble_eq_true rfl, Nat.le_of_ble_eq_true rfl⟩ dP_over_1 (pc' := 4) rfl (fun E h9 q9 => vx_pass cx hex hlocks (Nat.le_of_ble_eq_true rfl) (Nat.le_of_ble_eq_true rfl) (⟨q9.2.1, Or.inl ⟨q9.1, q9.2.2⟩⟩)) (fun h1 q1 => ?_)
  obtain ⟨rfl, q1⟩ := q1
  refine vv_aload_n cx dP_over_4 rfl rfl (pc' := 5) rfl ?_
  refine vv_iload_n cx dP_over_5 rfl rfl (pc' := 6) rfl ?_
  refine cc_Vv cx hX (tP_requireSheet l hl g _ x) kP_requireSheet ww_488 rfl rfl ⟨Nat.le_of_ble_eq_true rfl, Nat.le_of_ble_eq_true rfl⟩ 0 (by decide) sh_0 rfl rfl rfl rfl (Nat.le_of_ble_eq_true rfl) rfl ⟨Nat.le_of_ble_eq_true rfl, Nat.le_of_ble_eq_true rfl⟩ dP_over_6 (pc' := 9) rfl (fun E h9 q9 => vx_pass cx hex hlocks (Nat.le_of_ble_eq_true rfl) (Nat.le_of_ble_eq_true rfl) (⟨q9.2.1, Or.inr ⟨q9.1, q1, q9.2.2⟩⟩)) (fun h6 q6 => ?_)
  obtain ⟨rfl, q6⟩ := q6
  have hbs : ∀ b, bs = some b → b ≤ 30 := fun b q => (hde.2 b q).1
  have hx2 := q6.2
  rw [hde.1] at hx2
  obtain ⟨b, j, hb, hj, hxj⟩ := pq_bsI_lt hbs q6.1 hx2
  subst hb
  have hbb := hde.2 b rfl
  have hv : vp_in x 30 := by rw [hxj]; exact vp_in_nI (by omega) (by decide)
  have hcl := pq_clN hxj (show j < 1000 by omega)
  refine vv_aload_n cx dP_over_9 rfl rfl (pc' := 10) rfl ?_
  refine vv_getR cx (C := RP) (T := TP) (NN := 4) 0 0 _ (by decide) sh_0 rfl rfl (by decide) lyP ww_142 dP_over_10 (pc' := 13) rfl ?_
  refine vv_getI cx (C := RS) (T := TS) (NN := 5) 1 0 (by decide) sh_1 rfl rfl (by decide) lyS ww_31 dP_over_13 (pc' := 16) rfl ?_
  rw [hs.1.1]
  refine vv_aload_n cx dP_over_16 rfl rfl (pc' := 17) rfl ?_
  refine vv_getR cx (C := RP) (T := TP) (NN := 4) 0 0 _ (by decide) sh_0 rfl rfl (by decide) lyP ww_142 dP_over_17 (pc' := 20) rfl ?_
  refine vv_aload_n cx dP_over_20 rfl rfl (pc' := 21) rfl ?_
  refine vv_getR cx (C := RP) (T := TP) (NN := 4) 0 2 _ (by decide) sh_0 rfl rfl (by decide) lyP ww_144 dP_over_21 (pc' := 24) rfl ?_
  refine vv_getR cx (C := RG) (T := TG) (NN := 9) 3 4 _ (by decide) sh_3 rfl rfl (by decide) lyG ww_90 dP_over_24 (pc' := 27) rfl ?_
  refine vv_iload_n cx dP_over_27 rfl rfl (pc' := 28) rfl ?_
  refine vv_aaldq cx _ (by decide) sh_6 (show 46 + x.toNatClampNeg = 46 + j by rw [hcl]) hv dP_over_28 (pc' := 29) rfl ?_
  refine cc_Vi cx hX (tS_widthOf l g _ (46 + j) (best j) (show 46 + j < 125 by omega) (sh_row (by omega) (by omega)) hs (fun i hi => hbb.2.2 j hj i (by omega))) kS_widthOf ww_500 rfl rfl ⟨Nat.le_of_ble_eq_true rfl, Nat.le_of_ble_eq_true rfl⟩ 1 (by decide) sh_1 rfl rfl rfl rfl (Nat.le_of_ble_eq_true rfl) rfl ⟨Nat.le_of_ble_eq_true rfl, Nat.le_of_ble_eq_true rfl⟩ dP_over_29 (pc' := 32) rfl (fun _ _ q => q.elim) (fun r29 h29 q29 => ?_)
  obtain ⟨rfl, rfl⟩ := q29
  refine vv_isub cx dP_over_32 (pc' := 33) rfl ?_
  refine vv_iret cx hr hlocks dP_over_33 (Nat.le_of_ble_eq_true rfl) (Nat.le_of_ble_eq_true rfl) ?_
  exact ⟨rfl, b, j, rfl, hxj, hj, rfl⟩
set_option maxRecDepth 100000 in
set_option maxHeartbeats 4000000 in
theorem tP_keep (l : Launch) (hl : l.stackTraces = false) (g : pq_G) (h : pq_H) {n : Nat} (bs : Option Nat) (best : Nat → Nat → Nat) (c9 : Nat) (x y : Int32) (hde : pq_de h n bs best) (hc : h 4 0 = nI c9) (hc40 : c9 ≤ 40) : XI l yP_keep wP_keep rP_keep g 3 18 [.ref (g.2.2 0), .int x, .int y] h (fun r h9 => ∃ b j, bs = some b ∧ x = nI j ∧ j < b ∧ (0 ≤ y ∧ y ≤ 9999) ∧ ((∃ k, k < c9 ∧ r = nI k ∧ (∀ i, i < 5 → h (76 + k) i = h (46 + j) i) ∧ (∀ z, z < k → ¬ (∀ i, i < 5 → h (76 + z) i = h (46 + j) i)) ∧ pq_but [14, 15] h h9 ∧ h9 14 = upd (h 14) k (h 14 k + 1) ∧ h9 15 = upd (h 15) k (if h 15 k < y then y else h 15 k)) ∨ ((∀ z, z < c9 → ¬ (∀ i, i < 5 → h (76 + z) i = h (46 + j) i)) ∧ c9 < 40 ∧ r = nI c9 ∧ pq_but [4, 14, 15, 76 + c9] h h9 ∧ h9 4 0 = nI (c9 + 1) ∧ (∀ i, i < 5 → h9 (76 + c9) i = h (46 + j) i) ∧ h9 14 = upd (h 14) c9 1 ∧ h9 15 = upd (h 15) c9 y))) (fun E h9 => h9 = h ∧ ((E = xISE ∧ h 3 5 = -1) ∨ (E = xIOE ∧ ¬ h 3 5 = -1 ∧ ¬ (0 ≤ x ∧ x < h 3 5)) ∨ (E = xIAE ∧ ¬ h 3 5 = -1 ∧ (0 ≤ x ∧ x < h 3 5) ∧ ¬ (0 ≤ y ∧ y ≤ 9999)) ∨ (E = xUOE ∧ ¬ h 3 5 = -1 ∧ (0 ≤ x ∧ x < h 3 5) ∧ (0 ≤ y ∧ y ≤ 9999) ∧ c9 = 40 ∧ ∃ j, x = nI j ∧ j < 30 ∧ ∀ z, z < c9 → ¬ (∀ i, i < 5 → h (76 + z) i = h (46 + j) i)))) := by
  refine XI.of (cc := cP_keep) (maxL := 5) (ret := (some .int)) (by decide +kernel) (by simp [Value.category]) (Nat.le_of_ble_eq_true rfl) ?_
  intro p e s m below meth c cx hX hr hlocks hex
  refine vv_aload_n cx dP_keep_0 rfl rfl (pc' := 1) rfl ?_
  refine cc_Vv cx hX (tP_requireDesign l hl g h) kP_requireDesign ww_471 rfl rfl ⟨Nat.le_of_ble_eq_true rfl, Nat.le_of_ble_eq_true rfl⟩ 0 (by decide) sh_0 rfl rfl rfl rfl (Nat.le_of_ble_eq_true rfl) rfl ⟨Nat.le_of_ble_eq_true rfl, Nat.le_of_ble_eq_true rfl⟩ dP_keep_1 (pc' := 4) rfl (fun E h9 q9 => vx_pass cx hex hlocks (Nat.le_of_ble_eq_true rfl) (Nat.le_of_ble_eq_true rfl) (⟨q9.2.1, Or.inl ⟨q9.1, q9.2.2⟩⟩)) (fun h1 q1 => ?_)
  obtain ⟨rfl, q1⟩ := q1
  refine vv_aload_n cx dP_keep_4 rfl rfl (pc' := 5) rfl ?_
  refine vv_iload_n cx dP_keep_5 rfl rfl (pc' := 6) rfl ?_
  refine cc_Vv cx hX (tP_requireSheet l hl g _ x) kP_requireSheet ww_488 rfl rfl ⟨Nat.le_of_ble_eq_true rfl, Nat.le_of_ble_eq_true rfl⟩ 0 (by decide) sh_0 rfl rfl rfl rfl (Nat.le_of_ble_eq_true rfl) rfl ⟨Nat.le_of_ble_eq_true rfl, Nat.le_of_ble_eq_true rfl⟩ dP_keep_6 (pc' := 9) rfl (fun E h9 q9 => vx_pass cx hex hlocks (Nat.le_of_ble_eq_true rfl) (Nat.le_of_ble_eq_true rfl) (⟨q9.2.1, Or.inr (Or.inl ⟨q9.1, q1, q9.2.2⟩)⟩)) (fun h6 q6 => ?_)
  obtain ⟨rfl, q6⟩ := q6
  have hbs : ∀ b, bs = some b → b ≤ 30 := fun b q => (hde.2 b q).1
  have hx2 := q6.2
  rw [hde.1] at hx2
  obtain ⟨b, j, hb, hj, hxj⟩ := pq_bsI_lt hbs q6.1 hx2
  subst hb
  have hbb := hde.2 b rfl
  have hv : vp_in x 30 := by rw [hxj]; exact vp_in_nI (by omega) (by decide)
  have hcl := pq_clN hxj (show j < 1000 by omega)
  refine vv_iload_n cx dP_keep_9 rfl rfl (pc' := 10) rfl ?_
  refine vv_if_lt cx dP_keep_10 (tgt := 20) (by decide) (pc' := 13) rfl (fun c10 => ?_) (fun c10 => ?_)
  · refine vv_throw cx hX hl hex hlocks (cls := "java/lang/IllegalArgumentException") (text := "no such day") (names := ["java/lang/RuntimeException", "java/lang/Exception"]) (by decide +kernel) (by decide +kernel) ww_221 ww_10 thIAE_at thIAE_good (by decide +kernel) dP_keep_20 dP_keep_23 dP_keep_24 dP_keep_26 dP_keep_29 rfl (Nat.le_of_ble_eq_true rfl) (Nat.le_of_ble_eq_true rfl) (Nat.le_of_ble_eq_true rfl) (Nat.le_of_ble_eq_true rfl) (Nat.le_of_ble_eq_true rfl) (Nat.le_of_ble_eq_true rfl) ?_
    first | exact ⟨rfl, Or.inr (Or.inr (Or.inl ⟨rfl, q1, q6, fun z => absurd z.1 (Int32.not_le.mpr c10)⟩))⟩ | exact ⟨rfl, Or.inr (Or.inr (Or.inl ⟨rfl, q1, q6, fun z => absurd z.2 c17⟩))⟩
  · refine vv_iload_n cx dP_keep_13 rfl rfl (pc' := 14) rfl ?_
    refine vv_sipush cx dP_keep_14 (v := 9999) (by decide) (pc' := 17) rfl ?_
    refine vv_icmp_le cx dP_keep_17 (tgt := 30) (by decide) (pc' := 20) rfl (fun c17 => ?_) (fun c17 => ?_)
    · have hdy : 0 ≤ y ∧ y ≤ 9999 := ⟨Int32.not_lt.mp c10, c17⟩
      refine vv_aload_n cx dP_keep_30 rfl rfl (pc' := 31) rfl ?_
      refine vv_getR cx (C := RP) (T := TP) (NN := 4) 0 2 _ (by decide) sh_0 rfl rfl (by decide) lyP ww_144 dP_keep_31 (pc' := 34) rfl ?_
      refine vv_getR cx (C := RG) (T := TG) (NN := 9) 3 4 _ (by decide) sh_3 rfl rfl (by decide) lyG ww_90 dP_keep_34 (pc' := 37) rfl ?_
      refine vv_iload_n cx dP_keep_37 rfl rfl (pc' := 38) rfl ?_
      refine vv_aaldq cx _ (by decide) sh_6 (show 46 + x.toNatClampNeg = 46 + j by rw [hcl]) hv dP_keep_38 (pc' := 39) rfl ?_
      refine vv_astore_n cx dP_keep_39 rfl (Nat.le_of_ble_eq_true rfl) (pc' := 40) rfl ?_
      refine vv_aload_n cx dP_keep_40 rfl rfl (pc' := 41) rfl ?_
      refine vv_getR cx (C := RP) (T := TP) (NN := 4) 0 3 _ (by decide) sh_0 rfl rfl (by decide) lyP ww_145 dP_keep_41 (pc' := 44) rfl ?_
      refine vv_aload_n cx dP_keep_44 rfl rfl (pc' := 45) rfl ?_
      refine cc_Vi cx hX (tT_find l g _ (46 + j) c9 ⟨by omega, by omega⟩ hc hc40) kT_find ww_509 rfl rfl ⟨Nat.le_of_ble_eq_true rfl, Nat.le_of_ble_eq_true rfl⟩ 4 (by decide) sh_4 rfl rfl rfl rfl (Nat.le_of_ble_eq_true rfl) rfl ⟨Nat.le_of_ble_eq_true rfl, Nat.le_of_ble_eq_true rfl⟩ dP_keep_45 (pc' := 48) rfl (fun _ _ q => q.elim) (fun r45 h45 q45 => ?_)
      obtain ⟨rfl, q45⟩ := q45
      refine vv_istore cx dP_keep_48 (Nat.le_of_ble_eq_true rfl) (pc' := 50) rfl ?_
      refine vv_iload cx dP_keep_50 rfl (pc' := 52) rfl ?_
      refine vv_iconst cx dP_keep_52 (v := -1) (by decide) (pc' := 53) rfl ?_
      refine vv_icmp_eq cx dP_keep_53 (tgt := 69) (by decide) (pc' := 56) rfl (fun c53 => ?_) (fun c53 => ?_)
      · have hno : ∀ z, z < c9 → ¬ (∀ i, i < 5 → h45 (76 + z) i = h45 (46 + j) i) := by rcases q45 with ⟨k, a1, a2, a3, a4⟩ | q; exact absurd (a2 ▸ c53) (pq_ne1 (by omega)); exact q.2
        refine vv_aload_n cx dP_keep_69 rfl rfl (pc' := 70) rfl ?_
        refine vv_getR cx (C := RP) (T := TP) (NN := 4) 0 3 _ (by decide) sh_0 rfl rfl (by decide) lyP ww_145 dP_keep_70 (pc' := 73) rfl ?_
        refine vv_getI cx (C := RT) (T := TT) (NN := 4) 4 0 (by decide) sh_4 rfl rfl (by decide) lyT ww_126 dP_keep_73 (pc' := 76) rfl ?_
        refine vv_bipush cx dP_keep_76 (v := 40) (by decide) (pc' := 78) rfl ?_
        rw [hc]
        refine vv_icmp_lt cx dP_keep_78 (tgt := 91) (by decide) (pc' := 81) rfl (fun c78 => ?_) (fun c78 => ?_)
        · refine vv_aload_n cx dP_keep_91 rfl rfl (pc' := 92) rfl ?_
          refine vv_getR cx (C := RP) (T := TP) (NN := 4) 0 3 _ (by decide) sh_0 rfl rfl (by decide) lyP ww_145 dP_keep_92 (pc' := 95) rfl ?_
          refine vv_aload_n cx dP_keep_95 rfl rfl (pc' := 96) rfl ?_
          refine vv_iload_n cx dP_keep_96 rfl rfl (pc' := 97) rfl ?_
          have hlt : c9 < 40 := Nat.lt_of_not_le (fun q => nI_nlt (a := c9) (b := 40) q (by omega) c78)
          refine cc_Vi cx hX (tT_add l g _ (46 + j) c9 y ⟨by omega, by omega⟩ hc hlt) kT_add ww_522 rfl rfl ⟨Nat.le_of_ble_eq_true rfl, Nat.le_of_ble_eq_true rfl⟩ 4 (by decide) sh_4 rfl rfl rfl rfl (Nat.le_of_ble_eq_true rfl) rfl ⟨Nat.le_of_ble_eq_true rfl, Nat.le_of_ble_eq_true rfl⟩ dP_keep_97 (pc' := 100) rfl (fun _ _ q => q.elim) (fun r97 h97 q97 => ?_)
          refine vv_iret cx hr hlocks dP_keep_100 (Nat.le_of_ble_eq_true rfl) (Nat.le_of_ble_eq_true rfl) ?_
          exact ⟨b, j, rfl, hxj, hj, hdy, Or.inr ⟨hno, hlt, q97⟩⟩
        · refine vv_throw cx hX hl hex hlocks (cls := "java/lang/UnsupportedOperationException") (text := "forty others are kept") (names := ["java/lang/RuntimeException", "java/lang/Exception"]) (by decide +kernel) (by decide +kernel) ww_393 ww_15 thUOE_at thUOE_good (by decide +kernel) dP_keep_81 dP_keep_84 dP_keep_85 dP_keep_87 dP_keep_90 rfl (Nat.le_of_ble_eq_true rfl) (Nat.le_of_ble_eq_true rfl) (Nat.le_of_ble_eq_true rfl) (Nat.le_of_ble_eq_true rfl) (Nat.le_of_ble_eq_true rfl) (Nat.le_of_ble_eq_true rfl) ?_
          exact ⟨rfl, Or.inr (Or.inr (Or.inr ⟨rfl, q1, q6, hdy, by have := Nat.le_of_not_lt (fun q => c78 (nI_lt (b := 40) q (by decide))); omega, j, hxj, by omega, hno⟩))⟩
      · obtain ⟨k, hk, rfl, hk1, hk2⟩ : ∃ k, k < c9 ∧ r45 = nI k ∧ (∀ i, i < 5 → h45 (76 + k) i = h45 (46 + j) i) ∧ ∀ z, z < k → ¬ (∀ i, i < 5 → h45 (76 + z) i = h45 (46 + j) i) := by rcases q45 with ⟨k, a1, a2, a3, a4⟩ | q; exact ⟨k, a1, a2, a3, a4⟩; exact absurd q.1 c53
        refine vv_aload_n cx dP_keep_56 rfl rfl (pc' := 57) rfl ?_
        refine vv_getR cx (C := RP) (T := TP) (NN := 4) 0 3 _ (by decide) sh_0 rfl rfl (by decide) lyP ww_145 dP_keep_57 (pc' := 60) rfl ?_
        refine vv_iload cx dP_keep_60 rfl (pc' := 62) rfl ?_
        refine vv_iload_n cx dP_keep_62 rfl rfl (pc' := 63) rfl ?_
        refine cc_Vv cx hX (tT_countAgain l g _ k y (by omega)) kT_countAgain ww_516 rfl rfl ⟨Nat.le_of_ble_eq_true rfl, Nat.le_of_ble_eq_true rfl⟩ 4 (by decide) sh_4 rfl rfl rfl rfl (Nat.le_of_ble_eq_true rfl) rfl ⟨Nat.le_of_ble_eq_true rfl, Nat.le_of_ble_eq_true rfl⟩ dP_keep_63 (pc' := 66) rfl (fun _ _ q => q.elim) (fun h63 q63 => ?_)
        refine vv_iload cx dP_keep_66 rfl (pc' := 68) rfl ?_
        refine vv_iret cx hr hlocks dP_keep_68 (Nat.le_of_ble_eq_true rfl) (Nat.le_of_ble_eq_true rfl) ?_
        exact ⟨b, j, rfl, hxj, hj, hdy, Or.inl ⟨k, hk, rfl, hk1, hk2, q63⟩⟩
    · refine vv_throw cx hX hl hex hlocks (cls := "java/lang/IllegalArgumentException") (text := "no such day") (names := ["java/lang/RuntimeException", "java/lang/Exception"]) (by decide +kernel) (by decide +kernel) ww_221 ww_10 thIAE_at thIAE_good (by decide +kernel) dP_keep_20 dP_keep_23 dP_keep_24 dP_keep_26 dP_keep_29 rfl (Nat.le_of_ble_eq_true rfl) (Nat.le_of_ble_eq_true rfl) (Nat.le_of_ble_eq_true rfl) (Nat.le_of_ble_eq_true rfl) (Nat.le_of_ble_eq_true rfl) (Nat.le_of_ble_eq_true rfl) ?_
      first | exact ⟨rfl, Or.inr (Or.inr (Or.inl ⟨rfl, q1, q6, fun z => absurd z.1 (Int32.not_le.mpr c10)⟩))⟩ | exact ⟨rfl, Or.inr (Or.inr (Or.inl ⟨rfl, q1, q6, fun z => absurd z.2 c17⟩))⟩
set_option maxRecDepth 100000 in
set_option maxHeartbeats 4000000 in
theorem tP_kept (l : Launch) (hl : l.stackTraces = false) (g : pq_G) (h : pq_H) (c9 : Nat) (x y : Int32) (hc : h 4 0 = nI c9) (hc40 : c9 ≤ 40) : XI l yP_kept wP_kept rP_kept g 1 6 [.ref (g.2.2 0), .int x, .int y] h (fun r h9 => h9 = h ∧ ∃ j, x = nI j ∧ j < c9 ∧ ((y = 6 ∧ r = h 15 j) ∨ (y = 5 ∧ r = h 14 j) ∨ ∃ i, y = nI i ∧ i < 5 ∧ r = h (76 + j) i)) (fun E h9 => E = xIOE ∧ h9 = h ∧ ¬ ((0 ≤ x ∧ x < nI c9) ∧ 0 ≤ y ∧ y ≤ 6)) := by
  refine XI.of (cc := cP_kept) (maxL := 3) (ret := (some .int)) (by decide +kernel) (by simp [Value.category]) (Nat.le_of_ble_eq_true rfl) ?_
  intro p e s m below meth c cx hX hr hlocks hex
  refine vv_iload_n cx dP_kept_0 rfl rfl (pc' := 1) rfl ?_
  refine vv_if_lt cx dP_kept_1 (tgt := 15) (by decide) (pc' := 4) rfl (fun c1 => ?_) (fun c1 => ?_)
  · refine vv_throw cx hX hl hex hlocks (cls := "java/lang/IndexOutOfBoundsException") (text := "no such kept pattern") (names := ["java/lang/RuntimeException", "java/lang/Exception"]) (by decide +kernel) (by decide +kernel) ww_344 ww_12 thIOE_at thIOE_good (by decide +kernel) dP_kept_15 dP_kept_18 dP_kept_19 dP_kept_21 dP_kept_24 rfl (Nat.le_of_ble_eq_true rfl) (Nat.le_of_ble_eq_true rfl) (Nat.le_of_ble_eq_true rfl) (Nat.le_of_ble_eq_true rfl) (Nat.le_of_ble_eq_true rfl) (Nat.le_of_ble_eq_true rfl) ?_
    first | exact ⟨rfl, rfl, fun q => absurd q.1.1 (Int32.not_le.mpr c1)⟩ | exact ⟨rfl, rfl, fun q => absurd q.1.2 c12⟩
  · refine vv_iload_n cx dP_kept_4 rfl rfl (pc' := 5) rfl ?_
    refine vv_aload_n cx dP_kept_5 rfl rfl (pc' := 6) rfl ?_
    refine vv_getR cx (C := RP) (T := TP) (NN := 4) 0 3 _ (by decide) sh_0 rfl rfl (by decide) lyP ww_145 dP_kept_6 (pc' := 9) rfl ?_
    refine vv_getI cx (C := RT) (T := TT) (NN := 4) 4 0 (by decide) sh_4 rfl rfl (by decide) lyT ww_126 dP_kept_9 (pc' := 12) rfl ?_
    rw [hc]
    refine vv_icmp_lt cx dP_kept_12 (tgt := 25) (by decide) (pc' := 15) rfl (fun c12 => ?_) (fun c12 => ?_)
    · obtain ⟨j, hj, hxj⟩ := pq_idx (Int32.not_lt.mp c1) c12 (by omega)
      have hv : vp_in x 40 := by rw [hxj]; exact vp_in_nI (by omega) (by decide)
      have hcl := pq_clN hxj (show j < 1000 by omega)
      refine vv_iload_n cx dP_kept_25 rfl rfl (pc' := 26) rfl ?_
      refine vv_if_lt cx dP_kept_26 (tgt := 35) (by decide) (pc' := 29) rfl (fun c26 => ?_) (fun c26 => ?_)
      · refine vv_throw cx hX hl hex hlocks (cls := "java/lang/IndexOutOfBoundsException") (text := "no such what") (names := ["java/lang/RuntimeException", "java/lang/Exception"]) (by decide +kernel) (by decide +kernel) ww_344 ww_12 thIOE_at thIOE_good (by decide +kernel) dP_kept_35 dP_kept_38 dP_kept_39 dP_kept_41 dP_kept_44 rfl (Nat.le_of_ble_eq_true rfl) (Nat.le_of_ble_eq_true rfl) (Nat.le_of_ble_eq_true rfl) (Nat.le_of_ble_eq_true rfl) (Nat.le_of_ble_eq_true rfl) (Nat.le_of_ble_eq_true rfl) ?_
        first | exact ⟨rfl, rfl, fun q => absurd q.2.1 (Int32.not_le.mpr c26)⟩ | exact ⟨rfl, rfl, fun q => absurd q.2.2 c32⟩
      · refine vv_iload_n cx dP_kept_29 rfl rfl (pc' := 30) rfl ?_
        refine vv_bipush cx dP_kept_30 (v := 6) (by decide) (pc' := 32) rfl ?_
        refine vv_icmp_le cx dP_kept_32 (tgt := 45) (by decide) (pc' := 35) rfl (fun c32 => ?_) (fun c32 => ?_)
        · refine vv_iload_n cx dP_kept_45 rfl rfl (pc' := 46) rfl ?_
          refine vv_bipush cx dP_kept_46 (v := 6) (by decide) (pc' := 48) rfl ?_
          refine vv_icmp_ne cx dP_kept_48 (tgt := 61) (by decide) (pc' := 51) rfl (fun c48 => ?_) (fun c48 => ?_)
          · refine vv_iload_n cx dP_kept_61 rfl rfl (pc' := 62) rfl ?_
            refine vv_iconst cx dP_kept_62 (v := 5) (by decide) (pc' := 63) rfl ?_
            refine vv_icmp_ne cx dP_kept_63 (tgt := 76) (by decide) (pc' := 66) rfl (fun c63 => ?_) (fun c63 => ?_)
            · obtain ⟨i, hi, hyi⟩ := pq_rng (n := 6) (M := 6) rfl (Int32.not_lt.mp c26) c32
              have hi5 : i < 5 := pq_lt5 hi hyi c48 c63
              refine vv_aload_n cx dP_kept_76 rfl rfl (pc' := 77) rfl ?_
              refine vv_getR cx (C := RP) (T := TP) (NN := 4) 0 3 _ (by decide) sh_0 rfl rfl (by decide) lyP ww_145 dP_kept_77 (pc' := 80) rfl ?_
              refine vv_getR cx (C := RT) (T := TT) (NN := 4) 4 1 _ (by decide) sh_4 rfl rfl (by decide) lyT ww_128 dP_kept_80 (pc' := 83) rfl ?_
              refine vv_iload_n cx dP_kept_83 rfl rfl (pc' := 84) rfl ?_
              refine vv_aaldq cx _ (by decide) sh_7 (show 76 + x.toNatClampNeg = 76 + j by rw [hcl]) hv dP_kept_84 (pc' := 85) rfl ?_
              refine vv_iload_n cx dP_kept_85 rfl rfl (pc' := 86) rfl ?_
              refine vv_iald cx _ (show 76 + j < 125 by omega) (sh_row (by omega) (by omega)) (pq_in5 hyi hi5) dP_kept_86 (pc' := 87) rfl ?_
              refine vv_iret cx hr hlocks dP_kept_87 (Nat.le_of_ble_eq_true rfl) (Nat.le_of_ble_eq_true rfl) ?_
              exact ⟨rfl, j, hxj, hj, Or.inr (Or.inr ⟨i, hyi, hi5, by rw [pq_clN hyi (by omega)]⟩)⟩
            · refine vv_aload_n cx dP_kept_66 rfl rfl (pc' := 67) rfl ?_
              refine vv_getR cx (C := RP) (T := TP) (NN := 4) 0 3 _ (by decide) sh_0 rfl rfl (by decide) lyP ww_145 dP_kept_67 (pc' := 70) rfl ?_
              refine vv_getR cx (C := RT) (T := TT) (NN := 4) 4 2 _ (by decide) sh_4 rfl rfl (by decide) lyT ww_130 dP_kept_70 (pc' := 73) rfl ?_
              refine vv_iload_n cx dP_kept_73 rfl rfl (pc' := 74) rfl ?_
              refine vv_iald cx _ (by decide) sh_14 hv dP_kept_74 (pc' := 75) rfl ?_
              refine vv_iret cx hr hlocks dP_kept_75 (Nat.le_of_ble_eq_true rfl) (Nat.le_of_ble_eq_true rfl) ?_
              exact ⟨rfl, j, hxj, hj, Or.inr (Or.inl ⟨c63, by rw [hcl]⟩)⟩
          · refine vv_aload_n cx dP_kept_51 rfl rfl (pc' := 52) rfl ?_
            refine vv_getR cx (C := RP) (T := TP) (NN := 4) 0 3 _ (by decide) sh_0 rfl rfl (by decide) lyP ww_145 dP_kept_52 (pc' := 55) rfl ?_
            refine vv_getR cx (C := RT) (T := TT) (NN := 4) 4 3 _ (by decide) sh_4 rfl rfl (by decide) lyT ww_132 dP_kept_55 (pc' := 58) rfl ?_
            refine vv_iload_n cx dP_kept_58 rfl rfl (pc' := 59) rfl ?_
            refine vv_iald cx _ (by decide) sh_15 hv dP_kept_59 (pc' := 60) rfl ?_
            refine vv_iret cx hr hlocks dP_kept_60 (Nat.le_of_ble_eq_true rfl) (Nat.le_of_ble_eq_true rfl) ?_
            exact ⟨rfl, j, hxj, hj, Or.inl ⟨c48, by rw [hcl]⟩⟩
        · refine vv_throw cx hX hl hex hlocks (cls := "java/lang/IndexOutOfBoundsException") (text := "no such what") (names := ["java/lang/RuntimeException", "java/lang/Exception"]) (by decide +kernel) (by decide +kernel) ww_344 ww_12 thIOE_at thIOE_good (by decide +kernel) dP_kept_35 dP_kept_38 dP_kept_39 dP_kept_41 dP_kept_44 rfl (Nat.le_of_ble_eq_true rfl) (Nat.le_of_ble_eq_true rfl) (Nat.le_of_ble_eq_true rfl) (Nat.le_of_ble_eq_true rfl) (Nat.le_of_ble_eq_true rfl) (Nat.le_of_ble_eq_true rfl) ?_
          first | exact ⟨rfl, rfl, fun q => absurd q.2.1 (Int32.not_le.mpr c26)⟩ | exact ⟨rfl, rfl, fun q => absurd q.2.2 c32⟩
    · refine vv_throw cx hX hl hex hlocks (cls := "java/lang/IndexOutOfBoundsException") (text := "no such kept pattern") (names := ["java/lang/RuntimeException", "java/lang/Exception"]) (by decide +kernel) (by decide +kernel) ww_344 ww_12 thIOE_at thIOE_good (by decide +kernel) dP_kept_15 dP_kept_18 dP_kept_19 dP_kept_21 dP_kept_24 rfl (Nat.le_of_ble_eq_true rfl) (Nat.le_of_ble_eq_true rfl) (Nat.le_of_ble_eq_true rfl) (Nat.le_of_ble_eq_true rfl) (Nat.le_of_ble_eq_true rfl) (Nat.le_of_ble_eq_true rfl) ?_
      first | exact ⟨rfl, rfl, fun q => absurd q.1.1 (Int32.not_le.mpr c1)⟩ | exact ⟨rfl, rfl, fun q => absurd q.1.2 c12⟩
/-- the i-th of the places under c that have P -/
def pq_nth (P : Nat → Bool) : Nat → Nat → Nat → Option Nat
  | 0, _, _ => none
  | f + 1, k, i => if P k then (if i = 0 then some k else pq_nth P f (k + 1) (i - 1)) else pq_nth P f (k + 1) i
def pq_fitb (W n : Nat) (w nm a : Nat → Nat) : Bool := decide ((∀ i, i < n → a i ≤ nm i) ∧ pq_sum (fun i => a i * w i) n ≤ W)
def pq_opI : Option Nat → Int32
  | none => -1
  | some b => nI b
set_option maxRecDepth 100000 in
set_option maxHeartbeats 4000000 in
theorem tP_fitting (l : Launch) (hl : l.stackTraces = false) (g : pq_G) (h : pq_H) {W n : Nat} {w nm pr : Nat → Nat} (c9 : Nat) (kp : Nat → Nat → Nat) (x : Int32) (hs : pq_st h W n w nm pr) (hso : pq_so h c9 kp) : XI l yP_fitting wP_fitting rP_fitting g 1 6 [.ref (g.2.2 0), .int x] h (fun r h9 => h9 = h ∧ ∃ i, x = nI i ∧ i < 2 ^ 31 ∧ r = pq_opI (pq_nth (fun k => pq_fitb W n w nm (kp k)) c9 0 i)) (fun E h9 => E = xIOE ∧ h9 = h ∧ x < 0) := by
  refine XI.of (cc := cP_fitting) (maxL := 4) (ret := (some .int)) (by decide +kernel) (by simp [Value.category]) (Nat.le_of_ble_eq_true rfl) ?_
  intro p e s m below meth c cx hX hr hlocks hex
  obtain ⟨hc, hc40, hkp⟩ := id hso
  have loop : ∀ (i0 : Nat), x = nI i0 → i0 < 2 ^ 31 → ∀ (d k i : Nat) (y2 y3 : Int32), y3 = nI k → y2 = nI i → i < 2 ^ 31 → k + d = c9 → pq_nth (fun k => pq_fitb W n w nm (kp k)) d k i = pq_nth (fun k => pq_fitb W n w nm (kp k)) c9 0 i0 → VV p l e rP_fitting s m [.ref (g.2.2 0), .int x].toArray below meth c (vx_MQ below (pq_Qi g (fun r h9 => h9 = h ∧ ∃ i, x = nI i ∧ i < 2 ^ 31 ∧ r = pq_opI (pq_nth (fun k => pq_fitb W n w nm (kp k)) c9 0 i)) s.heap.size) (pq_Qx g (fun E h9 => E = xIOE ∧ h9 = h ∧ x < 0) s.heap.size) [.ref (g.2.2 0), .int x].toArray s 1 6 (pq_A g s.heap.size)) g 0 0 h 18 [some (.ref (g.2.2 0)), some (.int x), some (.int y2), some (.int y3)] [] := by
    intro i0 hx0 hi0 d
    induction d with
    | zero =>
      intro k i y2 y3 hy3 hy2 hi hk hf
      have e1 : k = c9 := by omega
      subst e1
      refine vv_iload_n cx dP_fitting_18 rfl rfl (pc' := 19) rfl ?_
      refine vv_aload_n cx dP_fitting_19 rfl rfl (pc' := 20) rfl ?_
      refine vv_getR cx (C := RP) (T := TP) (NN := 4) 0 3 _ (by decide) sh_0 rfl rfl (by decide) lyP ww_145 dP_fitting_20 (pc' := 23) rfl ?_
      refine vv_getI cx (C := RT) (T := TT) (NN := 4) 4 0 (by decide) sh_4 rfl rfl (by decide) lyT ww_126 dP_fitting_23 (pc' := 26) rfl ?_
      refine vv_icmp_ge cx dP_fitting_26 (tgt := 63) (by decide) (pc' := 29) rfl (fun c26 => ?_) (fun c26 => ?_)
      · refine vv_iconst cx dP_fitting_63 (v := -1) (by decide) (pc' := 64) rfl ?_
        refine vv_iret cx hr hlocks dP_fitting_64 (Nat.le_of_ble_eq_true rfl) (Nat.le_of_ble_eq_true rfl) ?_
        exact ⟨rfl, i0, hx0, hi0, by rw [← hf]; rfl⟩
      · exact absurd (Int32.le_refl _) (by rw [hy3, hc] at c26; exact c26)
    | succ d ih =>
      intro k i y2 y3 hy3 hy2 hi hk hf
      have hlt : k < c9 := by omega
      have hv : vp_in y3 40 := by rw [hy3]; exact vp_in_nI (by omega) (by decide)
      have hcl := pq_clN hy3 (show k < 1000 by omega)
      have hkk := hkp k hlt
      have hf2 : (if pq_fitb W n w nm (kp k) then (if i = 0 then some k else pq_nth (fun k => pq_fitb W n w nm (kp k)) d (k + 1) (i - 1)) else pq_nth (fun k => pq_fitb W n w nm (kp k)) d (k + 1) i) = pq_nth (fun k => pq_fitb W n w nm (kp k)) c9 0 i0 := hf
      refine vv_iload_n cx dP_fitting_18 rfl rfl (pc' := 19) rfl ?_
      refine vv_aload_n cx dP_fitting_19 rfl rfl (pc' := 20) rfl ?_
      refine vv_getR cx (C := RP) (T := TP) (NN := 4) 0 3 _ (by decide) sh_0 rfl rfl (by decide) lyP ww_145 dP_fitting_20 (pc' := 23) rfl ?_
      refine vv_getI cx (C := RT) (T := TT) (NN := 4) 4 0 (by decide) sh_4 rfl rfl (by decide) lyT ww_126 dP_fitting_23 (pc' := 26) rfl ?_
      refine vv_icmp_ge cx dP_fitting_26 (tgt := 63) (by decide) (pc' := 29) rfl (fun c26 => ?_) (fun c26 => ?_)
      · exact absurd (by rw [hy3, hc] at c26; exact c26) (nI_ge hlt (by omega))
      · refine vv_aload_n cx dP_fitting_29 rfl rfl (pc' := 30) rfl ?_
        refine vv_getR cx (C := RP) (T := TP) (NN := 4) 0 0 _ (by decide) sh_0 rfl rfl (by decide) lyP ww_142 dP_fitting_30 (pc' := 33) rfl ?_
        refine vv_aload_n cx dP_fitting_33 rfl rfl (pc' := 34) rfl ?_
        refine vv_getR cx (C := RP) (T := TP) (NN := 4) 0 3 _ (by decide) sh_0 rfl rfl (by decide) lyP ww_145 dP_fitting_34 (pc' := 37) rfl ?_
        refine vv_getR cx (C := RT) (T := TT) (NN := 4) 4 1 _ (by decide) sh_4 rfl rfl (by decide) lyT ww_128 dP_fitting_37 (pc' := 40) rfl ?_
        refine vv_iload_n cx dP_fitting_40 rfl rfl (pc' := 41) rfl ?_
        refine vv_aaldq cx _ (by decide) sh_7 (show 76 + y3.toNatClampNeg = 76 + k by rw [hcl]) hv dP_fitting_41 (pc' := 42) rfl ?_
        refine cc_Vi cx hX (tS_isPattern l g h (76 + k) (kp k) (show 76 + k < 125 by omega) (sh_row (by omega) (by omega)) hs hkk.1 hkk.2) kS_isPattern ww_543 rfl rfl ⟨Nat.le_of_ble_eq_true rfl, Nat.le_of_ble_eq_true rfl⟩ 1 (by decide) sh_1 rfl rfl rfl rfl (Nat.le_of_ble_eq_true rfl) rfl ⟨Nat.le_of_ble_eq_true rfl, Nat.le_of_ble_eq_true rfl⟩ dP_fitting_42 (pc' := 45) rfl (fun _ _ q => q.elim) (fun r42 h42 q42 => ?_)
        obtain ⟨rfl, q42⟩ := q42
        refine vv_if_eq cx dP_fitting_45 (tgt := 57) (by decide) (pc' := 48) rfl (fun c45 => ?_) (fun c45 => ?_)
        · first | (have hnf : ¬ pq_fitb W n w nm (kp k) = true := by rcases q42 with q | q; exact absurd c45 (by rw [q.1]; decide); exact fun z => q.2 (of_decide_eq_true z)) | skip
          refine vv_iinc cx dP_fitting_57 rfl rfl (pc' := 60) rfl ?_
          refine vv_goto cx dP_fitting_60 (tgt := 18) (by decide) ?_
          first
          | (rw [if_pos hfit, if_neg hi1] at hf2; exact ih (k + 1) (i - 1) _ _ (pq_nI1 hy3) (by rw [hy2, show i = (i - 1) + 1 by omega]; exact pk_m1 _) (by omega) (by omega) hf2)
          | (rw [if_neg hnf] at hf2; exact ih (k + 1) i _ _ (pq_nI1 hy3) hy2 hi (by omega) hf2)
        · have hfit : pq_fitb W n w nm (kp k) = true := by rcases q42 with q | q; exact decide_eq_true q.2; exact absurd q.1 c45
          refine vv_iload_n cx dP_fitting_48 rfl rfl (pc' := 49) rfl ?_
          refine vv_if_ne cx dP_fitting_49 (tgt := 54) (by decide) (pc' := 52) rfl (fun c49 => ?_) (fun c49 => ?_)
          · have hi1 : ¬ i = 0 := fun q => c49 (by rw [hy2, q]; rfl)
            refine vv_iinc cx dP_fitting_54 rfl rfl (pc' := 57) rfl ?_
            first | (have hnf : ¬ pq_fitb W n w nm (kp k) = true := by rcases q42 with q | q; exact absurd c45 (by rw [q.1]; decide); exact fun z => q.2 (of_decide_eq_true z)) | skip
            refine vv_iinc cx dP_fitting_57 rfl rfl (pc' := 60) rfl ?_
            refine vv_goto cx dP_fitting_60 (tgt := 18) (by decide) ?_
            first
            | (rw [if_pos hfit, if_neg hi1] at hf2; exact ih (k + 1) (i - 1) _ _ (pq_nI1 hy3) (by rw [hy2, show i = (i - 1) + 1 by omega]; exact pk_m1 _) (by omega) (by omega) hf2)
            | (rw [if_neg hnf] at hf2; exact ih (k + 1) i _ _ (pq_nI1 hy3) hy2 hi (by omega) hf2)
          · refine vv_iload_n cx dP_fitting_52 rfl rfl (pc' := 53) rfl ?_
            refine vv_iret cx hr hlocks dP_fitting_53 (Nat.le_of_ble_eq_true rfl) (Nat.le_of_ble_eq_true rfl) ?_
            rw [if_pos hfit, if_pos (show i = 0 from Decidable.byContradiction (fun q => nI_ne0 (Nat.pos_of_ne_zero q) hi (by rw [← hy2]; exact c49)))] at hf2
            exact ⟨rfl, i0, hx0, hi0, by rw [← hf2]; exact hy3⟩
  refine vv_iload_n cx dP_fitting_0 rfl rfl (pc' := 1) rfl ?_
  refine vv_if_ge cx dP_fitting_1 (tgt := 14) (by decide) (pc' := 4) rfl (fun c1 => ?_) (fun c1 => ?_)
  · obtain ⟨i0, hi0, hx0⟩ := nI_of (Int32.not_lt.mpr c1)
    refine vv_iload_n cx dP_fitting_14 rfl rfl (pc' := 15) rfl ?_
    refine vv_istore_n cx dP_fitting_15 rfl (Nat.le_of_ble_eq_true rfl) (pc' := 16) rfl ?_
    refine vv_iconst cx dP_fitting_16 (v := 0) (by decide) (pc' := 17) rfl ?_
    refine vv_istore_n cx dP_fitting_17 rfl (Nat.le_of_ble_eq_true rfl) (pc' := 18) rfl ?_
    exact loop i0 hx0 hi0 c9 0 i0 _ _ nI_0.symm hx0 hi0 (by omega) rfl
  · refine vv_throw cx hX hl hex hlocks (cls := "java/lang/IndexOutOfBoundsException") (text := "below the first one") (names := ["java/lang/RuntimeException", "java/lang/Exception"]) (by decide +kernel) (by decide +kernel) ww_344 ww_12 thIOE_at thIOE_good (by decide +kernel) dP_fitting_4 dP_fitting_7 dP_fitting_8 dP_fitting_10 dP_fitting_13 rfl (Nat.le_of_ble_eq_true rfl) (Nat.le_of_ble_eq_true rfl) (Nat.le_of_ble_eq_true rfl) (Nat.le_of_ble_eq_true rfl) (Nat.le_of_ble_eq_true rfl) (Nat.le_of_ble_eq_true rfl) ?_
    exact ⟨rfl, rfl, Int32.not_le.mp c1⟩
end
section
/-! part 17: the reference: small methods, fill, goesDown -/
/-- the sheets' width and the orders, as they stand in the reference's cells -/
def pq_mo (h : pq_H) (W n : Nat) (w nm pr : Nat → Nat) : Prop := (h 116 1 = nI W ∧ h 116 2 = nI n ∧ pq_row h 117 w ∧ pq_row h 118 nm ∧ pq_row h 119 pr) ∧ (1 ≤ W ∧ W ≤ 1000 ∧ n ≤ 5) ∧ (∀ i, i < 5 → w i ≤ 1000 ∧ nm i ≤ 6 ∧ pr i ≤ 1000) ∧ (∀ i, i < n → 1 ≤ w i) ∧ ∀ i, n ≤ i → i < 5 → nm i = 0
theorem pq_mo.of {h h' : pq_H} {W n : Nat} {w nm pr : Nat → Nat} (hs : pq_mo h W n w nm pr) (e1 : h' 116 1 = h 116 1) (e2 : h' 116 2 = h 116 2) (e7 : h' 117 = h 117) (e8 : h' 118 = h 118) (e9 : h' 119 = h 119) : pq_mo h' W n w nm pr :=
  ⟨⟨by rw [e1]; exact hs.1.1, by rw [e2]; exact hs.1.2.1, hs.1.2.2.1.of e7, hs.1.2.2.2.1.of e8, hs.1.2.2.2.2.of e9⟩, hs.2⟩
theorem pq_mo.only {h h' : pq_H} {W n kr : Nat} {w nm pr : Nat → Nat} (hs : pq_mo h W n w nm pr) (ho : pq_only kr h h') (h1 : 119 < kr) : pq_mo h' W n w nm pr := hs.of (by rw [ho 116 (by omega)]) (by rw [ho 116 (by omega)]) (ho 117 (by omega)) (ho 118 (by omega)) (ho 119 (by omega))
/-- five places of a long row -/
def pq_sub (h : pq_H) (K A : Nat) (a : Nat → Nat) : Prop := ∀ i, i < 5 → h K (A + i) = nI (a i)
theorem pq_sub.of {h h' : pq_H} {K A : Nat} {a : Nat → Nat} (hr : pq_sub h K A a) (e : ∀ i, i < 5 → h' K (A + i) = h K (A + i)) : pq_sub h' K A a := fun i hi => by rw [e i hi]; exact hr i hi
theorem pq_sub.put {h : pq_H} {K A i : Nat} {a : Nat → Nat} {x : Int32} {v : Nat} (hr : pq_sub h K A a) (hx : x = nI v) : pq_sub (va_up h K (upd (h K) (A + i) x)) K A (va_up a i v) := fun j hj => by
  rw [va_up_self]
  by_cases e : j = i
  · subst e; rw [pk_us, va_up_self, hx]
  · rw [pk_un (by omega), va_up_ne _ _ e, hr j hj]
/-- the places A .. A + 4 of the row K alone have changed -/
def pq_at (K A : Nat) (h h' : pq_H) : Prop := pq_only K h h' ∧ ∀ p, (p < A ∨ A + 5 ≤ p) → h' K p = h K p
theorem pq_at.rfl' {K A : Nat} {h : pq_H} : pq_at K A h h := ⟨pq_only.rfl', fun _ _ => rfl⟩
theorem pq_at.trans {K A : Nat} {h h' h2 : pq_H} (a : pq_at K A h h') (b : pq_at K A h' h2) : pq_at K A h h2 := ⟨a.1.trans b.1, fun p hp => (b.2 p hp).trans (a.2 p hp)⟩
theorem pq_at.up {K A i : Nat} {h : pq_H} {x : Int32} (hi : i < 5) : pq_at K A h (va_up h K (upd (h K) (A + i) x)) := ⟨pq_only.up, fun p hp => by rw [va_up_self, pk_un (by omega)]⟩
theorem pq_n1 {i : Nat} : nI i + Int32.ofInt 1 = nI (i + 1) := nI_1 i
theorem pq_thr_pos {t : Int32} (ht : t = 0 ∨ t = 1 ∨ t = 2 ∨ t = 3 ∨ t = 4) : (0 < t ↔ ¬ t = 0) := by
  rcases ht with rfl | rfl | rfl | rfl | rfl <;> decide
def pq_thr (a b c d : Int32) : Int32 := if a = 0 then (if b = 0 then (if c = 0 then (if d = 0 then 0 else 4) else 3) else 2) else 1
/-- a flag and what it tells -/
def pq_fl (r : Int32) (P : Prop) : Prop := (r = 1 ∧ P) ∨ (r = 0 ∧ ¬ P)
theorem pq_fl.z {r : Int32} {P : Prop} (h : pq_fl r P) : narrow .boolean (.int r) = .int r := by rcases h with q | q <;> rw [q.1] <;> rfl
theorem pq_fl.t {r : Int32} {P : Prop} (h : pq_fl r P) (c : ¬ r = 0) : P := by
  rcases h with q | q
  · exact q.2
  · exact absurd q.1 c
theorem pq_fl.f {r : Int32} {P : Prop} (h : pq_fl r P) (c : r = 0) : ¬ P := by
  rcases h with q | q
  · rw [q.1] at c; exact absurd c (by decide)
  · exact q.2
theorem pq_ord {x : Int32} {n : Nat} (hn : n ≤ 50) : (0 ≤ x ∧ x ≤ nI n - 1) ↔ (0 ≤ x ∧ x < nI n) := by
  have h1 : (nI n - 1).toInt = (n : Int) - 1 := pk_sub_toInt (b := 1) (by omega) (by decide)
  have h2 : (nI n).toInt = (n : Int) := nI_toInt (by omega)
  simp only [Int32.le_iff_toInt_le, Int32.lt_iff_toInt_lt, h1, h2]
  omega
theorem pq_sum_put {b w : Nat → Nat} {i v : Nat} : pq_sum (fun j => va_up b i v j * w j) (i + 1) = pq_sum (fun j => b j * w j) i + v * w i := by
  show pq_sum _ i + va_up b i v i * w i = _
  rw [va_up_self, pq_sum_congr (g := fun j => b j * w j) (fun j hj => by show va_up b i v j * w j = _; rw [va_up_ne _ _ (by omega)])]
set_option maxRecDepth 100000 in
set_option maxHeartbeats 4000000 in
theorem tM_thrown (l : Launch) (g : pq_G) (h : pq_H)  : XI l yM_thrown wM_thrown rM_thrown g 0 0 [.ref (g.2.2 116)] h (fun r h9 => h9 = h ∧ r = h 116 0) (pq_no) := by
  refine XI.of (cc := cM_thrown) (maxL := 1) (ret := (some .int)) (by decide +kernel) (by simp [Value.category]) (Nat.le_of_ble_eq_true rfl) ?_
  intro p e s m below meth c cx hX hr hlocks hex
  refine vv_aload_n cx dM_thrown_0 rfl rfl (pc' := 1) rfl ?_
  refine vv_getI cx (C := RM) (T := TM) (NN := 15) 116 0 (by decide) sh_116 rfl rfl (by decide) lyM ww_554 dM_thrown_1 (pc' := 4) rfl ?_
  refine vv_iret cx hr hlocks dM_thrown_4 (Nat.le_of_ble_eq_true rfl) (Nat.le_of_ble_eq_true rfl) ?_
  exact ⟨rfl, rfl⟩
set_option maxRecDepth 100000 in
set_option maxHeartbeats 4000000 in
theorem tM_in (l : Launch) (g : pq_G) (h : pq_H) (v a b : Int32) : XI l yM_in wM_in rM_in g 0 0 [.int v, .int a, .int b] h (fun r h9 => h9 = h ∧ pq_fl r (a ≤ v ∧ v ≤ b)) (pq_no) := by
  refine XI.of (cc := cM_in) (maxL := 3) (ret := (some .boolean)) (by decide +kernel) (by simp [Value.category]) (Nat.le_of_ble_eq_true rfl) ?_
  intro p e s m below meth c cx hX hr hlocks hex
  refine vv_iload_n cx dM_in_0 rfl rfl (pc' := 1) rfl ?_
  refine vv_iload_n cx dM_in_1 rfl rfl (pc' := 2) rfl ?_
  refine vv_icmp_lt cx dM_in_2 (tgt := 14) (by decide) (pc' := 5) rfl (fun c2 => ?_) (fun c2 => ?_)
  · refine vv_iconst cx dM_in_14 (v := 0) (by decide) (pc' := 15) rfl ?_
    refine vv_zret cx hr hlocks dM_in_15 rfl (Nat.le_of_ble_eq_true rfl) (Nat.le_of_ble_eq_true rfl) ?_
    first | exact ⟨rfl, Or.inl ⟨rfl, Int32.not_lt.mp c2, Int32.not_lt.mp c7⟩⟩ | exact ⟨rfl, Or.inr ⟨rfl, fun q => absurd q.1 (Int32.not_le.mpr c2)⟩⟩ | exact ⟨rfl, Or.inr ⟨rfl, fun q => absurd q.2 (Int32.not_le.mpr c7)⟩⟩
  · refine vv_iload_n cx dM_in_5 rfl rfl (pc' := 6) rfl ?_
    refine vv_iload_n cx dM_in_6 rfl rfl (pc' := 7) rfl ?_
    refine vv_icmp_gt cx dM_in_7 (tgt := 14) (by decide) (pc' := 10) rfl (fun c7 => ?_) (fun c7 => ?_)
    · refine vv_iconst cx dM_in_14 (v := 0) (by decide) (pc' := 15) rfl ?_
      refine vv_zret cx hr hlocks dM_in_15 rfl (Nat.le_of_ble_eq_true rfl) (Nat.le_of_ble_eq_true rfl) ?_
      first | exact ⟨rfl, Or.inl ⟨rfl, Int32.not_lt.mp c2, Int32.not_lt.mp c7⟩⟩ | exact ⟨rfl, Or.inr ⟨rfl, fun q => absurd q.1 (Int32.not_le.mpr c2)⟩⟩ | exact ⟨rfl, Or.inr ⟨rfl, fun q => absurd q.2 (Int32.not_le.mpr c7)⟩⟩
    · refine vv_iconst cx dM_in_10 (v := 1) (by decide) (pc' := 11) rfl ?_
      refine vv_goto cx dM_in_11 (tgt := 15) (by decide) ?_
      refine vv_zret cx hr hlocks dM_in_15 rfl (Nat.le_of_ble_eq_true rfl) (Nat.le_of_ble_eq_true rfl) ?_
      first | exact ⟨rfl, Or.inl ⟨rfl, Int32.not_lt.mp c2, Int32.not_lt.mp c7⟩⟩ | exact ⟨rfl, Or.inr ⟨rfl, fun q => absurd q.1 (Int32.not_le.mpr c2)⟩⟩ | exact ⟨rfl, Or.inr ⟨rfl, fun q => absurd q.2 (Int32.not_le.mpr c7)⟩⟩
set_option maxRecDepth 100000 in
set_option maxHeartbeats 4000000 in
theorem tM_throwing (l : Launch) (g : pq_G) (h : pq_H) (a b c9 d : Int32) : XI l yM_throwing wM_throwing rM_throwing g 0 0 [.ref (g.2.2 116), .int a, .int b, .int c9, .int d] h (fun r h9 => h9 = va_up h 116 (upd (h 116) 0 (pq_thr a b c9 d)) ∧ pq_fl r (¬ pq_thr a b c9 d = 0)) (pq_no) := by
  refine XI.of (cc := cM_throwing) (maxL := 5) (ret := (some .boolean)) (by decide +kernel) (by simp [Value.category]) (Nat.le_of_ble_eq_true rfl) ?_
  intro p e s m below meth c cx hX hr hlocks hex
  refine vv_aload_n cx dM_throwing_0 rfl rfl (pc' := 1) rfl ?_
  refine vv_iload_n cx dM_throwing_1 rfl rfl (pc' := 2) rfl ?_
  refine vv_if_eq cx dM_throwing_2 (tgt := 9) (by decide) (pc' := 5) rfl (fun c2 => ?_) (fun c2 => ?_)
  · refine vv_iload_n cx dM_throwing_9 rfl rfl (pc' := 10) rfl ?_
    refine vv_if_eq cx dM_throwing_10 (tgt := 17) (by decide) (pc' := 13) rfl (fun c10 => ?_) (fun c10 => ?_)
    · refine vv_iload_n cx dM_throwing_17 rfl rfl (pc' := 18) rfl ?_
      refine vv_if_eq cx dM_throwing_18 (tgt := 25) (by decide) (pc' := 21) rfl (fun c18 => ?_) (fun c18 => ?_)
      · refine vv_iload cx dM_throwing_25 rfl (pc' := 27) rfl ?_
        refine vv_if_eq cx dM_throwing_27 (tgt := 34) (by decide) (pc' := 30) rfl (fun c27 => ?_) (fun c27 => ?_)
        · refine vv_iconst cx dM_throwing_34 (v := 0) (by decide) (pc' := 35) rfl ?_
          first | (have ht : pq_thr a b c9 d = 1 := if_neg c2) | (have ht : pq_thr a b c9 d = 2 := (if_pos c2).trans (if_neg c10)) | (have ht : pq_thr a b c9 d = 3 := (if_pos c2).trans ((if_pos c10).trans (if_neg c18))) | (have ht : pq_thr a b c9 d = 4 := (if_pos c2).trans ((if_pos c10).trans ((if_pos c18).trans (if_neg c27)))) | (have ht : pq_thr a b c9 d = 0 := (if_pos c2).trans ((if_pos c10).trans ((if_pos c18).trans (if_pos c27))))
          refine vv_putI cx (C := RM) (T := TM) (NN := 15) 116 0 (by decide) sh_116 rfl rfl (by decide) lyM tyM tyM_ok nmM rfl rfl rfl ww_554 dM_throwing_35 (pc' := 38) rfl ?_
          refine vv_aload_n cx dM_throwing_38 rfl rfl (pc' := 39) rfl ?_
          refine vv_getI cx (C := RM) (T := TM) (NN := 15) 116 0 (by decide) sh_116 rfl rfl (by decide) lyM ww_554 dM_throwing_39 (pc' := 42) rfl ?_
          rw [va_up_self, pk_us]
          refine vv_if_le cx dM_throwing_42 (tgt := 49) (by decide) (pc' := 45) rfl (fun c42 => ?_) (fun c42 => ?_)
          · refine vv_iconst cx dM_throwing_49 (v := 0) (by decide) (pc' := 50) rfl ?_
            refine vv_zret cx hr hlocks dM_throwing_50 rfl (Nat.le_of_ble_eq_true rfl) (Nat.le_of_ble_eq_true rfl) ?_
            rw [ht]
            first | exact ⟨rfl, Or.inl ⟨rfl, by decide⟩⟩ | exact ⟨rfl, Or.inr ⟨rfl, by decide⟩⟩ | exact absurd c42 (by decide)
          · refine vv_iconst cx dM_throwing_45 (v := 1) (by decide) (pc' := 46) rfl ?_
            refine vv_goto cx dM_throwing_46 (tgt := 50) (by decide) ?_
            refine vv_zret cx hr hlocks dM_throwing_50 rfl (Nat.le_of_ble_eq_true rfl) (Nat.le_of_ble_eq_true rfl) ?_
            rw [ht]
            first | exact ⟨rfl, Or.inl ⟨rfl, by decide⟩⟩ | exact ⟨rfl, Or.inr ⟨rfl, by decide⟩⟩ | exact absurd c42 (by decide)
        · refine vv_iconst cx dM_throwing_30 (v := 4) (by decide) (pc' := 31) rfl ?_
          refine vv_goto cx dM_throwing_31 (tgt := 35) (by decide) ?_
          first | (have ht : pq_thr a b c9 d = 1 := if_neg c2) | (have ht : pq_thr a b c9 d = 2 := (if_pos c2).trans (if_neg c10)) | (have ht : pq_thr a b c9 d = 3 := (if_pos c2).trans ((if_pos c10).trans (if_neg c18))) | (have ht : pq_thr a b c9 d = 4 := (if_pos c2).trans ((if_pos c10).trans ((if_pos c18).trans (if_neg c27)))) | (have ht : pq_thr a b c9 d = 0 := (if_pos c2).trans ((if_pos c10).trans ((if_pos c18).trans (if_pos c27))))
          refine vv_putI cx (C := RM) (T := TM) (NN := 15) 116 0 (by decide) sh_116 rfl rfl (by decide) lyM tyM tyM_ok nmM rfl rfl rfl ww_554 dM_throwing_35 (pc' := 38) rfl ?_
          refine vv_aload_n cx dM_throwing_38 rfl rfl (pc' := 39) rfl ?_
          refine vv_getI cx (C := RM) (T := TM) (NN := 15) 116 0 (by decide) sh_116 rfl rfl (by decide) lyM ww_554 dM_throwing_39 (pc' := 42) rfl ?_
          rw [va_up_self, pk_us]
          refine vv_if_le cx dM_throwing_42 (tgt := 49) (by decide) (pc' := 45) rfl (fun c42 => ?_) (fun c42 => ?_)
          · refine vv_iconst cx dM_throwing_49 (v := 0) (by decide) (pc' := 50) rfl ?_
            refine vv_zret cx hr hlocks dM_throwing_50 rfl (Nat.le_of_ble_eq_true rfl) (Nat.le_of_ble_eq_true rfl) ?_
            rw [ht]
            first | exact ⟨rfl, Or.inl ⟨rfl, by decide⟩⟩ | exact ⟨rfl, Or.inr ⟨rfl, by decide⟩⟩ | exact absurd c42 (by decide)
          · refine vv_iconst cx dM_throwing_45 (v := 1) (by decide) (pc' := 46) rfl ?_
            refine vv_goto cx dM_throwing_46 (tgt := 50) (by decide) ?_
            refine vv_zret cx hr hlocks dM_throwing_50 rfl (Nat.le_of_ble_eq_true rfl) (Nat.le_of_ble_eq_true rfl) ?_
            rw [ht]
            first | exact ⟨rfl, Or.inl ⟨rfl, by decide⟩⟩ | exact ⟨rfl, Or.inr ⟨rfl, by decide⟩⟩ | exact absurd c42 (by decide)
      · refine vv_iconst cx dM_throwing_21 (v := 3) (by decide) (pc' := 22) rfl ?_
        refine vv_goto cx dM_throwing_22 (tgt := 35) (by decide) ?_
        first | (have ht : pq_thr a b c9 d = 1 := if_neg c2) | (have ht : pq_thr a b c9 d = 2 := (if_pos c2).trans (if_neg c10)) | (have ht : pq_thr a b c9 d = 3 := (if_pos c2).trans ((if_pos c10).trans (if_neg c18))) | (have ht : pq_thr a b c9 d = 4 := (if_pos c2).trans ((if_pos c10).trans ((if_pos c18).trans (if_neg c27)))) | (have ht : pq_thr a b c9 d = 0 := (if_pos c2).trans ((if_pos c10).trans ((if_pos c18).trans (if_pos c27))))
        refine vv_putI cx (C := RM) (T := TM) (NN := 15) 116 0 (by decide) sh_116 rfl rfl (by decide) lyM tyM tyM_ok nmM rfl rfl rfl ww_554 dM_throwing_35 (pc' := 38) rfl ?_
        refine vv_aload_n cx dM_throwing_38 rfl rfl (pc' := 39) rfl ?_
        refine vv_getI cx (C := RM) (T := TM) (NN := 15) 116 0 (by decide) sh_116 rfl rfl (by decide) lyM ww_554 dM_throwing_39 (pc' := 42) rfl ?_
        rw [va_up_self, pk_us]
        refine vv_if_le cx dM_throwing_42 (tgt := 49) (by decide) (pc' := 45) rfl (fun c42 => ?_) (fun c42 => ?_)
        · refine vv_iconst cx dM_throwing_49 (v := 0) (by decide) (pc' := 50) rfl ?_
          refine vv_zret cx hr hlocks dM_throwing_50 rfl (Nat.le_of_ble_eq_true rfl) (Nat.le_of_ble_eq_true rfl) ?_
          rw [ht]
          first | exact ⟨rfl, Or.inl ⟨rfl, by decide⟩⟩ | exact ⟨rfl, Or.inr ⟨rfl, by decide⟩⟩ | exact absurd c42 (by decide)
        · refine vv_iconst cx dM_throwing_45 (v := 1) (by decide) (pc' := 46) rfl ?_
          refine vv_goto cx dM_throwing_46 (tgt := 50) (by decide) ?_
          refine vv_zret cx hr hlocks dM_throwing_50 rfl (Nat.le_of_ble_eq_true rfl) (Nat.le_of_ble_eq_true rfl) ?_
          rw [ht]
          first | exact ⟨rfl, Or.inl ⟨rfl, by decide⟩⟩ | exact ⟨rfl, Or.inr ⟨rfl, by decide⟩⟩ | exact absurd c42 (by decide)
    · refine vv_iconst cx dM_throwing_13 (v := 2) (by decide) (pc' := 14) rfl ?_
      refine vv_goto cx dM_throwing_14 (tgt := 35) (by decide) ?_
      first | (have ht : pq_thr a b c9 d = 1 := if_neg c2) | (have ht : pq_thr a b c9 d = 2 := (if_pos c2).trans (if_neg c10)) | (have ht : pq_thr a b c9 d = 3 := (if_pos c2).trans ((if_pos c10).trans (if_neg c18))) | (have ht : pq_thr a b c9 d = 4 := (if_pos c2).trans ((if_pos c10).trans ((if_pos c18).trans (if_neg c27)))) | (have ht : pq_thr a b c9 d = 0 := (if_pos c2).trans ((if_pos c10).trans ((if_pos c18).trans (if_pos c27))))
      refine vv_putI cx (C := RM) (T := TM) (NN := 15) 116 0 (by decide) sh_116 rfl rfl (by decide) lyM tyM tyM_ok nmM rfl rfl rfl ww_554 dM_throwing_35 (pc' := 38) rfl ?_
      refine vv_aload_n cx dM_throwing_38 rfl rfl (pc' := 39) rfl ?_
      refine vv_getI cx (C := RM) (T := TM) (NN := 15) 116 0 (by decide) sh_116 rfl rfl (by decide) lyM ww_554 dM_throwing_39 (pc' := 42) rfl ?_
      rw [va_up_self, pk_us]
      refine vv_if_le cx dM_throwing_42 (tgt := 49) (by decide) (pc' := 45) rfl (fun c42 => ?_) (fun c42 => ?_)
      · refine vv_iconst cx dM_throwing_49 (v := 0) (by decide) (pc' := 50) rfl ?_
        refine vv_zret cx hr hlocks dM_throwing_50 rfl (Nat.le_of_ble_eq_true rfl) (Nat.le_of_ble_eq_true rfl) ?_
        rw [ht]
        first | exact ⟨rfl, Or.inl ⟨rfl, by decide⟩⟩ | exact ⟨rfl, Or.inr ⟨rfl, by decide⟩⟩ | exact absurd c42 (by decide)
      · refine vv_iconst cx dM_throwing_45 (v := 1) (by decide) (pc' := 46) rfl ?_
        refine vv_goto cx dM_throwing_46 (tgt := 50) (by decide) ?_
        refine vv_zret cx hr hlocks dM_throwing_50 rfl (Nat.le_of_ble_eq_true rfl) (Nat.le_of_ble_eq_true rfl) ?_
        rw [ht]
        first | exact ⟨rfl, Or.inl ⟨rfl, by decide⟩⟩ | exact ⟨rfl, Or.inr ⟨rfl, by decide⟩⟩ | exact absurd c42 (by decide)
  · refine vv_iconst cx dM_throwing_5 (v := 1) (by decide) (pc' := 6) rfl ?_
    refine vv_goto cx dM_throwing_6 (tgt := 35) (by decide) ?_
    first | (have ht : pq_thr a b c9 d = 1 := if_neg c2) | (have ht : pq_thr a b c9 d = 2 := (if_pos c2).trans (if_neg c10)) | (have ht : pq_thr a b c9 d = 3 := (if_pos c2).trans ((if_pos c10).trans (if_neg c18))) | (have ht : pq_thr a b c9 d = 4 := (if_pos c2).trans ((if_pos c10).trans ((if_pos c18).trans (if_neg c27)))) | (have ht : pq_thr a b c9 d = 0 := (if_pos c2).trans ((if_pos c10).trans ((if_pos c18).trans (if_pos c27))))
    refine vv_putI cx (C := RM) (T := TM) (NN := 15) 116 0 (by decide) sh_116 rfl rfl (by decide) lyM tyM tyM_ok nmM rfl rfl rfl ww_554 dM_throwing_35 (pc' := 38) rfl ?_
    refine vv_aload_n cx dM_throwing_38 rfl rfl (pc' := 39) rfl ?_
    refine vv_getI cx (C := RM) (T := TM) (NN := 15) 116 0 (by decide) sh_116 rfl rfl (by decide) lyM ww_554 dM_throwing_39 (pc' := 42) rfl ?_
    rw [va_up_self, pk_us]
    refine vv_if_le cx dM_throwing_42 (tgt := 49) (by decide) (pc' := 45) rfl (fun c42 => ?_) (fun c42 => ?_)
    · refine vv_iconst cx dM_throwing_49 (v := 0) (by decide) (pc' := 50) rfl ?_
      refine vv_zret cx hr hlocks dM_throwing_50 rfl (Nat.le_of_ble_eq_true rfl) (Nat.le_of_ble_eq_true rfl) ?_
      rw [ht]
      first | exact ⟨rfl, Or.inl ⟨rfl, by decide⟩⟩ | exact ⟨rfl, Or.inr ⟨rfl, by decide⟩⟩ | exact absurd c42 (by decide)
    · refine vv_iconst cx dM_throwing_45 (v := 1) (by decide) (pc' := 46) rfl ?_
      refine vv_goto cx dM_throwing_46 (tgt := 50) (by decide) ?_
      refine vv_zret cx hr hlocks dM_throwing_50 rfl (Nat.le_of_ble_eq_true rfl) (Nat.le_of_ble_eq_true rfl) ?_
      rw [ht]
      first | exact ⟨rfl, Or.inl ⟨rfl, by decide⟩⟩ | exact ⟨rfl, Or.inr ⟨rfl, by decide⟩⟩ | exact absurd c42 (by decide)
set_option maxRecDepth 100000 in
set_option maxHeartbeats 4000000 in
theorem tM_isOrder (l : Launch) (g : pq_G) (h : pq_H) {W n : Nat} {w nm pr : Nat → Nat} (x : Int32) (hs : pq_mo h W n w nm pr) : XI l yM_isOrder wM_isOrder rM_isOrder g 0 0 [.ref (g.2.2 116), .int x] h (fun r h9 => h9 = h ∧ pq_fl r (0 ≤ x ∧ x < nI n)) (pq_no) := by
  refine XI.of (cc := cM_isOrder) (maxL := 2) (ret := (some .boolean)) (by decide +kernel) (by simp [Value.category]) (Nat.le_of_ble_eq_true rfl) ?_
  intro p e s m below meth c cx hX hr hlocks hex
  have hn5 := hs.2.1.2.2
  refine vv_iload_n cx dM_isOrder_0 rfl rfl (pc' := 1) rfl ?_
  refine vv_iconst cx dM_isOrder_1 (v := 0) (by decide) (pc' := 2) rfl ?_
  refine vv_aload_n cx dM_isOrder_2 rfl rfl (pc' := 3) rfl ?_
  refine vv_getI cx (C := RM) (T := TM) (NN := 15) 116 2 (by decide) sh_116 rfl rfl (by decide) lyM ww_556 dM_isOrder_3 (pc' := 6) rfl ?_
  rw [hs.1.2.1]
  refine vv_iconst cx dM_isOrder_6 (v := 1) (by decide) (pc' := 7) rfl ?_
  refine vv_isub cx dM_isOrder_7 (pc' := 8) rfl ?_
  refine cc_Si cx hX (tM_in l g h x 0 (nI n - 1)) kM_in ww_608 rfl rfl ⟨Nat.le_of_ble_eq_true rfl, Nat.le_of_ble_eq_true rfl⟩ rfl rfl (Nat.le_of_ble_eq_true rfl) rfl ⟨Nat.le_of_ble_eq_true rfl, Nat.le_of_ble_eq_true rfl⟩ dM_isOrder_8 (pc' := 11) rfl (fun _ _ q => q.elim) (fun r8 h8 q8 => ?_)
  obtain ⟨rfl, q8⟩ := q8
  rw [pq_ord (by omega)] at q8
  refine vv_zret cx hr hlocks dM_isOrder_11 q8.z (Nat.le_of_ble_eq_true rfl) (Nat.le_of_ble_eq_true rfl) ?_
  exact ⟨rfl, q8⟩
set_option maxRecDepth 100000 in
set_option maxHeartbeats 4000000 in
theorem tM_forget (l : Launch) (g : pq_G) (h : pq_H)  : XV l yM_forget wM_forget rM_forget g 0 0 [.ref (g.2.2 116)] h (fun h9 => pq_only 116 h h9 ∧ h9 116 10 = 0 ∧ h9 116 8 = -1 ∧ ∀ j, j ≠ 10 → j ≠ 8 → h9 116 j = h 116 j) (pq_no) := by
  refine XV.of (cc := cM_forget) (maxL := 1) (ret := none) (by decide +kernel) (by simp [Value.category]) (Nat.le_of_ble_eq_true rfl) ?_
  intro p e s m below meth c cx hX hr hlocks hex
  refine vv_aload_n cx dM_forget_0 rfl rfl (pc' := 1) rfl ?_
  refine vv_iconst cx dM_forget_1 (v := 0) (by decide) (pc' := 2) rfl ?_
  refine vv_putI cx (C := RM) (T := TM) (NN := 15) 116 10 (by decide) sh_116 rfl rfl (by decide) lyM tyM tyM_ok nmM rfl rfl rfl ww_564 dM_forget_2 (pc' := 5) rfl ?_
  refine vv_aload_n cx dM_forget_5 rfl rfl (pc' := 6) rfl ?_
  refine vv_iconst cx dM_forget_6 (v := -1) (by decide) (pc' := 7) rfl ?_
  refine vv_putI cx (C := RM) (T := TM) (NN := 15) 116 8 (by decide) sh_116 rfl rfl (by decide) lyM tyM tyM_ok nmM rfl rfl rfl ww_562 dM_forget_7 (pc' := 10) rfl ?_
  refine vv_vret cx hr hlocks dM_forget_10 (Nat.le_of_ble_eq_true rfl) (Nat.le_of_ble_eq_true rfl) ?_
  refine ⟨fun k hk => by simp [va_up, hk], by simp [va_up, upd], by simp [va_up, upd], fun j h1 h2 => by simp [va_up, upd, h1, h2]⟩
set_option maxRecDepth 100000 in
set_option maxHeartbeats 4000000 in
theorem tM_roomAt (l : Launch) (g : pq_G) (h : pq_H) {W n : Nat} {w nm pr : Nat → Nat} (A q0 : Nat) (a : Nat → Nat) (hs : pq_mo h W n w nm pr) (hA : A + 5 ≤ 160) (hq : q0 ≤ 5) (ha : ∀ i, i < q0 → h 121 (A + i) = nI (a i)) (hsum : pq_sum (fun i => a i * w i) q0 ≤ W) : XI l yM_roomAt wM_roomAt rM_roomAt g 0 0 [.ref (g.2.2 116), .int (nI A), .int (nI q0)] h (fun r h9 => h9 = h ∧ r = nI (W - pq_sum (fun i => a i * w i) q0)) (pq_no) := by
  refine XI.of (cc := cM_roomAt) (maxL := 5) (ret := (some .int)) (by decide +kernel) (by simp [Value.category]) (Nat.le_of_ble_eq_true rfl) ?_
  intro p e s m below meth c cx hX hr hlocks hex
  have loop : ∀ (d i : Nat), i + d = q0 → VV p l e rM_roomAt s m [.ref (g.2.2 116), .int (nI A), .int (nI q0)].toArray below meth c (vx_MQ below (pq_Qi g (fun r h9 => h9 = h ∧ r = nI (W - pq_sum (fun i => a i * w i) q0)) s.heap.size) (pq_Qx g (pq_no) s.heap.size) [.ref (g.2.2 116), .int (nI A), .int (nI q0)].toArray s 0 0 (pq_A g s.heap.size)) g 0 0 h 8 [some (.ref (g.2.2 116)), some (.int (nI A)), some (.int (nI q0)), some (.int (nI (W - pq_sum (fun i => a i * w i) i))), some (.int (nI i))] [] := by
    intro d
    induction d with
    | zero =>
      intro i hi
      have e1 : i = q0 := by omega
      subst e1
      refine vv_iload cx dM_roomAt_8 rfl (pc' := 10) rfl ?_
      refine vv_iload_n cx dM_roomAt_10 rfl rfl (pc' := 11) rfl ?_
      refine vv_icmp_ge cx dM_roomAt_11 (tgt := 40) (by decide) (pc' := 14) rfl (fun c11 => ?_) (fun c11 => ?_)
      · refine vv_iload_n cx dM_roomAt_40 rfl rfl (pc' := 41) rfl ?_
        refine vv_iret cx hr hlocks dM_roomAt_41 (Nat.le_of_ble_eq_true rfl) (Nat.le_of_ble_eq_true rfl) ?_
        exact ⟨rfl, rfl⟩
      · exact absurd (Int32.le_refl _) c11
    | succ d ih =>
      intro i hi
      have hlt : i < q0 := by omega
      have hs1 : pq_sum (fun i => a i * w i) (i + 1) ≤ W := Nat.le_trans (pq_sum_mono (show i + 1 ≤ q0 by omega)) hsum
      have hs2 : pq_sum (fun i => a i * w i) i + a i * w i ≤ W := hs1
      refine vv_iload cx dM_roomAt_8 rfl (pc' := 10) rfl ?_
      refine vv_iload_n cx dM_roomAt_10 rfl rfl (pc' := 11) rfl ?_
      refine vv_icmp_ge cx dM_roomAt_11 (tgt := 40) (by decide) (pc' := 14) rfl (fun c11 => ?_) (fun c11 => ?_)
      · exact absurd c11 (nI_ge hlt (by omega))
      · refine vv_iload_n cx dM_roomAt_14 rfl rfl (pc' := 15) rfl ?_
        refine vv_aload_n cx dM_roomAt_15 rfl rfl (pc' := 16) rfl ?_
        refine vv_getR cx (C := RM) (T := TM) (NN := 15) 116 7 _ (by decide) sh_116 rfl rfl (by decide) lyM ww_561 dM_roomAt_16 (pc' := 19) rfl ?_
        refine vv_iload_n cx dM_roomAt_19 rfl rfl (pc' := 20) rfl ?_
        refine vv_iload cx dM_roomAt_20 rfl (pc' := 22) rfl ?_
        refine vv_iadd cx dM_roomAt_22 (pc' := 23) rfl ?_
        rw [nI_add]
        refine vv_iald cx _ (by decide) sh_121 (vp_in_nI (by omega) (by decide)) dM_roomAt_23 (pc' := 24) rfl ?_
        refine vv_aload_n cx dM_roomAt_24 rfl rfl (pc' := 25) rfl ?_
        refine vv_getR cx (C := RM) (T := TM) (NN := 15) 116 3 _ (by decide) sh_116 rfl rfl (by decide) lyM ww_557 dM_roomAt_25 (pc' := 28) rfl ?_
        refine vv_iload cx dM_roomAt_28 rfl (pc' := 30) rfl ?_
        refine vv_iald cx _ (by decide) sh_117 (vp_in_nI (by omega) (by decide)) dM_roomAt_30 (pc' := 31) rfl ?_
        rw [nI_clamp (n := A + i) (by omega), nI_clamp (n := i) (by omega), ha i hlt, hs.1.2.2.1 i (by omega)]
        refine vv_imul cx dM_roomAt_31 (pc' := 32) rfl ?_
        rw [pk_mul]
        refine vv_isub cx dM_roomAt_32 (pc' := 33) rfl ?_
        rw [pk_sub (by omega), show W - pq_sum (fun i => a i * w i) i - a i * w i = W - pq_sum (fun i => a i * w i) (i + 1) by show _ = W - (pq_sum (fun i => a i * w i) i + a i * w i); omega]
        refine vv_istore_n cx dM_roomAt_33 rfl (Nat.le_of_ble_eq_true rfl) (pc' := 34) rfl ?_
        refine vv_iinc cx dM_roomAt_34 rfl pq_n1 (pc' := 37) rfl ?_
        refine vv_goto cx dM_roomAt_37 (tgt := 8) (by decide) ?_
        exact ih (i + 1) (by omega)
  refine vv_aload_n cx dM_roomAt_0 rfl rfl (pc' := 1) rfl ?_
  refine vv_getI cx (C := RM) (T := TM) (NN := 15) 116 1 (by decide) sh_116 rfl rfl (by decide) lyM ww_555 dM_roomAt_1 (pc' := 4) rfl ?_
  rw [hs.1.1]
  refine vv_istore_n cx dM_roomAt_4 rfl (Nat.le_of_ble_eq_true rfl) (pc' := 5) rfl ?_
  refine vv_iconst cx dM_roomAt_5 (v := 0) (by decide) (pc' := 6) rfl ?_
  refine vv_istore cx dM_roomAt_6 (Nat.le_of_ble_eq_true rfl) (pc' := 8) rfl ?_
  exact loop q0 0 (by omega)
set_option maxRecDepth 100000 in
set_option maxHeartbeats 4000000 in
theorem tM_fill (l : Launch) (g : pq_G) (h : pq_H) {W n : Nat} {w nm pr : Nat → Nat} (A i0 : Nat) (a th : Nat → Nat) (hs : pq_mo h W n w nm pr) (hA : A + 5 ≤ 160) (hi0 : i0 ≤ 5) (ha : pq_sub h 121 A a) (ht : pq_sub h 120 A th) (hsum : pq_sum (fun j => a j * w j) (min i0 n) ≤ W) (hth : ∀ i, i < 5 → th i ≤ 6) : XV l yM_fill wM_fill rM_fill g 0 0 [.ref (g.2.2 116), .int (nI A), .int (nI i0)] h (fun h9 => pq_at 121 A h h9 ∧ ∃ b, pq_sub h9 121 A b ∧ ∀ i, i < 5 → b i = if i < n then pq_fill W n w th a i0 i else if i < i0 then a i else 0) (pq_no) := by
  refine XV.of (cc := cM_fill) (maxL := 5) (ret := none) (by decide +kernel) (by simp [Value.category]) (Nat.le_of_ble_eq_true rfl) ?_
  intro p e s m below meth c cx hX hr hlocks hex
  obtain ⟨-, ⟨hW1, hW2, hn5⟩, hb, hw1, -⟩ := id hs
  have loop : ∀ (d i : Nat) (b : Nat → Nat) (h1 : pq_H) (u4 : Option Value), pq_at 121 A h h1 → pq_sub h1 121 A b → i + d = 5 → i0 ≤ i → pq_sum (fun j => b j * w j) (min i n) ≤ W → (∀ j, j < n → pq_fillS w th (n - i) b i (W - pq_sum (fun j => b j * w j) i) j = pq_fill W n w th a i0 j) → (∀ j, j < i → n ≤ j → b j = if j < i0 then a j else 0) → VV p l e rM_fill s m [.ref (g.2.2 116), .int (nI A), .int (nI i0)].toArray below meth c (vx_MQ below (pq_Qv g (fun h9 => pq_at 121 A h h9 ∧ ∃ b, pq_sub h9 121 A b ∧ ∀ i, i < 5 → b i = if i < n then pq_fill W n w th a i0 i else if i < i0 then a i else 0) s.heap.size) (pq_Qx g (pq_no) s.heap.size) [.ref (g.2.2 116), .int (nI A), .int (nI i0)].toArray s 0 0 (pq_A g s.heap.size)) g 0 0 h1 2 [some (.ref (g.2.2 116)), some (.int (nI A)), some (.int (nI i0)), some (.int (nI i)), u4] [] := by
    intro d
    induction d with
    | zero =>
      intro i b h1 u4 hat hb1 hi hii hsm hf hj
      have e1 : i = 5 := by omega
      subst e1
      refine vv_iload_n cx dM_fill_2 rfl rfl (pc' := 3) rfl ?_
      refine vv_iconst cx dM_fill_3 (v := 5) (by decide) (pc' := 4) rfl ?_
      refine vv_icmp_ge cx dM_fill_4 (tgt := 86) (by decide) (pc' := 7) rfl (fun c4 => ?_) (fun c4 => ?_)
      · refine vv_vret cx hr hlocks dM_fill_86 (Nat.le_of_ble_eq_true rfl) (Nat.le_of_ble_eq_true rfl) ?_
        refine ⟨hat, b, hb1, fun j hj5 => ?_⟩
        rcases Nat.lt_or_ge j n with q | q
        · rw [if_pos q, ← hf j q, show n - 5 = 0 by omega]; rfl
        · rw [if_neg (by omega)]; exact hj j hj5 q
      · exact absurd (Int32.le_refl _) c4
    | succ d ih =>
      intro i b h1 u4 hat hb1 hi hii hsm hf hj
      have hlt : i < 5 := by omega
      have hs1 := hs.only hat.1 (by decide)
      have hn := hs1.1.2.1
      have ht1 : pq_sub h1 120 A th := ht.of (fun j _ => by rw [hat.1 120 (by decide)])
      rcases Nat.lt_or_ge i n with hin | hin
      · refine vv_iload_n cx dM_fill_2 rfl rfl (pc' := 3) rfl ?_
        refine vv_iconst cx dM_fill_3 (v := 5) (by decide) (pc' := 4) rfl ?_
        refine vv_icmp_ge cx dM_fill_4 (tgt := 86) (by decide) (pc' := 7) rfl (fun c4 => ?_) (fun c4 => ?_)
        · exact absurd c4 (nI_ge (b := 5) hlt (by decide))
        · refine vv_iload_n cx dM_fill_7 rfl rfl (pc' := 8) rfl ?_
          refine vv_aload_n cx dM_fill_8 rfl rfl (pc' := 9) rfl ?_
          refine vv_getI cx (C := RM) (T := TM) (NN := 15) 116 2 (by decide) sh_116 rfl rfl (by decide) lyM ww_556 dM_fill_9 (pc' := 12) rfl ?_
          rw [hn]
          refine vv_icmp_ge cx dM_fill_12 (tgt := 31) (by decide) (pc' := 15) rfl (fun c12 => ?_) (fun c12 => ?_)
          · exact absurd c12 (nI_ge hin (by omega))
          · refine vv_aload_n cx dM_fill_15 rfl rfl (pc' := 16) rfl ?_
            refine vv_iload_n cx dM_fill_16 rfl rfl (pc' := 17) rfl ?_
            refine vv_iload_n cx dM_fill_17 rfl rfl (pc' := 18) rfl ?_
            refine cc_Vi cx hX (tM_roomAt l g h1 A i b hs1 hA (by omega) (fun j hj2 => hb1 j (by omega)) (by rw [Nat.min_eq_left (by omega)] at hsm; exact hsm)) kM_roomAt ww_647 rfl rfl ⟨Nat.le_of_ble_eq_true rfl, Nat.le_of_ble_eq_true rfl⟩ 116 (by decide) sh_116 rfl rfl rfl rfl (Nat.le_of_ble_eq_true rfl) rfl ⟨Nat.le_of_ble_eq_true rfl, Nat.le_of_ble_eq_true rfl⟩ dM_fill_18 (pc' := 21) rfl (fun _ _ q => q.elim) (fun r18 h18 q18 => ?_)
            obtain ⟨rfl, rfl⟩ := q18
            have hwi : 0 < w i := hw1 i hin
            have hw5 : w i ≤ 1000 := (hb i hlt).1
            have hti : th i ≤ 6 := hth i hlt
            rw [Nat.min_eq_left (by omega)] at hsm
            obtain ⟨R, hR⟩ : ∃ R, R = W - pq_sum (fun j => b j * w j) i := ⟨_, rfl⟩
            have hdv : R / w i ≤ R := Nat.div_le_self _ _
            have hml := pq_div_le (th i) R (w i)
            have hsu : pq_sum (fun j => va_up b i (min (th i) (R / w i)) j * w j) (i + 1) = pq_sum (fun j => b j * w j) i + min (th i) (R / w i) * w i := pq_sum_put
            refine vv_aload_n cx dM_fill_21 rfl rfl (pc' := 22) rfl ?_
            refine vv_getR cx (C := RM) (T := TM) (NN := 15) 116 3 _ (by decide) sh_116 rfl rfl (by decide) lyM ww_557 dM_fill_22 (pc' := 25) rfl ?_
            refine vv_iload_n cx dM_fill_25 rfl rfl (pc' := 26) rfl ?_
            refine vv_iald cx _ (by decide) sh_117 (vp_in_nI hlt (by decide)) dM_fill_26 (pc' := 27) rfl ?_
            rw [nI_clamp (n := i) (by omega), hs1.1.2.2.1 i hlt, ← hR]
            refine vv_idiv cx dM_fill_27 (nI_ne0 hwi (by omega)) (pc' := 28) rfl ?_
            rw [pk_div (by omega) hwi (by omega)]
            refine vv_goto cx dM_fill_28 (tgt := 32) (by decide) ?_
            refine vv_istore cx dM_fill_32 (Nat.le_of_ble_eq_true rfl) (pc' := 34) rfl ?_
            refine vv_aload_n cx dM_fill_34 rfl rfl (pc' := 35) rfl ?_
            refine vv_getR cx (C := RM) (T := TM) (NN := 15) 116 7 _ (by decide) sh_116 rfl rfl (by decide) lyM ww_561 dM_fill_35 (pc' := 38) rfl ?_
            refine vv_iload_n cx dM_fill_38 rfl rfl (pc' := 39) rfl ?_
            refine vv_iload_n cx dM_fill_39 rfl rfl (pc' := 40) rfl ?_
            refine vv_iadd cx dM_fill_40 (pc' := 41) rfl ?_
            rw [nI_add]
            refine vv_iload_n cx dM_fill_41 rfl rfl (pc' := 42) rfl ?_
            refine vv_aload_n cx dM_fill_42 rfl rfl (pc' := 43) rfl ?_
            refine vv_getI cx (C := RM) (T := TM) (NN := 15) 116 2 (by decide) sh_116 rfl rfl (by decide) lyM ww_556 dM_fill_43 (pc' := 46) rfl ?_
            rw [hn]
            refine vv_icmp_ge cx dM_fill_46 (tgt := 78) (by decide) (pc' := 49) rfl (fun c46 => ?_) (fun c46 => ?_)
            · exact absurd c46 (nI_ge hin (by omega))
            · refine vv_iload cx dM_fill_49 rfl (pc' := 51) rfl ?_
              refine vv_aload_n cx dM_fill_51 rfl rfl (pc' := 52) rfl ?_
              refine vv_getR cx (C := RM) (T := TM) (NN := 15) 116 6 _ (by decide) sh_116 rfl rfl (by decide) lyM ww_560 dM_fill_52 (pc' := 55) rfl ?_
              refine vv_iload_n cx dM_fill_55 rfl rfl (pc' := 56) rfl ?_
              refine vv_iload_n cx dM_fill_56 rfl rfl (pc' := 57) rfl ?_
              refine vv_iadd cx dM_fill_57 (pc' := 58) rfl ?_
              rw [nI_add]
              refine vv_iald cx _ (by decide) sh_120 (vp_in_nI (by omega) (by decide)) dM_fill_58 (pc' := 59) rfl ?_
              rw [nI_clamp (n := A + i) (by omega), ht1 i hlt]
              refine vv_icmp_ge cx dM_fill_59 (tgt := 67) (by decide) (pc' := 62) rfl (fun c59 => ?_) (fun c59 => ?_)
              · refine vv_aload_n cx dM_fill_67 rfl rfl (pc' := 68) rfl ?_
                refine vv_getR cx (C := RM) (T := TM) (NN := 15) 116 6 _ (by decide) sh_116 rfl rfl (by decide) lyM ww_560 dM_fill_68 (pc' := 71) rfl ?_
                refine vv_iload_n cx dM_fill_71 rfl rfl (pc' := 72) rfl ?_
                refine vv_iload_n cx dM_fill_72 rfl rfl (pc' := 73) rfl ?_
                refine vv_iadd cx dM_fill_73 (pc' := 74) rfl ?_
                rw [nI_add]
                refine vv_iald cx _ (by decide) sh_120 (vp_in_nI (by omega) (by decide)) dM_fill_74 (pc' := 75) rfl ?_
                rw [nI_clamp (n := A + i) (by omega), ht1 i hlt]
                refine vv_goto cx dM_fill_75 (tgt := 79) (by decide) ?_
                first | rw [show R / w i = min (th i) (R / w i) from (Nat.min_eq_right (Nat.le_of_lt (Nat.lt_of_not_le (fun q => c59 (nI_le q (by omega)))))).symm] | rw [show nI (th i) = nI (min (th i) (R / w i)) by rw [Nat.min_eq_left (Nat.le_of_not_lt (fun q => nI_ge q (by omega) c59))]]
                refine vv_iast cx _ (by decide) sh_121 (vp_in_nI (by omega) (by decide)) dM_fill_79 (pc' := 80) rfl ?_
                rw [nI_clamp (n := A + i) (by omega)]
                refine vv_iinc cx dM_fill_80 rfl pq_n1 (pc' := 83) rfl ?_
                refine vv_goto cx dM_fill_83 (tgt := 2) (by decide) ?_
                refine ih (i + 1) (va_up b i (min (th i) (R / w i))) _ _ (hat.trans (pq_at.up hlt)) (hb1.put rfl) (by omega) (by omega) ?_ (fun j hj2 => ?_) (fun j hj2 hj3 => absurd hj3 (by omega))
                · rw [show min (i + 1) n = i + 1 from Nat.min_eq_left (by omega), hsu]; omega
                · rw [hsu, ← hf j hj2, show n - i = (n - (i + 1)) + 1 by omega]
                  show _ = pq_fillS w th (n - (i + 1)) _ _ _ j
                  rw [← hR, show W - (pq_sum (fun j => b j * w j) i + min (th i) (R / w i) * w i) = R - min (th i) (R / w i) * w i by omega]
              · refine vv_iload cx dM_fill_62 rfl (pc' := 64) rfl ?_
                refine vv_goto cx dM_fill_64 (tgt := 79) (by decide) ?_
                first | rw [show R / w i = min (th i) (R / w i) from (Nat.min_eq_right (Nat.le_of_lt (Nat.lt_of_not_le (fun q => c59 (nI_le q (by omega)))))).symm] | rw [show nI (th i) = nI (min (th i) (R / w i)) by rw [Nat.min_eq_left (Nat.le_of_not_lt (fun q => nI_ge q (by omega) c59))]]
                refine vv_iast cx _ (by decide) sh_121 (vp_in_nI (by omega) (by decide)) dM_fill_79 (pc' := 80) rfl ?_
                rw [nI_clamp (n := A + i) (by omega)]
                refine vv_iinc cx dM_fill_80 rfl pq_n1 (pc' := 83) rfl ?_
                refine vv_goto cx dM_fill_83 (tgt := 2) (by decide) ?_
                refine ih (i + 1) (va_up b i (min (th i) (R / w i))) _ _ (hat.trans (pq_at.up hlt)) (hb1.put rfl) (by omega) (by omega) ?_ (fun j hj2 => ?_) (fun j hj2 hj3 => absurd hj3 (by omega))
                · rw [show min (i + 1) n = i + 1 from Nat.min_eq_left (by omega), hsu]; omega
                · rw [hsu, ← hf j hj2, show n - i = (n - (i + 1)) + 1 by omega]
                  show _ = pq_fillS w th (n - (i + 1)) _ _ _ j
                  rw [← hR, show W - (pq_sum (fun j => b j * w j) i + min (th i) (R / w i) * w i) = R - min (th i) (R / w i) * w i by omega]
      · refine vv_iload_n cx dM_fill_2 rfl rfl (pc' := 3) rfl ?_
        refine vv_iconst cx dM_fill_3 (v := 5) (by decide) (pc' := 4) rfl ?_
        refine vv_icmp_ge cx dM_fill_4 (tgt := 86) (by decide) (pc' := 7) rfl (fun c4 => ?_) (fun c4 => ?_)
        · exact absurd c4 (nI_ge (b := 5) hlt (by decide))
        · refine vv_iload_n cx dM_fill_7 rfl rfl (pc' := 8) rfl ?_
          refine vv_aload_n cx dM_fill_8 rfl rfl (pc' := 9) rfl ?_
          refine vv_getI cx (C := RM) (T := TM) (NN := 15) 116 2 (by decide) sh_116 rfl rfl (by decide) lyM ww_556 dM_fill_9 (pc' := 12) rfl ?_
          rw [hn]
          refine vv_icmp_ge cx dM_fill_12 (tgt := 31) (by decide) (pc' := 15) rfl (fun c12 => ?_) (fun c12 => ?_)
          · refine vv_iconst cx dM_fill_31 (v := 0) (by decide) (pc' := 32) rfl ?_
            refine vv_istore cx dM_fill_32 (Nat.le_of_ble_eq_true rfl) (pc' := 34) rfl ?_
            refine vv_aload_n cx dM_fill_34 rfl rfl (pc' := 35) rfl ?_
            refine vv_getR cx (C := RM) (T := TM) (NN := 15) 116 7 _ (by decide) sh_116 rfl rfl (by decide) lyM ww_561 dM_fill_35 (pc' := 38) rfl ?_
            refine vv_iload_n cx dM_fill_38 rfl rfl (pc' := 39) rfl ?_
            refine vv_iload_n cx dM_fill_39 rfl rfl (pc' := 40) rfl ?_
            refine vv_iadd cx dM_fill_40 (pc' := 41) rfl ?_
            rw [nI_add]
            refine vv_iload_n cx dM_fill_41 rfl rfl (pc' := 42) rfl ?_
            refine vv_aload_n cx dM_fill_42 rfl rfl (pc' := 43) rfl ?_
            refine vv_getI cx (C := RM) (T := TM) (NN := 15) 116 2 (by decide) sh_116 rfl rfl (by decide) lyM ww_556 dM_fill_43 (pc' := 46) rfl ?_
            rw [hn]
            refine vv_icmp_ge cx dM_fill_46 (tgt := 78) (by decide) (pc' := 49) rfl (fun c46 => ?_) (fun c46 => ?_)
            · refine vv_iconst cx dM_fill_78 (v := 0) (by decide) (pc' := 79) rfl ?_
              refine vv_iast cx _ (by decide) sh_121 (vp_in_nI (by omega) (by decide)) dM_fill_79 (pc' := 80) rfl ?_
              rw [nI_clamp (n := A + i) (by omega)]
              refine vv_iinc cx dM_fill_80 rfl pq_n1 (pc' := 83) rfl ?_
              refine vv_goto cx dM_fill_83 (tgt := 2) (by decide) ?_
              refine ih (i + 1) (va_up b i 0) _ _ (hat.trans (pq_at.up hlt)) (hb1.put rfl) (by omega) (by omega) ?_ (fun j hj2 => ?_) (fun j hj2 hj3 => ?_)
              · rw [Nat.min_eq_right (by omega)] at hsm ⊢
                rw [pq_sum_congr (g := fun j => b j * w j) (fun j hj4 => by show va_up b i 0 j * w j = _; rw [va_up_ne _ _ (by omega)])]; exact hsm
              · rw [← hf j hj2, show n - (i + 1) = 0 by omega, show n - i = 0 by omega]
                exact va_up_ne _ _ (by omega)
              · by_cases e9 : j = i
                · subst e9; rw [va_up_self, if_neg (by omega)]
                · rw [va_up_ne _ _ e9]; exact hj j (by omega) hj3
            · exact absurd (nI_le hin (by omega)) c46
          · exact absurd (nI_le hin (by omega)) c12
  refine vv_iload_n cx dM_fill_0 rfl rfl (pc' := 1) rfl ?_
  refine vv_istore_n cx dM_fill_1 rfl (Nat.le_of_ble_eq_true rfl) (pc' := 2) rfl ?_
  refine loop (5 - i0) i0 a _ _ pq_at.rfl' ha (by omega) (Nat.le_refl _) hsum (fun j hj => ?_) (fun j hj hj2 => by rw [if_pos hj])
  rfl
end
section
/-! part 18: the reference's column -/
theorem pq_next_none {W n : Nat} {w th a : Nat → Nat} {z : Nat} : ∀ {m : Nat}, (∀ j, j < m → a j = 0) → pq_next W n w th a z m = none
  | 0, _ => rfl
  | m + 1, h => by
    rw [pq_next, if_neg (by rw [h m (by omega)]; omega)]
    exact pq_next_none (fun j hj => h j (by omega))
theorem pq_next_at {W n : Nat} {w th a : Nat → Nat} {z k : Nat} (hk : 0 < a k) (hz : k ≠ z) : ∀ {m : Nat}, k < m → (∀ j, k < j → j < m → a j = 0) → pq_next W n w th a z m = some (pq_fill W n w th (va_up a k (a k - 1)) (k + 1))
  | 0, h, _ => absurd h (by omega)
  | m + 1, h, h2 => by
    rcases Nat.lt_or_ge k m with q | q
    · rw [pq_next, if_neg (by rw [h2 m q (by omega)]; omega)]
      exact pq_next_at hk hz q (fun j a1 a2 => h2 j a1 (by omega))
    · have e : k = m := by omega
      subst e
      rw [pq_next, if_neg hz, if_pos hk]
theorem pq_fillS_eq {w th : Nat → Nat} : ∀ (s : Nat) (a a' : Nat → Nat) (i R : Nat), (∀ x, (x < i ∨ i + s ≤ x) → a x = a' x) → pq_fillS w th s a i R = pq_fillS w th s a' i R
  | 0, a, a', i, R, h => funext fun x => h x (by omega)
  | s + 1, a, a', i, R, h => by
    show pq_fillS w th s _ _ _ = pq_fillS w th s _ _ _
    refine pq_fillS_eq s _ _ _ _ (fun x hx => ?_)
    by_cases e : x = i
    · subst e; rw [va_up_self, va_up_self]
    · rw [va_up_ne _ _ e, va_up_ne _ _ e]; exact h x (by omega)
theorem pq_next_skip {W m : Nat} {w th c : Nat → Nat} {z d : Nat} : ∀ {k : Nat}, k ≤ m → pq_next W (m + 1) w th (va_up c m d) z k = pq_next W (m + 1) w th c z k
  | 0, _ => rfl
  | k + 1, h => by
    have e1 : va_up c m d k = c k := va_up_ne _ _ (by omega)
    rw [pq_next, pq_next, e1, pq_next_skip (by omega)]
    have e2 : pq_fill W (m + 1) w th (va_up (va_up c m d) k (c k - 1)) (k + 1) = pq_fill W (m + 1) w th (va_up c k (c k - 1)) (k + 1) := by
      unfold pq_fill
      have e3 : pq_sum (fun j => va_up (va_up c m d) k (c k - 1) j * w j) (k + 1) = pq_sum (fun j => va_up c k (c k - 1) j * w j) (k + 1) := pq_sum_congr (fun j hj => by
        show va_up (va_up c m d) k (c k - 1) j * w j = va_up c k (c k - 1) j * w j
        by_cases e : j = k
        · subst e; rw [va_up_self, va_up_self]
        · rw [va_up_ne _ _ e, va_up_ne _ _ e, va_up_ne _ _ (by omega)])
      rw [e3]
      refine pq_fillS_eq _ _ _ _ _ (fun x hx => ?_)
      by_cases e : x = k
      · subst e; rw [va_up_self, va_up_self]
      · rw [va_up_ne _ _ e, va_up_ne _ _ e, va_up_ne _ _ (by omega)]
    rw [e2]
def pq_mu (a : Nat → Nat) : Nat := a 0 * 2401 + a 1 * 343 + a 2 * 49 + a 3 * 7 + a 4
theorem pq_next_mu {W n : Nat} {w th a b : Nat → Nat} {z : Nat} (hb : ∀ i, i < 5 → b i ≤ 6) : ∀ {m : Nat}, m ≤ 5 → pq_next W n w th a z m = some b → pq_mu b < pq_mu a
  | 0, _, h => by cases h
  | m + 1, hm, h => by
    by_cases hlt : (if m = z then 1 else 0) < a m
    · rw [pq_next, if_pos hlt] at h
      have h0 : 0 < a m := by omega
      have e : ∀ j, j ≤ m → b j = va_up a m (a m - 1) j := fun j hj => by
        rw [← Option.some.inj h, pq_fill, pq_fillS_out _ _ _ _ _ (by omega)]
      have e1 : b m = a m - 1 := by rw [e m (Nat.le_refl _), va_up_self]
      have e2 : ∀ j, j < m → b j = a j := fun j hj => by rw [e j (by omega), va_up_ne _ _ (by omega)]
      have b0 := hb 0 (by omega)
      have b1 := hb 1 (by omega)
      have b2 := hb 2 (by omega)
      have b3 := hb 3 (by omega)
      have b4 := hb 4 (by omega)
      unfold pq_mu
      have hm5 : m = 0 ∨ m = 1 ∨ m = 2 ∨ m = 3 ∨ m = 4 := by omega
      rcases hm5 with rfl | rfl | rfl | rfl | rfl
      · omega
      · have := e2 0 (by omega); omega
      · have := e2 0 (by omega); have := e2 1 (by omega); omega
      · have := e2 0 (by omega); have := e2 1 (by omega); have := e2 2 (by omega); omega
      · have := e2 0 (by omega); have := e2 1 (by omega); have := e2 2 (by omega); have := e2 3 (by omega); omega
    · rw [pq_next, if_neg hlt] at h
      exact pq_next_mu hb (by omega) h
theorem pq_mu_bd {a : Nat → Nat} (h : ∀ i, i < 5 → a i ≤ 6) : pq_mu a ≤ 16806 := by
  have b0 := h 0 (by omega)
  have b1 := h 1 (by omega)
  have b2 := h 2 (by omega)
  have b3 := h 3 (by omega)
  have b4 := h 4 (by omega)
  unfold pq_mu
  omega
theorem pq_pat6 {W n : Nat} {w th a : Nat → Nat} (h : pq_pat W n w th a) (ht : ∀ i, i < 5 → th i ≤ 6) : ∀ i, i < 5 → a i ≤ 6 := fun i hi => by
  rcases Nat.lt_or_ge i n with q | q
  · exact Nat.le_trans (h.1 i q) (ht i hi)
  · rw [h.2.2 i q hi]; omega
theorem pq_pat_red {W n : Nat} {w th c : Nat → Nat} {m d : Nat} (h : pq_pat W n w th c) (hd : d ≤ c m) : pq_pat W n w th (va_up c m d) := by
  have hle : ∀ j, va_up c m d j ≤ c j := fun j => by
    by_cases e : j = m
    · subst e; rw [va_up_self]; exact hd
    · rw [va_up_ne _ _ e]; exact Nat.le_refl _
  refine ⟨fun i hi => Nat.le_trans (hle i) (h.1 i hi), Nat.le_trans (pq_sum_le (fun j _ => Nat.mul_le_mul_right _ (hle j))) h.2.1, fun i h1 h2 => ?_⟩
  have := hle i
  have := h.2.2 i h1 h2
  omega
theorem pq_price_red {n m d : Nat} {pr c : Nat → Nat} (hd : d ≤ c m) : pq_price n pr (va_up c m d) ≤ pq_price n pr c := pq_sum_le (fun j _ => Nat.mul_le_mul_right _ (by
  by_cases e : j = m
  · subst e; rw [va_up_self]; exact hd
  · rw [va_up_ne _ _ e]; exact Nat.le_refl _))
theorem va_up_id {c : Nat → Nat} {m : Nat} : va_up c m (c m) = c := funext fun j => by
  by_cases e : j = m
  · subst e; rw [va_up_self]
  · rw [va_up_ne _ _ e]
set_option maxRecDepth 100000 in
set_option maxHeartbeats 4000000 in
theorem tM_goesDown (l : Launch) (g : pq_G) (h : pq_H) {W n : Nat} {w nm pr : Nat → Nat} (A : Nat) (a th : Nat → Nat) (hs : pq_mo h W n w nm pr) (hA : A + 5 ≤ 160) (ha : pq_sub h 121 A a) (ht : pq_sub h 120 A th) (hpat : pq_pat W n w th a) (hth : ∀ i, i < 5 → th i ≤ 6) : XI l yM_goesDown wM_goesDown rM_goesDown g 0 0 [.ref (g.2.2 116), .int (nI A)] h (fun r h9 => (r = 1 ∧ ∃ b, pq_next W n w th a 5 n = some b ∧ pq_at 121 A h h9 ∧ pq_sub h9 121 A b) ∨ (r = 0 ∧ pq_next W n w th a 5 n = none ∧ h9 = h)) (pq_no) := by
  refine XI.of (cc := cM_goesDown) (maxL := 3) (ret := (some .boolean)) (by decide +kernel) (by simp [Value.category]) (Nat.le_of_ble_eq_true rfl) ?_
  intro p e s m below meth c cx hX hr hlocks hex
  obtain ⟨-, ⟨hW1, hW2, hn5⟩, hb, hw1, -⟩ := id hs
  have ha6 := pq_pat6 hpat hth
  have loop : ∀ (i : Nat) (y : Int32), ((i = 0 ∧ y < 0) ∨ (0 < i ∧ y = nI (i - 1))) → i ≤ 5 → (∀ j, i ≤ j → j < 5 → a j = 0) → VV p l e rM_goesDown s m [.ref (g.2.2 116), .int (nI A)].toArray below meth c (vx_MQ below (pq_Qi g (fun r h9 => (r = 1 ∧ ∃ b, pq_next W n w th a 5 n = some b ∧ pq_at 121 A h h9 ∧ pq_sub h9 121 A b) ∨ (r = 0 ∧ pq_next W n w th a 5 n = none ∧ h9 = h)) s.heap.size) (pq_Qx g (pq_no) s.heap.size) [.ref (g.2.2 116), .int (nI A)].toArray s 0 0 (pq_A g s.heap.size)) g 0 0 h 2 [some (.ref (g.2.2 116)), some (.int (nI A)), some (.int y)] [] := by
    intro i
    induction i with
    | zero =>
      intro y hy hi hz
      have hy0 : y < 0 := by rcases hy with q | q; exact q.2; exact absurd q.1 (by omega)
      refine vv_iload_n cx dM_goesDown_2 rfl rfl (pc' := 3) rfl ?_
      refine vv_if_lt cx dM_goesDown_3 (tgt := 23) (by decide) (pc' := 6) rfl (fun c3 => ?_) (fun c3 => ?_)
      · refine vv_iload_n cx dM_goesDown_23 rfl rfl (pc' := 24) rfl ?_
        refine vv_if_ge cx dM_goesDown_24 (tgt := 29) (by decide) (pc' := 27) rfl (fun c24 => ?_) (fun c24 => ?_)
        · exact absurd hy0 (Int32.not_lt.mpr c24)
        · refine vv_iconst cx dM_goesDown_27 (v := 0) (by decide) (pc' := 28) rfl ?_
          refine vv_zret cx hr hlocks dM_goesDown_28 rfl (Nat.le_of_ble_eq_true rfl) (Nat.le_of_ble_eq_true rfl) ?_
          exact Or.inr ⟨rfl, pq_next_none (fun j hj => hz j (Nat.zero_le _) (by omega)), rfl⟩
      · exact absurd hy0 c3
    | succ i ih =>
      intro y hy hi hz
      have hy1 : y = nI i := by rcases hy with q | q; exact absurd q.1 (by omega); exact q.2
      subst hy1
      have hrow : h 121 (A + i) = nI (a i) := ha i (by omega)
      have hai := ha6 i (by omega)
      refine vv_iload_n cx dM_goesDown_2 rfl rfl (pc' := 3) rfl ?_
      refine vv_if_lt cx dM_goesDown_3 (tgt := 23) (by decide) (pc' := 6) rfl (fun c3 => ?_) (fun c3 => ?_)
      · exact absurd c3 (nI_pos (by omega))
      · refine vv_aload_n cx dM_goesDown_6 rfl rfl (pc' := 7) rfl ?_
        refine vv_getR cx (C := RM) (T := TM) (NN := 15) 116 7 _ (by decide) sh_116 rfl rfl (by decide) lyM ww_561 dM_goesDown_7 (pc' := 10) rfl ?_
        refine vv_iload_n cx dM_goesDown_10 rfl rfl (pc' := 11) rfl ?_
        refine vv_iload_n cx dM_goesDown_11 rfl rfl (pc' := 12) rfl ?_
        refine vv_iadd cx dM_goesDown_12 (pc' := 13) rfl ?_
        rw [nI_add]
        refine vv_iald cx _ (by decide) sh_121 (vp_in_nI (by omega) (by decide)) dM_goesDown_13 (pc' := 14) rfl ?_
        rw [nI_clamp (n := A + i) (by omega), hrow]
        refine vv_if_ne cx dM_goesDown_14 (tgt := 23) (by decide) (pc' := 17) rfl (fun c14 => ?_) (fun c14 => ?_)
        · have hpos : 0 < a i := Nat.pos_of_ne_zero (fun q => c14 (by rw [q]; rfl))
          have hin : i < n := Nat.lt_of_not_le (fun q => by have := hpat.2.2 i q (by omega); omega)
          have hnx : pq_next W n w th a 5 n = some (pq_fill W n w th (va_up a i (a i - 1)) (i + 1)) := pq_next_at hpos (by omega) hin (fun j h1 h2 => hz j h1 (by omega))
          refine vv_iload_n cx dM_goesDown_23 rfl rfl (pc' := 24) rfl ?_
          refine vv_if_ge cx dM_goesDown_24 (tgt := 29) (by decide) (pc' := 27) rfl (fun c24 => ?_) (fun c24 => ?_)
          · refine vv_aload_n cx dM_goesDown_29 rfl rfl (pc' := 30) rfl ?_
            refine vv_getR cx (C := RM) (T := TM) (NN := 15) 116 7 _ (by decide) sh_116 rfl rfl (by decide) lyM ww_561 dM_goesDown_30 (pc' := 33) rfl ?_
            refine vv_iload_n cx dM_goesDown_33 rfl rfl (pc' := 34) rfl ?_
            refine vv_iload_n cx dM_goesDown_34 rfl rfl (pc' := 35) rfl ?_
            refine vv_iadd cx dM_goesDown_35 (pc' := 36) rfl ?_
            rw [nI_add]
            refine vv_dup2 cx dM_goesDown_36 rfl rfl (pc' := 37) rfl ?_
            refine vv_iald cx _ (by decide) sh_121 (vp_in_nI (by omega) (by decide)) dM_goesDown_37 (pc' := 38) rfl ?_
            rw [nI_clamp (n := A + i) (by omega), hrow]
            refine vv_iconst cx dM_goesDown_38 (v := 1) (by decide) (pc' := 39) rfl ?_
            refine vv_isub cx dM_goesDown_39 (pc' := 40) rfl ?_
            rw [show nI (a i) - 1 = nI (a i - 1) from pk_sub (b := 1) (by omega)]
            refine vv_iast cx _ (by decide) sh_121 (vp_in_nI (by omega) (by decide)) dM_goesDown_40 (pc' := 41) rfl ?_
            rw [nI_clamp (n := A + i) (by omega)]
            refine vv_aload_n cx dM_goesDown_41 rfl rfl (pc' := 42) rfl ?_
            refine vv_iload_n cx dM_goesDown_42 rfl rfl (pc' := 43) rfl ?_
            refine vv_iload_n cx dM_goesDown_43 rfl rfl (pc' := 44) rfl ?_
            refine vv_iconst cx dM_goesDown_44 (v := 1) (by decide) (pc' := 45) rfl ?_
            refine vv_iadd cx dM_goesDown_45 (pc' := 46) rfl ?_
            rw [nI_1]
            refine cc_Vv cx hX (tM_fill l g _ A (i + 1) (va_up a i (a i - 1)) th (hs.only pq_only.up (by decide)) hA (by omega) (ha.put rfl) (ht.of (fun j _ => by rw [va_up_ne _ _ (by decide)])) (by rw [Nat.min_eq_left (by omega)]; exact Nat.le_trans (pq_sum_dec hin) hpat.2.1) hth) kM_fill ww_643 rfl rfl ⟨Nat.le_of_ble_eq_true rfl, Nat.le_of_ble_eq_true rfl⟩ 116 (by decide) sh_116 rfl rfl rfl rfl (Nat.le_of_ble_eq_true rfl) rfl ⟨Nat.le_of_ble_eq_true rfl, Nat.le_of_ble_eq_true rfl⟩ dM_goesDown_46 (pc' := 49) rfl (fun _ _ q => q.elim) (fun h46 q46 => ?_)
            refine vv_iconst cx dM_goesDown_49 (v := 1) (by decide) (pc' := 50) rfl ?_
            refine vv_zret cx hr hlocks dM_goesDown_50 rfl (Nat.le_of_ble_eq_true rfl) (Nat.le_of_ble_eq_true rfl) ?_
            obtain ⟨f1, b, f2, f3⟩ := q46
            refine Or.inl ⟨rfl, _, hnx, (pq_at.up (by omega)).trans f1, fun j hj => ?_⟩
            rw [f2 j hj, f3 j hj]
            by_cases q : j < n
            · rw [if_pos q]
            · rw [if_neg q, if_neg (by omega), pq_fill, pq_fillS_out _ _ _ _ _ (by omega), va_up_ne _ _ (by omega), hpat.2.2 j (by omega) hj]
          · exact absurd (nI_pos' (by omega)) c24
        · refine vv_iinc cx dM_goesDown_17 rfl rfl (pc' := 20) rfl ?_
          refine vv_goto cx dM_goesDown_20 (tgt := 2) (by decide) ?_
          refine ih _ ?_ (by omega) (fun j h1 h2 => ?_)
          · rcases Nat.eq_zero_or_pos i with q | q
            · exact Or.inl ⟨q, by rw [q]; decide⟩
            · exact Or.inr ⟨q, by rw [show i = (i - 1) + 1 by omega]; exact pk_m1 _⟩
          · by_cases e9 : j = i
            · subst e9; exact Decidable.byContradiction (fun q => nI_ne0 (Nat.pos_of_ne_zero q) (by omega) c14)
            · exact hz j (by omega) h2
  refine vv_iconst cx dM_goesDown_0 (v := 4) (by decide) (pc' := 1) rfl ?_
  refine vv_istore_n cx dM_goesDown_1 rfl (Nat.le_of_ble_eq_true rfl) (pc' := 2) rfl ?_
  exact loop 5 _ (Or.inr ⟨by decide, rfl⟩) (by omega) (fun j h1 h2 => absurd h1 (by omega))
set_option maxRecDepth 100000 in
set_option maxHeartbeats 4000000 in
theorem tM_sumAt (l : Launch) (g : pq_G) (h : pq_H) {W n : Nat} {w nm pr : Nat → Nat} (A : Nat) (a : Nat → Nat) (hs : pq_mo h W n w nm pr) (hA : A + 5 ≤ 160) (ha : pq_sub h 121 A a) : XI l yM_sumAt wM_sumAt rM_sumAt g 0 0 [.ref (g.2.2 116), .int (nI A)] h (fun r h9 => h9 = h ∧ r = nI (pq_price n pr a)) (pq_no) := by
  refine XI.of (cc := cM_sumAt) (maxL := 4) (ret := (some .int)) (by decide +kernel) (by simp [Value.category]) (Nat.le_of_ble_eq_true rfl) ?_
  intro p e s m below meth c cx hX hr hlocks hex
  have hn5 := hs.2.1.2.2
  have hn := hs.1.2.1
  have loop : ∀ (d i : Nat), i + d = n → VV p l e rM_sumAt s m [.ref (g.2.2 116), .int (nI A)].toArray below meth c (vx_MQ below (pq_Qi g (fun r h9 => h9 = h ∧ r = nI (pq_price n pr a)) s.heap.size) (pq_Qx g (pq_no) s.heap.size) [.ref (g.2.2 116), .int (nI A)].toArray s 0 0 (pq_A g s.heap.size)) g 0 0 h 4 [some (.ref (g.2.2 116)), some (.int (nI A)), some (.int (nI (pq_sum (fun i => a i * pr i) i))), some (.int (nI i))] [] := by
    intro d
    induction d with
    | zero =>
      intro i hi
      have e1 : i = n := by omega
      subst e1
      refine vv_iload_n cx dM_sumAt_4 rfl rfl (pc' := 5) rfl ?_
      refine vv_aload_n cx dM_sumAt_5 rfl rfl (pc' := 6) rfl ?_
      refine vv_getI cx (C := RM) (T := TM) (NN := 15) 116 2 (by decide) sh_116 rfl rfl (by decide) lyM ww_556 dM_sumAt_6 (pc' := 9) rfl ?_
      refine vv_icmp_ge cx dM_sumAt_9 (tgt := 36) (by decide) (pc' := 12) rfl (fun c9 => ?_) (fun c9 => ?_)
      · refine vv_iload_n cx dM_sumAt_36 rfl rfl (pc' := 37) rfl ?_
        refine vv_iret cx hr hlocks dM_sumAt_37 (Nat.le_of_ble_eq_true rfl) (Nat.le_of_ble_eq_true rfl) ?_
        exact ⟨rfl, rfl⟩
      · exact absurd (Int32.le_refl _) (by rw [hn] at c9; exact c9)
    | succ d ih =>
      intro i hi
      have hlt : i < n := by omega
      refine vv_iload_n cx dM_sumAt_4 rfl rfl (pc' := 5) rfl ?_
      refine vv_aload_n cx dM_sumAt_5 rfl rfl (pc' := 6) rfl ?_
      refine vv_getI cx (C := RM) (T := TM) (NN := 15) 116 2 (by decide) sh_116 rfl rfl (by decide) lyM ww_556 dM_sumAt_6 (pc' := 9) rfl ?_
      refine vv_icmp_ge cx dM_sumAt_9 (tgt := 36) (by decide) (pc' := 12) rfl (fun c9 => ?_) (fun c9 => ?_)
      · exact absurd (by rw [hn] at c9; exact c9) (nI_ge hlt (by omega))
      · refine vv_iload_n cx dM_sumAt_12 rfl rfl (pc' := 13) rfl ?_
        refine vv_aload_n cx dM_sumAt_13 rfl rfl (pc' := 14) rfl ?_
        refine vv_getR cx (C := RM) (T := TM) (NN := 15) 116 7 _ (by decide) sh_116 rfl rfl (by decide) lyM ww_561 dM_sumAt_14 (pc' := 17) rfl ?_
        refine vv_iload_n cx dM_sumAt_17 rfl rfl (pc' := 18) rfl ?_
        refine vv_iload_n cx dM_sumAt_18 rfl rfl (pc' := 19) rfl ?_
        refine vv_iadd cx dM_sumAt_19 (pc' := 20) rfl ?_
        rw [nI_add]
        refine vv_iald cx _ (by decide) sh_121 (vp_in_nI (by omega) (by decide)) dM_sumAt_20 (pc' := 21) rfl ?_
        refine vv_aload_n cx dM_sumAt_21 rfl rfl (pc' := 22) rfl ?_
        refine vv_getR cx (C := RM) (T := TM) (NN := 15) 116 5 _ (by decide) sh_116 rfl rfl (by decide) lyM ww_559 dM_sumAt_22 (pc' := 25) rfl ?_
        refine vv_iload_n cx dM_sumAt_25 rfl rfl (pc' := 26) rfl ?_
        refine vv_iald cx _ (by decide) sh_119 (vp_in_nI (by omega) (by decide)) dM_sumAt_26 (pc' := 27) rfl ?_
        rw [nI_clamp (n := A + i) (by omega), nI_clamp (n := i) (by omega), ha i (by omega), hs.1.2.2.2.2 i (by omega)]
        refine vv_imul cx dM_sumAt_27 (pc' := 28) rfl ?_
        rw [pk_mul]
        refine vv_iadd cx dM_sumAt_28 (pc' := 29) rfl ?_
        rw [nI_add, show pq_sum (fun i => a i * pr i) i + a i * pr i = pq_sum (fun i => a i * pr i) (i + 1) from rfl]
        refine vv_istore_n cx dM_sumAt_29 rfl (Nat.le_of_ble_eq_true rfl) (pc' := 30) rfl ?_
        refine vv_iinc cx dM_sumAt_30 rfl pq_n1 (pc' := 33) rfl ?_
        refine vv_goto cx dM_sumAt_33 (tgt := 4) (by decide) ?_
        exact ih (i + 1) (by omega)
  refine vv_iconst cx dM_sumAt_0 (v := 0) (by decide) (pc' := 1) rfl ?_
  refine vv_istore_n cx dM_sumAt_1 rfl (Nat.le_of_ble_eq_true rfl) (pc' := 2) rfl ?_
  refine vv_iconst cx dM_sumAt_2 (v := 0) (by decide) (pc' := 3) rfl ?_
  refine vv_istore_n cx dM_sumAt_3 rfl (Nat.le_of_ble_eq_true rfl) (pc' := 4) rfl ?_
  exact loop n 0 (by omega)
end

/-! THE LAYER. One world of cells by number (pq_ws): cell k lies at the address ad k, its shape pq_sh k never changes,
its ints are h k. VV: the machine at pc with locals vs, operand stack st and the ints h comes to Q. -/
abbrev pq_H : Type := Nat → Nat → Int32
abbrev pq_G : Type := va_G × (ClassId × ClassId × ClassId) × (Nat → Nat)
def pq_fv (g : pq_G) (f : Nat → Int32) (j : Nat) (o : Option Nat) : Value := match o with | none => Value.int (f j) | some r => Value.ref (g.2.2 r)
def pq_mk (g : pq_G) (sh : pq_S) (f : Nat → Int32) : va_E := match sh with
  | .inl (ci, fl) => .inr (ci, fl.mapIdx (pq_fv g f))
  | .inr (.inl n) => .inl (g.2.1.1, n, .inl f)
  | .inr (.inr (.inl n)) => .inl (g.2.1.2.1, n, .inr (.inl (fun j => (f j).toInt64)))
  | .inr (.inr (.inr (n, r))) => .inl (g.2.1.2.2, n, .inr (.inr (.inr (.inr (fun i => if i < n then some (g.2.2 (r i)) else none)))))
def pq_ws (g : pq_G) (h : pq_H) : va_W := (List.range pq_N).map (fun k => (g.2.2 k, pq_mk g (pq_sh k) (h k)))
abbrev pq_tys (g : pq_G) : List (ClassId × FieldType) := [(g.2.1.1, .int), (g.2.1.2.1, .long), (g.2.1.2.2, .array .int)]
def pq_A (g : pq_G) (sz : Nat) : Nat → Prop := fun q => (∃ k, k < pq_N ∧ q = g.2.2 k) ∨ sz ≤ q
theorem pq_get {g : pq_G} {h : pq_H} {k : Nat} (hk : k < pq_N) {e : va_E} (he : pq_mk g (pq_sh k) (h k) = e) : (pq_ws g h)[k]? = some (g.2.2 k, e) := by
  subst he
  simp [pq_ws, hk]
theorem pq_get_iff {g : pq_G} {h : pq_H} {k : Nat} {q : Nat × va_E} (hq : (pq_ws g h)[k]? = some q) : k < pq_N ∧ q = (g.2.2 k, pq_mk g (pq_sh k) (h k)) := by
  have hl : k < (pq_ws g h).length := (List.getElem?_eq_some_iff.mp hq).1
  have hk : k < pq_N := by simpa [pq_ws] using hl
  exact ⟨hk, Option.some.inj (hq.symm.trans (pq_get hk rfl))⟩
theorem pq_set {g : pq_G} {h : pq_H} {k : Nat} (hk : k < pq_N) {e : va_E} {f : Nat → Int32} (he : pq_mk g (pq_sh k) f = e) : (pq_ws g h).set k (g.2.2 k, e) = pq_ws g (va_up h k f) := by
  subst he
  apply List.ext_getElem?
  intro i
  by_cases hi : i < pq_N
  · by_cases e1 : k = i
    · subst e1
      rw [List.getElem?_set_self (by simpa [pq_ws] using hk), pq_get hk rfl, va_up_self]
    · rw [List.getElem?_set_ne e1, pq_get hi rfl, pq_get hi rfl, va_up_ne _ _ (fun q => e1 q.symm)]
  · rw [List.getElem?_eq_none (by simp [pq_ws]; omega), List.getElem?_eq_none (by simp [pq_ws]; omega)]
theorem pq_fget {g : pq_G} {fl : List (Option Nat)} {f : Nat → Int32} {j : Nat} {o : Option Nat} (hf : fl[j]? = some o) : (fl.mapIdx (pq_fv g f))[j]? = some (pq_fv g f j o) := by
  rw [List.getElem?_mapIdx, hf]; rfl
theorem pq_fset {g : pq_G} {fl : List (Option Nat)} {f : Nat → Int32} {j : Nat} {v : Int32} (hf : fl[j]? = some none) : (fl.mapIdx (pq_fv g f)).set j (.int v) = fl.mapIdx (pq_fv g (upd f j v)) := by
  have hl : j < fl.length := (List.getElem?_eq_some_iff.mp hf).1
  apply List.ext_getElem?
  intro i
  by_cases e1 : j = i
  · subst e1
    rw [List.getElem?_set_self (by simpa using hl), List.getElem?_mapIdx, hf]
    show some (Value.int v) = some (Value.int (upd f j v j))
    rw [pk_us]
  · rw [List.getElem?_set_ne e1, List.getElem?_mapIdx, List.getElem?_mapIdx]
    cases fl[i]? with
    | none => rfl
    | some o =>
      cases o with
      | none =>
        show some (Value.int (f i)) = some (Value.int (upd f j v i))
        rw [pk_un (fun q => e1 q.symm)]
      | some r => rfl
/-- locals: by their places, what is known of each -/
def pq_lh (ls : Array Slot) (vs : List (Option Value)) : Prop := ls.size = vs.length ∧ lv_wf ls ∧ ∀ (i : Nat) (v : Value), vs[i]? = some (some v) → ls[i]? = some (.val v) ∧ v.category = 1
def pq_lv : Nat → List (Option Value) → List (Nat × Value)
  | _, [] => []
  | n, none :: r => pq_lv (n + 1) r
  | n, some v :: r => (n, v) :: pq_lv (n + 1) r
theorem pq_lv_mem : ∀ (vs : List (Option Value)) (n : Nat) (q : Nat × Value), q ∈ pq_lv n vs → n ≤ q.1 ∧ vs[q.1 - n]? = some (some q.2)
  | [], n, q, h => by simp [pq_lv] at h
  | none :: r, n, q, h => by
    obtain ⟨h1, h2⟩ := pq_lv_mem r (n + 1) q (by simpa [pq_lv] using h)
    refine ⟨by omega, ?_⟩
    rw [show q.1 - n = (q.1 - (n + 1)) + 1 by omega]
    simpa using h2
  | some v :: r, n, q, h => by
    rcases List.mem_cons.mp (by simpa [pq_lv] using h) with e | h
    · subst e
      simp
    · obtain ⟨h1, h2⟩ := pq_lv_mem r (n + 1) q h
      refine ⟨by omega, ?_⟩
      rw [show q.1 - n = (q.1 - (n + 1)) + 1 by omega]
      simpa using h2
theorem pq_lv_of : ∀ (vs : List (Option Value)) (n i : Nat) (v : Value), vs[i]? = some (some v) → (n + i, v) ∈ pq_lv n vs
  | [], n, i, v, h => by simp at h
  | o :: r, n, 0, v, h => by
    have : o = some v := by simpa using h
    subst this
    simp [pq_lv]
  | none :: r, n, i + 1, v, h => by
    have := pq_lv_of r (n + 1) i v (by simpa using h)
    rw [show n + (i + 1) = n + 1 + i by omega]
    simpa [pq_lv] using this
  | some w :: r, n, i + 1, v, h => by
    have := pq_lv_of r (n + 1) i v (by simpa using h)
    rw [show n + (i + 1) = n + 1 + i by omega]
    simp [pq_lv, this]
theorem pq_lh.has {ls : Array Slot} {vs : List (Option Value)} (h : pq_lh ls vs) : lv_has ls vs.length (pq_lv 0 vs) :=
  ⟨h.1, h.2.1, fun q hq => (h.2.2 q.1 q.2 (by simpa using (pq_lv_mem vs 0 q hq).2)).1⟩
theorem pq_lh.at {ls : Array Slot} {vs : List (Option Value)} (h : pq_lh ls vs) {i : Nat} {v : Value} (hi : vs[i]? = some (some v)) : ls[i]? = some (.val v) := (h.2.2 i v hi).1
/-- the list that a store leaves, held: the new locals -/
theorem pq_lh.store {ls ls' : Array Slot} {vs : List (Option Value)} (h : pq_lh ls vs) {i : Nat} {w : Value} (hi : i < vs.length) (hw : w.category = 1)
    (h' : lv_has ls' vs.length ((i, w) :: (pq_lv 0 vs).filter (fun q => !(q.1 == i) && !(q.1 + 1 == i && q.2.category == 2)))) : pq_lh ls' (vs.set i (some w)) := by
  refine ⟨by rw [List.length_set]; exact h'.1, h'.2.1, fun j v hj => ?_⟩
  by_cases e1 : i = j
  · subst e1
    rw [List.getElem?_set_self hi] at hj
    cases hj
    exact ⟨h'.2.2 (i, w) List.mem_cons_self, hw⟩
  · rw [List.getElem?_set_ne e1] at hj
    have hc := (h.2.2 j v hj).2
    refine ⟨h'.2.2 (j, v) (List.mem_cons_of_mem _ (List.mem_filter.mpr ⟨by simpa using pq_lv_of vs 0 j v hj, ?_⟩)), hc⟩
    simp [hc]
    exact fun q => e1 q.symm
def pq_le : List (Option Value) → List (Option Value) → Prop
  | [], [] => True
  | none :: a, _ :: b => pq_le a b
  | some x :: a, y :: b => y = some x ∧ pq_le a b
  | _, _ => False
theorem pq_le_at : ∀ (a b : List (Option Value)), pq_le a b → a.length = b.length ∧ ∀ (i : Nat) (v : Value), a[i]? = some (some v) → b[i]? = some (some v)
  | [], [], _ => ⟨rfl, fun i v h => by simp at h⟩
  | [], _ :: _, h => by simp [pq_le] at h
  | none :: _, [], h => by simp [pq_le] at h
  | some _ :: _, [], h => by simp [pq_le] at h
  | none :: a, y :: b, h => by
    obtain ⟨h1, h2⟩ := pq_le_at a b h
    refine ⟨by simp [h1], fun i v hi => ?_⟩
    cases i with
    | zero => simp at hi
    | succ i => simpa using h2 i v (by simpa using hi)
  | some x :: a, y :: b, h => by
    obtain ⟨h0, h⟩ := h
    obtain ⟨h1, h2⟩ := pq_le_at a b h
    subst h0
    refine ⟨by simp [h1], fun i v hi => ?_⟩
    cases i with
    | zero => simpa using hi
    | succ i => simpa using h2 i v (by simpa using hi)
theorem pq_lh.le {ls : Array Slot} {vs vs' : List (Option Value)} (h : pq_lh ls vs) (hl : pq_le vs' vs) : pq_lh ls vs' := by
  obtain ⟨h1, h2⟩ := pq_le_at vs' vs hl
  exact ⟨h.1.trans h1.symm, h.2.1, fun i v hi => h.2.2 i v (h2 i v hi)⟩
/-- the judgement -/
def VV (p : Program) (l : Launch) (e : Env) (R : Room) (s : State) (m : MethodId) (args : Array Value) (below : List Frame) (meth : Method) (c : Code) (Q : State → Prop) (g : pq_G) (cells slots : Nat) (h : pq_H) (pc : Nat) (vs : List (Option Value)) (st : List Value) : Prop :=
  ∀ (H : Heap) (locs : List Loc) (ls : Array Slot), va_P g.1 vwCl (pq_ws g h) H → va_D (pq_A g s.heap.size) (pq_ws g h) → va_S (pq_A g s.heap.size) s.heap H locs → pq_lh ls vs → W p l e R s m args below meth c H locs cells slots Q (F0 m pc ls st)
/-- what holds at every instruction of a body -/
abbrev CX (p : Program) (s : State) (m : MethodId) (args : Array Value) (c : Code) (cc : ByteArray) (nL : Nat) (own : String) (g : pq_G) : Prop :=
  CallFix p m c cc nL s args pq_W own ∧ va_K g.1 vwCl (pq_tys g) s
section LAY
variable {p : Program} {l : Launch} {e : Env} {R : Room} {s : State} {m : MethodId} {args : Array Value} {below : List Frame} {meth : Method} {c : Code} {Q : State → Prop} {g : pq_G} {cells slots : Nat} {h : pq_H} {pc pc' : Nat} {vs : List (Option Value)} {st : List Value}
variable {cc : ByteArray} {nL : Nat} {own : String}
theorem VV.le {vs' : List (Option Value)} (hl : pq_le vs' vs) (kk : VV p l e R s m args below meth c Q g cells slots h pc vs' st) : VV p l e R s m args below meth c Q g cells slots h pc vs st :=
  fun H locs ls hP hD hS hh => kk H locs ls hP hD hS (hh.le hl)
theorem VV.widen {k n : Nat} (h1 : cells ≤ k) (h2 : slots ≤ n) (kk : VV p l e R s m args below meth c Q g k n h pc vs st) : VV p l e R s m args below meth c Q g cells slots h pc vs st :=
  fun H locs ls hP hD hS hh => W.widen h1 h2 (kk H locs ls hP hD hS hh)

theorem vv_iconst (cx : CX p s m args c cc nL own g) {n : Int} {v : Int32} (hd : decode cc pc = .ok (.iconst n, 1)) (hv : Int32.ofInt n = v) (hp : pc + 1 = pc') (kk : VV p l e R s m args below meth c Q g cells slots h pc' vs (.int v :: st)) : VV p l e R s m args below meth c Q g cells slots h pc vs st :=
  fun H locs ls hP hD hS hl => by subst hp; exact lv_iconst cx.1.1 cx.1.2.1 hd hv (kk H locs ls hP hD hS hl)
theorem vv_bipush (cx : CX p s m args c cc nL own g) {n : Int} {v : Int32} (hd : decode cc pc = .ok (.bipush n, 2)) (hv : (Int8.ofInt n).toInt32 = v) (hp : pc + 2 = pc') (kk : VV p l e R s m args below meth c Q g cells slots h pc' vs (.int v :: st)) : VV p l e R s m args below meth c Q g cells slots h pc vs st :=
  fun H locs ls hP hD hS hl => by subst hp; exact lv_bipush cx.1.1 cx.1.2.1 hd hv (kk H locs ls hP hD hS hl)
theorem vv_sipush (cx : CX p s m args c cc nL own g) {n : Int} {v : Int32} (hd : decode cc pc = .ok (.sipush n, 3)) (hv : (Int16.ofInt n).toInt32 = v) (hp : pc + 3 = pc') (kk : VV p l e R s m args below meth c Q g cells slots h pc' vs (.int v :: st)) : VV p l e R s m args below meth c Q g cells slots h pc vs st :=
  fun H locs ls hP hD hS hl => by subst hp; exact lv_sipush cx.1.1 cx.1.2.1 hd hv (kk H locs ls hP hD hS hl)
theorem vv_ldc (cx : CX p s m args c cc nL own g) {index : Nat} {v : Int32} (hd : decode cc pc = .ok (.ldc index, 2)) (hc : Jvm.Cond.constant own index v ∈ pq_W) (hp : pc + 2 = pc') (kk : VV p l e R s m args below meth c Q g cells slots h pc' vs (.int v :: st)) : VV p l e R s m args below meth c Q g cells slots h pc vs st :=
  fun H locs ls hP hD hS hl => by subst hp; exact lv_ldc cx.1.1 cx.1.2.1 cx.1.2.2.2.1 (cx.1.2.2.2.2 _ hc) hd (kk H locs ls hP hD hS hl)
theorem vv_iload_n (cx : CX p s m args c cc nL own g) {k : Fin 4} {i : Nat} {x : Int32} (hd : decode cc pc = .ok (.iload_n k, 1)) (hi : (k : Nat) = i) (hv : vs[i]? = some (some (.int x))) (hp : pc + 1 = pc') (kk : VV p l e R s m args below meth c Q g cells slots h pc' vs (.int x :: st)) : VV p l e R s m args below meth c Q g cells slots h pc vs st :=
  fun H locs ls hP hD hS hl => by subst hp; exact lv_iload_n cx.1.1 cx.1.2.1 hd hi (hl.at hv) (kk H locs ls hP hD hS hl)
theorem vv_iload (cx : CX p s m args c cc nL own g) {i : Nat} {x : Int32} (hd : decode cc pc = .ok (.iload i, 2)) (hv : vs[i]? = some (some (.int x))) (hp : pc + 2 = pc') (kk : VV p l e R s m args below meth c Q g cells slots h pc' vs (.int x :: st)) : VV p l e R s m args below meth c Q g cells slots h pc vs st :=
  fun H locs ls hP hD hS hl => by subst hp; exact lv_iload cx.1.1 cx.1.2.1 hd (hl.at hv) (kk H locs ls hP hD hS hl)
theorem vv_istore_n (cx : CX p s m args c cc nL own g) {k : Fin 4} {i : Nat} {x : Int32} (hd : decode cc pc = .ok (.istore_n k, 1)) (hi : (k : Nat) = i) (hn : i < vs.length) (hp : pc + 1 = pc') (kk : VV p l e R s m args below meth c Q g cells slots h pc' (vs.set i (some (.int x))) st) : VV p l e R s m args below meth c Q g cells slots h pc vs (.int x :: st) :=
  fun H locs ls hP hD hS hl => by subst hp; exact lv_istore_n cx.1.1 cx.1.2.1 hd hi hl.has hn rfl (fun ls9 hl9 => kk H locs ls9 hP hD hS (hl.store hn rfl hl9))
theorem vv_istore (cx : CX p s m args c cc nL own g) {i : Nat} {x : Int32} (hd : decode cc pc = .ok (.istore i, 2)) (hn : i < vs.length) (hp : pc + 2 = pc') (kk : VV p l e R s m args below meth c Q g cells slots h pc' (vs.set i (some (.int x))) st) : VV p l e R s m args below meth c Q g cells slots h pc vs (.int x :: st) :=
  fun H locs ls hP hD hS hl => by subst hp; exact lv_istore cx.1.1 cx.1.2.1 hd hl.has hn rfl (fun ls9 hl9 => kk H locs ls9 hP hD hS (hl.store hn rfl hl9))
theorem vv_aload_n (cx : CX p s m args c cc nL own g) {k : Fin 4} {i : Nat} {x : Nat} (hd : decode cc pc = .ok (.aload_n k, 1)) (hi : (k : Nat) = i) (hv : vs[i]? = some (some (.ref x))) (hp : pc + 1 = pc') (kk : VV p l e R s m args below meth c Q g cells slots h pc' vs (.ref x :: st)) : VV p l e R s m args below meth c Q g cells slots h pc vs st :=
  fun H locs ls hP hD hS hl => by subst hp; exact lv_aload_n cx.1.1 cx.1.2.1 hd hi (hl.at hv) (kk H locs ls hP hD hS hl)
theorem vv_aload (cx : CX p s m args c cc nL own g) {i : Nat} {x : Nat} (hd : decode cc pc = .ok (.aload i, 2)) (hv : vs[i]? = some (some (.ref x))) (hp : pc + 2 = pc') (kk : VV p l e R s m args below meth c Q g cells slots h pc' vs (.ref x :: st)) : VV p l e R s m args below meth c Q g cells slots h pc vs st :=
  fun H locs ls hP hD hS hl => by subst hp; exact lv_aload cx.1.1 cx.1.2.1 hd (hl.at hv) (kk H locs ls hP hD hS hl)
theorem vv_astore_n (cx : CX p s m args c cc nL own g) {k : Fin 4} {i : Nat} {x : Nat} (hd : decode cc pc = .ok (.astore_n k, 1)) (hi : (k : Nat) = i) (hn : i < vs.length) (hp : pc + 1 = pc') (kk : VV p l e R s m args below meth c Q g cells slots h pc' (vs.set i (some (.ref x))) st) : VV p l e R s m args below meth c Q g cells slots h pc vs (.ref x :: st) :=
  fun H locs ls hP hD hS hl => by subst hp; exact lv_astore_n cx.1.1 cx.1.2.1 hd hi hl.has hn rfl (fun ls9 hl9 => kk H locs ls9 hP hD hS (hl.store hn rfl hl9))
theorem vv_astore (cx : CX p s m args c cc nL own g) {i : Nat} {x : Nat} (hd : decode cc pc = .ok (.astore i, 2)) (hn : i < vs.length) (hp : pc + 2 = pc') (kk : VV p l e R s m args below meth c Q g cells slots h pc' (vs.set i (some (.ref x))) st) : VV p l e R s m args below meth c Q g cells slots h pc vs (.ref x :: st) :=
  fun H locs ls hP hD hS hl => by subst hp; exact lv_astore cx.1.1 cx.1.2.1 hd hl.has hn rfl (fun ls9 hl9 => kk H locs ls9 hP hD hS (hl.store hn rfl hl9))
theorem vv_iinc (cx : CX p s m args c cc nL own g) {i : Nat} {n : Int} {x v : Int32} (hd : decode cc pc = .ok (.iinc i n, 3)) (hv : vs[i]? = some (some (.int x))) (hx : x + Int32.ofInt n = v) (hp : pc + 3 = pc') (kk : VV p l e R s m args below meth c Q g cells slots h pc' (vs.set i (some (.int v))) st) : VV p l e R s m args below meth c Q g cells slots h pc vs st := by
  intro H locs ls hP hD hS hl
  subst hp
  have hn : i < vs.length := (List.getElem?_eq_some_iff.mp hv).1
  obtain ⟨k, hk⟩ := List.getElem?_of_mem (pq_lv_of vs 0 i _ hv)
  exact lv_iinc cx.1.1 cx.1.2.1 hd hl.has (by simpa using hk) hx hn rfl (fun ls9 hl9 => kk H locs ls9 hP hD hS (hl.store hn rfl hl9))
theorem vv_iadd (cx : CX p s m args c cc nL own g) {x y : Int32} (hd : decode cc pc = .ok (.iadd, 1)) (hp : pc + 1 = pc') (kk : VV p l e R s m args below meth c Q g cells slots h pc' vs (.int (x + y) :: st)) : VV p l e R s m args below meth c Q g cells slots h pc vs (.int y :: .int x :: st) :=
  fun H locs ls hP hD hS hl => by subst hp; exact lv_iadd cx.1.1 cx.1.2.1 hd (kk H locs ls hP hD hS hl)
theorem vv_isub (cx : CX p s m args c cc nL own g) {x y : Int32} (hd : decode cc pc = .ok (.isub, 1)) (hp : pc + 1 = pc') (kk : VV p l e R s m args below meth c Q g cells slots h pc' vs (.int (x - y) :: st)) : VV p l e R s m args below meth c Q g cells slots h pc vs (.int y :: .int x :: st) :=
  fun H locs ls hP hD hS hl => by subst hp; exact lv_isub cx.1.1 cx.1.2.1 hd (kk H locs ls hP hD hS hl)
theorem vv_imul (cx : CX p s m args c cc nL own g) {x y : Int32} (hd : decode cc pc = .ok (.imul, 1)) (hp : pc + 1 = pc') (kk : VV p l e R s m args below meth c Q g cells slots h pc' vs (.int (x * y) :: st)) : VV p l e R s m args below meth c Q g cells slots h pc vs (.int y :: .int x :: st) :=
  fun H locs ls hP hD hS hl => by subst hp; exact lv_imul cx.1.1 cx.1.2.1 hd (kk H locs ls hP hD hS hl)
theorem vv_iand (cx : CX p s m args c cc nL own g) {x y : Int32} (hd : decode cc pc = .ok (.iand, 1)) (hp : pc + 1 = pc') (kk : VV p l e R s m args below meth c Q g cells slots h pc' vs (.int (x &&& y) :: st)) : VV p l e R s m args below meth c Q g cells slots h pc vs (.int y :: .int x :: st) :=
  fun H locs ls hP hD hS hl => by subst hp; exact lv_iand cx.1.1 cx.1.2.1 hd (kk H locs ls hP hD hS hl)
theorem vv_idiv (cx : CX p s m args c cc nL own g) {x y : Int32} (hd : decode cc pc = .ok (.idiv, 1)) (hne : ¬ y = 0) (hp : pc + 1 = pc') (kk : VV p l e R s m args below meth c Q g cells slots h pc' vs (.int (x / y) :: st)) : VV p l e R s m args below meth c Q g cells slots h pc vs (.int y :: .int x :: st) :=
  fun H locs ls hP hD hS hl => by subst hp; exact lv_idiv cx.1.1 cx.1.2.1 hd hne (kk H locs ls hP hD hS hl)
theorem vv_ineg (cx : CX p s m args c cc nL own g) {x : Int32} (hd : decode cc pc = .ok (.ineg, 1)) (hp : pc + 1 = pc') (kk : VV p l e R s m args below meth c Q g cells slots h pc' vs (.int (-x) :: st)) : VV p l e R s m args below meth c Q g cells slots h pc vs (.int x :: st) :=
  fun H locs ls hP hD hS hl => by subst hp; exact lv_ineg cx.1.1 cx.1.2.1 hd (kk H locs ls hP hD hS hl)
theorem vv_dup (cx : CX p s m args c cc nL own g) {v : Value} (hd : decode cc pc = .ok (.dup, 1)) (hv : v.category = 1) (hp : pc + 1 = pc') (kk : VV p l e R s m args below meth c Q g cells slots h pc' vs (v :: v :: st)) : VV p l e R s m args below meth c Q g cells slots h pc vs (v :: st) :=
  fun H locs ls hP hD hS hl => by subst hp; exact lv_dup cx.1.1 cx.1.2.1 hd hv (kk H locs ls hP hD hS hl)
theorem vv_pop (cx : CX p s m args c cc nL own g) {v : Value} (hd : decode cc pc = .ok (.pop, 1)) (hv : v.category = 1) (hp : pc + 1 = pc') (kk : VV p l e R s m args below meth c Q g cells slots h pc' vs st) : VV p l e R s m args below meth c Q g cells slots h pc vs (v :: st) :=
  fun H locs ls hP hD hS hl => by subst hp; exact lv_pop cx.1.1 cx.1.2.1 hd hv (kk H locs ls hP hD hS hl)
theorem vv_dup2 (cx : CX p s m args c cc nL own g) {v w : Value} (hd : decode cc pc = .ok (.dup2, 1)) (hv : v.category = 1) (hw : w.category = 1) (hp : pc + 1 = pc') (kk : VV p l e R s m args below meth c Q g cells slots h pc' vs (v :: w :: v :: w :: st)) : VV p l e R s m args below meth c Q g cells slots h pc vs (v :: w :: st) :=
  fun H locs ls hP hD hS hl => by subst hp; exact lv_dup2_11 cx.1.1 cx.1.2.1 hd hv hw (kk H locs ls hP hD hS hl)
theorem vv_dup_x1 (cx : CX p s m args c cc nL own g) {v w : Value} (hd : decode cc pc = .ok (.dup_x1, 1)) (hv : v.category = 1) (hw : w.category = 1) (hp : pc + 1 = pc') (kk : VV p l e R s m args below meth c Q g cells slots h pc' vs (v :: w :: v :: st)) : VV p l e R s m args below meth c Q g cells slots h pc vs (v :: w :: st) :=
  fun H locs ls hP hD hS hl => by subst hp; exact lv_dup_x1 cx.1.1 cx.1.2.1 hd hv hw (kk H locs ls hP hD hS hl)
theorem vv_goto (cx : CX p s m args c cc nL own g) {off : Int} {tgt : Nat} (hd : decode cc pc = .ok (.goto off, 3)) (ht : (pc : Int) + off = (tgt : Int)) (kk : VV p l e R s m args below meth c Q g cells slots h tgt vs st) : VV p l e R s m args below meth c Q g cells slots h pc vs st :=
  fun H locs ls hP hD hS hl => lv_goto cx.1.1 cx.1.2.1 hd ht (kk H locs ls hP hD hS hl)
theorem vv_if_eq (cx : CX p s m args c cc nL own g) {x : Int32} {off : Int} {tgt : Nat} (hd : decode cc pc = .ok (.ifCond .eq off, 3)) (ht : (pc : Int) + off = (tgt : Int)) (hp : pc + 3 = pc') (kt : x = 0 → VV p l e R s m args below meth c Q g cells slots h tgt vs st) (kf : ¬ x = 0 → VV p l e R s m args below meth c Q g cells slots h pc' vs st) : VV p l e R s m args below meth c Q g cells slots h pc vs (.int x :: st) :=
  fun H locs ls hP hD hS hl => by subst hp; exact lv_if_eq cx.1.1 cx.1.2.1 hd ht (fun q => kt q H locs ls hP hD hS hl) (fun q => kf q H locs ls hP hD hS hl)
theorem vv_icmp_eq (cx : CX p s m args c cc nL own g) {x y : Int32} {off : Int} {tgt : Nat} (hd : decode cc pc = .ok (.if_icmp .eq off, 3)) (ht : (pc : Int) + off = (tgt : Int)) (hp : pc + 3 = pc') (kt : x = y → VV p l e R s m args below meth c Q g cells slots h tgt vs st) (kf : ¬ x = y → VV p l e R s m args below meth c Q g cells slots h pc' vs st) : VV p l e R s m args below meth c Q g cells slots h pc vs (.int y :: .int x :: st) :=
  fun H locs ls hP hD hS hl => by subst hp; exact lv_icmp_eq cx.1.1 cx.1.2.1 hd ht (fun q => kt q H locs ls hP hD hS hl) (fun q => kf q H locs ls hP hD hS hl)
theorem vv_if_ne (cx : CX p s m args c cc nL own g) {x : Int32} {off : Int} {tgt : Nat} (hd : decode cc pc = .ok (.ifCond .ne off, 3)) (ht : (pc : Int) + off = (tgt : Int)) (hp : pc + 3 = pc') (kt : ¬ x = 0 → VV p l e R s m args below meth c Q g cells slots h tgt vs st) (kf : x = 0 → VV p l e R s m args below meth c Q g cells slots h pc' vs st) : VV p l e R s m args below meth c Q g cells slots h pc vs (.int x :: st) :=
  fun H locs ls hP hD hS hl => by subst hp; exact lv_if_ne cx.1.1 cx.1.2.1 hd ht (fun q => kt q H locs ls hP hD hS hl) (fun q => kf q H locs ls hP hD hS hl)
theorem vv_icmp_ne (cx : CX p s m args c cc nL own g) {x y : Int32} {off : Int} {tgt : Nat} (hd : decode cc pc = .ok (.if_icmp .ne off, 3)) (ht : (pc : Int) + off = (tgt : Int)) (hp : pc + 3 = pc') (kt : ¬ x = y → VV p l e R s m args below meth c Q g cells slots h tgt vs st) (kf : x = y → VV p l e R s m args below meth c Q g cells slots h pc' vs st) : VV p l e R s m args below meth c Q g cells slots h pc vs (.int y :: .int x :: st) :=
  fun H locs ls hP hD hS hl => by subst hp; exact lv_icmp_ne cx.1.1 cx.1.2.1 hd ht (fun q => kt q H locs ls hP hD hS hl) (fun q => kf q H locs ls hP hD hS hl)
theorem vv_if_lt (cx : CX p s m args c cc nL own g) {x : Int32} {off : Int} {tgt : Nat} (hd : decode cc pc = .ok (.ifCond .lt off, 3)) (ht : (pc : Int) + off = (tgt : Int)) (hp : pc + 3 = pc') (kt : x < 0 → VV p l e R s m args below meth c Q g cells slots h tgt vs st) (kf : ¬ x < 0 → VV p l e R s m args below meth c Q g cells slots h pc' vs st) : VV p l e R s m args below meth c Q g cells slots h pc vs (.int x :: st) :=
  fun H locs ls hP hD hS hl => by subst hp; exact lv_if_lt cx.1.1 cx.1.2.1 hd ht (fun q => kt q H locs ls hP hD hS hl) (fun q => kf q H locs ls hP hD hS hl)
theorem vv_icmp_lt (cx : CX p s m args c cc nL own g) {x y : Int32} {off : Int} {tgt : Nat} (hd : decode cc pc = .ok (.if_icmp .lt off, 3)) (ht : (pc : Int) + off = (tgt : Int)) (hp : pc + 3 = pc') (kt : x < y → VV p l e R s m args below meth c Q g cells slots h tgt vs st) (kf : ¬ x < y → VV p l e R s m args below meth c Q g cells slots h pc' vs st) : VV p l e R s m args below meth c Q g cells slots h pc vs (.int y :: .int x :: st) :=
  fun H locs ls hP hD hS hl => by subst hp; exact lv_icmp_lt cx.1.1 cx.1.2.1 hd ht (fun q => kt q H locs ls hP hD hS hl) (fun q => kf q H locs ls hP hD hS hl)
theorem vv_if_ge (cx : CX p s m args c cc nL own g) {x : Int32} {off : Int} {tgt : Nat} (hd : decode cc pc = .ok (.ifCond .ge off, 3)) (ht : (pc : Int) + off = (tgt : Int)) (hp : pc + 3 = pc') (kt : 0 ≤ x → VV p l e R s m args below meth c Q g cells slots h tgt vs st) (kf : ¬ 0 ≤ x → VV p l e R s m args below meth c Q g cells slots h pc' vs st) : VV p l e R s m args below meth c Q g cells slots h pc vs (.int x :: st) :=
  fun H locs ls hP hD hS hl => by subst hp; exact lv_if_ge cx.1.1 cx.1.2.1 hd ht (fun q => kt q H locs ls hP hD hS hl) (fun q => kf q H locs ls hP hD hS hl)
theorem vv_icmp_ge (cx : CX p s m args c cc nL own g) {x y : Int32} {off : Int} {tgt : Nat} (hd : decode cc pc = .ok (.if_icmp .ge off, 3)) (ht : (pc : Int) + off = (tgt : Int)) (hp : pc + 3 = pc') (kt : y ≤ x → VV p l e R s m args below meth c Q g cells slots h tgt vs st) (kf : ¬ y ≤ x → VV p l e R s m args below meth c Q g cells slots h pc' vs st) : VV p l e R s m args below meth c Q g cells slots h pc vs (.int y :: .int x :: st) :=
  fun H locs ls hP hD hS hl => by subst hp; exact lv_icmp_ge cx.1.1 cx.1.2.1 hd ht (fun q => kt q H locs ls hP hD hS hl) (fun q => kf q H locs ls hP hD hS hl)
theorem vv_if_gt (cx : CX p s m args c cc nL own g) {x : Int32} {off : Int} {tgt : Nat} (hd : decode cc pc = .ok (.ifCond .gt off, 3)) (ht : (pc : Int) + off = (tgt : Int)) (hp : pc + 3 = pc') (kt : 0 < x → VV p l e R s m args below meth c Q g cells slots h tgt vs st) (kf : ¬ 0 < x → VV p l e R s m args below meth c Q g cells slots h pc' vs st) : VV p l e R s m args below meth c Q g cells slots h pc vs (.int x :: st) :=
  fun H locs ls hP hD hS hl => by subst hp; exact lv_if_gt cx.1.1 cx.1.2.1 hd ht (fun q => kt q H locs ls hP hD hS hl) (fun q => kf q H locs ls hP hD hS hl)
theorem vv_icmp_gt (cx : CX p s m args c cc nL own g) {x y : Int32} {off : Int} {tgt : Nat} (hd : decode cc pc = .ok (.if_icmp .gt off, 3)) (ht : (pc : Int) + off = (tgt : Int)) (hp : pc + 3 = pc') (kt : y < x → VV p l e R s m args below meth c Q g cells slots h tgt vs st) (kf : ¬ y < x → VV p l e R s m args below meth c Q g cells slots h pc' vs st) : VV p l e R s m args below meth c Q g cells slots h pc vs (.int y :: .int x :: st) :=
  fun H locs ls hP hD hS hl => by subst hp; exact lv_icmp_gt cx.1.1 cx.1.2.1 hd ht (fun q => kt q H locs ls hP hD hS hl) (fun q => kf q H locs ls hP hD hS hl)
theorem vv_if_le (cx : CX p s m args c cc nL own g) {x : Int32} {off : Int} {tgt : Nat} (hd : decode cc pc = .ok (.ifCond .le off, 3)) (ht : (pc : Int) + off = (tgt : Int)) (hp : pc + 3 = pc') (kt : x ≤ 0 → VV p l e R s m args below meth c Q g cells slots h tgt vs st) (kf : ¬ x ≤ 0 → VV p l e R s m args below meth c Q g cells slots h pc' vs st) : VV p l e R s m args below meth c Q g cells slots h pc vs (.int x :: st) :=
  fun H locs ls hP hD hS hl => by subst hp; exact lv_if_le cx.1.1 cx.1.2.1 hd ht (fun q => kt q H locs ls hP hD hS hl) (fun q => kf q H locs ls hP hD hS hl)
theorem vv_icmp_le (cx : CX p s m args c cc nL own g) {x y : Int32} {off : Int} {tgt : Nat} (hd : decode cc pc = .ok (.if_icmp .le off, 3)) (ht : (pc : Int) + off = (tgt : Int)) (hp : pc + 3 = pc') (kt : x ≤ y → VV p l e R s m args below meth c Q g cells slots h tgt vs st) (kf : ¬ x ≤ y → VV p l e R s m args below meth c Q g cells slots h pc' vs st) : VV p l e R s m args below meth c Q g cells slots h pc vs (.int y :: .int x :: st) :=
  fun H locs ls hP hD hS hl => by subst hp; exact lv_icmp_le cx.1.1 cx.1.2.1 hd ht (fun q => kt q H locs ls hP hD hS hl) (fun q => kf q H locs ls hP hD hS hl)
/-! cells: fields and arrays -/
theorem pq_mk_obj {g : pq_G} {k ci : Nat} {fl : List (Option Nat)} {f : Nat → Int32} (hsh : pq_sh k = .inl (ci, fl)) : pq_mk g (pq_sh k) f = .inr (ci, fl.mapIdx (pq_fv g f)) := by rw [hsh]; rfl
theorem pq_mk_arr {g : pq_G} {k n : Nat} {f : Nat → Int32} (hsh : pq_sh k = .inr (.inl n)) : pq_mk g (pq_sh k) f = .inl (g.2.1.1, n, .inl f) := by rw [hsh]; rfl
theorem pq_mk_long {g : pq_G} {k n : Nat} {f : Nat → Int32} (hsh : pq_sh k = .inr (.inr (.inl n))) : pq_mk g (pq_sh k) f = .inl (g.2.1.2.1, n, .inr (.inl (fun j => (f j).toInt64))) := by rw [hsh]; rfl
theorem pq_mk_grid {g : pq_G} {k n : Nat} {r : Nat → Nat} {f : Nat → Int32} (hsh : pq_sh k = .inr (.inr (.inr (n, r)))) : pq_mk g (pq_sh k) f = .inl (g.2.1.2.2, n, .inr (.inr (.inr (.inr (fun i => if i < n then some (g.2.2 (r i)) else none))))) := by rw [hsh]; rfl
theorem vv_getI (cx : CX p s m args c cc nL own g) {C : String} {T : u_T} {NN ci index : Nat} (k j : Nat) (hk : k < pq_N) {fl : List (Option Nat)} (hsh : pq_sh k = .inl (ci, fl)) (hf : fl[j]? = some none) (hci : vwCl[ci]? = some (C, T, NN)) (hj : j < NN) (hin : ∀ w ∈ u_ws C T NN, w ∈ pq_W) (hlink : Cond.fieldLink own index (T j).1 (T j).2.1 (T j).2.2.1 ∈ pq_W) (hd : decode cc pc = .ok (.getfield index, 3)) (hp : pc + 3 = pc')
    (kk : VV p l e R s m args below meth c Q g cells slots h pc' vs (.int (h k j) :: st)) : VV p l e R s m args below meth c Q g cells slots h pc vs (.ref (g.2.2 k) :: st) := by
  intro H locs ls hP hD hS hl
  subst hp
  obtain ⟨⟨hx, hb, -, hown, hts⟩, hK⟩ := cx
  exact va_get (v := .int (h k j)) hx hb hts hin hown hK hP k (pq_get hk (pq_mk_obj hsh)) hci j hj (hts _ hlink) (fun _ h9 => h9) (pq_fget hf) hd (kk H locs ls hP hD hS hl)
theorem vv_getR (cx : CX p s m args c cc nL own g) {C : String} {T : u_T} {NN ci index : Nat} (k j r : Nat) (hk : k < pq_N) {fl : List (Option Nat)} (hsh : pq_sh k = .inl (ci, fl)) (hf : fl[j]? = some (some r)) (hci : vwCl[ci]? = some (C, T, NN)) (hj : j < NN) (hin : ∀ w ∈ u_ws C T NN, w ∈ pq_W) (hlink : Cond.fieldLink own index (T j).1 (T j).2.1 (T j).2.2.1 ∈ pq_W) (hd : decode cc pc = .ok (.getfield index, 3)) (hp : pc + 3 = pc')
    (kk : VV p l e R s m args below meth c Q g cells slots h pc' vs (.ref (g.2.2 r) :: st)) : VV p l e R s m args below meth c Q g cells slots h pc vs (.ref (g.2.2 k) :: st) := by
  intro H locs ls hP hD hS hl
  subst hp
  obtain ⟨⟨hx, hb, -, hown, hts⟩, hK⟩ := cx
  exact va_get (v := .ref (g.2.2 r)) hx hb hts hin hown hK hP k (pq_get hk (pq_mk_obj hsh)) hci j hj (hts _ hlink) (fun _ h9 => h9) (pq_fget hf) hd (kk H locs ls hP hD hS hl)
theorem vv_putI (cx : CX p s m args c cc nL own g) {C : String} {T : u_T} {NN ci index : Nat} (k j : Nat) (hk : k < pq_N) {fl : List (Option Nat)} (hsh : pq_sh k = .inl (ci, fl)) (hf : fl[j]? = some none) (hci : vwCl[ci]? = some (C, T, NN)) (hj : j < NN) (hin : ∀ w ∈ u_ws C T NN, w ∈ pq_W) (ty0 : Nat → FieldType) (hty : ∀ k, k < NN → parseFieldDescriptor (T k).2.2.1 = some (ty0 k)) (hnm : ∀ a, a < NN → ∀ b, b < NN → a ≠ b → (T a).2.1 ≠ (T b).2.1) (hfin : (T j).2.2.2 = false) {v : Int32} (hn : narrow (ty0 j) (.int v) = .int v) (hfit : fits (ty0 j) (.int v) = true) (hlink : Cond.fieldLink own index (T j).1 (T j).2.1 (T j).2.2.1 ∈ pq_W) (hd : decode cc pc = .ok (.putfield index, 3)) (hp : pc + 3 = pc')
    (kk : VV p l e R s m args below meth c Q g cells slots (va_up h k (upd (h k) j v)) pc' vs st) : VV p l e R s m args below meth c Q g cells slots h pc vs (.int v :: .ref (g.2.2 k) :: st) := by
  intro H locs ls hP hD hS hl
  subst hp
  obtain ⟨⟨hx, hb, -, hown, hts⟩, hK⟩ := cx
  have he : (pq_ws g h).set k (g.2.2 k, .inr (ci, (fl.mapIdx (pq_fv g (h k))).set j (.int v))) = pq_ws g (va_up h k (upd (h k) j v)) :=
    pq_set hk (by rw [pq_mk_obj hsh, pq_fset hf])
  refine va_put (v := .int v) (ty := ty0 j) hx hb hts hin ty0 hty hnm hown hK hP hD hS k (pq_get hk (pq_mk_obj hsh)) hci j hj (hts _ hlink) (fun _ h9 => h9) hfin (hty j hj) hn hfit (by rw [List.length_mapIdx]; exact (List.getElem?_eq_some_iff.mp hf).1) hd (fun H1 locs1 hP1 hD1 hS1 => ?_)
  rw [he] at hP1 hD1
  exact kk H1 locs1 ls hP1 hD1 hS1 hl
theorem vv_iald (cx : CX p s m args c cc nL own g) (k : Nat) (hk : k < pq_N) {n : Nat} (hsh : pq_sh k = .inr (.inl n)) {i : Int32} (hi : vp_in i n) (hd : decode cc pc = .ok (.iaload, 1)) (hp : pc + 1 = pc')
    (kk : VV p l e R s m args below meth c Q g cells slots h pc' vs (.int (h k i.toNatClampNeg) :: st)) : VV p l e R s m args below meth c Q g cells slots h pc vs (.int i :: .ref (g.2.2 k) :: st) := by
  intro H locs ls hP hD hS hl
  subst hp
  exact va_iald cx.1.1 cx.1.2.1 cx.2 hP k 0 (pq_get hk (pq_mk_arr hsh)) rfl hi hd (kk H locs ls hP hD hS hl)
theorem vv_iast (cx : CX p s m args c cc nL own g) (k : Nat) (hk : k < pq_N) {n : Nat} (hsh : pq_sh k = .inr (.inl n)) {i x : Int32} (hi : vp_in i n) (hd : decode cc pc = .ok (.iastore, 1)) (hp : pc + 1 = pc')
    (kk : VV p l e R s m args below meth c Q g cells slots (va_up h k (upd (h k) i.toNatClampNeg x)) pc' vs st) : VV p l e R s m args below meth c Q g cells slots h pc vs (.int x :: .int i :: .ref (g.2.2 k) :: st) := by
  intro H locs ls hP hD hS hl
  subst hp
  refine va_iast cx.1.1 cx.1.2.1 cx.2 hP hD hS k 0 (pq_get hk (pq_mk_arr hsh)) rfl hi hd (fun H1 locs1 hP1 hD1 hS1 => ?_)
  rw [pq_set hk (pq_mk_arr hsh)] at hP1 hD1
  exact kk H1 locs1 ls hP1 hD1 hS1 hl
theorem va_aldR (hexec : p.tables.exec = Jvm.exec) (hb : c.code = cc) {D : va_G} {cl : List vw_C} {tys : List (ClassId × FieldType)} {ws : va_W} {H : Heap} {locs : List Loc} {a : Nat} {ls : Array Slot} {rest : List Value} (hK : va_K D cl tys s) (hP : va_P D cl ws H) (q0 t0 : Nat) {cA : ClassId} {t : FieldType} {n : Nat} {f : Nat → Option Nat} (ha : ws[q0]? = some (a, .inl (cA, n, .inr (.inr (.inr (.inr f)))))) (ht : tys[t0]? = some (cA, .array t)) {i : Int32} (hin : vp_in i n) (hdg : decode cc pc = .ok (.aaload, 1))
    (kk : W p l e R s m args below meth c H locs cells slots Q (F0 m (pc + 1) ls (va_rf (f i.toNatClampNeg) :: rest))) : W p l e R s m args below meth c H locs cells slots Q (F0 m pc ls (.int i :: .ref a :: rest)) := by
  have hlt : i.toNatClampNeg < n := Nat.not_le.mp fun q => hin (Or.inr q)
  exact W.aald (v := va_rf (f i.toNatClampNeg)) (ty := .array t) hexec hb (hP q0 _ ha) ((hK.2 t0 _ ht).1 n (fun j => va_rf (f j))) rfl (fun q => by cases q) (by show ¬ (i < 0 ∨ (arrV _ _ _).slots.size ≤ _); rw [arrV_size]; exact hin) (by show (arrV _ _ _).slots[_]? = _; rw [arrV_read _ _ hlt]) rfl rfl hdg kk
theorem vv_aald (cx : CX p s m args c cc nL own g) (k : Nat) (hk : k < pq_N) {n : Nat} {r : Nat → Nat} (hsh : pq_sh k = .inr (.inr (.inr (n, r)))) {i : Int32} (hi : vp_in i n) (hd : decode cc pc = .ok (.aaload, 1)) (hp : pc + 1 = pc')
    (kk : VV p l e R s m args below meth c Q g cells slots h pc' vs (.ref (g.2.2 (r i.toNatClampNeg)) :: st)) : VV p l e R s m args below meth c Q g cells slots h pc vs (.int i :: .ref (g.2.2 k) :: st) := by
  intro H locs ls hP hD hS hl
  subst hp
  have hlt : i.toNatClampNeg < n := Nat.not_le.mp fun q => hi (Or.inr q)
  refine va_aldR cx.1.1 cx.1.2.1 cx.2 hP k 2 (pq_get hk (pq_mk_grid hsh)) rfl hi hd ?_
  rw [if_pos hlt]
  exact kk H locs ls hP hD hS hl
theorem vv_alen (cx : CX p s m args c cc nL own g) (k : Nat) (hk : k < pq_N) {n : Nat} (hsh : pq_sh k = .inr (.inl n)) {v : Int32} (hv : Int32.ofNat n = v) (hd : decode cc pc = .ok (.arraylength, 1)) (hp : pc + 1 = pc')
    (kk : VV p l e R s m args below meth c Q g cells slots h pc' vs (.int v :: st)) : VV p l e R s m args below meth c Q g cells slots h pc vs (.ref (g.2.2 k) :: st) := by
  intro H locs ls hP hD hS hl
  subst hp
  exact va_alen cx.1.1 cx.1.2.1 cx.2 hP k 0 (pq_get hk (pq_mk_arr hsh)) rfl hv hd (kk H locs ls hP hD hS hl)
theorem vv_copy (cx : CX p s m args c cc nL own g) {index : Nat} (k0 k1 : Nat) (hk0 : k0 < pq_N) (hk1 : k1 < pq_N) {n0 n1 : Nat} (hsh0 : pq_sh k0 = .inr (.inl n0)) (hsh1 : pq_sh k1 = .inr (.inl n1)) {sp dp n : Int32} (h1 : ¬ sp < 0) (h2 : ¬ dp < 0) (h3 : ¬ n < 0) (h4 : sp.toNatClampNeg + n.toNatClampNeg ≤ n0) (h5 : dp.toNatClampNeg + n.toNatClampNeg ≤ n1)
    (hlink : Cond.methodLink own index arraycopyName ∈ pq_W) (hnat : Cond.native arraycopyName ∈ pq_W) (hstat : Cond.static arraycopyName ∈ pq_W) (hini : Cond.initialized "java/lang/System" ∈ pq_W) (hframes : 1 ≤ R.frames) (hlocals : (st.map fun v => v.category).sum + (nativeFrameWords "java/lang/System" "arraycopy" 5 + 11) ≤ R.locals) (hvs : vs.length = nL) (hd : decode cc pc = .ok (.invokestatic index, 3)) (hp : pc + 3 = pc')
    (kk : VV p l e R s m args below meth c Q g cells slots (va_up h k1 (va_cpy (h k0) (h k1) sp.toNatClampNeg dp.toNatClampNeg n.toNatClampNeg)) pc' vs st) : VV p l e R s m args below meth c Q g cells slots h pc vs (.int n :: .int dp :: .ref (g.2.2 k1) :: .int sp :: .ref (g.2.2 k0) :: st) := by
  intro H locs ls hP hD hS hl
  subst hp
  obtain ⟨⟨hx, hb, hml, hown, hts⟩, hK⟩ := cx
  refine va_copyi hx hb (by rw [hml, hl.1, hvs]) hown (hts _ hlink) (hts _ hnat) (hts _ hstat) (hts _ hini) hK hP hD hS k0 k1 0 0 (pq_get hk0 (pq_mk_arr hsh0)) (pq_get hk1 (pq_mk_arr hsh1)) rfl rfl rfl h1 h2 h3 h4 h5 (fun i _ => rfl) hframes hlocals hd (fun H1 locs1 hP1 hD1 hS1 => ?_)
  rw [pq_set hk1 (pq_mk_arr hsh1)] at hP1 hD1
  exact kk H1 locs1 ls hP1 hD1 hS1 hl
theorem vv_max (cx : CX p s m args c cc nL own g) {index : Nat} {x y : Int32} (hlink : Cond.methodLink own index Lib.Math.max.name ∈ pq_W) (hstat : Cond.static Lib.Math.max.name ∈ pq_W) (hini : Cond.initialized "java/lang/Math" ∈ pq_W) (hcode : Cond.code Lib.Math.max.name Lib.Math.max.code 2 (some .int) ∈ pq_W) (hframes : 1 ≤ R.frames) (hlocals : (st.map fun v => v.category).sum + 13 ≤ R.locals) (hc : cells ≤ R.cells) (hs : slots ≤ R.slots) (hvs : vs.length = nL) (hd : decode cc pc = .ok (.invokestatic index, 3)) (hp : pc + 3 = pc')
    (kk : VV p l e R s m args below meth c Q g cells slots h pc' vs (.int (if x < y then y else x) :: st)) : VV p l e R s m args below meth c Q g cells slots h pc vs (.int y :: .int x :: st) := by
  intro H locs ls hP hD hS hl
  subst hp
  obtain ⟨⟨hx, hb, hml, hown, hts⟩, hK⟩ := cx
  exact va_mmax hx hb (by rw [hml, hl.1, hvs]) hown (hts _ hlink) (hts _ hstat) (hts _ hini) (hts _ hcode) hframes hlocals hc hs hd (kk H locs ls hP hD hS hl)
theorem vv_min (cx : CX p s m args c cc nL own g) {index : Nat} {x y : Int32} (hlink : Cond.methodLink own index Lib.Math.min.name ∈ pq_W) (hstat : Cond.static Lib.Math.min.name ∈ pq_W) (hini : Cond.initialized "java/lang/Math" ∈ pq_W) (hcode : Cond.code Lib.Math.min.name Lib.Math.min.code 2 (some .int) ∈ pq_W) (hframes : 1 ≤ R.frames) (hlocals : (st.map fun v => v.category).sum + 13 ≤ R.locals) (hc : cells ≤ R.cells) (hs : slots ≤ R.slots) (hvs : vs.length = nL) (hd : decode cc pc = .ok (.invokestatic index, 3)) (hp : pc + 3 = pc')
    (kk : VV p l e R s m args below meth c Q g cells slots h pc' vs (.int (if y < x then y else x) :: st)) : VV p l e R s m args below meth c Q g cells slots h pc vs (.int y :: .int x :: st) := by
  intro H locs ls hP hD hS hl
  subst hp
  obtain ⟨⟨hx, hb, hml, hown, hts⟩, hK⟩ := cx
  exact va_mmin hx hb (by rw [hml, hl.1, hvs]) hown (hts _ hlink) (hts _ hstat) (hts _ hini) (hts _ hcode) hframes hlocals hc hs hd (kk H locs ls hP hD hS hl)
end LAY
/-! contracts: what a method does to the ints, what it answers, what it throws -/
def pq_I (g : pq_G) (h : pq_H) (A : Nat → Prop) (t : State) : Prop := va_P g.1 vwCl (pq_ws g h) t.heap ∧ va_K g.1 vwCl (pq_tys g) t ∧ va_D A (pq_ws g h)
/-- what a throw needs of the start: the two statics of Throwable, the texts -/
def pq_X (g : pq_G) (sz : Nat) (U : State) : Prop := vx_Zq Bundle.tN "UNASSIGNED_STACK" Bundle.steD (pq_A g sz) U U.heap ∧ vx_Zq Bundle.tN "SUPPRESSED_SENTINEL" Bundle.listD (pq_A g sz) U U.heap ∧ (∀ q ∈ pq_strs, ∃ sa, vk_R q.1 q.2.1 q.2.2 sa U) ∧ ∀ w ∈ pq_Wn, va_Nw w U
theorem pq_nk_on {w : Cond} (h : pq_nk w = true) : w.onTables = true := by cases w <;> first | rfl | cases h
theorem pq_nk_warm {w : Cond} (h : pq_nk w = true) {s U : State} (hW : s.WarmedH U.vm) (hZ : va_Nw w s) : va_Nw w U := by
  cases w <;> first | exact va_Nw.warmD hW hZ | exact va_Nw.warmC hW hZ | exact va_Nw.warmM hW hZ | cases h
def pq_Pc (g : pq_G) (av : List Value) (h : pq_H) (sz : Nat) : Array Value → State → Prop := va_Pc av (fun U => U.heap.size = sz ∧ pq_I g h (fun _ => True) U ∧ pq_X g sz U)
abbrev pq_Qi (g : pq_G) (post : Int32 → pq_H → Prop) (sz : Nat) : Array Value → State → Outcome → State → Prop := va_Qi post (fun h' t => pq_I g h' (pq_A g sz) t) (pq_A g sz)
abbrev pq_Qv (g : pq_G) (post : pq_H → Prop) (sz : Nat) : Array Value → State → Outcome → State → Prop := va_Qv post (fun h' t => pq_I g h' (pq_A g sz) t) (pq_A g sz)
abbrev pq_Qx (g : pq_G) (xpost : String → pq_H → Prop) (sz : Nat) : String → State → State → Prop := vx_X (fun _ : pq_H => True) (fun E h' t => xpost E h' ∧ pq_I g h' (pq_A g sz) t) (pq_A g sz)
def XI (l : Launch) (y : MethodName) (ws : List Cond) (rm : Room) (g : pq_G) (mc ms : Nat) (av : List Value) (h : pq_H) (post : Int32 → pq_H → Prop) (xpost : String → pq_H → Prop) : Prop :=
  ∀ sz, vx_Met l y ws rm (pq_Pc g av h sz) (pq_Qi g post sz) (pq_Qx g xpost sz) mc ms (pq_A g sz)
def XV (l : Launch) (y : MethodName) (ws : List Cond) (rm : Room) (g : pq_G) (mc ms : Nat) (av : List Value) (h : pq_H) (post : pq_H → Prop) (xpost : String → pq_H → Prop) : Prop :=
  ∀ sz, vx_Met l y ws rm (pq_Pc g av h sz) (pq_Qv g post sz) (pq_Qx g xpost sz) mc ms (pq_A g sz)
abbrev pq_no : String → pq_H → Prop := fun _ _ => False
theorem pq_A.up {g : pq_G} {a b q : Nat} (h : a ≤ b) (hq : pq_A g b q) : pq_A g a q := hq.elim Or.inl (fun z => Or.inr (Nat.le_trans h z))
theorem pq_A.of {g : pq_G} {h : pq_H} {sz : Nat} {B : Nat → Prop} (hD : va_D B (pq_ws g h)) : va_D (pq_A g sz) (pq_ws g h) := ⟨hD.1, fun k q hk => by
  obtain ⟨h1, rfl⟩ := pq_get_iff hk
  exact Or.inl ⟨k, h1, rfl⟩⟩
theorem pq_X.calling {g : pq_G} {sz : Nat} {U : State} {f : JFrame} {mk : MethodId} {a : Array Value} (h : pq_X g sz U) : pq_X g sz (U.calling f mk a) :=
  ⟨vx_Zq.moved (u := U) (U := U.calling f mk a) (Vm.Alike.refl U.vm) h.1, vx_Zq.moved (u := U) (U := U.calling f mk a) (Vm.Alike.refl U.vm) h.2.1, fun q hq => by
    obtain ⟨sa, hs⟩ := h.2.2.1 q hq
    exact ⟨sa, vk_R.same rfl hs⟩, fun w hw => va_Nw.same (u := U) (U := U.calling f mk a) (pq_nk_on (pq_Wn_nk w hw)) rfl (h.2.2.2 w hw)⟩
theorem pq_I.calling {g : pq_G} {h : pq_H} {A : Nat → Prop} {U : State} {f : JFrame} {mk : MethodId} {a : Array Value} (hI : pq_I g h A U) : pq_I g h A (U.calling f mk a) :=
  ⟨hI.1, va_K.moved (u := U) (U := U.calling f mk a) (Vm.Alike.refl U.vm) hI.2.1, hI.2.2⟩
theorem pq_Pc.blind {g : pq_G} {av : List Value} {h : pq_H} {sz : Nat} : FrameBlind (pq_Pc g av h sz) := fun _ _ _ _ q => ⟨q.1, q.2.1, q.2.2.1.calling, q.2.2.2.calling⟩
theorem pq_X.at {g : pq_G} {s U : State} {H : Heap} {locs : List Loc} (hX : pq_X g s.heap.size s) (hS : va_S (pq_A g s.heap.size) s.heap H locs) (hU : U.heap = H) (hW : s.WarmedH U.vm) : pq_X g H.size U := by
  subst hU
  refine ⟨vx_Zq.moved hW.alike ((hX.1.kept hS.2.1).narrow (fun q z => pq_A.up hS.1 z)), vx_Zq.moved hW.alike ((hX.2.1.kept hS.2.1).narrow (fun q z => pq_A.up hS.1 z)), fun q hq => ?_, fun w hw => pq_nk_warm (pq_Wn_nk w hw) hW (hX.2.2.2 w hw)⟩
  obtain ⟨sa, hs⟩ := hX.2.2.1 q hq
  exact ⟨sa, vk_R.warm hW hs⟩
theorem pq_Pc.at {g : pq_G} {av : List Value} {h : pq_H} {s U : State} {H : Heap} {locs : List Loc} (hX : pq_X g s.heap.size s) (hK : va_K g.1 vwCl (pq_tys g) s) (hP : va_P g.1 vwCl (pq_ws g h) H) (hD : va_D (pq_A g s.heap.size) (pq_ws g h)) (hS : va_S (pq_A g s.heap.size) s.heap H locs) (hU : U.heap = H) (hW : s.WarmedH U.vm) : pq_Pc g av h H.size av.toArray U :=
  ⟨rfl, by rw [hU], ⟨by rw [hU]; exact hP, va_K.moved hW.alike hK, hD.weaken (fun _ _ _ _ => trivial)⟩, hX.at hS hU hW⟩
/-- an exception of class E is on its way in this frame -/
def VX (p : Program) (l : Launch) (e : Env) (R : Room) (s : State) (m : MethodId) (args : Array Value) (below : List Frame) (meth : Method) (c : Code) (Q : State → Prop) (g : pq_G) (cells slots : Nat) (h : pq_H) (pc : Nat) (vs : List (Option Value)) (st : List Value) (E : String) : Prop :=
  ∀ (H : Heap) (locs : List Loc) (ls : Array Slot) (q : Addr) (ce : Cell), va_P g.1 vwCl (pq_ws g h) H → va_D (pq_A g s.heap.size) (pq_ws g h) → va_S (pq_A g s.heap.size) s.heap H locs → pq_lh ls vs → H[q]? = some ce → ce.vm = .none → s.vm.findClass E = some ce.cls → vx_W p l e R s m args below meth c H locs cells slots Q (F0 m pc ls st) q
section CTR
variable {p : Program} {l : Launch} {e : Env} {R : Room} {s : State} {m : MethodId} {args : Array Value} {below : List Frame} {meth : Method} {c : Code} {Q : State → Prop} {g : pq_G} {cells slots : Nat} {h : pq_H} {pc pc' : Nat} {vs : List (Option Value)} {st st0 rest : List Value}
variable {cc bytes : ByteArray} {nL maxL index n mc ms : Nat} {ws : List Cond} {own C : String} {y : MethodName} {rm : Room} {ret : Option FieldType} {av As : List Value} {xpost : String → pq_H → Prop}
theorem vv_callVi {post : Int32 → pq_H → Prop} (cx : CX p s m args c cc nL own g) (hX : pq_X g s.heap.size s) (hM : XI l y ws rm g mc ms av h post xpost) (cw : CallW R s args own C index y bytes maxL ret ws rm mc ms n) (k : Nat) (hk : k < pq_N) {ci : Nat} {fl : List (Option Nat)} (hsh : pq_sh k = .inl (ci, fl)) {T : u_T} {NN : Nat} (hci : vwCl[ci]? = some (C, T, NN)) (hav : av = .ref (g.2.2 k) :: As) (hn : As.length = n) (hst : st0 = As.reverse ++ .ref (g.2.2 k) :: rest) (hroom : (rest.map fun v => v.category).sum ≤ 8) (hvs : vs.length = nL) (hf : cells + mc ≤ R.cells ∧ slots + ms ≤ R.slots) (hd : decode cc pc = .ok (.invokevirtual index, 3)) (hp : pc + 3 = pc')
    (kx : ∀ (E : String) (h' : pq_H), xpost E h' → VX p l e R s m args below meth c Q g (cells + mc) (slots + ms) h' pc vs rest E)
    (kk : ∀ (r : Int32) (h' : pq_H), post r h' → VV p l e R s m args below meth c Q g (cells + mc) (slots + ms) h' pc' vs (.int r :: rest)) : VV p l e R s m args below meth c Q g cells slots h pc vs st0 := by
  intro H locs ls hP hD hS hl
  subst hp hst hav
  refine vx_calli (a := (Value.ref (g.2.2 k) :: As).toArray) (vx_runV cx.1 (hM H.size) cw ⟨pq_Pc.blind, va_recv cx.2 hP (ci := ci) (q0 := k) hci (pq_get hk (pq_mk_obj hsh)), fun U hU hW => pq_Pc.at hX cx.2 hP hD hS hU hW⟩ rfl hn (hl.1.trans hvs) rfl (lv_room hroom) hd hf) hS (fun q _ z => pq_A.up hS.1 z) (fun q z => pq_A.up hS.1 z) (fun q _ z => pq_A.up hS.1 z) ?_ ?_
  · intro E ce q9 u t H1 locs1 ht hvm _ hB hz hk1 hS1 hce hcv hcl
    obtain ⟨hx, hP1, -, hD1⟩ := hB
    rw [ht] at hP1
    exact kx E u hx H1 locs1 ls q9 ce hP1 (pq_A.of hD1) hS1 hl hce hcv hcl
  · intro r u t H1 locs1 ht hvm hw hB hz hk1 hS1
    obtain ⟨hP1, -, hD1⟩ := hB
    rw [ht] at hP1
    exact kk r u hw H1 locs1 ls hP1 (pq_A.of hD1) hS1 hl
theorem vv_callVv {post : pq_H → Prop} (cx : CX p s m args c cc nL own g) (hX : pq_X g s.heap.size s) (hM : XV l y ws rm g mc ms av h post xpost) (cw : CallW R s args own C index y bytes maxL ret ws rm mc ms n) (k : Nat) (hk : k < pq_N) {ci : Nat} {fl : List (Option Nat)} (hsh : pq_sh k = .inl (ci, fl)) {T : u_T} {NN : Nat} (hci : vwCl[ci]? = some (C, T, NN)) (hav : av = .ref (g.2.2 k) :: As) (hn : As.length = n) (hst : st0 = As.reverse ++ .ref (g.2.2 k) :: rest) (hroom : (rest.map fun v => v.category).sum ≤ 8) (hvs : vs.length = nL) (hf : cells + mc ≤ R.cells ∧ slots + ms ≤ R.slots) (hd : decode cc pc = .ok (.invokevirtual index, 3)) (hp : pc + 3 = pc')
    (kx : ∀ (E : String) (h' : pq_H), xpost E h' → VX p l e R s m args below meth c Q g (cells + mc) (slots + ms) h' pc vs rest E)
    (kk : ∀ (h' : pq_H), post h' → VV p l e R s m args below meth c Q g (cells + mc) (slots + ms) h' pc' vs rest) : VV p l e R s m args below meth c Q g cells slots h pc vs st0 := by
  intro H locs ls hP hD hS hl
  subst hp hst hav
  refine vx_callv (a := (Value.ref (g.2.2 k) :: As).toArray) (vx_runV cx.1 (hM H.size) cw ⟨pq_Pc.blind, va_recv cx.2 hP (ci := ci) (q0 := k) hci (pq_get hk (pq_mk_obj hsh)), fun U hU hW => pq_Pc.at hX cx.2 hP hD hS hU hW⟩ rfl hn (hl.1.trans hvs) rfl (lv_room hroom) hd hf) hS (fun q _ z => pq_A.up hS.1 z) (fun q z => pq_A.up hS.1 z) (fun q _ z => pq_A.up hS.1 z) ?_ ?_
  · intro E ce q9 u t H1 locs1 ht hvm _ hB hz hk1 hS1 hce hcv hcl
    obtain ⟨hx, hP1, -, hD1⟩ := hB
    rw [ht] at hP1
    exact kx E u hx H1 locs1 ls q9 ce hP1 (pq_A.of hD1) hS1 hl hce hcv hcl
  · intro u t H1 locs1 ht hvm hw hB hz hk1 hS1
    obtain ⟨hP1, -, hD1⟩ := hB
    rw [ht] at hP1
    exact kk u hw H1 locs1 ls hP1 (pq_A.of hD1) hS1 hl
theorem vv_callSi {post : Int32 → pq_H → Prop} (cx : CX p s m args c cc nL own g) (hX : pq_X g s.heap.size s) (hM : XI l y ws rm g mc ms av h post xpost) (cw : CallB R s args own index y bytes maxL ret ws rm mc ms n ∧ (Cond.static y).before args s = true) (hn : av.length = n) (hst : st0 = av.reverse ++ rest) (hroom : (rest.map fun v => v.category).sum ≤ 8) (hvs : vs.length = nL) (hf : cells + mc ≤ R.cells ∧ slots + ms ≤ R.slots) (hd : decode cc pc = .ok (.invokestatic index, 3)) (hp : pc + 3 = pc')
    (kx : ∀ (E : String) (h' : pq_H), xpost E h' → VX p l e R s m args below meth c Q g (cells + mc) (slots + ms) h' pc vs rest E)
    (kk : ∀ (r : Int32) (h' : pq_H), post r h' → VV p l e R s m args below meth c Q g (cells + mc) (slots + ms) h' pc' vs (.int r :: rest)) : VV p l e R s m args below meth c Q g cells slots h pc vs st0 := by
  intro H locs ls hP hD hS hl
  subst hp hst
  refine vx_calli (a := av.toArray) (vx_runS cx.1 (hM H.size) cw ⟨pq_Pc.blind, fun U hU hW => pq_Pc.at hX cx.2 hP hD hS hU hW⟩ rfl hn (hl.1.trans hvs) rfl (lv_room hroom) hd hf) hS (fun q _ z => pq_A.up hS.1 z) (fun q z => pq_A.up hS.1 z) (fun q _ z => pq_A.up hS.1 z) ?_ ?_
  · intro E ce q9 u t H1 locs1 ht hvm _ hB hz hk1 hS1 hce hcv hcl
    obtain ⟨hx, hP1, -, hD1⟩ := hB
    rw [ht] at hP1
    exact kx E u hx H1 locs1 ls q9 ce hP1 (pq_A.of hD1) hS1 hl hce hcv hcl
  · intro r u t H1 locs1 ht hvm hw hB hz hk1 hS1
    obtain ⟨hP1, -, hD1⟩ := hB
    rw [ht] at hP1
    exact kk r u hw H1 locs1 ls hP1 (pq_A.of hD1) hS1 hl
/-- a private static of the nest, that doesn't throw -/
theorem XI.met {post : Int32 → pq_H → Prop} (hM : XI l y ws rm g mc ms av h post pq_no) (sz : Nat) : Met l y ws rm (pq_Pc g av h sz) (pq_Qi g post sz) mc ms (pq_A g sz) := by
  intro p e h1 h2 h3 s m args below h4 h5 h6 h7
  obtain ⟨n, o, a1, a2, a3, a4⟩ := hM sz p e h1 h2 h3 s m args below h4 h5 h6 h7
  refine ⟨n, o, a1, a2, a3, ?_⟩
  rcases a4 with q | ⟨q, -, E, ce, L, ⟨u, -, hz, -⟩, -⟩
  · exact q
  · exact hz.1.elim
theorem vv_callNi {host : String} {post : Int32 → pq_H → Prop} (cx : CX p s m args c cc nL own g) (hX : pq_X g s.heap.size s) (hM : XI l y ws rm g mc ms av h post pq_no) (cw : va_CN R s args own index y host bytes maxL ret ws rm mc ms n ∧ (Cond.static y).before args s = true ∧ True) (hn : av.length = n) (hst : st0 = av.reverse ++ rest) (hroom : (rest.map fun v => v.category).sum ≤ 8) (hvs : vs.length = nL) (hf : cells + mc ≤ R.cells ∧ slots + ms ≤ R.slots) (hd : decode cc pc = .ok (.invokestatic index, 3)) (hp : pc + 3 = pc')
    (kk : ∀ (r : Int32) (h' : pq_H), post r h' → VV p l e R s m args below meth c Q g (cells + mc) (slots + ms) h' pc' vs (.int r :: rest)) : VV p l e R s m args below meth c Q g cells slots h pc vs st0 := by
  intro H locs ls hP hD hS hl
  subst hp hst
  refine va_calli (a := av.toArray) (va_runSN cx.1 (hM.met H.size) cw ⟨pq_Pc.blind, fun U hU hW => pq_Pc.at hX cx.2 hP hD hS hU hW⟩ rfl hn (hl.1.trans hvs) rfl (lv_room hroom) hd hf) hS (fun q _ z => pq_A.up hS.1 z) (fun q z => pq_A.up hS.1 z) ?_
  intro r u t H1 locs1 ht hvm hw hB hz hk1 hS1
  obtain ⟨hP1, -, hD1⟩ := hB
  rw [ht] at hP1
  exact kk r u hw H1 locs1 ls hP1 (pq_A.of hD1) hS1 hl
/-! ends -/
theorem vv_iret {post : Int32 → pq_H → Prop} (cx : CX p s m args c cc nL own g) (hr : meth.sig.returnType = some .int) (hlocks : meth.locks = false) (hd : decode cc pc = .ok (.ireturn, 1)) {v : Int32} (hc : cells ≤ mc) (hs : slots ≤ ms) (hpost : post v h) :
    VV p l e R s m args below meth c (vx_MQ below (pq_Qi g post s.heap.size) (pq_Qx g xpost s.heap.size) args s mc ms (pq_A g s.heap.size)) g cells slots h pc vs [.int v] := by
  intro H locs ls hP hD hS hl
  refine W.widen (k := mc) (n := ms) hc hs (vx_ret ?_)
  exact W.iret cx.1.1 cx.1.2.1 hr (fun t ht hW => ⟨⟨v, h, rfl, hpost, by rw [ht]; exact hP, va_K.moved hW.alike cx.2, hD⟩, hS.F ht⟩) hS.2.2 hd hlocks
theorem vv_zret {post : Int32 → pq_H → Prop} (cx : CX p s m args c cc nL own g) (hr : meth.sig.returnType = some .boolean) (hlocks : meth.locks = false) (hd : decode cc pc = .ok (.ireturn, 1)) {v : Int32} (hn : narrow .boolean (.int v) = .int v) (hc : cells ≤ mc) (hs : slots ≤ ms) (hpost : post v h) :
    VV p l e R s m args below meth c (vx_MQ below (pq_Qi g post s.heap.size) (pq_Qx g xpost s.heap.size) args s mc ms (pq_A g s.heap.size)) g cells slots h pc vs [.int v] := by
  intro H locs ls hP hD hS hl
  refine W.widen (k := mc) (n := ms) hc hs (vx_ret ?_)
  exact W.zret cx.1.1 cx.1.2.1 hr hn (fun t ht hW => ⟨⟨v, h, rfl, hpost, by rw [ht]; exact hP, va_K.moved hW.alike cx.2, hD⟩, hS.F ht⟩) hS.2.2 hd hlocks
theorem vv_vret {post : pq_H → Prop} (cx : CX p s m args c cc nL own g) (hr : meth.sig.returnType = none) (hlocks : meth.locks = false) (hd : decode cc pc = .ok (.return_, 1)) (hc : cells ≤ mc) (hs : slots ≤ ms) (hpost : post h) :
    VV p l e R s m args below meth c (vx_MQ below (pq_Qv g post s.heap.size) (pq_Qx g xpost s.heap.size) args s mc ms (pq_A g s.heap.size)) g cells slots h pc vs [] := by
  intro H locs ls hP hD hS hl
  refine W.widen (k := mc) (n := ms) hc hs (vx_ret ?_)
  exact W.vret cx.1.1 cx.1.2.1 hr (fun t ht hW => ⟨⟨h, rfl, hpost, by rw [ht]; exact hP, va_K.moved hW.alike cx.2, hD⟩, hS.F ht⟩) hS.2.2 hd hlocks
/-- an exception of a callee goes on to the caller -/
theorem vx_pass {Qc : Array Value → State → Outcome → State → Prop} {E : String} (cx : CX p s m args c cc nL own g) (hout : ∀ x ∈ c.exceptionTable.toList, False) (hlocks : meth.locks = false) (hc : cells ≤ mc) (hs : slots ≤ ms) (hpost : xpost E h) :
    VX p l e R s m args below meth c (vx_MQ below Qc (pq_Qx g xpost s.heap.size) args s mc ms (pq_A g s.heap.size)) g cells slots h pc vs st E := by
  intro H locs ls q ce hP hD hS hl hce hcv hcl
  exact vx_out (fun x hx => (hout x hx).elim) hlocks hce hcv hcl (fun t ht ha => ⟨h, trivial, ⟨hpost, by rw [ht]; exact hP, va_K.moved ha cx.2, hD⟩, hS.F ht⟩) hS.2.2 hc hs
/-- throw new E("text") -/
theorem vv_throw {Qc : Array Value → State → Outcome → State → Prop} {cls text : String} {names : List String} {ik is ic : Nat} (cx : CX p s m args c cc nL own g) (hX : pq_X g s.heap.size s) (hl : l.stackTraces = false) (hout : ∀ x ∈ c.exceptionTable.toList, False) (hlocks : meth.locks = false) (hcls : Bundle.fit cls = true) (hnames : ∀ n ∈ names, Bundle.fit n = true)
    (hk : Cond.classLink own ik cls ∈ pq_W) (hini : Cond.initialized cls ∈ pq_W) (hat : ∀ w ∈ vx_atS own ic cls names, w ∈ pq_W ∨ w ∈ pq_Wn) (hgood : ∀ w ∈ Cond.classLink own ik cls :: Cond.initialized cls :: vx_atS own ic cls names, vx_ot w = true) (hstr : (own, is, text) ∈ pq_strs)
    (d0 : decode cc pc = .ok (.new ik, 3)) (d3 : decode cc (pc + 3) = .ok (.dup, 1)) (d4 : decode cc (pc + 4) = .ok (.ldc is, 2)) (d6 : decode cc (pc + 6) = .ok (.invokespecial ic, 3)) (d9 : decode cc (pc + 9) = .ok (.athrow, 1)) (hvs : vs.length = nL)
    (hRframes : names.length + 3 < R.frames) (hRlocals : (st.map fun v => v.category).sum + (13 * (names.length + 1) + 43) ≤ R.locals) (hRcells : cells + 1 ≤ R.cells) (hRslots : slots + 6 ≤ R.slots) (hc : cells + 1 ≤ mc) (hs : slots + 6 ≤ ms) (hpost : xpost cls h) :
    VV p l e R s m args below meth c (vx_MQ below Qc (pq_Qx g xpost s.heap.size) args s mc ms (pq_A g s.heap.size)) g cells slots h pc vs st := by
  intro H locs ls hP hD hS hl9
  obtain ⟨⟨hx, hb, hml, hown, hts⟩, hK⟩ := cx
  obtain ⟨sa, hsa⟩ := hX.2.2.1 _ hstr
  exact vx_throwS hx hb hl hown hcls hnames (hts _ hk) (hts _ hini) hsa (fun w hw => (hat w hw).elim (hts w) (fun z => va_Nw.use (pq_nk_on (pq_Wn_nk w z)) (hX.2.2.2 w z))) hgood hX.1 hX.2.1 hS (by rw [hl9.1, hvs, hml]) d0 d3 d4 d6 d9 (fun x hx => (hout x hx).elim) hRframes hRlocals hRcells hRslots hlocks (fun t ha hz hq => by
    have hP2 : va_P g.1 vwCl (pq_ws g h) t.heap := hP.kept (fun k q hk => hq q.1 ((hP k q hk).lt))
    exact ⟨h, trivial, ⟨hpost, hP2, va_K.moved ha hK, hD⟩, Nat.le_trans hS.1 hz, fun q h1 h2 => (hq q (Nat.lt_of_lt_of_le h1 hS.1)).trans (hS.2.1 q h1 h2)⟩) hS.2.2 hc hs
end CTR
/-! entries -/
def pq_ent (n : Nat) (av : List Value) : List (Option Value) := av.map some ++ List.replicate (n - av.length) none
theorem pq_args : ∀ (av : List Value) (n i : Nat) (v : Value), (∀ w ∈ av, w.category = 1) → av[i]? = some v → (n + i, v) ∈ lv_args n av
  | [], n, i, v, _, h => by simp at h
  | w :: r, n, 0, v, hc, h => by
    have : w = v := by simpa using h
    subst this
    simp [lv_args]
  | w :: r, n, i + 1, v, hc, h => by
    have := pq_args r (n + 1) i v (fun z hz => hc z (List.mem_cons_of_mem _ hz)) (by simpa using h)
    have hw : w.category = 1 := hc w List.mem_cons_self
    rw [show n + (i + 1) = n + 1 + i by omega]
    simp [lv_args, hw, this]
theorem pq_entry {ls : Array Slot} {n : Nat} {av : List Value} (hc : ∀ w ∈ av, w.category = 1) (hn : av.length ≤ n) (hl : lv_has ls n (lv_args 0 av)) : pq_lh ls (pq_ent n av) := by
  refine ⟨by rw [hl.1]; simp [pq_ent]; omega, hl.2.1, fun i v hi => ?_⟩
  by_cases h : i < av.length
  · rw [pq_ent, List.getElem?_append_left (by simpa using h), List.getElem?_map] at hi
    have hv : av[i]? = some v := by
      cases hz : av[i]? with
      | none => rw [hz] at hi; cases hi
      | some w => rw [hz] at hi; cases hi; rfl
    have := hl.2.2 _ (pq_args av 0 i v hc hv)
    exact ⟨by simpa using this, hc v (List.mem_of_getElem? hv)⟩
  · rw [pq_ent, List.getElem?_append_right (by simp; omega)] at hi
    rw [List.getElem?_replicate] at hi
    split at hi <;> cases hi
theorem pq_sl {av : List Value} (hc : ∀ w ∈ av, w.category = 1) : (lg_sl av).length = av.length := by
  induction av with
  | nil => rfl
  | cons w r ih =>
    have hw : w.category = 1 := hc w List.mem_cons_self
    have := ih (fun z hz => hc z (List.mem_cons_of_mem _ hz))
    simp only [lg_sl, List.flatMap_cons, List.length_append, List.length_cons] at this ⊢
    rw [this]
    simp [hw]
    omega
section ENT
variable {l : Launch} {y : MethodName}  {rm : Room} {g : pq_G} {mc ms : Nat} {av : List Value} {h : pq_H} {xpost : String → pq_H → Prop} {cc : ByteArray} {maxL : Nat} {ret : Option FieldType}
theorem XI.of {post : Int32 → pq_H → Prop} (hy : plainName y.cls = true)  (hc : ∀ w ∈ av, w.category = 1) (hn : av.length ≤ maxL)
    (body : ∀ (p : Program) (e : Env) (s : State) (m : MethodId) (below : List Frame) (meth : Method) (c : Code), CX p s m av.toArray c cc maxL y.cls g → pq_X g s.heap.size s → meth.sig.returnType = ret → meth.locks = false → (∀ x ∈ c.exceptionTable.toList, False) →
      VV p l e rm s m av.toArray below meth c (vx_MQ below (pq_Qi g post s.heap.size) (pq_Qx g xpost s.heap.size) av.toArray s mc ms (pq_A g s.heap.size)) g 0 0 h 0 (pq_ent maxL av) []) : XI l y (Cond.code y cc maxL ret :: pq_W) rm g mc ms av h post xpost := by
  intro sz
  refine vx_ofW (cc := cc) (maxL := maxL) (ret := ret) hy rfl ?_
  intro p e s m args below meth c s₁ B hml hex hv
  obtain ⟨rfl, hsz, ⟨hP, hK, hD0⟩, hX⟩ := hv
  subst hsz
  have hts : ∀ w ∈ pq_W, w.before av.toArray s = true := fun w hw => atoms_spec (ws := Cond.code y cc maxL ret :: pq_W) B.pre w (List.mem_cons_of_mem _ hw)
  have hown : s.vm.findClass y.cls = some m.cls := findClass_of_methodNamed B.named
  have hl := lv_entry av (n := maxL) (by rw [pq_sl hc]; exact hn)
  rw [lg_entry_eq]
  exact body p e s m below meth c ⟨⟨B.exec, B.bytes, hml, hown, hts⟩, hK⟩ hX B.returns B.notSynchronized hex s.heap [] _ hP (pq_A.of hD0) va_S.rf (pq_entry hc hn hl)
theorem XV.of {post : pq_H → Prop} (hy : plainName y.cls = true)  (hc : ∀ w ∈ av, w.category = 1) (hn : av.length ≤ maxL)
    (body : ∀ (p : Program) (e : Env) (s : State) (m : MethodId) (below : List Frame) (meth : Method) (c : Code), CX p s m av.toArray c cc maxL y.cls g → pq_X g s.heap.size s → meth.sig.returnType = ret → meth.locks = false → (∀ x ∈ c.exceptionTable.toList, False) →
      VV p l e rm s m av.toArray below meth c (vx_MQ below (pq_Qv g post s.heap.size) (pq_Qx g xpost s.heap.size) av.toArray s mc ms (pq_A g s.heap.size)) g 0 0 h 0 (pq_ent maxL av) []) : XV l y (Cond.code y cc maxL ret :: pq_W) rm g mc ms av h post xpost := by
  intro sz
  refine vx_ofW (cc := cc) (maxL := maxL) (ret := ret) hy rfl ?_
  intro p e s m args below meth c s₁ B hml hex hv
  obtain ⟨rfl, hsz, ⟨hP, hK, hD0⟩, hX⟩ := hv
  subst hsz
  have hts : ∀ w ∈ pq_W, w.before av.toArray s = true := fun w hw => atoms_spec (ws := Cond.code y cc maxL ret :: pq_W) B.pre w (List.mem_cons_of_mem _ hw)
  have hown : s.vm.findClass y.cls = some m.cls := findClass_of_methodNamed B.named
  have hl := lv_entry av (n := maxL) (by rw [pq_sl hc]; exact hn)
  rw [lg_entry_eq]
  exact body p e s m below meth c ⟨⟨B.exec, B.bytes, hml, hown, hts⟩, hK⟩ hX B.returns B.notSynchronized hex s.heap [] _ hP (pq_A.of hD0) va_S.rf (pq_entry hc hn hl)
end ENT

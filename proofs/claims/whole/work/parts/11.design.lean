/-! part 11: Designing -/
section AQ
variable {p : Program} {l : Launch} {e : Env} {R : Room} {s : State} {m : MethodId} {args : Array Value} {below : List Frame} {meth : Method} {c : Code} {Q : State → Prop} {g : pq_G} {cells slots : Nat} {h : pq_H} {pc pc' : Nat} {vs : List (Option Value)} {st : List Value} {cc : ByteArray} {nL : Nat} {own : String}
theorem vv_aaldq (cx : CX p s m args c cc nL own g) (k : Nat) (hk : k < pq_N) {n : Nat} {r : Nat → Nat} (hsh : pq_sh k = .inr (.inr (.inr (n, r)))) {i : Int32} {q : Nat} (hq : r i.toNatClampNeg = q) (hi : vp_in i n) (hd : decode cc pc = .ok (.aaload, 1)) (hp : pc + 1 = pc')
    (kk : VV p l e R s m args below meth c Q g cells slots h pc' vs (.ref (g.2.2 q) :: st)) : VV p l e R s m args below meth c Q g cells slots h pc vs (.int i :: .ref (g.2.2 k) :: st) := by
  subst hq
  exact vv_aald cx k hk hsh hi hd hp kk
end AQ
def pq_bsI : Option Nat → Int32
  | none => -1
  | some b => nI b
def pq_gb (h h' : pq_H) : Prop := ∀ k, k ≠ 3 → k ≠ 13 → ¬ (16 ≤ k ∧ k < 76) → h' k = h k
theorem pq_gb.rfl' {h : pq_H} : pq_gb h h := fun _ _ _ _ => rfl
theorem pq_gb.trans {h h' h2 : pq_H} (a : pq_gb h h') (b : pq_gb h' h2) : pq_gb h h2 := fun k q1 q2 q3 => (b k q1 q2 q3).trans (a k q1 q2 q3)
theorem pq_but.gb {h h' : pq_H} (a : pq_but [3, 13] h h') : pq_gb h h' := fun k q1 q2 _ => a k (by simp [q1, q2])
theorem pq_only.gb {h h' : pq_H} {kr : Nat} (a : pq_only kr h h') (hk : 16 ≤ kr ∧ kr < 76) : pq_gb h h' := fun k _ _ q3 => a k (fun e => q3 (by rw [e]; exact hk))
theorem pq_st.gb {h h' : pq_H} {W n : Nat} {w nm pr : Nat → Nat} (hs : pq_st h W n w nm pr) (hb : pq_gb h h') : pq_st h' W n w nm pr := hs.of (hb 1 (by decide) (by decide) (by decide)) (hb 8 (by decide) (by decide) (by decide)) (hb 9 (by decide) (by decide) (by decide)) (hb 10 (by decide) (by decide) (by decide))
def pq_cr (h : pq_H) (lf : Nat → Nat) (X : Nat) (bs : Option Nat) (sp st : Nat) : Prop := pq_row h 13 lf ∧ h 3 2 = nI X ∧ h 3 5 = pq_bsI bs ∧ h 3 6 = 1 ∧ h 3 7 = nI sp ∧ h 3 8 = nI st
def pq_rws (h : pq_H) (base : Nat) (rows : Nat → Nat → Nat) (k : Nat) : Prop := ∀ j, j < k → pq_row h (base + j) (rows j)
def pq_zs (h : pq_H) (n : Nat) : Prop := ∀ j, j < 30 → pq_z h (16 + j) n
theorem pq_rws.of {h h' : pq_H} {base k : Nat} {rows : Nat → Nat → Nat} (a : pq_rws h base rows k) (e : ∀ j, j < k → h' (base + j) = h (base + j)) : pq_rws h' base rows k := fun j hj => (a j hj).of (e j hj)
theorem pq_z.of {h h' : pq_H} {k n : Nat} (a : pq_z h k n) (e : h' k = h k) : pq_z h' k n := by
  obtain ⟨b, q1, q2⟩ := a
  exact ⟨b, q1.of e, q2⟩
theorem pq_zs.of {h h' : pq_H} {n : Nat} (a : pq_zs h n) (e : ∀ j, j < 30 → h' (16 + j) = h (16 + j)) : pq_zs h' n := fun j hj => (a j hj).of (e j hj)
set_option maxRecDepth 100000 in
set_option maxHeartbeats 4000000 in
theorem tG_forget (l : Launch) (g : pq_G) (h : pq_H)  : XV l yG_forget wG_forget rG_forget g 0 0 [.ref (g.2.2 3)] h (fun h9 => pq_only 3 h h9 ∧ h9 3 5 = -1 ∧ h9 3 6 = 0 ∧ h9 3 7 = 0 ∧ h9 3 8 = 0) (pq_no) := by
  refine XV.of (cc := cG_forget) (maxL := 1) (ret := none) (by decide +kernel) (by simp [Value.category]) (Nat.le_of_ble_eq_true rfl) ?_
  intro p e s m below meth c cx hX hr hlocks hex
  refine vv_aload_n cx dG_forget_0 rfl rfl (pc' := 1) rfl ?_
  refine vv_iconst cx dG_forget_1 (v := -1) (by decide) (pc' := 2) rfl ?_
  refine vv_putI cx (C := RG) (T := TG) (NN := 9) 3 5 (by decide) sh_3 rfl rfl (by decide) lyG tyG tyG_ok nmG rfl rfl rfl ww_91 dG_forget_2 (pc' := 5) rfl ?_
  refine vv_aload_n cx dG_forget_5 rfl rfl (pc' := 6) rfl ?_
  refine vv_iconst cx dG_forget_6 (v := 0) (by decide) (pc' := 7) rfl ?_
  refine vv_putI cx (C := RG) (T := TG) (NN := 9) 3 6 (by decide) sh_3 rfl rfl (by decide) lyG tyG tyG_ok nmG rfl rfl rfl ww_93 dG_forget_7 (pc' := 10) rfl ?_
  refine vv_aload_n cx dG_forget_10 rfl rfl (pc' := 11) rfl ?_
  refine vv_iconst cx dG_forget_11 (v := 0) (by decide) (pc' := 12) rfl ?_
  refine vv_putI cx (C := RG) (T := TG) (NN := 9) 3 7 (by decide) sh_3 rfl rfl (by decide) lyG tyG tyG_ok nmG rfl rfl rfl ww_95 dG_forget_12 (pc' := 15) rfl ?_
  refine vv_aload_n cx dG_forget_15 rfl rfl (pc' := 16) rfl ?_
  refine vv_iconst cx dG_forget_16 (v := 0) (by decide) (pc' := 17) rfl ?_
  refine vv_putI cx (C := RG) (T := TG) (NN := 9) 3 8 (by decide) sh_3 rfl rfl (by decide) lyG tyG tyG_ok nmG rfl rfl rfl ww_97 dG_forget_17 (pc' := 20) rfl ?_
  refine vv_vret cx hr hlocks dG_forget_20 (Nat.le_of_ble_eq_true rfl) (Nat.le_of_ble_eq_true rfl) ?_
  refine ⟨fun k hk => by simp [va_up, hk], ?_, ?_, ?_, ?_⟩ <;> simp [va_up, upd]
set_option maxRecDepth 100000 in
set_option maxHeartbeats 4000000 in
theorem tG_lowestLeft (l : Launch) (g : pq_G) (h : pq_H) {W n : Nat} {w nm pr : Nat → Nat} (lf : Nat → Nat) (hs : pq_st h W n w nm pr) (hl9 : pq_row h 13 lf) (hlf : ∀ i, i < 5 → lf i ≤ 6) : XI l yG_lowestLeft wG_lowestLeft rG_lowestLeft g 0 0 [.ref (g.2.2 3)] h (fun r h9 => h9 = h ∧ ∀ i, i < 5 → (nI i = r ↔ i = pq_low lf n)) (pq_no) := by
  refine XI.of (cc := cG_lowestLeft) (maxL := 2) (ret := (some .int)) (by decide +kernel) (by simp [Value.category]) (Nat.le_of_ble_eq_true rfl) ?_
  intro p e s m below meth c cx hX hr hlocks hex
  have hn5 : n ≤ 5 := hs.2.1.2.2
  have hn := hs.1.2.1
  have loop : ∀ (d i : Nat) (y : Int32), y = nI i → i + d = n → pq_lowF lf d i = pq_low lf n → VV p l e rG_lowestLeft s m [.ref (g.2.2 3)].toArray below meth c (vx_MQ below (pq_Qi g (fun r h9 => h9 = h ∧ ∀ i, i < 5 → (nI i = r ↔ i = pq_low lf n)) s.heap.size) (pq_Qx g (pq_no) s.heap.size) [.ref (g.2.2 3)].toArray s 0 0 (pq_A g s.heap.size)) g 0 0 h 2 [some (.ref (g.2.2 3)), some (.int y)] [] := by
    intro d
    induction d with
    | zero =>
      intro i y hy hi hf
      have e1 : i = n := by omega
      subst e1
      refine vv_iload_n cx dG_lowestLeft_2 rfl rfl (pc' := 3) rfl ?_
      refine vv_aload_n cx dG_lowestLeft_3 rfl rfl (pc' := 4) rfl ?_
      refine vv_getR cx (C := RG) (T := TG) (NN := 9) 3 0 _ (by decide) sh_3 rfl rfl (by decide) lyG ww_85 dG_lowestLeft_4 (pc' := 7) rfl ?_
      refine vv_getI cx (C := RS) (T := TS) (NN := 5) 1 1 (by decide) sh_1 rfl rfl (by decide) lyS ww_34 dG_lowestLeft_7 (pc' := 10) rfl ?_
      refine vv_icmp_ge cx dG_lowestLeft_10 (tgt := 30) (by decide) (pc' := 13) rfl (fun c10 => ?_) (fun c10 => ?_)
      · refine vv_iconst cx dG_lowestLeft_30 (v := -1) (by decide) (pc' := 31) rfl ?_
        refine vv_iret cx hr hlocks dG_lowestLeft_31 (Nat.le_of_ble_eq_true rfl) (Nat.le_of_ble_eq_true rfl) ?_
        refine ⟨rfl, ?_⟩
        rw [← hf]
        exact pq_nd5
      · exact absurd (Int32.le_refl _) (by rw [hy, hn] at c10; exact c10)
    | succ d ih =>
      intro i y hy hi hf
      have hlt : i < n := by omega
      have hv := pq_in5 hy (show i < 5 by omega)
      have hcl := pq_clN hy (show i < 1000 by omega)
      have hli := hlf i (by omega)
      refine vv_iload_n cx dG_lowestLeft_2 rfl rfl (pc' := 3) rfl ?_
      refine vv_aload_n cx dG_lowestLeft_3 rfl rfl (pc' := 4) rfl ?_
      refine vv_getR cx (C := RG) (T := TG) (NN := 9) 3 0 _ (by decide) sh_3 rfl rfl (by decide) lyG ww_85 dG_lowestLeft_4 (pc' := 7) rfl ?_
      refine vv_getI cx (C := RS) (T := TS) (NN := 5) 1 1 (by decide) sh_1 rfl rfl (by decide) lyS ww_34 dG_lowestLeft_7 (pc' := 10) rfl ?_
      refine vv_icmp_ge cx dG_lowestLeft_10 (tgt := 30) (by decide) (pc' := 13) rfl (fun c10 => ?_) (fun c10 => ?_)
      · exact absurd (by rw [hy, hn] at c10; exact c10) (nI_ge hlt (by omega))
      · refine vv_aload_n cx dG_lowestLeft_13 rfl rfl (pc' := 14) rfl ?_
        refine vv_getR cx (C := RG) (T := TG) (NN := 9) 3 1 _ (by decide) sh_3 rfl rfl (by decide) lyG ww_86 dG_lowestLeft_14 (pc' := 17) rfl ?_
        refine vv_iload_n cx dG_lowestLeft_17 rfl rfl (pc' := 18) rfl ?_
        refine vv_iald cx _ (by decide) sh_13 hv dG_lowestLeft_18 (pc' := 19) rfl ?_
        rw [hcl, hl9 i (by omega)]
        refine vv_if_le cx dG_lowestLeft_19 (tgt := 24) (by decide) (pc' := 22) rfl (fun c19 => ?_) (fun c19 => ?_)
        · refine vv_iinc cx dG_lowestLeft_24 rfl rfl (pc' := 27) rfl ?_
          refine vv_goto cx dG_lowestLeft_27 (tgt := 2) (by decide) ?_
          exact ih (i + 1) _ (pq_nI1 hy) (by omega) (by rw [← hf]; exact (if_neg (fun q => nI_nle q (by omega) c19)).symm)
        · refine vv_iload_n cx dG_lowestLeft_22 rfl rfl (pc' := 23) rfl ?_
          refine vv_iret cx hr hlocks dG_lowestLeft_23 (Nat.le_of_ble_eq_true rfl) (Nat.le_of_ble_eq_true rfl) ?_
          have e9 : pq_low lf n = i := by rw [← hf]; exact if_pos (pq_pos (Int32.not_le.mp c19))
          refine ⟨rfl, fun j hj => ?_⟩
          rw [hy, e9]
          exact nI_eq (by omega) (by omega)
  refine vv_iconst cx dG_lowestLeft_0 (v := 0) (by decide) (pc' := 1) rfl ?_
  refine vv_istore_n cx dG_lowestLeft_1 rfl (Nat.le_of_ble_eq_true rfl) (pc' := 2) rfl ?_
  exact loop n 0 _ nI_0.symm (by omega) rfl
set_option maxRecDepth 100000 in
set_option maxHeartbeats 4000000 in
theorem tG_lay (l : Launch) (g : pq_G) (h : pq_H) {W n : Nat} {w nm pr : Nat → Nat} (kr X : Nat) (a lf : Nat → Nat) (hkr : 16 ≤ kr ∧ kr < 116) (hs : pq_st h W n w nm pr) (ha : pq_row h kr a) (hl9 : pq_row h 13 lf) (hX9 : h 3 2 = nI X) (ha0 : ∀ i, n ≤ i → i < 5 → a i = 0) (hal : ∀ i, i < n → a i ≤ lf i) (hXa : pq_wd n w a ≤ X) : XV l yG_lay wG_lay rG_lay g 0 0 [.ref (g.2.2 3), .ref (g.2.2 kr)] h (fun h9 => pq_but [3, 13] h h9 ∧ pq_row h9 13 (fun i => lf i - a i) ∧ h9 3 2 = nI (X - pq_wd n w a) ∧ ∀ j, j ≠ 2 → h9 3 j = h 3 j) (pq_no) := by
  refine XV.of (cc := cG_lay) (maxL := 3) (ret := none) (by decide +kernel) (by simp [Value.category]) (Nat.le_of_ble_eq_true rfl) ?_
  intro p e s m below meth c cx hX hr hlocks hex
  have hn5 : n ≤ 5 := hs.2.1.2.2
  have hkN : kr < pq_N := by show kr < 125; omega
  have loop : ∀ (d i : Nat) (y : Int32) (b : Nat → Nat) (h1 : pq_H), y = nI i → i + d = n → pq_but [13] h h1 → pq_row h1 13 b → (∀ j, j < i → b j = lf j - a j) → (∀ j, i ≤ j → b j = lf j) → VV p l e rG_lay s m [.ref (g.2.2 3), .ref (g.2.2 kr)].toArray below meth c (vx_MQ below (pq_Qv g (fun h9 => pq_but [3, 13] h h9 ∧ pq_row h9 13 (fun i => lf i - a i) ∧ h9 3 2 = nI (X - pq_wd n w a) ∧ ∀ j, j ≠ 2 → h9 3 j = h 3 j) s.heap.size) (pq_Qx g (pq_no) s.heap.size) [.ref (g.2.2 3), .ref (g.2.2 kr)].toArray s 0 0 (pq_A g s.heap.size)) g 0 0 h1 2 [some (.ref (g.2.2 3)), some (.ref (g.2.2 kr)), some (.int y)] [] := by
    intro d
    induction d with
    | zero =>
      intro i y b h1 hy hi hb hb1 hlo hhi
      have e1 : i = n := by omega
      subst e1
      have hs1 := hs.but hb (by decide)
      have hn := hs1.1.2.1
      refine vv_iload_n cx dG_lay_2 rfl rfl (pc' := 3) rfl ?_
      refine vv_aload_n cx dG_lay_3 rfl rfl (pc' := 4) rfl ?_
      refine vv_getR cx (C := RG) (T := TG) (NN := 9) 3 0 _ (by decide) sh_3 rfl rfl (by decide) lyG ww_85 dG_lay_4 (pc' := 7) rfl ?_
      refine vv_getI cx (C := RS) (T := TS) (NN := 5) 1 1 (by decide) sh_1 rfl rfl (by decide) lyS ww_34 dG_lay_7 (pc' := 10) rfl ?_
      refine vv_icmp_ge cx dG_lay_10 (tgt := 31) (by decide) (pc' := 13) rfl (fun c10 => ?_) (fun c10 => ?_)
      · refine vv_aload_n cx dG_lay_31 rfl rfl (pc' := 32) rfl ?_
        refine vv_dup cx dG_lay_32 rfl (pc' := 33) rfl ?_
        refine vv_getI cx (C := RG) (T := TG) (NN := 9) 3 2 (by decide) sh_3 rfl rfl (by decide) lyG ww_87 dG_lay_33 (pc' := 36) rfl ?_
        refine vv_aload_n cx dG_lay_36 rfl rfl (pc' := 37) rfl ?_
        refine vv_getR cx (C := RG) (T := TG) (NN := 9) 3 0 _ (by decide) sh_3 rfl rfl (by decide) lyG ww_85 dG_lay_37 (pc' := 40) rfl ?_
        refine vv_aload_n cx dG_lay_40 rfl rfl (pc' := 41) rfl ?_
        refine cc_Vi cx hX (tS_widthOf l g h1 kr a hkN (sh_row hkr.1 hkr.2) hs1 (fun i hi => by rw [hb kr (by simp; omega)]; exact ha i (by omega))) kS_widthOf ww_438 rfl rfl ⟨Nat.le_of_ble_eq_true rfl, Nat.le_of_ble_eq_true rfl⟩ 1 (by decide) sh_1 rfl rfl rfl rfl (Nat.le_of_ble_eq_true rfl) rfl ⟨Nat.le_of_ble_eq_true rfl, Nat.le_of_ble_eq_true rfl⟩ dG_lay_41 (pc' := 44) rfl (fun _ _ q => q.elim) (fun r41 h41 q41 => ?_)
        obtain ⟨rfl, rfl⟩ := q41
        refine vv_isub cx dG_lay_44 (pc' := 45) rfl ?_
        refine vv_putI cx (C := RG) (T := TG) (NN := 9) 3 2 (by decide) sh_3 rfl rfl (by decide) lyG tyG tyG_ok nmG rfl rfl rfl ww_87 dG_lay_45 (pc' := 48) rfl ?_
        refine vv_vret cx hr hlocks dG_lay_48 (Nat.le_of_ble_eq_true rfl) (Nat.le_of_ble_eq_true rfl) ?_
        refine ⟨(hb.mono (by decide)).trans (pq_but.up (by decide)), fun j hj => ?_, ?_, fun j hj => ?_⟩
        · rw [va_up_ne _ _ (by decide), hb1 j hj]
          congr 1
          rcases Nat.lt_or_ge j i with q | q
          · exact hlo j q
          · show b j = lf j - a j
            rw [hhi j q, ha0 j q hj]; rfl
        · rw [va_up_self, pk_us, hb 3 (by decide), hX9]
          exact pk_sub hXa
        · rw [va_up_self, pk_un hj, hb 3 (by decide)]
      · exact absurd (Int32.le_refl _) (by rw [hy, hn] at c10; exact c10)
    | succ d ih =>
      intro i y b h1 hy hi hb hb1 hlo hhi
      have hlt : i < n := by omega
      have hs1 := hs.but hb (by decide)
      have hn := hs1.1.2.1
      have hv := pq_in5 hy (show i < 5 by omega)
      have hcl := pq_clN hy (show i < 1000 by omega)
      refine vv_iload_n cx dG_lay_2 rfl rfl (pc' := 3) rfl ?_
      refine vv_aload_n cx dG_lay_3 rfl rfl (pc' := 4) rfl ?_
      refine vv_getR cx (C := RG) (T := TG) (NN := 9) 3 0 _ (by decide) sh_3 rfl rfl (by decide) lyG ww_85 dG_lay_4 (pc' := 7) rfl ?_
      refine vv_getI cx (C := RS) (T := TS) (NN := 5) 1 1 (by decide) sh_1 rfl rfl (by decide) lyS ww_34 dG_lay_7 (pc' := 10) rfl ?_
      refine vv_icmp_ge cx dG_lay_10 (tgt := 31) (by decide) (pc' := 13) rfl (fun c10 => ?_) (fun c10 => ?_)
      · exact absurd (by rw [hy, hn] at c10; exact c10) (nI_ge hlt (by omega))
      · refine vv_aload_n cx dG_lay_13 rfl rfl (pc' := 14) rfl ?_
        refine vv_getR cx (C := RG) (T := TG) (NN := 9) 3 1 _ (by decide) sh_3 rfl rfl (by decide) lyG ww_86 dG_lay_14 (pc' := 17) rfl ?_
        refine vv_iload_n cx dG_lay_17 rfl rfl (pc' := 18) rfl ?_
        refine vv_dup2 cx dG_lay_18 rfl rfl (pc' := 19) rfl ?_
        refine vv_iald cx _ (by decide) sh_13 hv dG_lay_19 (pc' := 20) rfl ?_
        refine vv_aload_n cx dG_lay_20 rfl rfl (pc' := 21) rfl ?_
        refine vv_iload_n cx dG_lay_21 rfl rfl (pc' := 22) rfl ?_
        refine vv_iald cx _ hkN (sh_row hkr.1 hkr.2) hv dG_lay_22 (pc' := 23) rfl ?_
        refine vv_isub cx dG_lay_23 (pc' := 24) rfl ?_
        rw [hcl, hb1 i (by omega), hhi i (Nat.le_refl _), show h1 kr i = nI (a i) by rw [hb kr (by simp; omega)]; exact ha i (by omega), pk_sub (hal i hlt)]
        refine vv_iast cx _ (by decide) sh_13 hv dG_lay_24 (pc' := 25) rfl ?_
        rw [hcl]
        refine vv_iinc cx dG_lay_25 rfl rfl (pc' := 28) rfl ?_
        refine vv_goto cx dG_lay_28 (tgt := 2) (by decide) ?_
        refine ih (i + 1) _ (va_up b i (lf i - a i)) _ (pq_nI1 hy) (by omega) (hb.trans (pq_but.up (by decide))) (hb1.put rfl) (fun j hj => ?_) (fun j hj => ?_)
        · by_cases e9 : j = i
          · subst e9; rw [va_up_self]
          · rw [va_up_ne _ _ e9]; exact hlo j (by omega)
        · rw [va_up_ne _ _ (by omega)]; exact hhi j (by omega)
  refine vv_iconst cx dG_lay_0 (v := 0) (by decide) (pc' := 1) rfl ?_
  refine vv_istore_n cx dG_lay_1 rfl (Nat.le_of_ble_eq_true rfl) (pc' := 2) rfl ?_
  exact loop n 0 _ lf _ nI_0.symm (by omega) pq_but.rfl' hl9 (fun j hj => absurd hj (by omega)) (fun j _ => rfl)
set_option maxRecDepth 100000 in
set_option maxHeartbeats 4000000 in
theorem tG_takeBack (l : Launch) (g : pq_G) (h : pq_H) {W n : Nat} {w nm pr : Nat → Nat} (kr X : Nat) (a lf : Nat → Nat) (hkr : 16 ≤ kr ∧ kr < 116) (hs : pq_st h W n w nm pr) (ha : pq_row h kr a) (hl9 : pq_row h 13 lf) (hX9 : h 3 2 = nI X) (ha0 : ∀ i, n ≤ i → i < 5 → a i = 0) : XV l yG_takeBack wG_takeBack rG_takeBack g 0 0 [.ref (g.2.2 3), .ref (g.2.2 kr)] h (fun h9 => pq_but [3, 13] h h9 ∧ pq_row h9 13 (fun i => lf i + a i) ∧ h9 3 2 = nI (X + pq_wd n w a) ∧ ∀ j, j ≠ 2 → h9 3 j = h 3 j) (pq_no) := by
  refine XV.of (cc := cG_takeBack) (maxL := 3) (ret := none) (by decide +kernel) (by simp [Value.category]) (Nat.le_of_ble_eq_true rfl) ?_
  intro p e s m below meth c cx hX hr hlocks hex
  have hn5 : n ≤ 5 := hs.2.1.2.2
  have hkN : kr < pq_N := by show kr < 125; omega
  have loop : ∀ (d i : Nat) (y : Int32) (b : Nat → Nat) (h1 : pq_H), y = nI i → i + d = n → pq_but [13] h h1 → pq_row h1 13 b → (∀ j, j < i → b j = lf j + a j) → (∀ j, i ≤ j → b j = lf j) → VV p l e rG_takeBack s m [.ref (g.2.2 3), .ref (g.2.2 kr)].toArray below meth c (vx_MQ below (pq_Qv g (fun h9 => pq_but [3, 13] h h9 ∧ pq_row h9 13 (fun i => lf i + a i) ∧ h9 3 2 = nI (X + pq_wd n w a) ∧ ∀ j, j ≠ 2 → h9 3 j = h 3 j) s.heap.size) (pq_Qx g (pq_no) s.heap.size) [.ref (g.2.2 3), .ref (g.2.2 kr)].toArray s 0 0 (pq_A g s.heap.size)) g 0 0 h1 2 [some (.ref (g.2.2 3)), some (.ref (g.2.2 kr)), some (.int y)] [] := by
    intro d
    induction d with
    | zero =>
      intro i y b h1 hy hi hb hb1 hlo hhi
      have e1 : i = n := by omega
      subst e1
      have hs1 := hs.but hb (by decide)
      have hn := hs1.1.2.1
      refine vv_iload_n cx dG_takeBack_2 rfl rfl (pc' := 3) rfl ?_
      refine vv_aload_n cx dG_takeBack_3 rfl rfl (pc' := 4) rfl ?_
      refine vv_getR cx (C := RG) (T := TG) (NN := 9) 3 0 _ (by decide) sh_3 rfl rfl (by decide) lyG ww_85 dG_takeBack_4 (pc' := 7) rfl ?_
      refine vv_getI cx (C := RS) (T := TS) (NN := 5) 1 1 (by decide) sh_1 rfl rfl (by decide) lyS ww_34 dG_takeBack_7 (pc' := 10) rfl ?_
      refine vv_icmp_ge cx dG_takeBack_10 (tgt := 31) (by decide) (pc' := 13) rfl (fun c10 => ?_) (fun c10 => ?_)
      · refine vv_aload_n cx dG_takeBack_31 rfl rfl (pc' := 32) rfl ?_
        refine vv_dup cx dG_takeBack_32 rfl (pc' := 33) rfl ?_
        refine vv_getI cx (C := RG) (T := TG) (NN := 9) 3 2 (by decide) sh_3 rfl rfl (by decide) lyG ww_87 dG_takeBack_33 (pc' := 36) rfl ?_
        refine vv_aload_n cx dG_takeBack_36 rfl rfl (pc' := 37) rfl ?_
        refine vv_getR cx (C := RG) (T := TG) (NN := 9) 3 0 _ (by decide) sh_3 rfl rfl (by decide) lyG ww_85 dG_takeBack_37 (pc' := 40) rfl ?_
        refine vv_aload_n cx dG_takeBack_40 rfl rfl (pc' := 41) rfl ?_
        refine cc_Vi cx hX (tS_widthOf l g h1 kr a hkN (sh_row hkr.1 hkr.2) hs1 (fun i hi => by rw [hb kr (by simp; omega)]; exact ha i (by omega))) kS_widthOf ww_438 rfl rfl ⟨Nat.le_of_ble_eq_true rfl, Nat.le_of_ble_eq_true rfl⟩ 1 (by decide) sh_1 rfl rfl rfl rfl (Nat.le_of_ble_eq_true rfl) rfl ⟨Nat.le_of_ble_eq_true rfl, Nat.le_of_ble_eq_true rfl⟩ dG_takeBack_41 (pc' := 44) rfl (fun _ _ q => q.elim) (fun r41 h41 q41 => ?_)
        obtain ⟨rfl, rfl⟩ := q41
        refine vv_iadd cx dG_takeBack_44 (pc' := 45) rfl ?_
        refine vv_putI cx (C := RG) (T := TG) (NN := 9) 3 2 (by decide) sh_3 rfl rfl (by decide) lyG tyG tyG_ok nmG rfl rfl rfl ww_87 dG_takeBack_45 (pc' := 48) rfl ?_
        refine vv_vret cx hr hlocks dG_takeBack_48 (Nat.le_of_ble_eq_true rfl) (Nat.le_of_ble_eq_true rfl) ?_
        refine ⟨(hb.mono (by decide)).trans (pq_but.up (by decide)), fun j hj => ?_, ?_, fun j hj => ?_⟩
        · rw [va_up_ne _ _ (by decide), hb1 j hj]
          congr 1
          rcases Nat.lt_or_ge j i with q | q
          · exact hlo j q
          · show b j = lf j + a j
            rw [hhi j q, ha0 j q hj]; rfl
        · rw [va_up_self, pk_us, hb 3 (by decide), hX9]
          exact nI_add _ _
        · rw [va_up_self, pk_un hj, hb 3 (by decide)]
      · exact absurd (Int32.le_refl _) (by rw [hy, hn] at c10; exact c10)
    | succ d ih =>
      intro i y b h1 hy hi hb hb1 hlo hhi
      have hlt : i < n := by omega
      have hs1 := hs.but hb (by decide)
      have hn := hs1.1.2.1
      have hv := pq_in5 hy (show i < 5 by omega)
      have hcl := pq_clN hy (show i < 1000 by omega)
      refine vv_iload_n cx dG_takeBack_2 rfl rfl (pc' := 3) rfl ?_
      refine vv_aload_n cx dG_takeBack_3 rfl rfl (pc' := 4) rfl ?_
      refine vv_getR cx (C := RG) (T := TG) (NN := 9) 3 0 _ (by decide) sh_3 rfl rfl (by decide) lyG ww_85 dG_takeBack_4 (pc' := 7) rfl ?_
      refine vv_getI cx (C := RS) (T := TS) (NN := 5) 1 1 (by decide) sh_1 rfl rfl (by decide) lyS ww_34 dG_takeBack_7 (pc' := 10) rfl ?_
      refine vv_icmp_ge cx dG_takeBack_10 (tgt := 31) (by decide) (pc' := 13) rfl (fun c10 => ?_) (fun c10 => ?_)
      · exact absurd (by rw [hy, hn] at c10; exact c10) (nI_ge hlt (by omega))
      · refine vv_aload_n cx dG_takeBack_13 rfl rfl (pc' := 14) rfl ?_
        refine vv_getR cx (C := RG) (T := TG) (NN := 9) 3 1 _ (by decide) sh_3 rfl rfl (by decide) lyG ww_86 dG_takeBack_14 (pc' := 17) rfl ?_
        refine vv_iload_n cx dG_takeBack_17 rfl rfl (pc' := 18) rfl ?_
        refine vv_dup2 cx dG_takeBack_18 rfl rfl (pc' := 19) rfl ?_
        refine vv_iald cx _ (by decide) sh_13 hv dG_takeBack_19 (pc' := 20) rfl ?_
        refine vv_aload_n cx dG_takeBack_20 rfl rfl (pc' := 21) rfl ?_
        refine vv_iload_n cx dG_takeBack_21 rfl rfl (pc' := 22) rfl ?_
        refine vv_iald cx _ hkN (sh_row hkr.1 hkr.2) hv dG_takeBack_22 (pc' := 23) rfl ?_
        refine vv_iadd cx dG_takeBack_23 (pc' := 24) rfl ?_
        rw [hcl, hb1 i (by omega), hhi i (Nat.le_refl _), show h1 kr i = nI (a i) by rw [hb kr (by simp; omega)]; exact ha i (by omega), nI_add]
        refine vv_iast cx _ (by decide) sh_13 hv dG_takeBack_24 (pc' := 25) rfl ?_
        rw [hcl]
        refine vv_iinc cx dG_takeBack_25 rfl rfl (pc' := 28) rfl ?_
        refine vv_goto cx dG_takeBack_28 (tgt := 2) (by decide) ?_
        refine ih (i + 1) _ (va_up b i (lf i + a i)) _ (pq_nI1 hy) (by omega) (hb.trans (pq_but.up (by decide))) (hb1.put rfl) (fun j hj => ?_) (fun j hj => ?_)
        · by_cases e9 : j = i
          · subst e9; rw [va_up_self]
          · rw [va_up_ne _ _ e9]; exact hlo j (by omega)
        · rw [va_up_ne _ _ (by omega)]; exact hhi j (by omega)
  refine vv_iconst cx dG_takeBack_0 (v := 0) (by decide) (pc' := 1) rfl ?_
  refine vv_istore_n cx dG_takeBack_1 rfl (Nat.le_of_ble_eq_true rfl) (pc' := 2) rfl ?_
  exact loop n 0 _ lf _ nI_0.symm (by omega) pq_but.rfl' hl9 (fun j hj => absurd hj (by omega)) (fun j _ => rfl)
set_option maxRecDepth 100000 in
set_option maxHeartbeats 4000000 in
theorem tG_takeAsBest (l : Launch) (g : pq_G) (h : pq_H) (k : Nat) (hk : k ≤ 30) : XV l yG_takeAsBest wG_takeAsBest rG_takeAsBest g 0 0 [.ref (g.2.2 3), .int (nI k)] h (fun h9 => (∀ q, q ≠ 3 → ¬ (46 ≤ q ∧ q < 76) → h9 q = h q) ∧ (∀ j, j < k → ∀ i, i < 5 → h9 (46 + j) i = h (16 + j) i) ∧ h9 3 5 = nI k ∧ ∀ j, j ≠ 5 → h9 3 j = h 3 j) (pq_no) := by
  refine XV.of (cc := cG_takeAsBest) (maxL := 3) (ret := none) (by decide +kernel) (by simp [Value.category]) (Nat.le_of_ble_eq_true rfl) ?_
  intro p e s m below meth c cx hX hr hlocks hex
  have loop : ∀ (d i : Nat) (y : Int32) (h1 : pq_H), y = nI i → i + d = k → (∀ q, ¬ (46 ≤ q ∧ q < 76) → h1 q = h q) → (∀ j, j < i → ∀ x, x < 5 → h1 (46 + j) x = h (16 + j) x) → VV p l e rG_takeAsBest s m [.ref (g.2.2 3), .int (nI k)].toArray below meth c (vx_MQ below (pq_Qv g (fun h9 => (∀ q, q ≠ 3 → ¬ (46 ≤ q ∧ q < 76) → h9 q = h q) ∧ (∀ j, j < k → ∀ i, i < 5 → h9 (46 + j) i = h (16 + j) i) ∧ h9 3 5 = nI k ∧ ∀ j, j ≠ 5 → h9 3 j = h 3 j) s.heap.size) (pq_Qx g (pq_no) s.heap.size) [.ref (g.2.2 3), .int (nI k)].toArray s 0 0 (pq_A g s.heap.size)) g 0 0 h1 2 [some (.ref (g.2.2 3)), some (.int (nI k)), some (.int y)] [] := by
    intro d
    induction d with
    | zero =>
      intro i y h1 hy hi hb hc
      have e1 : i = k := by omega
      subst e1
      refine vv_iload_n cx dG_takeAsBest_2 rfl rfl (pc' := 3) rfl ?_
      refine vv_iload_n cx dG_takeAsBest_3 rfl rfl (pc' := 4) rfl ?_
      refine vv_icmp_ge cx dG_takeAsBest_4 (tgt := 37) (by decide) (pc' := 7) rfl (fun c4 => ?_) (fun c4 => ?_)
      · refine vv_aload_n cx dG_takeAsBest_37 rfl rfl (pc' := 38) rfl ?_
        refine vv_iload_n cx dG_takeAsBest_38 rfl rfl (pc' := 39) rfl ?_
        refine vv_putI cx (C := RG) (T := TG) (NN := 9) 3 5 (by decide) sh_3 rfl rfl (by decide) lyG tyG tyG_ok nmG rfl rfl rfl ww_91 dG_takeAsBest_39 (pc' := 42) rfl ?_
        refine vv_vret cx hr hlocks dG_takeAsBest_42 (Nat.le_of_ble_eq_true rfl) (Nat.le_of_ble_eq_true rfl) ?_
        refine ⟨fun q q1 q2 => ?_, fun j hj x hx => ?_, ?_, fun j hj => ?_⟩
        · rw [va_up_ne _ _ q1]; exact hb q q2
        · rw [va_up_ne _ _ (by omega)]; exact hc j hj x hx
        · rw [va_up_self, pk_us]
        · rw [va_up_self, pk_un hj, hb 3 (by decide)]
      · exact absurd (Int32.le_refl _) (by rw [hy] at c4; exact c4)
    | succ d ih =>
      intro i y h1 hy hi hb hc
      have hlt : i < k := by omega
      have hv : vp_in y 30 := by rw [hy]; exact vp_in_nI (by omega) (by decide)
      have hcl := pq_clN hy (show i < 1000 by omega)
      have r0 : 16 + i < pq_N := by show 16 + i < 125; omega
      have r1 : 46 + i < pq_N := by show 46 + i < 125; omega
      refine vv_iload_n cx dG_takeAsBest_2 rfl rfl (pc' := 3) rfl ?_
      refine vv_iload_n cx dG_takeAsBest_3 rfl rfl (pc' := 4) rfl ?_
      refine vv_icmp_ge cx dG_takeAsBest_4 (tgt := 37) (by decide) (pc' := 7) rfl (fun c4 => ?_) (fun c4 => ?_)
      · exact absurd (by rw [hy] at c4; exact c4) (nI_ge hlt (by omega))
      · refine vv_iload_n cx dG_takeAsBest_7 rfl rfl (pc' := 8) rfl ?_
        refine vv_bipush cx dG_takeAsBest_8 (v := 30) (by decide) (pc' := 10) rfl ?_
        refine vv_icmp_ge cx dG_takeAsBest_10 (tgt := 37) (by decide) (pc' := 13) rfl (fun c10 => ?_) (fun c10 => ?_)
        · exact absurd (by rw [hy] at c10; exact c10) (nI_ge (b := 30) (by omega) (by decide))
        · refine vv_aload_n cx dG_takeAsBest_13 rfl rfl (pc' := 14) rfl ?_
          refine vv_getR cx (C := RG) (T := TG) (NN := 9) 3 3 _ (by decide) sh_3 rfl rfl (by decide) lyG ww_88 dG_takeAsBest_14 (pc' := 17) rfl ?_
          refine vv_iload_n cx dG_takeAsBest_17 rfl rfl (pc' := 18) rfl ?_
          refine vv_aaldq cx _ (by decide) sh_5 (show 16 + y.toNatClampNeg = 16 + i by rw [hcl]) hv dG_takeAsBest_18 (pc' := 19) rfl ?_
          refine vv_iconst cx dG_takeAsBest_19 (v := 0) (by decide) (pc' := 20) rfl ?_
          refine vv_aload_n cx dG_takeAsBest_20 rfl rfl (pc' := 21) rfl ?_
          refine vv_getR cx (C := RG) (T := TG) (NN := 9) 3 4 _ (by decide) sh_3 rfl rfl (by decide) lyG ww_89 dG_takeAsBest_21 (pc' := 24) rfl ?_
          refine vv_iload_n cx dG_takeAsBest_24 rfl rfl (pc' := 25) rfl ?_
          refine vv_aaldq cx _ (by decide) sh_6 (show 46 + y.toNatClampNeg = 46 + i by rw [hcl]) hv dG_takeAsBest_25 (pc' := 26) rfl ?_
          refine vv_iconst cx dG_takeAsBest_26 (v := 0) (by decide) (pc' := 27) rfl ?_
          refine vv_iconst cx dG_takeAsBest_27 (v := 5) (by decide) (pc' := 28) rfl ?_
          refine vv_copy cx _ _ r0 r1 (sh_row (by omega) (by omega)) (sh_row (by omega) (by omega)) (by decide) (by decide) (by decide) (by decide) (by decide) ww_414 ww_192 ww_191 ww_14 (Nat.le_of_ble_eq_true rfl) (by decide) rfl dG_takeAsBest_28 (pc' := 31) rfl ?_
          refine vv_iinc cx dG_takeAsBest_31 rfl rfl (pc' := 34) rfl ?_
          refine vv_goto cx dG_takeAsBest_34 (tgt := 2) (by decide) ?_
          refine ih (i + 1) _ _ (pq_nI1 hy) (by omega) (fun q hq => ?_) (fun j hj x hx => ?_)
          · rw [va_up_ne _ _ (by omega)]; exact hb q hq
          · by_cases e9 : j = i
            · subst e9
              rw [va_up_self, pq_cpy5 hx, hb (16 + j) (by omega)]
            · rw [va_up_ne _ _ (by omega)]; exact hc j (by omega) x hx
  refine vv_iconst cx dG_takeAsBest_0 (v := 0) (by decide) (pc' := 1) rfl ?_
  refine vv_istore_n cx dG_takeAsBest_1 rfl (Nat.le_of_ble_eq_true rfl) (pc' := 2) rfl ?_
  exact loop k 0 _ _ nI_0.symm (by omega) (fun q _ => rfl) (fun j hj => absurd hj (by omega))

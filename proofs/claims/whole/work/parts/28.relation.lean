/-! part 28: class and reference side by side -/
/-- the class's cells show the abstract state -/
def pq_CR (h : pq_H) (W n : Nat) (w nm pr : Nat → Nat) (bs : Option Nat) (best : Nat → Nat → Nat) (ask sp sc : Int32) (c : Nat) (kp : Nat → Nat → Nat) (tm dy : Nat → Int32) : Prop :=
  pq_st h W n w nm pr ∧ pq_dn h W n w nm pr ∧ pq_zs h n ∧ pq_de h n bs best ∧ h 3 6 = ask ∧ (¬ ask = 0 → h 3 7 = sp ∧ h 3 8 = sc) ∧ pq_so h c kp ∧ (∀ j, j < c → pq_sm n (kp j)) ∧ ∀ j, j < c → h 14 j = tm j ∧ h 15 j = dy j
/-- the reference's cells show it -/
def pq_MR (h : pq_H) (W n : Nat) (w nm pr : Nat → Nat) (bs : Option Nat) (best : Nat → Nat → Nat) (ask sp sc : Int32) (c : Nat) (kp : Nat → Nat → Nat) (tm dy : Nat → Int32) : Prop :=
  pq_mo h W n w nm pr ∧ pq_md h bs best ∧ h 116 10 = ask ∧ (¬ ask = 0 → h 116 11 = sp ∧ h 116 12 = sc) ∧ pq_ms h c kp ∧ ∀ j, j < c → h 123 (7 * j + 5) = tm j ∧ h 123 (7 * j + 6) = dy j
def pq_R (h : pq_H) : Prop := ∃ (W n : Nat) (w nm pr : Nat → Nat) (bs : Option Nat) (best : Nat → Nat → Nat) (ask sp sc : Int32) (c : Nat) (kp : Nat → Nat → Nat) (tm dy : Nat → Int32), pq_CR h W n w nm pr bs best ask sp sc c kp tm dy ∧ pq_MR h W n w nm pr bs best ask sp sc c kp tm dy
section REL
variable {h h1 h2 : pq_H} {W n : Nat} {w nm pr : Nat → Nat} {bs : Option Nat} {best : Nat → Nat → Nat} {ask sp sc : Int32} {c : Nat} {kp : Nat → Nat → Nat} {tm dy : Nat → Int32}
theorem pq_dk.of (hd : pq_dk h W n w nm pr) (e2 : h1 2 = h 2) (e11 : h1 11 = h 11) : pq_dk h1 W n w nm pr := ⟨by rw [e2]; exact hd.1, by rw [e2]; exact hd.2.1, hd.2.2.of e11⟩
theorem pq_dn.of (hd : pq_dn h W n w nm pr) (e2 : h1 2 = h 2) (e11 : h1 11 = h 11) (e12 : h1 12 = h 12) : pq_dn h1 W n w nm pr := ⟨hd.1.of e12, hd.2.elim (fun q => Or.inl (q.of e2 e11)) (fun q => Or.inr (by rw [e2]; exact q))⟩
theorem pq_zs.rows (hz : pq_zs h n) (e : ∀ j, j < 30 → h1 (16 + j) = h (16 + j)) : pq_zs h1 n := fun j hj => (hz j hj).of (e j hj)
theorem pq_de.of (hd : pq_de h n bs best) (e3 : h1 3 = h 3) (e : ∀ j, j < 30 → h1 (46 + j) = h (46 + j)) : pq_de h1 n bs best := ⟨by rw [e3]; exact hd.1, fun b hb => ⟨(hd.2 b hb).1, (hd.2 b hb).2.1, fun j hj => ((hd.2 b hb).2.2 j hj).of (e j (by have := (hd.2 b hb).1; omega))⟩⟩
theorem pq_so.of (hs : pq_so h c kp) (e4 : h1 4 = h 4) (e : ∀ j, j < 40 → h1 (76 + j) = h (76 + j)) : pq_so h1 c kp := ⟨by rw [e4]; exact hs.1, hs.2.1, fun j hj => ⟨(hs.2.2 j hj).1.of (e j (by have := hs.2.1; omega)), (hs.2.2 j hj).2⟩⟩
theorem pq_CR.of (hc : pq_CR h W n w nm pr bs best ask sp sc c kp tm dy) (e : ∀ k, k < 116 → h1 k = h k) : pq_CR h1 W n w nm pr bs best ask sp sc c kp tm dy := by
  obtain ⟨a1, a2, a3, a4, a5, a6, a7, a8, a9⟩ := hc
  refine ⟨a1.of (e 1 (by decide)) (e 8 (by decide)) (e 9 (by decide)) (e 10 (by decide)), a2.of (e 2 (by decide)) (e 11 (by decide)) (e 12 (by decide)), a3.rows (fun j hj => e _ (by omega)), a4.of (e 3 (by decide)) (fun j hj => e _ (by omega)), ?_, ?_, a7.of (e 4 (by decide)) (fun j hj => e _ (by omega)), a8, ?_⟩
  · rw [e 3 (by decide)]; exact a5
  · rw [e 3 (by decide)]; exact a6
  · intro j hj
    rw [e 14 (by decide), e 15 (by decide)]
    exact a9 j hj
theorem pq_md.of (hd : pq_md h bs best) (e : h1 116 8 = h 116 8) (e2 : h1 122 = h 122) : pq_md h1 bs best := ⟨by rw [e]; exact hd.1, fun b hb => ⟨(hd.2 b hb).1, fun j hj => ((hd.2 b hb).2 j hj).of (fun i _ => by rw [e2])⟩⟩
theorem pq_ms.of (hd : pq_ms h c kp) (e : h1 116 13 = h 116 13) (e2 : h1 123 = h 123) : pq_ms h1 c kp := ⟨by rw [e]; exact hd.1, hd.2.1, fun j hj => (hd.2.2 j hj).of (fun i _ => by rw [e2])⟩
theorem pq_MR.of (hm : pq_MR h W n w nm pr bs best ask sp sc c kp tm dy) (e0 : ∀ j, j ≠ 0 → h1 116 j = h 116 j) (e7 : h1 117 = h 117) (e8 : h1 118 = h 118) (e9 : h1 119 = h 119) (e12 : h1 122 = h 122) (e13 : h1 123 = h 123) : pq_MR h1 W n w nm pr bs best ask sp sc c kp tm dy := by
  obtain ⟨a1, a2, a3, a4, a5, a6⟩ := hm
  refine ⟨a1.of (e0 1 (by decide)) (e0 2 (by decide)) e7 e8 e9, a2.of (e0 8 (by decide)) e12, ?_, ?_, a5.of (e0 13 (by decide)) e13, ?_⟩
  · rw [e0 10 (by decide)]; exact a3
  · rw [e0 11 (by decide), e0 12 (by decide)]; exact a4
  · rw [e13]; exact a6
/-- the reference's cells are as they were -/
theorem pq_MR.up (hm : pq_MR h W n w nm pr bs best ask sp sc c kp tm dy) (e : ∀ k, 116 ≤ k → k ≠ 124 → h1 k = h k) : pq_MR h1 W n w nm pr bs best ask sp sc c kp tm dy :=
  hm.of (fun j _ => by rw [e 116 (by decide) (by decide)]) (e 117 (by decide) (by decide)) (e 118 (by decide) (by decide)) (e 119 (by decide) (by decide)) (e 122 (by decide) (by decide)) (e 123 (by decide) (by decide))
theorem pq_MR.but {L : List Nat} (hm : pq_MR h W n w nm pr bs best ask sp sc c kp tm dy) (e : pq_but L h h1) (hL : ∀ k ∈ L, k < 116) : pq_MR h1 W n w nm pr bs best ask sp sc c kp tm dy :=
  hm.up (fun k h1 _ => e k (fun q => by have := hL k q; omega))
theorem pq_MR.out {x : Int32} (hm : pq_MR h W n w nm pr bs best ask sp sc c kp tm dy) : pq_MR (va_up h 124 (upd (h 124) 0 x)) W n w nm pr bs best ask sp sc c kp tm dy :=
  hm.up (fun k _ q => va_up_ne _ _ q)
theorem pq_CR.out {x : Int32} (hm : pq_CR h W n w nm pr bs best ask sp sc c kp tm dy) : pq_CR (va_up h 124 (upd (h 124) 0 x)) W n w nm pr bs best ask sp sc c kp tm dy :=
  hm.of (fun k q => va_up_ne _ _ (by omega))
theorem pq_MR.th {t : Int32} (hm : pq_MR h W n w nm pr bs best ask sp sc c kp tm dy) : pq_MR (pq_th t h) W n w nm pr bs best ask sp sc c kp tm dy :=
  hm.of (fun j hj => pq_th_j hj) (pq_th_ne (by decide)) (pq_th_ne (by decide)) (pq_th_ne (by decide)) (pq_th_ne (by decide)) (pq_th_ne (by decide))
theorem pq_CR.th {t : Int32} (hm : pq_CR h W n w nm pr bs best ask sp sc c kp tm dy) : pq_CR (pq_th t h) W n w nm pr bs best ask sp sc c kp tm dy :=
  hm.of (fun k q => pq_th_ne (by omega))
theorem pq_MR.fc (hm : pq_MR h W n w nm pr bs best ask sp sc c kp tm dy) (e : pq_fc h h1) : pq_MR h1 W n w nm pr bs best ask sp sc c kp tm dy :=
  hm.of (fun j _ => by rw [e.1 116 (by decide) (by decide)]) (e.1 117 (by decide) (by decide)) (e.1 118 (by decide) (by decide)) (e.1 119 (by decide) (by decide)) (e.1 122 (by decide) (by decide)) (e.1 123 (by decide) (by decide))
theorem pq_CR.fc (hm : pq_CR h W n w nm pr bs best ask sp sc c kp tm dy) (e : pq_fc h h1) : pq_CR h1 W n w nm pr bs best ask sp sc c kp tm dy := hm.of (fun k q => e.1 k (by omega) (by omega))
/-- the column asked: the cache alone may change -/
theorem pq_CR.col (hc : pq_CR h W n w nm pr bs best ask sp sc c kp tm dy) (e : pq_but [2, 11, 12] h h1) (hz : pq_z h1 12 n) (hk : pq_dk h1 W n w nm pr) : pq_CR h1 W n w nm pr bs best ask sp sc c kp tm dy := by
  obtain ⟨a1, a2, a3, a4, a5, a6, a7, a8, a9⟩ := hc
  have e' : ∀ k, k ≠ 2 → k ≠ 11 → k ≠ 12 → h1 k = h k := fun k q1 q2 q3 => e k (by simp [q1, q2, q3])
  refine ⟨a1.but e (by decide), ⟨hz, Or.inl hk⟩, a3.rows (fun j hj => e' _ (by omega) (by omega) (by omega)), a4.of (e' 3 (by decide) (by decide) (by decide)) (fun j hj => e' _ (by omega) (by omega) (by omega)), ?_, ?_, a7.of (e' 4 (by decide) (by decide) (by decide)) (fun j hj => e' _ (by omega) (by omega) (by omega)), a8, ?_⟩
  · rw [e' 3 (by decide) (by decide) (by decide)]; exact a5
  · rw [e' 3 (by decide) (by decide) (by decide)]; exact a6
  · intro j hj
    rw [e' 14 (by decide) (by decide) (by decide), e' 15 (by decide) (by decide) (by decide)]
    exact a9 j hj
theorem pq_z.mono {k m : Nat} (hz : pq_z h k n) (q : n ≤ m) : pq_z h k m := by
  obtain ⟨a, q1, q2⟩ := hz
  exact ⟨a, q1, fun j hj h5 => q2 j (by omega) h5⟩
theorem pq_sm.mono {m : Nat} {a : Nat → Nat} (hs : pq_sm n a) (q : n ≤ m) : pq_sm m a := fun i hi => ⟨(hs i hi).1, fun z => (hs i hi).2 (by omega)⟩
/-- the orders or the sheet have changed: cache and design are gone -/
theorem pq_CR.forget {W' n' : Nat} {w' nm' pr' : Nat → Nat} (hc : pq_CR h W n w nm pr bs best ask sp sc c kp tm dy) (hn : n ≤ n') (hst : pq_st h1 W' n' w' nm' pr') (e : pq_but [1, 2, 3, 8, 9, 10] h h1) (h24 : h1 2 4 = 0) (h35 : h1 3 5 = -1) (h36 : h1 3 6 = 0) : pq_CR h1 W' n' w' nm' pr' none best 0 sp sc c kp tm dy := by
  obtain ⟨a1, a2, a3, a4, a5, a6, a7, a8, a9⟩ := hc
  have e' : ∀ k, 10 < k ∨ k = 4 → h1 k = h k := fun k q => e k (by simp; omega)
  refine ⟨hst, ⟨(a2.1.of (e' 12 (by decide))).mono hn, Or.inr h24⟩, fun j hj => ((a3 j hj).of (e' _ (by omega))).mono hn, ⟨h35, fun b hb => nomatch hb⟩, h36, fun q => absurd rfl q, a7.of (e' 4 (by decide)) (fun j hj => e' _ (by omega)), fun j hj => (a8 j hj).mono hn, ?_⟩
  intro j hj
  rw [e' 14 (by decide), e' 15 (by decide)]
  exact a9 j hj
/-- a call's answers agree, and the states after it -/
def pq_go (k9 r : Int32) (h2 : pq_H) : Prop := h2 116 0 = k9 ∧ (k9 = 0 → h2 124 0 = r) ∧ pq_R h2
theorem pq_go.bad {t r : Int32} (hc : pq_CR h W n w nm pr bs best ask sp sc c kp tm dy) (hm : pq_MR h W n w nm pr bs best ask sp sc c kp tm dy) (ht : ¬ t = 0) : pq_go t r (pq_th t h) :=
  ⟨pq_th_0, fun q => absurd q ht, _, _, _, _, _, _, _, _, _, _, _, _, _, _, hc.th, hm.th⟩
theorem pq_go.ok {r : Int32} (hc : pq_CR h W n w nm pr bs best ask sp sc c kp tm dy) (hm : pq_MR h W n w nm pr bs best ask sp sc c kp tm dy) (e0 : h 116 0 = 0) (e1 : h 124 0 = r) : pq_go 0 r h :=
  ⟨e0, fun _ => e1, _, _, _, _, _, _, _, _, _, _, _, _, _, _, hc, hm⟩
theorem pq_out0 {x : Int32} : va_up h 124 (upd (h 124) 0 x) 124 0 = x := by rw [va_up_self, pk_us]
theorem pq_nI_one {a b : Nat} {x : Int32} (h1 : x = nI a) (h2 : x = nI b) (ha : a < 2 ^ 31) (hb : b < 2 ^ 31) : a = b := (nI_eq ha hb).mp (h1.symm.trans h2)
end REL

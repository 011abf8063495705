/-! part 10: designing, pure: a machine that takes a pattern, or takes one back, a turn -/
theorem pq_sum_zero {f : Nat → Nat} : ∀ {n : Nat}, pq_sum f n = 0 → ∀ i, i < n → f i = 0
  | 0, _, i, hi => absurd hi (by omega)
  | n + 1, h, i, hi => by
    have h1 : pq_sum f n + f n = 0 := h
    rcases Nat.lt_or_ge i n with q | q
    · exact pq_sum_zero (by omega) i q
    · rw [show i = n by omega]; omega
theorem pq_sum_all0 {f : Nat → Nat} : ∀ {n : Nat}, (∀ i, i < n → f i = 0) → pq_sum f n = 0
  | 0, _ => rfl
  | n + 1, h => by
    show pq_sum f n + f n = 0
    rw [pq_sum_all0 (fun i hi => h i (by omega)), h n (by omega)]
theorem pq_sum_sub {f g : Nat → Nat} : ∀ {n : Nat}, (∀ i, i < n → g i ≤ f i) → pq_sum (fun i => f i - g i) n + pq_sum g n = pq_sum f n
  | 0, _ => rfl
  | n + 1, h => by
    have h1 := pq_sum_sub (f := f) (g := g) (n := n) (fun i hi => h i (by omega))
    have h2 := h n (by omega)
    show (pq_sum (fun i => f i - g i) n + (f n - g n)) + (pq_sum g n + g n) = pq_sum f n + f n
    omega
theorem pq_sum_pos {f : Nat → Nat} {z : Nat} : ∀ {n : Nat}, z < n → f z ≤ pq_sum f n
  | 0, h => absurd h (by omega)
  | n + 1, h => by
    show f z ≤ pq_sum f n + f n
    rcases Nat.lt_or_ge z n with q | q
    · have := pq_sum_pos (f := f) q; omega
    · rw [show z = n by omega]; omega
/-- what is left under the first k rows -/
def pq_L (num : Nat → Nat) (rows : Nat → Nat → Nat) (k i : Nat) : Nat := num i - pq_sum (fun j => rows j i) k
def pq_wd (n : Nat) (w a : Nat → Nat) : Nat := pq_sum (fun i => a i * w i) n
def pq_lowF (th : Nat → Nat) : Nat → Nat → Nat
  | 0, _ => 5
  | f + 1, i => if 0 < th i then i else pq_lowF th f (i + 1)
def pq_low (th : Nat → Nat) (n : Nat) : Nat := pq_lowF th n 0
theorem pq_L0 (num : Nat → Nat) (rows : Nat → Nat → Nat) : pq_L num rows 0 = num := rfl
theorem pq_L_succ {num : Nat → Nat} {rows : Nat → Nat → Nat} {k i : Nat} : pq_L num rows (k + 1) i = pq_L num rows k i - rows k i := by
  show num i - (pq_sum (fun j => rows j i) k + rows k i) = num i - pq_sum (fun j => rows j i) k - rows k i
  omega
theorem pq_L_up {num : Nat → Nat} {rows : Nat → Nat → Nat} {k j : Nat} {b : Nat → Nat} (h : j ≤ k) : pq_L num (va_up rows k b) j = pq_L num rows j := by
  funext i
  show num i - pq_sum (fun x => va_up rows k b x i) j = num i - pq_sum (fun x => rows x i) j
  rw [pq_sum_congr (g := fun x => rows x i) (fun x hx => by show va_up rows k b x i = rows x i; rw [va_up_ne _ _ (by omega)])]
theorem pq_L_le {num : Nat → Nat} {rows : Nat → Nat → Nat} {k i : Nat} : pq_L num rows k i ≤ num i := Nat.sub_le _ _
theorem pq_lowF_spec {th : Nat → Nat} : ∀ (f i : Nat), (pq_lowF th f i = 5 ∧ ∀ j, i ≤ j → j < i + f → th j = 0) ∨ (i ≤ pq_lowF th f i ∧ pq_lowF th f i < i + f ∧ 0 < th (pq_lowF th f i) ∧ ∀ j, i ≤ j → j < pq_lowF th f i → th j = 0)
  | 0, i => Or.inl ⟨rfl, fun j h1 h2 => absurd h2 (by omega)⟩
  | f + 1, i => by
    by_cases h : 0 < th i
    · have e : pq_lowF th (f + 1) i = i := if_pos h
      rw [e]
      exact Or.inr ⟨Nat.le_refl _, by omega, h, fun j h1 h2 => absurd h1 (by omega)⟩
    · have e : pq_lowF th (f + 1) i = pq_lowF th f (i + 1) := if_neg h
      rw [e]
      rcases pq_lowF_spec (th := th) f (i + 1) with ⟨q1, q2⟩ | ⟨q1, q2, q3, q4⟩
      · refine Or.inl ⟨q1, fun j h1 h2 => ?_⟩
        rcases Nat.lt_or_ge i j with z | z
        · exact q2 j z (by omega)
        · rw [show j = i by omega]; omega
      · refine Or.inr ⟨by omega, by omega, q3, fun j h1 h2 => ?_⟩
        rcases Nat.lt_or_ge i j with z | z
        · exact q4 j z h2
        · rw [show j = i by omega]; omega
theorem pq_low_spec {th : Nat → Nat} {n : Nat} : (pq_low th n = 5 ∧ ∀ j, j < n → th j = 0) ∨ (pq_low th n < n ∧ 0 < th (pq_low th n) ∧ ∀ j, j < pq_low th n → th j = 0) := by
  rcases pq_lowF_spec (th := th) n 0 with ⟨q1, q2⟩ | ⟨q1, q2, q3, q4⟩
  · exact Or.inl ⟨q1, fun j h => q2 j (Nat.zero_le _) (by omega)⟩
  · exact Or.inr ⟨by show pq_lowF th n 0 < n; omega, q3, fun j h => q4 j (Nat.zero_le _) h⟩
theorem pq_fillS_at {w th : Nat → Nat} : ∀ (s : Nat) (a : Nat → Nat) (i R z : Nat), i ≤ z → z < i + s → (∀ j, i ≤ j → j < z → th j = 0) → pq_fillS w th s a i R z = min (th z) (R / w z)
  | 0, a, i, R, z, h1, h2, _ => absurd h2 (by omega)
  | s + 1, a, i, R, z, h1, h2, h3 => by
    show pq_fillS w th s _ _ _ z = _
    rcases Nat.lt_or_ge i z with q | q
    · have h0 : min (th i) (R / w i) = 0 := by rw [h3 i (Nat.le_refl _) q]; exact Nat.zero_min _
      rw [h0, Nat.zero_mul, Nat.sub_zero]
      exact pq_fillS_at s _ (i + 1) R z q (by omega) (fun j a1 a2 => h3 j (by omega) a2)
    · have e : z = i := by omega
      subst e
      rw [pq_fillS_out _ _ _ _ _ (by omega), va_up_self]
theorem pq_first_low {W n : Nat} {w th : Nat → Nat} {z : Nat} (hz : z < n) (h1 : 1 ≤ w z) (hw : w z ≤ W) (ht : 0 < th z) (h0 : ∀ j, j < z → th j = 0) : 1 ≤ pq_first W n w th z := by
  show 1 ≤ pq_fillS w th (n - 0) _ 0 (W - 0) z
  rw [pq_fillS_at _ _ _ _ _ (Nat.zero_le _) (by omega) (fun j _ h => h0 j h)]
  have : 1 ≤ (W - 0) / w z := (Nat.le_div_iff_mul_le (by omega)).mpr (by omega)
  exact Nat.le_min.mpr ⟨ht, this⟩
theorem pq_next_low {W n : Nat} {w th a b : Nat → Nat} {z : Nat} (ha : 1 ≤ a z) (h0 : ∀ j, j < z → a j = 0) : ∀ {m : Nat}, pq_next W n w th a z m = some b → 1 ≤ b z
  | 0, h => by cases h
  | m + 1, h => by
    by_cases hlt : (if m = z then 1 else 0) < a m
    · rw [pq_next, if_pos hlt] at h
      cases h
      rcases Nat.lt_or_ge m z with q | q
      · rw [h0 m q] at hlt; exact absurd hlt (by omega)
      · rw [pq_fill, pq_fillS_out _ _ _ _ _ (by omega)]
        by_cases e : m = z
        · subst e
          rw [if_pos rfl] at hlt
          rw [va_up_self]; omega
        · rw [va_up_ne _ _ (fun q => e q.symm)]; exact ha
    · rw [pq_next, if_neg hlt] at h
      exact pq_next_low ha h0 h
/-- mode (0 a pattern is to be taken, 1 none is, 2 the end), sheets, rows, best sheets, best rows, steps, spent -/
abbrev pq_D : Type := Nat × Nat × (Nat → Nat → Nat) × Option Nat × (Nat → Nat → Nat) × Nat × Nat
def pq_bound (W n : Nat) (w lf : Nat → Nat) (k : Nat) : Option Nat → Prop
  | none => False
  | some b => b ≤ k + pq_up (pq_wd n w lf) W
def pq_boundb (W n : Nat) (w lf : Nat → Nat) (k : Nat) : Option Nat → Bool
  | none => false
  | some b => decide (b ≤ k + pq_up (pq_wd n w lf) W)
theorem pq_boundb_iff {W n : Nat} {w lf : Nat → Nat} {k : Nat} {bs : Option Nat} : pq_boundb W n w lf k bs = true ↔ pq_bound W n w lf k bs := by
  cases bs <;> simp [pq_boundb, pq_bound]
def pq_open (W n : Nat) (w num : Nat → Nat) (k : Nat) (rows : Nat → Nat → Nat) (bs : Option Nat) (best : Nat → Nat → Nat) (st sp : Nat) : pq_D :=
  if pq_boundb W n w (pq_L num rows k) k bs = true then (1, k, rows, bs, best, st, sp)
  else if pq_wd n w (pq_L num rows k) = 0 then (1, k, rows, some k, rows, st, sp)
  else (0, k, va_up rows k (pq_first W n w (pq_L num rows k)), bs, best, st, sp)
def pq_back (W n : Nat) (w num : Nat → Nat) (k : Nat) (rows : Nat → Nat → Nat) (bs : Option Nat) (best : Nat → Nat → Nat) (st sp : Nat) : pq_D :=
  match pq_next W n w (pq_L num rows k) (rows k) (pq_low (pq_L num rows k) n) n with
  | some b => (0, k, va_up rows k b, bs, best, st, sp)
  | none => (1, k, rows, bs, best, st, sp)
def pq_stp (W n : Nat) (w num : Nat → Nat) (most : Nat) : pq_D → pq_D
  | (0, k, rows, bs, best, st, sp) => if most ≤ st then (2, k, rows, bs, best, st, 1) else pq_open W n w num (k + 1) rows bs best (st + 1) sp
  | (1, 0, rows, bs, best, st, sp) => (2, 0, rows, bs, best, st, sp)
  | (1, k + 1, rows, bs, best, st, sp) => pq_back W n w num k rows bs best st sp
  | d => d
def pq_it (f : pq_D → pq_D) : Nat → pq_D → pq_D
  | 0, d => d
  | n + 1, d => f (pq_it f n d)
def pq_start (W n : Nat) (w num : Nat → Nat) : pq_D := pq_open W n w num 0 (fun _ _ => 0) none (fun _ _ => 0) 0 0
def pq_reach (W n : Nat) (w num : Nat → Nat) (most : Nat) (d : pq_D) : Prop := ∃ j, pq_it (pq_stp W n w num most) j (pq_start W n w num) = d
theorem pq_reach.stp {W n : Nat} {w num : Nat → Nat} {most : Nat} {d : pq_D} (h : pq_reach W n w num most d) : pq_reach W n w num most (pq_stp W n w num most d) := by
  obtain ⟨j, rfl⟩ := h
  exact ⟨j + 1, rfl⟩
theorem pq_it_add {f : pq_D → pq_D} {d e : pq_D} (he : f e = e) : ∀ {i j : Nat}, i ≤ j → pq_it f i d = e → pq_it f j d = e
  | i, 0, h, q => by rw [Nat.le_zero.mp h] at q; exact q
  | i, j + 1, h, q => by
    rcases Nat.lt_or_ge i (j + 1) with z | z
    · show f (pq_it f j d) = e
      rw [pq_it_add he (show i ≤ j by omega) q, he]
    · rw [show j + 1 = i by omega]; exact q
theorem pq_stp_done {W n : Nat} {w num : Nat → Nat} {most : Nat} {d : pq_D} (h : d.1 = 2) : pq_stp W n w num most d = d := by
  obtain ⟨m, r⟩ := d
  have : m = 2 := h
  subst this
  rfl
theorem pq_reach_one {W n : Nat} {w num : Nat → Nat} {most : Nat} {d e : pq_D} (h1 : pq_reach W n w num most d) (h2 : pq_reach W n w num most e) (hd : d.1 = 2) (he : e.1 = 2) : d = e := by
  obtain ⟨i, hi⟩ := h1
  obtain ⟨j, hj⟩ := h2
  rcases Nat.le_total i j with q | q
  · rw [← hj]; exact (pq_it_add (pq_stp_done hd) q hi).symm
  · rw [← hi]; exact pq_it_add (pq_stp_done he) q hj
/-- a row of the design so far -/
def pq_ok (W n : Nat) (w num : Nat → Nat) (rows : Nat → Nat → Nat) (j : Nat) : Prop := pq_pat W n w (pq_L num rows j) (rows j) ∧ pq_low (pq_L num rows j) n < n ∧ 1 ≤ rows j (pq_low (pq_L num rows j) n)
theorem pq_ok.up {W n : Nat} {w num : Nat → Nat} {rows : Nat → Nat → Nat} {j k : Nat} {b : Nat → Nat} (h : pq_ok W n w num rows j) (hj : j < k) : pq_ok W n w num (va_up rows k b) j := by
  unfold pq_ok
  rw [pq_L_up (by omega), va_up_ne _ _ (by omega)]
  exact h
theorem pq_tot {W n : Nat} {w num : Nat → Nat} {rows : Nat → Nat → Nat} : ∀ {k : Nat}, (∀ j, j < k → pq_ok W n w num rows j) → pq_sum (pq_L num rows k) n + k ≤ pq_sum num n
  | 0, _ => Nat.le_refl _
  | k + 1, h => by
    have h1 := pq_tot (k := k) (fun j hj => h j (by omega))
    obtain ⟨p1, p2, p3⟩ := h k (by omega)
    have h2 := pq_sum_sub (f := pq_L num rows k) (g := rows k) (n := n) p1.1
    have h3 := pq_sum_pos (f := rows k) p2
    have h4 : pq_sum (pq_L num rows (k + 1)) n = pq_sum (fun i => pq_L num rows k i - rows k i) n := pq_sum_congr (fun i _ => pq_L_succ)
    omega
/-- a row of small numbers, nothing beyond the orders -/
def pq_sm (n : Nat) (a : Nat → Nat) : Prop := ∀ i, i < 5 → a i ≤ 6 ∧ (n ≤ i → a i = 0)
def pq_inv (W n : Nat) (w num : Nat → Nat) : pq_D → Prop
  | (mo, k, rows, bs, best, _, _) => (∀ j, j < k → pq_ok W n w num rows j) ∧ (mo = 0 → pq_ok W n w num rows k) ∧ ∀ b, bs = some b → b ≤ 30 ∧ ∀ j, j < b → pq_sm n (best j)
/-- what is asked of the orders -/
def pq_env (W n : Nat) (w num : Nat → Nat) : Prop := n ≤ 5 ∧ (∀ i, i < 5 → num i ≤ 6) ∧ (∀ i, n ≤ i → i < 5 → num i = 0) ∧ (∀ i, i < n → 1 ≤ w i) ∧ ∀ i, i < n → 0 < num i → w i ≤ W
theorem pq_ok.sm {W n : Nat} {w num : Nat → Nat} (he : pq_env W n w num) {rows : Nat → Nat → Nat} {j : Nat} (h : pq_ok W n w num rows j) : pq_sm n (rows j) := fun i hi => by
  rcases Nat.lt_or_ge i n with q | q
  · exact ⟨Nat.le_trans (h.1.1 i q) (Nat.le_trans pq_L_le (he.2.1 i hi)), fun z => absurd z (by omega)⟩
  · rw [h.1.2.2 i q hi]; exact ⟨by omega, fun _ => rfl⟩
theorem pq_env.tot {W n : Nat} {w num : Nat → Nat} (h : pq_env W n w num) : pq_sum num n ≤ 30 := Nat.le_trans (pq_sum_bd (B := 6) (fun i hi => h.2.1 i (by have := h.1; omega))) (by have := h.1; omega)
theorem pq_wd_zero {n : Nat} {w a : Nat → Nat} (hw : ∀ i, i < n → 1 ≤ w i) (h : pq_wd n w a = 0) : ∀ i, i < n → a i = 0 := fun i hi => by
  have h1 := pq_sum_zero h i hi
  have h2 := hw i hi
  rcases Nat.mul_eq_zero.mp h1 with q | q
  · exact q
  · omega
theorem pq_low_of {W n : Nat} {w num : Nat → Nat} (he : pq_env W n w num) {rows : Nat → Nat → Nat} {k : Nat} (h : pq_wd n w (pq_L num rows k) ≠ 0) : pq_low (pq_L num rows k) n < n ∧ 0 < pq_L num rows k (pq_low (pq_L num rows k) n) ∧ ∀ j, j < pq_low (pq_L num rows k) n → pq_L num rows k j = 0 := by
  rcases pq_low_spec (th := pq_L num rows k) (n := n) with ⟨-, q⟩ | q
  · exact absurd (pq_sum_all0 (fun i hi => by rw [q i hi, Nat.zero_mul])) h
  · exact q
theorem pq_first_ok {W n : Nat} {w num : Nat → Nat} (he : pq_env W n w num) {rows : Nat → Nat → Nat} {k : Nat} (h : pq_wd n w (pq_L num rows k) ≠ 0) : pq_ok W n w num (va_up rows k (pq_first W n w (pq_L num rows k))) k := by
  unfold pq_ok
  rw [pq_L_up (Nat.le_refl _), va_up_self]
  obtain ⟨q1, q2, q3⟩ := pq_low_of he h
  exact ⟨pq_first_pat, q1, pq_first_low q1 (he.2.2.2.1 _ q1) (he.2.2.2.2 _ q1 (Nat.lt_of_lt_of_le q2 pq_L_le)) q2 q3⟩
theorem pq_next_ok {W n : Nat} {w num : Nat → Nat} (he : pq_env W n w num) {rows : Nat → Nat → Nat} {k : Nat} {b : Nat → Nat} (h : pq_ok W n w num rows k) (hb : pq_next W n w (pq_L num rows k) (rows k) (pq_low (pq_L num rows k) n) n = some b) : pq_ok W n w num (va_up rows k b) k := by
  unfold pq_ok
  rw [pq_L_up (Nat.le_refl _), va_up_self]
  obtain ⟨p1, p2, p3⟩ := h
  refine ⟨pq_next_pat p1 (Nat.le_refl _) hb, p2, pq_next_low p3 (fun j hj => ?_) hb⟩
  rcases pq_low_spec (th := pq_L num rows k) (n := n) with ⟨q, -⟩ | ⟨-, -, q⟩
  · have := he.1
    omega
  · have := p1.1 j (by omega)
    rw [q j hj] at this
    omega
theorem pq_inv_open {W n : Nat} {w num : Nat → Nat} (he : pq_env W n w num) {k : Nat} {rows best : Nat → Nat → Nat} {bs : Option Nat} {st sp : Nat} (h : ∀ j, j < k → pq_ok W n w num rows j) (hb : ∀ b, bs = some b → b ≤ 30 ∧ ∀ j, j < b → pq_sm n (best j)) : pq_inv W n w num (pq_open W n w num k rows bs best st sp) := by
  unfold pq_open
  split
  · exact ⟨h, fun q => absurd q (by decide), hb⟩
  · split
    · exact ⟨h, fun q => absurd q (by decide), fun b q => by
        cases q
        have := pq_tot h
        have := he.tot
        exact ⟨by omega, fun j hj => (h j hj).sm he⟩⟩
    · rename_i h2
      exact ⟨fun j hj => (h j hj).up hj, fun _ => pq_first_ok he h2, hb⟩
theorem pq_inv_stp {W n : Nat} {w num : Nat → Nat} {most : Nat} (he : pq_env W n w num) : ∀ {d : pq_D}, pq_inv W n w num d → pq_inv W n w num (pq_stp W n w num most d)
  | (0, k, rows, bs, best, st, sp), h => by
    show pq_inv W n w num (if most ≤ st then (2, k, rows, bs, best, st, 1) else pq_open W n w num (k + 1) rows bs best (st + 1) sp)
    split
    · exact ⟨h.1, fun q => absurd q (by decide), h.2.2⟩
    · refine pq_inv_open he (fun j hj => ?_) h.2.2
      rcases Nat.lt_or_ge j k with q | q
      · exact h.1 j q
      · rw [show j = k by omega]; exact h.2.1 rfl
  | (1, 0, rows, bs, best, st, sp), h => ⟨h.1, fun q => absurd q (by decide), h.2.2⟩
  | (1, k + 1, rows, bs, best, st, sp), h => by
    show pq_inv W n w num (pq_back W n w num k rows bs best st sp)
    unfold pq_back
    split
    · rename_i b hb
      exact ⟨fun j hj => (h.1 j (by omega)).up hj, fun _ => pq_next_ok he (h.1 k (by omega)) hb, h.2.2⟩
    · exact ⟨fun j hj => h.1 j (by omega), fun q => absurd q (by decide), h.2.2⟩
  | (m + 2, k, rows, bs, best, st, sp), h => h
theorem pq_inv_start {W n : Nat} {w num : Nat → Nat} (he : pq_env W n w num) : pq_inv W n w num (pq_start W n w num) := pq_inv_open he (fun j hj => absurd hj (by omega)) (fun b q => nomatch q)

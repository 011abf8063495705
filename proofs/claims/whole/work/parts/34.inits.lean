/-! part 34 (printed by wip/whole/p34.py): the constructors -/
def eS (g : pq_G) (sz : Nat) (E : Nat → va_E) (j : Nat) : va_E := if j < 1 then E j else if j = 1 then .inr (1, [.int 100, .int 0, .ref (sz + 2), .ref (sz + 3), .ref (sz + 4)]) else cn_arr g 5
def eD (g : pq_G) (sz : Nat) (E : Nat → va_E) (j : Nat) : va_E := if j < 5 then E j else if j = 5 then .inr (2, [.ref (sz + 1), .ref (sz + 6), .ref (sz + 7), .int 0, .int 0]) else cn_arr g 5
def eG (g : pq_G) (sz : Nat) (E : Nat → va_E) (j : Nat) : va_E := if j < 8 then E j else if j = 8 then .inr (3, [.ref (sz + 1), .ref (sz + 9), .int 0, .ref (sz + 10), .ref (sz + 41), .int (-1), .int 0, .int 0, .int 0]) else if j = 10 then cn_out g sz 10 30 else if j = 41 then cn_out g sz 41 30 else cn_arr g 5
def eT (g : pq_G) (sz : Nat) (E : Nat → va_E) (j : Nat) : va_E := if j < 72 then E j else if j = 72 then .inr (4, [.int 0, .ref (sz + 73), .ref (sz + 114), .ref (sz + 115)]) else if j = 73 then cn_out g sz 73 40 else if j < 114 then cn_arr g 5 else cn_arr g 40
def eP (g : pq_G) (sz : Nat) (E : Nat → va_E) (j : Nat) : va_E := if j = 0 then .inr (0, [.ref (sz + 1), .ref (sz + 5), .ref (sz + 8), .ref (sz + 72)]) else if j < 5 then eS g sz E j else if j < 8 then eD g sz E j else if j < 72 then eG g sz E j else eT g sz E j
def eM (g : pq_G) (sz : Nat) (E : Nat → va_E) (j : Nat) : va_E := if j < 116 then E j else if j = 116 then .inr (5, [.int 0, .int 100, .int 0, .ref (sz + 117), .ref (sz + 118), .ref (sz + 119), .ref (sz + 120), .ref (sz + 121), .int (-1), .ref (sz + 122), .int 0, .int 0, .int 0, .int 0, .ref (sz + 123)]) else if j < 120 then cn_arr g 5 else if j < 122 then cn_arr g 160 else if j = 122 then cn_arr g 155 else cn_arr g 280
abbrev rrS : Room := { frames := 1, cells := 3, slots := 15, locals := 30 }
set_option maxRecDepth 100000 in
set_option maxHeartbeats 4000000 in
theorem tS_init (l : Launch) (g : pq_G) (sz : Nat) (E : Nat → va_E) (hE : E 1 = .inr (1, [.int 0, .int 0, .null, .null, .null])) : NI l yS_init (Cond.code yS_init cS_init 1 none :: pq_W) rrS g sz 2 5 E (eS g sz E) 3 15 [.ref (sz + 1)] := by
  refine NI.of (cc := cS_init) (maxL := 1) (by decide +kernel) rfl (by simp [Value.category]) (Nat.le_of_ble_eq_true rfl) ?_
  intro p e s m below meth c cx hAO hr hlocks hin2
  refine nv_aload_n cx dS_init_0 rfl rfl (pc' := 1) rfl ?_
  refine nv_obj cx ww_29 (Nat.le_of_ble_eq_true rfl) (Nat.le_of_ble_eq_true rfl) rfl dS_init_1 (pc' := 4) rfl ?_
  refine nv_aload_n cx dS_init_4 rfl rfl (pc' := 5) rfl ?_
  refine nv_bipush cx dS_init_5 (v := 100) (by decide) (pc' := 7) rfl ?_
  refine nv_put cx (C := RS) (T := TS) (NN := 5) (ci := 1) 1 0 (Nat.le_of_ble_eq_true rfl) (fs := [.int 0, .int 0, .null, .null, .null]) (by exact hE) rfl (Nat.le_of_ble_eq_true rfl) lyS tyS tyS_ok nmS rfl rfl rfl (Nat.le_of_ble_eq_true rfl) ww_30 dS_init_7 (pc' := 10) rfl ?_
  refine nv_aload_n cx dS_init_10 rfl rfl (pc' := 11) rfl ?_
  refine nv_iconst cx dS_init_11 (v := 5) (by decide) (pc' := 12) rfl ?_
  refine nv_newa cx ww_54 (by decide) (N := 5) (by decide) (Nat.le_of_ble_eq_true rfl) (Nat.le_of_ble_eq_true rfl) (Nat.le_of_ble_eq_true rfl) dS_init_12 (pc' := 14) rfl ?_
  refine nv_putF cx hin2 (C := RS) (T := TS) (NN := 5) (ci := 1) 1 2 (Nat.le_of_ble_eq_true rfl) (fs := [.int 100, .int 0, .null, .null, .null]) rfl rfl (Nat.le_of_ble_eq_true rfl) lyS tyS tyS_ok nmS rfl rfl rfl rfl (Nat.le_of_ble_eq_true rfl) ww_36 dS_init_14 (pc' := 17) rfl ?_
  refine nv_aload_n cx dS_init_17 rfl rfl (pc' := 18) rfl ?_
  refine nv_iconst cx dS_init_18 (v := 5) (by decide) (pc' := 19) rfl ?_
  refine nv_newa cx ww_54 (by decide) (N := 5) (by decide) (Nat.le_of_ble_eq_true rfl) (Nat.le_of_ble_eq_true rfl) (Nat.le_of_ble_eq_true rfl) dS_init_19 (pc' := 21) rfl ?_
  refine nv_putF cx hin2 (C := RS) (T := TS) (NN := 5) (ci := 1) 1 3 (Nat.le_of_ble_eq_true rfl) (fs := [.int 100, .int 0, .ref (sz + 2), .null, .null]) rfl rfl (Nat.le_of_ble_eq_true rfl) lyS tyS tyS_ok nmS rfl rfl rfl rfl (Nat.le_of_ble_eq_true rfl) ww_37 dS_init_21 (pc' := 24) rfl ?_
  refine nv_aload_n cx dS_init_24 rfl rfl (pc' := 25) rfl ?_
  refine nv_iconst cx dS_init_25 (v := 5) (by decide) (pc' := 26) rfl ?_
  refine nv_newa cx ww_54 (by decide) (N := 5) (by decide) (Nat.le_of_ble_eq_true rfl) (Nat.le_of_ble_eq_true rfl) (Nat.le_of_ble_eq_true rfl) dS_init_26 (pc' := 28) rfl ?_
  refine nv_putF cx hin2 (C := RS) (T := TS) (NN := 5) (ci := 1) 1 4 (Nat.le_of_ble_eq_true rfl) (fs := [.int 100, .int 0, .ref (sz + 2), .ref (sz + 3), .null]) rfl rfl (Nat.le_of_ble_eq_true rfl) lyS tyS tyS_ok nmS rfl rfl rfl rfl (Nat.le_of_ble_eq_true rfl) ww_41 dS_init_28 (pc' := 31) rfl ?_
  refine nv_vret cx hr hlocks dS_init_31 (Nat.le_of_ble_eq_true rfl) (Nat.le_of_ble_eq_true rfl) (fun j hj => ?_)
  have hr : j = 0 ∨ j = 1 ∨ j = 2 ∨ j = 3 ∨ j = 4 := by omega
  rcases hr with rfl | rfl | rfl | rfl | rfl <;> rfl
abbrev rrD : Room := { frames := 1, cells := 2, slots := 10, locals := 30 }
set_option maxRecDepth 100000 in
set_option maxHeartbeats 4000000 in
theorem tD_init (l : Launch) (g : pq_G) (sz : Nat) (E : Nat → va_E) (hE : E 5 = .inr (2, [.null, .null, .null, .int 0, .int 0])) : NI l yD_init (Cond.code yD_init cD_init 2 none :: pq_W) rrD g sz 6 8 E (eD g sz E) 2 10 [.ref (sz + 5), .ref (sz + 1)] := by
  refine NI.of (cc := cD_init) (maxL := 2) (by decide +kernel) rfl (by simp [Value.category]) (Nat.le_of_ble_eq_true rfl) ?_
  intro p e s m below meth c cx hAO hr hlocks hin2
  refine nv_aload_n cx dD_init_0 rfl rfl (pc' := 1) rfl ?_
  refine nv_obj cx ww_60 (Nat.le_of_ble_eq_true rfl) (Nat.le_of_ble_eq_true rfl) rfl dD_init_1 (pc' := 4) rfl ?_
  refine nv_aload_n cx dD_init_4 rfl rfl (pc' := 5) rfl ?_
  refine nv_aload_n cx dD_init_5 rfl rfl (pc' := 6) rfl ?_
  refine nv_putF cx hin2 (C := RD) (T := TD) (NN := 5) (ci := 2) 5 0 (Nat.le_of_ble_eq_true rfl) (fs := [.null, .null, .null, .int 0, .int 0]) (by exact hE) rfl (Nat.le_of_ble_eq_true rfl) lyD tyD tyD_ok nmD rfl rfl rfl rfl (Nat.le_of_ble_eq_true rfl) ww_61 dD_init_6 (pc' := 9) rfl ?_
  refine nv_aload_n cx dD_init_9 rfl rfl (pc' := 10) rfl ?_
  refine nv_iconst cx dD_init_10 (v := 5) (by decide) (pc' := 11) rfl ?_
  refine nv_newa cx ww_54 (by decide) (N := 5) (by decide) (Nat.le_of_ble_eq_true rfl) (Nat.le_of_ble_eq_true rfl) (Nat.le_of_ble_eq_true rfl) dD_init_11 (pc' := 13) rfl ?_
  refine nv_putF cx hin2 (C := RD) (T := TD) (NN := 5) (ci := 2) 5 1 (Nat.le_of_ble_eq_true rfl) (fs := [.ref (sz + 1), .null, .null, .int 0, .int 0]) rfl rfl (Nat.le_of_ble_eq_true rfl) lyD tyD tyD_ok nmD rfl rfl rfl rfl (Nat.le_of_ble_eq_true rfl) ww_62 dD_init_13 (pc' := 16) rfl ?_
  refine nv_aload_n cx dD_init_16 rfl rfl (pc' := 17) rfl ?_
  refine nv_iconst cx dD_init_17 (v := 5) (by decide) (pc' := 18) rfl ?_
  refine nv_newa cx ww_54 (by decide) (N := 5) (by decide) (Nat.le_of_ble_eq_true rfl) (Nat.le_of_ble_eq_true rfl) (Nat.le_of_ble_eq_true rfl) dD_init_18 (pc' := 20) rfl ?_
  refine nv_putF cx hin2 (C := RD) (T := TD) (NN := 5) (ci := 2) 5 2 (Nat.le_of_ble_eq_true rfl) (fs := [.ref (sz + 1), .ref (sz + 6), .null, .int 0, .int 0]) rfl rfl (Nat.le_of_ble_eq_true rfl) lyD tyD tyD_ok nmD rfl rfl rfl rfl (Nat.le_of_ble_eq_true rfl) ww_63 dD_init_20 (pc' := 23) rfl ?_
  refine nv_vret cx hr hlocks dD_init_23 (Nat.le_of_ble_eq_true rfl) (Nat.le_of_ble_eq_true rfl) (fun j hj => ?_)
  have hr : j < 5 ∨ j = 5 ∨ j = 6 ∨ j = 7 := by omega
  rcases hr with h | rfl | rfl | rfl
  · simp [va_up, eD, h, show j ≠ 5 by omega, show j ≠ 6 by omega, show j ≠ 7 by omega]
  · rfl
  · rfl
  · rfl
abbrev rrG : Room := { frames := 1, cells := 63, slots := 365, locals := 30 }
set_option maxRecDepth 100000 in
set_option maxHeartbeats 4000000 in
theorem tG_init (l : Launch) (g : pq_G) (sz : Nat) (E : Nat → va_E) (hE : E 8 = .inr (3, [.null, .null, .int 0, .null, .null, .int 0, .int 0, .int 0, .int 0])) : NI l yG_init (Cond.code yG_init cG_init 2 none :: pq_W) rrG g sz 9 72 E (eG g sz E) 63 365 [.ref (sz + 8), .ref (sz + 1)] := by
  refine NI.of (cc := cG_init) (maxL := 2) (by decide +kernel) rfl (by simp [Value.category]) (Nat.le_of_ble_eq_true rfl) ?_
  intro p e s m below meth c cx hAO hr hlocks hin2
  refine nv_aload_n cx dG_init_0 rfl rfl (pc' := 1) rfl ?_
  refine nv_obj cx ww_82 (Nat.le_of_ble_eq_true rfl) (Nat.le_of_ble_eq_true rfl) rfl dG_init_1 (pc' := 4) rfl ?_
  refine nv_aload_n cx dG_init_4 rfl rfl (pc' := 5) rfl ?_
  refine nv_aload_n cx dG_init_5 rfl rfl (pc' := 6) rfl ?_
  refine nv_putF cx hin2 (C := RG) (T := TG) (NN := 9) (ci := 3) 8 0 (Nat.le_of_ble_eq_true rfl) (fs := [.null, .null, .int 0, .null, .null, .int 0, .int 0, .int 0, .int 0]) (by exact hE) rfl (Nat.le_of_ble_eq_true rfl) lyG tyG tyG_ok nmG rfl rfl rfl rfl (Nat.le_of_ble_eq_true rfl) ww_85 dG_init_6 (pc' := 9) rfl ?_
  refine nv_aload_n cx dG_init_9 rfl rfl (pc' := 10) rfl ?_
  refine nv_iconst cx dG_init_10 (v := 5) (by decide) (pc' := 11) rfl ?_
  refine nv_newa cx ww_54 (by decide) (N := 5) (by decide) (Nat.le_of_ble_eq_true rfl) (Nat.le_of_ble_eq_true rfl) (Nat.le_of_ble_eq_true rfl) dG_init_11 (pc' := 13) rfl ?_
  refine nv_putF cx hin2 (C := RG) (T := TG) (NN := 9) (ci := 3) 8 1 (Nat.le_of_ble_eq_true rfl) (fs := [.ref (sz + 1), .null, .int 0, .null, .null, .int 0, .int 0, .int 0, .int 0]) rfl rfl (Nat.le_of_ble_eq_true rfl) lyG tyG tyG_ok nmG rfl rfl rfl rfl (Nat.le_of_ble_eq_true rfl) ww_86 dG_init_13 (pc' := 16) rfl ?_
  refine nv_aload_n cx dG_init_16 rfl rfl (pc' := 17) rfl ?_
  refine nv_bipush cx dG_init_17 (v := 30) (by decide) (pc' := 19) rfl ?_
  refine nv_iconst cx dG_init_19 (v := 5) (by decide) (pc' := 20) rfl ?_
  refine nv_mna cx hAO ww_83 ww_54 (by decide) (by decide) (N := 30) (K := 5) (by decide) (by decide) (Nat.le_of_ble_eq_true rfl) (Nat.le_of_ble_eq_true rfl) (Nat.le_of_ble_eq_true rfl) (Nat.le_of_ble_eq_true rfl) (Nat.le_of_ble_eq_true rfl) dG_init_20 (pc' := 24) rfl ?_
  refine nv_putF cx hin2 (C := RG) (T := TG) (NN := 9) (ci := 3) 8 3 (Nat.le_of_ble_eq_true rfl) (fs := [.ref (sz + 1), .ref (sz + 9), .int 0, .null, .null, .int 0, .int 0, .int 0, .int 0]) rfl rfl (Nat.le_of_ble_eq_true rfl) lyG tyG tyG_ok nmG rfl rfl rfl rfl (Nat.le_of_ble_eq_true rfl) ww_88 dG_init_24 (pc' := 27) rfl ?_
  refine nv_aload_n cx dG_init_27 rfl rfl (pc' := 28) rfl ?_
  refine nv_bipush cx dG_init_28 (v := 30) (by decide) (pc' := 30) rfl ?_
  refine nv_iconst cx dG_init_30 (v := 5) (by decide) (pc' := 31) rfl ?_
  refine nv_mna cx hAO ww_83 ww_54 (by decide) (by decide) (N := 30) (K := 5) (by decide) (by decide) (Nat.le_of_ble_eq_true rfl) (Nat.le_of_ble_eq_true rfl) (Nat.le_of_ble_eq_true rfl) (Nat.le_of_ble_eq_true rfl) (Nat.le_of_ble_eq_true rfl) dG_init_31 (pc' := 35) rfl ?_
  refine nv_putF cx hin2 (C := RG) (T := TG) (NN := 9) (ci := 3) 8 4 (Nat.le_of_ble_eq_true rfl) (fs := [.ref (sz + 1), .ref (sz + 9), .int 0, .ref (sz + 10), .null, .int 0, .int 0, .int 0, .int 0]) rfl rfl (Nat.le_of_ble_eq_true rfl) lyG tyG tyG_ok nmG rfl rfl rfl rfl (Nat.le_of_ble_eq_true rfl) ww_89 dG_init_35 (pc' := 38) rfl ?_
  refine nv_aload_n cx dG_init_38 rfl rfl (pc' := 39) rfl ?_
  refine nv_iconst cx dG_init_39 (v := -1) (by decide) (pc' := 40) rfl ?_
  refine nv_put cx (C := RG) (T := TG) (NN := 9) (ci := 3) 8 5 (Nat.le_of_ble_eq_true rfl) (fs := [.ref (sz + 1), .ref (sz + 9), .int 0, .ref (sz + 10), .ref (sz + 41), .int 0, .int 0, .int 0, .int 0]) rfl rfl (Nat.le_of_ble_eq_true rfl) lyG tyG tyG_ok nmG rfl rfl rfl (Nat.le_of_ble_eq_true rfl) ww_91 dG_init_40 (pc' := 43) rfl ?_
  refine nv_vret cx hr hlocks dG_init_43 (Nat.le_of_ble_eq_true rfl) (Nat.le_of_ble_eq_true rfl) (fun j hj => ?_)
  have hr : j < 8 ∨ j = 8 ∨ j = 9 ∨ j = 10 ∨ (10 < j ∧ j < 41) ∨ j = 41 ∨ (41 < j ∧ j < 72) := by omega
  rcases hr with h | rfl | rfl | rfl | h | rfl | h
  · simp [va_up, cn_grid, eG, h, show j ≠ 8 by omega, show j ≠ 9 by omega, show j < 10 by omega, show j < 41 by omega]
  · rfl
  · rfl
  · rfl
  · simp [va_up, cn_grid, eG, show ¬ j < 8 by omega, show j ≠ 8 by omega, show j ≠ 10 by omega, show j ≠ 41 by omega, show ¬ j < 10 by omega, show j < 41 by omega]
  · rfl
  · simp [va_up, cn_grid, eG, show ¬ j < 8 by omega, show j ≠ 8 by omega, show j ≠ 10 by omega, show j ≠ 41 by omega, show ¬ j < 10 by omega, show ¬ j < 41 by omega]
abbrev rrT : Room := { frames := 1, cells := 43, slots := 320, locals := 30 }
set_option maxRecDepth 100000 in
set_option maxHeartbeats 4000000 in
theorem tT_init (l : Launch) (g : pq_G) (sz : Nat) (E : Nat → va_E) (hE : E 72 = .inr (4, [.int 0, .null, .null, .null])) : NI l yT_init (Cond.code yT_init cT_init 1 none :: pq_W) rrT g sz 73 116 E (eT g sz E) 43 320 [.ref (sz + 72)] := by
  refine NI.of (cc := cT_init) (maxL := 1) (by decide +kernel) rfl (by simp [Value.category]) (Nat.le_of_ble_eq_true rfl) ?_
  intro p e s m below meth c cx hAO hr hlocks hin2
  refine nv_aload_n cx dT_init_0 rfl rfl (pc' := 1) rfl ?_
  refine nv_obj cx ww_123 (Nat.le_of_ble_eq_true rfl) (Nat.le_of_ble_eq_true rfl) rfl dT_init_1 (pc' := 4) rfl ?_
  refine nv_aload_n cx dT_init_4 rfl rfl (pc' := 5) rfl ?_
  refine nv_bipush cx dT_init_5 (v := 40) (by decide) (pc' := 7) rfl ?_
  refine nv_iconst cx dT_init_7 (v := 5) (by decide) (pc' := 8) rfl ?_
  refine nv_mna cx hAO ww_124 ww_54 (by decide) (by decide) (N := 40) (K := 5) (by decide) (by decide) (Nat.le_of_ble_eq_true rfl) (Nat.le_of_ble_eq_true rfl) (Nat.le_of_ble_eq_true rfl) (Nat.le_of_ble_eq_true rfl) (Nat.le_of_ble_eq_true rfl) dT_init_8 (pc' := 12) rfl ?_
  refine nv_putF cx hin2 (C := RT) (T := TT) (NN := 4) (ci := 4) 72 1 (Nat.le_of_ble_eq_true rfl) (fs := [.int 0, .null, .null, .null]) (by exact hE) rfl (Nat.le_of_ble_eq_true rfl) lyT tyT tyT_ok nmT rfl rfl rfl rfl (Nat.le_of_ble_eq_true rfl) ww_127 dT_init_12 (pc' := 15) rfl ?_
  refine nv_aload_n cx dT_init_15 rfl rfl (pc' := 16) rfl ?_
  refine nv_bipush cx dT_init_16 (v := 40) (by decide) (pc' := 18) rfl ?_
  refine nv_newa cx ww_54 (by decide) (N := 40) (by decide) (Nat.le_of_ble_eq_true rfl) (Nat.le_of_ble_eq_true rfl) (Nat.le_of_ble_eq_true rfl) dT_init_18 (pc' := 20) rfl ?_
  refine nv_putF cx hin2 (C := RT) (T := TT) (NN := 4) (ci := 4) 72 2 (Nat.le_of_ble_eq_true rfl) (fs := [.int 0, .ref (sz + 73), .null, .null]) rfl rfl (Nat.le_of_ble_eq_true rfl) lyT tyT tyT_ok nmT rfl rfl rfl rfl (Nat.le_of_ble_eq_true rfl) ww_129 dT_init_20 (pc' := 23) rfl ?_
  refine nv_aload_n cx dT_init_23 rfl rfl (pc' := 24) rfl ?_
  refine nv_bipush cx dT_init_24 (v := 40) (by decide) (pc' := 26) rfl ?_
  refine nv_newa cx ww_54 (by decide) (N := 40) (by decide) (Nat.le_of_ble_eq_true rfl) (Nat.le_of_ble_eq_true rfl) (Nat.le_of_ble_eq_true rfl) dT_init_26 (pc' := 28) rfl ?_
  refine nv_putF cx hin2 (C := RT) (T := TT) (NN := 4) (ci := 4) 72 3 (Nat.le_of_ble_eq_true rfl) (fs := [.int 0, .ref (sz + 73), .ref (sz + 114), .null]) rfl rfl (Nat.le_of_ble_eq_true rfl) lyT tyT tyT_ok nmT rfl rfl rfl rfl (Nat.le_of_ble_eq_true rfl) ww_131 dT_init_28 (pc' := 31) rfl ?_
  refine nv_vret cx hr hlocks dT_init_31 (Nat.le_of_ble_eq_true rfl) (Nat.le_of_ble_eq_true rfl) (fun j hj => ?_)
  have hr : j < 72 ∨ j = 72 ∨ j = 73 ∨ (73 < j ∧ j < 114) ∨ j = 114 ∨ j = 115 := by omega
  rcases hr with h | rfl | rfl | h | rfl | rfl
  · simp [va_up, cn_grid, eT, h, show j ≠ 72 by omega, show j ≠ 114 by omega, show j ≠ 115 by omega, show j < 73 by omega]
  · rfl
  · rfl
  · simp [va_up, cn_grid, eT, show ¬ j < 72 by omega, show j ≠ 72 by omega, show j ≠ 73 by omega, show j ≠ 114 by omega, show j ≠ 115 by omega, show ¬ j < 73 by omega, show j < 114 by omega]
  · rfl
  · rfl
abbrev rrP : Room := { frames := 2, cells := 115, slots := 733, locals := 60 }
set_option maxRecDepth 100000 in
set_option maxHeartbeats 4000000 in
theorem tP_init (l : Launch) (g : pq_G) (sz : Nat) (E : Nat → va_E) (hE : E 0 = .inr (0, [.null, .null, .null, .null])) : NI l yP_init (Cond.code yP_init cP_init 1 none :: pq_W) rrP g sz 1 116 E (eP g sz E) 115 733 [.ref (sz + 0)] := by
  refine NI.of (cc := cP_init) (maxL := 1) (by decide +kernel) rfl (by simp [Value.category]) (Nat.le_of_ble_eq_true rfl) ?_
  intro p e s m below meth c cx hAO hr hlocks hin2
  refine nv_aload_n cx dP_init_0 rfl rfl (pc' := 1) rfl ?_
  refine nv_obj cx ww_21 (Nat.le_of_ble_eq_true rfl) (Nat.le_of_ble_eq_true rfl) rfl dP_init_1 (pc' := 4) rfl ?_
  refine nv_aload_n cx dP_init_4 rfl rfl (pc' := 5) rfl ?_
  refine nv_new cx (C := RS) (T := TS) (NN := 5) (ci := 1) rfl lyS tyS tyS_ok ww_24 ww_25 ww_2 (fs := [.int 0, .int 0, .null, .null, .null]) (by decide) (Nat.le_of_ble_eq_true rfl) (Nat.le_of_ble_eq_true rfl) dP_init_5 (pc' := 8) rfl ?_
  refine nv_dup cx dP_init_8 rfl (pc' := 9) rfl ?_
  refine nv_callI (na := 0) cx hAO (sz + 1) (tS_init l g sz _ rfl) ww_28 ww_2 ww_27 rfl (by decide +kernel) ww_26 rfl rfl ⟨Nat.le_of_ble_eq_true rfl, Nat.le_of_ble_eq_true rfl⟩ rfl rfl (Nat.le_of_ble_eq_true rfl) rfl ⟨Nat.le_of_ble_eq_true rfl, Nat.le_of_ble_eq_true rfl⟩ dP_init_9 (pc' := 12) rfl ?_
  refine nv_putF cx hin2 (C := RP) (T := TP) (NN := 4) (ci := 0) 0 0 (Nat.le_of_ble_eq_true rfl) (fs := [.null, .null, .null, .null]) (by exact hE) rfl (Nat.le_of_ble_eq_true rfl) lyP tyP tyP_ok nmP rfl rfl rfl rfl (Nat.le_of_ble_eq_true rfl) ww_142 dP_init_12 (pc' := 15) rfl ?_
  refine nv_aload_n cx dP_init_15 rfl rfl (pc' := 16) rfl ?_
  refine nv_new cx (C := RD) (T := TD) (NN := 5) (ci := 2) rfl lyD tyD tyD_ok ww_55 ww_56 ww_3 (fs := [.null, .null, .null, .int 0, .int 0]) (by decide) (Nat.le_of_ble_eq_true rfl) (Nat.le_of_ble_eq_true rfl) dP_init_16 (pc' := 19) rfl ?_
  refine nv_dup cx dP_init_19 rfl (pc' := 20) rfl ?_
  refine nv_aload_n cx dP_init_20 rfl rfl (pc' := 21) rfl ?_
  refine nv_get cx (C := RP) (T := TP) (NN := 4) (ci := 0) 0 0 (Nat.le_of_ble_eq_true rfl) (fs := [.ref (sz + 1), .null, .null, .null]) rfl rfl (Nat.le_of_ble_eq_true rfl) lyP ww_142 rfl dP_init_21 (pc' := 24) rfl ?_
  refine nv_callI (na := 1) cx hAO (sz + 5) (tD_init l g sz _ rfl) ww_59 ww_3 ww_58 rfl (by decide +kernel) ww_57 rfl rfl ⟨Nat.le_of_ble_eq_true rfl, Nat.le_of_ble_eq_true rfl⟩ rfl rfl (Nat.le_of_ble_eq_true rfl) rfl ⟨Nat.le_of_ble_eq_true rfl, Nat.le_of_ble_eq_true rfl⟩ dP_init_24 (pc' := 27) rfl ?_
  refine nv_putF cx hin2 (C := RP) (T := TP) (NN := 4) (ci := 0) 0 1 (Nat.le_of_ble_eq_true rfl) (fs := [.ref (sz + 1), .null, .null, .null]) rfl rfl (Nat.le_of_ble_eq_true rfl) lyP tyP tyP_ok nmP rfl rfl rfl rfl (Nat.le_of_ble_eq_true rfl) ww_143 dP_init_27 (pc' := 30) rfl ?_
  refine nv_aload_n cx dP_init_30 rfl rfl (pc' := 31) rfl ?_
  refine nv_new cx (C := RG) (T := TG) (NN := 9) (ci := 3) rfl lyG tyG tyG_ok ww_77 ww_78 ww_4 (fs := [.null, .null, .int 0, .null, .null, .int 0, .int 0, .int 0, .int 0]) (by decide) (Nat.le_of_ble_eq_true rfl) (Nat.le_of_ble_eq_true rfl) dP_init_31 (pc' := 34) rfl ?_
  refine nv_dup cx dP_init_34 rfl (pc' := 35) rfl ?_
  refine nv_aload_n cx dP_init_35 rfl rfl (pc' := 36) rfl ?_
  refine nv_get cx (C := RP) (T := TP) (NN := 4) (ci := 0) 0 0 (Nat.le_of_ble_eq_true rfl) (fs := [.ref (sz + 1), .ref (sz + 5), .null, .null]) rfl rfl (Nat.le_of_ble_eq_true rfl) lyP ww_142 rfl dP_init_36 (pc' := 39) rfl ?_
  refine nv_callI (na := 1) cx hAO (sz + 8) (tG_init l g sz _ rfl) ww_81 ww_4 ww_80 rfl (by decide +kernel) ww_79 rfl rfl ⟨Nat.le_of_ble_eq_true rfl, Nat.le_of_ble_eq_true rfl⟩ rfl rfl (Nat.le_of_ble_eq_true rfl) rfl ⟨Nat.le_of_ble_eq_true rfl, Nat.le_of_ble_eq_true rfl⟩ dP_init_39 (pc' := 42) rfl ?_
  refine nv_putF cx hin2 (C := RP) (T := TP) (NN := 4) (ci := 0) 0 2 (Nat.le_of_ble_eq_true rfl) (fs := [.ref (sz + 1), .ref (sz + 5), .null, .null]) rfl rfl (Nat.le_of_ble_eq_true rfl) lyP tyP tyP_ok nmP rfl rfl rfl rfl (Nat.le_of_ble_eq_true rfl) ww_144 dP_init_42 (pc' := 45) rfl ?_
  refine nv_aload_n cx dP_init_45 rfl rfl (pc' := 46) rfl ?_
  refine nv_new cx (C := RT) (T := TT) (NN := 4) (ci := 4) rfl lyT tyT tyT_ok ww_118 ww_119 ww_5 (fs := [.int 0, .null, .null, .null]) (by decide) (Nat.le_of_ble_eq_true rfl) (Nat.le_of_ble_eq_true rfl) dP_init_46 (pc' := 49) rfl ?_
  refine nv_dup cx dP_init_49 rfl (pc' := 50) rfl ?_
  refine nv_callI (na := 0) cx hAO (sz + 72) (tT_init l g sz _ rfl) ww_122 ww_5 ww_121 rfl (by decide +kernel) ww_120 rfl rfl ⟨Nat.le_of_ble_eq_true rfl, Nat.le_of_ble_eq_true rfl⟩ rfl rfl (Nat.le_of_ble_eq_true rfl) rfl ⟨Nat.le_of_ble_eq_true rfl, Nat.le_of_ble_eq_true rfl⟩ dP_init_50 (pc' := 53) rfl ?_
  refine nv_putF cx hin2 (C := RP) (T := TP) (NN := 4) (ci := 0) 0 3 (Nat.le_of_ble_eq_true rfl) (fs := [.ref (sz + 1), .ref (sz + 5), .ref (sz + 8), .null]) rfl rfl (Nat.le_of_ble_eq_true rfl) lyP tyP tyP_ok nmP rfl rfl rfl rfl (Nat.le_of_ble_eq_true rfl) ww_145 dP_init_53 (pc' := 56) rfl ?_
  refine nv_vret cx hr hlocks dP_init_56 (Nat.le_of_ble_eq_true rfl) (Nat.le_of_ble_eq_true rfl) (fun j hj => ?_)
  have hr : j = 0 ∨ (0 < j ∧ j < 5) ∨ (5 ≤ j ∧ j < 8) ∨ (8 ≤ j ∧ j < 72) ∨ (72 ≤ j ∧ j < 116) := by omega
  rcases hr with rfl | h | h | h | h
  · rfl
  · simp [va_up, eP, eT, eG, eD, eS, show j ≠ 0 by omega, show ¬ j < 1 by omega, show j < 5 by omega, show j ≠ 5 by omega, show j < 8 by omega, show j ≠ 8 by omega, show j < 72 by omega, show j ≠ 72 by omega]
  · simp [va_up, eP, eT, eG, eD, show j ≠ 0 by omega, show ¬ j < 5 by omega, show j < 8 by omega, show j ≠ 8 by omega, show j < 72 by omega, show j ≠ 72 by omega]
  · simp [va_up, eP, eT, eG, show j ≠ 0 by omega, show ¬ j < 5 by omega, show ¬ j < 8 by omega, show j < 72 by omega, show j ≠ 72 by omega]
  · simp [va_up, eP, eT, show j ≠ 0 by omega, show ¬ j < 5 by omega, show ¬ j < 8 by omega, show ¬ j < 72 by omega]
abbrev rrM : Room := { frames := 1, cells := 7, slots := 770, locals := 30 }
set_option maxRecDepth 100000 in
set_option maxHeartbeats 4000000 in
theorem tM_init (l : Launch) (g : pq_G) (sz : Nat) (E : Nat → va_E) (hE : E 116 = .inr (5, [.int 0, .int 0, .int 0, .null, .null, .null, .null, .null, .int 0, .null, .int 0, .int 0, .int 0, .int 0, .null])) : NI l yM_init (Cond.code yM_init cM_init 1 none :: pq_W) rrM g sz 117 124 E (eM g sz E) 7 770 [.ref (sz + 116)] := by
  refine NI.of (cc := cM_init) (maxL := 1) (by decide +kernel) rfl (by simp [Value.category]) (Nat.le_of_ble_eq_true rfl) ?_
  intro p e s m below meth c cx hAO hr hlocks hin2
  refine nv_aload_n cx dM_init_0 rfl rfl (pc' := 1) rfl ?_
  refine nv_obj cx ww_553 (Nat.le_of_ble_eq_true rfl) (Nat.le_of_ble_eq_true rfl) rfl dM_init_1 (pc' := 4) rfl ?_
  refine nv_aload_n cx dM_init_4 rfl rfl (pc' := 5) rfl ?_
  refine nv_bipush cx dM_init_5 (v := 100) (by decide) (pc' := 7) rfl ?_
  refine nv_put cx (C := RM) (T := TM) (NN := 15) (ci := 5) 116 1 (Nat.le_of_ble_eq_true rfl) (fs := [.int 0, .int 0, .int 0, .null, .null, .null, .null, .null, .int 0, .null, .int 0, .int 0, .int 0, .int 0, .null]) (by exact hE) rfl (Nat.le_of_ble_eq_true rfl) lyM tyM tyM_ok nmM rfl rfl rfl (Nat.le_of_ble_eq_true rfl) ww_555 dM_init_7 (pc' := 10) rfl ?_
  refine nv_aload_n cx dM_init_10 rfl rfl (pc' := 11) rfl ?_
  refine nv_iconst cx dM_init_11 (v := 5) (by decide) (pc' := 12) rfl ?_
  refine nv_newa cx ww_54 (by decide) (N := 5) (by decide) (Nat.le_of_ble_eq_true rfl) (Nat.le_of_ble_eq_true rfl) (Nat.le_of_ble_eq_true rfl) dM_init_12 (pc' := 14) rfl ?_
  refine nv_putF cx hin2 (C := RM) (T := TM) (NN := 15) (ci := 5) 116 3 (Nat.le_of_ble_eq_true rfl) (fs := [.int 0, .int 100, .int 0, .null, .null, .null, .null, .null, .int 0, .null, .int 0, .int 0, .int 0, .int 0, .null]) rfl rfl (Nat.le_of_ble_eq_true rfl) lyM tyM tyM_ok nmM rfl rfl rfl rfl (Nat.le_of_ble_eq_true rfl) ww_557 dM_init_14 (pc' := 17) rfl ?_
  refine nv_aload_n cx dM_init_17 rfl rfl (pc' := 18) rfl ?_
  refine nv_iconst cx dM_init_18 (v := 5) (by decide) (pc' := 19) rfl ?_
  refine nv_newa cx ww_54 (by decide) (N := 5) (by decide) (Nat.le_of_ble_eq_true rfl) (Nat.le_of_ble_eq_true rfl) (Nat.le_of_ble_eq_true rfl) dM_init_19 (pc' := 21) rfl ?_
  refine nv_putF cx hin2 (C := RM) (T := TM) (NN := 15) (ci := 5) 116 4 (Nat.le_of_ble_eq_true rfl) (fs := [.int 0, .int 100, .int 0, .ref (sz + 117), .null, .null, .null, .null, .int 0, .null, .int 0, .int 0, .int 0, .int 0, .null]) rfl rfl (Nat.le_of_ble_eq_true rfl) lyM tyM tyM_ok nmM rfl rfl rfl rfl (Nat.le_of_ble_eq_true rfl) ww_558 dM_init_21 (pc' := 24) rfl ?_
  refine nv_aload_n cx dM_init_24 rfl rfl (pc' := 25) rfl ?_
  refine nv_iconst cx dM_init_25 (v := 5) (by decide) (pc' := 26) rfl ?_
  refine nv_newa cx ww_54 (by decide) (N := 5) (by decide) (Nat.le_of_ble_eq_true rfl) (Nat.le_of_ble_eq_true rfl) (Nat.le_of_ble_eq_true rfl) dM_init_26 (pc' := 28) rfl ?_
  refine nv_putF cx hin2 (C := RM) (T := TM) (NN := 15) (ci := 5) 116 5 (Nat.le_of_ble_eq_true rfl) (fs := [.int 0, .int 100, .int 0, .ref (sz + 117), .ref (sz + 118), .null, .null, .null, .int 0, .null, .int 0, .int 0, .int 0, .int 0, .null]) rfl rfl (Nat.le_of_ble_eq_true rfl) lyM tyM tyM_ok nmM rfl rfl rfl rfl (Nat.le_of_ble_eq_true rfl) ww_559 dM_init_28 (pc' := 31) rfl ?_
  refine nv_aload_n cx dM_init_31 rfl rfl (pc' := 32) rfl ?_
  refine nv_sipush cx dM_init_32 (v := 160) (by decide) (pc' := 35) rfl ?_
  refine nv_newa cx ww_54 (by decide) (N := 160) (by decide) (Nat.le_of_ble_eq_true rfl) (Nat.le_of_ble_eq_true rfl) (Nat.le_of_ble_eq_true rfl) dM_init_35 (pc' := 37) rfl ?_
  refine nv_putF cx hin2 (C := RM) (T := TM) (NN := 15) (ci := 5) 116 6 (Nat.le_of_ble_eq_true rfl) (fs := [.int 0, .int 100, .int 0, .ref (sz + 117), .ref (sz + 118), .ref (sz + 119), .null, .null, .int 0, .null, .int 0, .int 0, .int 0, .int 0, .null]) rfl rfl (Nat.le_of_ble_eq_true rfl) lyM tyM tyM_ok nmM rfl rfl rfl rfl (Nat.le_of_ble_eq_true rfl) ww_560 dM_init_37 (pc' := 40) rfl ?_
  refine nv_aload_n cx dM_init_40 rfl rfl (pc' := 41) rfl ?_
  refine nv_sipush cx dM_init_41 (v := 160) (by decide) (pc' := 44) rfl ?_
  refine nv_newa cx ww_54 (by decide) (N := 160) (by decide) (Nat.le_of_ble_eq_true rfl) (Nat.le_of_ble_eq_true rfl) (Nat.le_of_ble_eq_true rfl) dM_init_44 (pc' := 46) rfl ?_
  refine nv_putF cx hin2 (C := RM) (T := TM) (NN := 15) (ci := 5) 116 7 (Nat.le_of_ble_eq_true rfl) (fs := [.int 0, .int 100, .int 0, .ref (sz + 117), .ref (sz + 118), .ref (sz + 119), .ref (sz + 120), .null, .int 0, .null, .int 0, .int 0, .int 0, .int 0, .null]) rfl rfl (Nat.le_of_ble_eq_true rfl) lyM tyM tyM_ok nmM rfl rfl rfl rfl (Nat.le_of_ble_eq_true rfl) ww_561 dM_init_46 (pc' := 49) rfl ?_
  refine nv_aload_n cx dM_init_49 rfl rfl (pc' := 50) rfl ?_
  refine nv_iconst cx dM_init_50 (v := -1) (by decide) (pc' := 51) rfl ?_
  refine nv_put cx (C := RM) (T := TM) (NN := 15) (ci := 5) 116 8 (Nat.le_of_ble_eq_true rfl) (fs := [.int 0, .int 100, .int 0, .ref (sz + 117), .ref (sz + 118), .ref (sz + 119), .ref (sz + 120), .ref (sz + 121), .int 0, .null, .int 0, .int 0, .int 0, .int 0, .null]) rfl rfl (Nat.le_of_ble_eq_true rfl) lyM tyM tyM_ok nmM rfl rfl rfl (Nat.le_of_ble_eq_true rfl) ww_562 dM_init_51 (pc' := 54) rfl ?_
  refine nv_aload_n cx dM_init_54 rfl rfl (pc' := 55) rfl ?_
  refine nv_sipush cx dM_init_55 (v := 155) (by decide) (pc' := 58) rfl ?_
  refine nv_newa cx ww_54 (by decide) (N := 155) (by decide) (Nat.le_of_ble_eq_true rfl) (Nat.le_of_ble_eq_true rfl) (Nat.le_of_ble_eq_true rfl) dM_init_58 (pc' := 60) rfl ?_
  refine nv_putF cx hin2 (C := RM) (T := TM) (NN := 15) (ci := 5) 116 9 (Nat.le_of_ble_eq_true rfl) (fs := [.int 0, .int 100, .int 0, .ref (sz + 117), .ref (sz + 118), .ref (sz + 119), .ref (sz + 120), .ref (sz + 121), .int (-1), .null, .int 0, .int 0, .int 0, .int 0, .null]) rfl rfl (Nat.le_of_ble_eq_true rfl) lyM tyM tyM_ok nmM rfl rfl rfl rfl (Nat.le_of_ble_eq_true rfl) ww_563 dM_init_60 (pc' := 63) rfl ?_
  refine nv_aload_n cx dM_init_63 rfl rfl (pc' := 64) rfl ?_
  refine nv_sipush cx dM_init_64 (v := 280) (by decide) (pc' := 67) rfl ?_
  refine nv_newa cx ww_54 (by decide) (N := 280) (by decide) (Nat.le_of_ble_eq_true rfl) (Nat.le_of_ble_eq_true rfl) (Nat.le_of_ble_eq_true rfl) dM_init_67 (pc' := 69) rfl ?_
  refine nv_putF cx hin2 (C := RM) (T := TM) (NN := 15) (ci := 5) 116 14 (Nat.le_of_ble_eq_true rfl) (fs := [.int 0, .int 100, .int 0, .ref (sz + 117), .ref (sz + 118), .ref (sz + 119), .ref (sz + 120), .ref (sz + 121), .int (-1), .ref (sz + 122), .int 0, .int 0, .int 0, .int 0, .null]) rfl rfl (Nat.le_of_ble_eq_true rfl) lyM tyM tyM_ok nmM rfl rfl rfl rfl (Nat.le_of_ble_eq_true rfl) ww_568 dM_init_69 (pc' := 72) rfl ?_
  refine nv_vret cx hr hlocks dM_init_72 (Nat.le_of_ble_eq_true rfl) (Nat.le_of_ble_eq_true rfl) (fun j hj => ?_)
  have hr : j < 116 ∨ j = 116 ∨ j = 117 ∨ j = 118 ∨ j = 119 ∨ j = 120 ∨ j = 121 ∨ j = 122 ∨ j = 123 := by omega
  rcases hr with h | rfl | rfl | rfl | rfl | rfl | rfl | rfl | rfl
  · simp [va_up, eM, h, show j ≠ 116 by omega, show j ≠ 117 by omega, show j ≠ 118 by omega, show j ≠ 119 by omega, show j ≠ 120 by omega, show j ≠ 121 by omega, show j ≠ 122 by omega, show j ≠ 123 by omega]
  · rfl
  · rfl
  · rfl
  · rfl
  · rfl
  · rfl
  · rfl
  · rfl

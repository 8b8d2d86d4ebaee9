/-! rows of the history: copies of the state -/
section ROWS
variable {L : LT} {I : IT} {r j : Nat}
theorem hpr (hj : j < r) (hr : r ≤ 40) {i : Nat} (hi : i < 11) : hp L I r (26 + 11 * j + i) = stc (26 + 11 * j) (L (26 + 11 * j + i)) (I (26 + 11 * j + i)) i := by
  have e : (26 + 11 * j + i - 26) % 11 = i := by omega
  unfold hp
  rw [if_neg (by omega), if_neg (by omega), if_pos (by omega), e, Nat.add_sub_cancel]
theorem hpr_0 (hj : j < r) (hr : r ≤ 40) : hp L I r (26 + 11 * j) = mO 5 [.ref (26 + 11 * j + 1), .ref (26 + 11 * j + 2), .ref (26 + 11 * j + 3), .ref (26 + 11 * j + 4), .ref (26 + 11 * j + 5), .ref (26 + 11 * j + 6), .ref (26 + 11 * j + 7), .ref (26 + 11 * j + 8), .ref (26 + 11 * j + 9), .ref (26 + 11 * j + 10), .int (I (26 + 11 * j) 10), .int (I (26 + 11 * j) 11), .int (I (26 + 11 * j) 12), .int (I (26 + 11 * j) 13), .int (I (26 + 11 * j) 14)] := hpr hj hr (i := 0) (by decide)
theorem hpr_1 (hj : j < r) (hr : r ≤ 40) : hp L I r (26 + 11 * j + 1) = mL 1 102 (L (26 + 11 * j + 1)) := hpr hj hr (i := 1) (by decide)
theorem hur_1 (hj : j < r) (hr : r ≤ 40) {f : Nat → Int64} : va_up (hp L I r) (26 + 11 * j + 1) (mL 1 102 f) = hp (va_up L (26 + 11 * j + 1) f) I r := hp_setL (by rw [hpr_1 hj hr, va_up_self])
theorem hpr_2 (hj : j < r) (hr : r ≤ 40) : hp L I r (26 + 11 * j + 2) = mL 1 35 (L (26 + 11 * j + 2)) := hpr hj hr (i := 2) (by decide)
theorem hur_2 (hj : j < r) (hr : r ≤ 40) {f : Nat → Int64} : va_up (hp L I r) (26 + 11 * j + 2) (mL 1 35 f) = hp (va_up L (26 + 11 * j + 2) f) I r := hp_setL (by rw [hpr_2 hj hr, va_up_self])
theorem hpr_3 (hj : j < r) (hr : r ≤ 40) : hp L I r (26 + 11 * j + 3) = mI 0 6 (I (26 + 11 * j + 3)) := hpr hj hr (i := 3) (by decide)
theorem hur_3 (hj : j < r) (hr : r ≤ 40) {f : Nat → Int32} : va_up (hp L I r) (26 + 11 * j + 3) (mI 0 6 f) = hp L (va_up I (26 + 11 * j + 3) f) r := hp_set (by rw [hpr_3 hj hr, va_up_self])
theorem hpr_4 (hj : j < r) (hr : r ≤ 40) : hp L I r (26 + 11 * j + 4) = mI 0 6 (I (26 + 11 * j + 4)) := hpr hj hr (i := 4) (by decide)
theorem hur_4 (hj : j < r) (hr : r ≤ 40) {f : Nat → Int32} : va_up (hp L I r) (26 + 11 * j + 4) (mI 0 6 f) = hp L (va_up I (26 + 11 * j + 4) f) r := hp_set (by rw [hpr_4 hj hr, va_up_self])
theorem hpr_5 (hj : j < r) (hr : r ≤ 40) : hp L I r (26 + 11 * j + 5) = mI 0 6 (I (26 + 11 * j + 5)) := hpr hj hr (i := 5) (by decide)
theorem hur_5 (hj : j < r) (hr : r ≤ 40) {f : Nat → Int32} : va_up (hp L I r) (26 + 11 * j + 5) (mI 0 6 f) = hp L (va_up I (26 + 11 * j + 5) f) r := hp_set (by rw [hpr_5 hj hr, va_up_self])
theorem hpr_6 (hj : j < r) (hr : r ≤ 40) : hp L I r (26 + 11 * j + 6) = mI 0 6 (I (26 + 11 * j + 6)) := hpr hj hr (i := 6) (by decide)
theorem hur_6 (hj : j < r) (hr : r ≤ 40) {f : Nat → Int32} : va_up (hp L I r) (26 + 11 * j + 6) (mI 0 6 f) = hp L (va_up I (26 + 11 * j + 6) f) r := hp_set (by rw [hpr_6 hj hr, va_up_self])
theorem hpr_7 (hj : j < r) (hr : r ≤ 40) : hp L I r (26 + 11 * j + 7) = mI 0 5 (I (26 + 11 * j + 7)) := hpr hj hr (i := 7) (by decide)
theorem hur_7 (hj : j < r) (hr : r ≤ 40) {f : Nat → Int32} : va_up (hp L I r) (26 + 11 * j + 7) (mI 0 5 f) = hp L (va_up I (26 + 11 * j + 7) f) r := hp_set (by rw [hpr_7 hj hr, va_up_self])
theorem hpr_8 (hj : j < r) (hr : r ≤ 40) : hp L I r (26 + 11 * j + 8) = mI 0 5 (I (26 + 11 * j + 8)) := hpr hj hr (i := 8) (by decide)
theorem hur_8 (hj : j < r) (hr : r ≤ 40) {f : Nat → Int32} : va_up (hp L I r) (26 + 11 * j + 8) (mI 0 5 f) = hp L (va_up I (26 + 11 * j + 8) f) r := hp_set (by rw [hpr_8 hj hr, va_up_self])
theorem hpr_9 (hj : j < r) (hr : r ≤ 40) : hp L I r (26 + 11 * j + 9) = mI 0 5 (I (26 + 11 * j + 9)) := hpr hj hr (i := 9) (by decide)
theorem hur_9 (hj : j < r) (hr : r ≤ 40) {f : Nat → Int32} : va_up (hp L I r) (26 + 11 * j + 9) (mI 0 5 f) = hp L (va_up I (26 + 11 * j + 9) f) r := hp_set (by rw [hpr_9 hj hr, va_up_self])
theorem hpr_10 (hj : j < r) (hr : r ≤ 40) : hp L I r (26 + 11 * j + 10) = mI 0 5 (I (26 + 11 * j + 10)) := hpr hj hr (i := 10) (by decide)
theorem hur_10 (hj : j < r) (hr : r ≤ 40) {f : Nat → Int32} : va_up (hp L I r) (26 + 11 * j + 10) (mI 0 5 f) = hp L (va_up I (26 + 11 * j + 10) f) r := hp_set (by rw [hpr_10 hj hr, va_up_self])
theorem hur_0_10 (hj : j < r) (hr : r ≤ 40) {x : Int32} : va_up (hp L I r) (26 + 11 * j) (mO 5 (List.set [.ref (26 + 11 * j + 1), .ref (26 + 11 * j + 2), .ref (26 + 11 * j + 3), .ref (26 + 11 * j + 4), .ref (26 + 11 * j + 5), .ref (26 + 11 * j + 6), .ref (26 + 11 * j + 7), .ref (26 + 11 * j + 8), .ref (26 + 11 * j + 9), .ref (26 + 11 * j + 10), .int (I (26 + 11 * j) 10), .int (I (26 + 11 * j) 11), .int (I (26 + 11 * j) 12), .int (I (26 + 11 * j) 13), .int (I (26 + 11 * j) 14)] 10 (.int x))) = hp L (va_up I (26 + 11 * j) (upd (I (26 + 11 * j)) 10 x)) r := hp_set (by rw [hpr_0 hj hr, va_up_self]; rfl)
theorem hur_0_11 (hj : j < r) (hr : r ≤ 40) {x : Int32} : va_up (hp L I r) (26 + 11 * j) (mO 5 (List.set [.ref (26 + 11 * j + 1), .ref (26 + 11 * j + 2), .ref (26 + 11 * j + 3), .ref (26 + 11 * j + 4), .ref (26 + 11 * j + 5), .ref (26 + 11 * j + 6), .ref (26 + 11 * j + 7), .ref (26 + 11 * j + 8), .ref (26 + 11 * j + 9), .ref (26 + 11 * j + 10), .int (I (26 + 11 * j) 10), .int (I (26 + 11 * j) 11), .int (I (26 + 11 * j) 12), .int (I (26 + 11 * j) 13), .int (I (26 + 11 * j) 14)] 11 (.int x))) = hp L (va_up I (26 + 11 * j) (upd (I (26 + 11 * j)) 11 x)) r := hp_set (by rw [hpr_0 hj hr, va_up_self]; rfl)
theorem hur_0_12 (hj : j < r) (hr : r ≤ 40) {x : Int32} : va_up (hp L I r) (26 + 11 * j) (mO 5 (List.set [.ref (26 + 11 * j + 1), .ref (26 + 11 * j + 2), .ref (26 + 11 * j + 3), .ref (26 + 11 * j + 4), .ref (26 + 11 * j + 5), .ref (26 + 11 * j + 6), .ref (26 + 11 * j + 7), .ref (26 + 11 * j + 8), .ref (26 + 11 * j + 9), .ref (26 + 11 * j + 10), .int (I (26 + 11 * j) 10), .int (I (26 + 11 * j) 11), .int (I (26 + 11 * j) 12), .int (I (26 + 11 * j) 13), .int (I (26 + 11 * j) 14)] 12 (.int x))) = hp L (va_up I (26 + 11 * j) (upd (I (26 + 11 * j)) 12 x)) r := hp_set (by rw [hpr_0 hj hr, va_up_self]; rfl)
theorem hur_0_13 (hj : j < r) (hr : r ≤ 40) {x : Int32} : va_up (hp L I r) (26 + 11 * j) (mO 5 (List.set [.ref (26 + 11 * j + 1), .ref (26 + 11 * j + 2), .ref (26 + 11 * j + 3), .ref (26 + 11 * j + 4), .ref (26 + 11 * j + 5), .ref (26 + 11 * j + 6), .ref (26 + 11 * j + 7), .ref (26 + 11 * j + 8), .ref (26 + 11 * j + 9), .ref (26 + 11 * j + 10), .int (I (26 + 11 * j) 10), .int (I (26 + 11 * j) 11), .int (I (26 + 11 * j) 12), .int (I (26 + 11 * j) 13), .int (I (26 + 11 * j) 14)] 13 (.int x))) = hp L (va_up I (26 + 11 * j) (upd (I (26 + 11 * j)) 13 x)) r := hp_set (by rw [hpr_0 hj hr, va_up_self]; rfl)
theorem hur_0_14 (hj : j < r) (hr : r ≤ 40) {x : Int32} : va_up (hp L I r) (26 + 11 * j) (mO 5 (List.set [.ref (26 + 11 * j + 1), .ref (26 + 11 * j + 2), .ref (26 + 11 * j + 3), .ref (26 + 11 * j + 4), .ref (26 + 11 * j + 5), .ref (26 + 11 * j + 6), .ref (26 + 11 * j + 7), .ref (26 + 11 * j + 8), .ref (26 + 11 * j + 9), .ref (26 + 11 * j + 10), .int (I (26 + 11 * j) 10), .int (I (26 + 11 * j) 11), .int (I (26 + 11 * j) 12), .int (I (26 + 11 * j) 13), .int (I (26 + 11 * j) 14)] 14 (.int x))) = hp L (va_up I (26 + 11 * j) (upd (I (26 + 11 * j)) 14 x)) r := hp_set (by rw [hpr_0 hj hr, va_up_self]; rfl)
end ROWS
abbrev cpy {α : Type} (f g : Nat → α) (n : Nat) : Nat → α := va_cpy f g 0 0 n
def cpL (L : LT) (x y : Nat) : LT := va_up (va_up L (x + 1) (cpy (L (y + 1)) (L (x + 1)) 102)) (x + 2) (cpy (L (y + 2)) (L (x + 2)) 35)
def cpA (I : IT) (x y : Nat) : IT := va_up (va_up (va_up (va_up (va_up (va_up (va_up (va_up I (x + 3) (cpy (I (y + 3)) (I (x + 3)) 6)) (x + 4) (cpy (I (y + 4)) (I (x + 4)) 6)) (x + 5) (cpy (I (y + 5)) (I (x + 5)) 6)) (x + 6) (cpy (I (y + 6)) (I (x + 6)) 6)) (x + 7) (cpy (I (y + 7)) (I (x + 7)) 5)) (x + 8) (cpy (I (y + 8)) (I (x + 8)) 5)) (x + 9) (cpy (I (y + 9)) (I (x + 9)) 5)) (x + 10) (cpy (I (y + 10)) (I (x + 10)) 5)
def cpI (I : IT) (x y : Nat) : IT := upI (upI (upI (upI (upI (cpA I x y) x 10 (I y 10)) x 11 (I y 11)) x 12 (I y 12)) x 13 (I y 13)) x 14 (I y 14)
theorem upd_ne {f : Nat → Int32} {k i : Nat} {x : Int32} (h : i ≠ k) : upd f k x i = f i := if_neg h
set_option maxRecDepth 100000 in
set_option maxHeartbeats 2000000 in
theorem t_copy_row {G : GW} {L : LT} {I : IT} {r : Nat} {j : Nat} (hj : j < r) (hr : r ≤ 40) : mt G M_St_copyFrom 1 0 0 [.ref (26 + 11 * j), .ref 4] (hp L I r) (dt none (hp (cpL L (26 + 11 * j) 4) (cpI I (26 + 11 * j) 4) r)) := by
  refine mt_of_ev (by decide) (Nat.le_of_ble_eq_true rfl) ?_
  show ev G M_St_copyFrom (rmv 1 0 0) (Er M_St_copyFrom _ 0 0) 0 [(0, .ref (26 + 11 * j)), (1, .ref 4)] [] (hp L I r) 0 0
  refine s_St_copyFrom_0 rfl ?_
  refine s_St_copyFrom_1 (hp_4) rfl ?_
  refine s_St_copyFrom_4 ?_
  refine s_St_copyFrom_5 rfl ?_
  refine s_St_copyFrom_6 (hpr_0 hj hr) rfl ?_
  refine s_St_copyFrom_9 ?_
  refine s_St_copyFrom_10 ?_
  refine s_St_copyFrom_12l (show hp _ _ r (5) = mL 1 102 (L (5)) by rw [hp_5] <;> (try simp (disch := omega) only [va_up_ne])) (show hp _ _ r (26 + 11 * j + 1) = mL 1 102 (L (26 + 11 * j + 1)) by rw [hpr_1 hj hr] <;> (try simp (disch := omega) only [va_up_ne])) (by decide) (by decide) (by decide) (by decide) (by decide) (Nat.le_of_ble_eq_true rfl) (Nat.le_of_ble_eq_true rfl) ?_
  rw [hur_1 hj hr]
  refine s_St_copyFrom_15 rfl ?_
  refine s_St_copyFrom_16 (hp_4) rfl ?_
  refine s_St_copyFrom_19 ?_
  refine s_St_copyFrom_20 rfl ?_
  refine s_St_copyFrom_21 (hpr_0 hj hr) rfl ?_
  refine s_St_copyFrom_24 ?_
  refine s_St_copyFrom_25 ?_
  refine s_St_copyFrom_27l (show hp _ _ r (6) = mL 1 35 (L (6)) by rw [hp_6] <;> (try simp (disch := omega) only [va_up_ne])) (show hp _ _ r (26 + 11 * j + 2) = mL 1 35 (L (26 + 11 * j + 2)) by rw [hpr_2 hj hr] <;> (try simp (disch := omega) only [va_up_ne])) (by decide) (by decide) (by decide) (by decide) (by decide) (Nat.le_of_ble_eq_true rfl) (Nat.le_of_ble_eq_true rfl) ?_
  rw [hur_2 hj hr]
  refine s_St_copyFrom_30 rfl ?_
  refine s_St_copyFrom_31 (hp_4) rfl ?_
  refine s_St_copyFrom_34 ?_
  refine s_St_copyFrom_35 rfl ?_
  refine s_St_copyFrom_36 (hpr_0 hj hr) rfl ?_
  refine s_St_copyFrom_39 ?_
  refine s_St_copyFrom_40 ?_
  refine s_St_copyFrom_42i (show hp _ _ r (7) = mI 0 6 (I (7)) by rw [hp_7] <;> (try simp (disch := omega) only [va_up_ne])) (show hp _ _ r (26 + 11 * j + 3) = mI 0 6 (I (26 + 11 * j + 3)) by rw [hpr_3 hj hr] <;> (try simp (disch := omega) only [va_up_ne])) (by decide) (by decide) (by decide) (by decide) (by decide) (Nat.le_of_ble_eq_true rfl) (Nat.le_of_ble_eq_true rfl) ?_
  rw [hur_3 hj hr]
  refine s_St_copyFrom_45 rfl ?_
  refine s_St_copyFrom_46 (hp_4) rfl ?_
  refine s_St_copyFrom_49 ?_
  refine s_St_copyFrom_50 rfl ?_
  refine s_St_copyFrom_51 (hpr_0 hj hr) rfl ?_
  refine s_St_copyFrom_54 ?_
  refine s_St_copyFrom_55 ?_
  refine s_St_copyFrom_57i (show hp _ _ r (8) = mI 0 6 (I (8)) by rw [hp_8] <;> (try simp (disch := omega) only [va_up_ne])) (show hp _ _ r (26 + 11 * j + 4) = mI 0 6 (I (26 + 11 * j + 4)) by rw [hpr_4 hj hr] <;> (try simp (disch := omega) only [va_up_ne])) (by decide) (by decide) (by decide) (by decide) (by decide) (Nat.le_of_ble_eq_true rfl) (Nat.le_of_ble_eq_true rfl) ?_
  rw [hur_4 hj hr]
  refine s_St_copyFrom_60 rfl ?_
  refine s_St_copyFrom_61 (hp_4) rfl ?_
  refine s_St_copyFrom_64 ?_
  refine s_St_copyFrom_65 rfl ?_
  refine s_St_copyFrom_66 (hpr_0 hj hr) rfl ?_
  refine s_St_copyFrom_69 ?_
  refine s_St_copyFrom_70 ?_
  refine s_St_copyFrom_72i (show hp _ _ r (9) = mI 0 6 (I (9)) by rw [hp_9] <;> (try simp (disch := omega) only [va_up_ne])) (show hp _ _ r (26 + 11 * j + 5) = mI 0 6 (I (26 + 11 * j + 5)) by rw [hpr_5 hj hr] <;> (try simp (disch := omega) only [va_up_ne])) (by decide) (by decide) (by decide) (by decide) (by decide) (Nat.le_of_ble_eq_true rfl) (Nat.le_of_ble_eq_true rfl) ?_
  rw [hur_5 hj hr]
  refine s_St_copyFrom_75 rfl ?_
  refine s_St_copyFrom_76 (hp_4) rfl ?_
  refine s_St_copyFrom_79 ?_
  refine s_St_copyFrom_80 rfl ?_
  refine s_St_copyFrom_81 (hpr_0 hj hr) rfl ?_
  refine s_St_copyFrom_84 ?_
  refine s_St_copyFrom_85 ?_
  refine s_St_copyFrom_87i (show hp _ _ r (10) = mI 0 6 (I (10)) by rw [hp_10] <;> (try simp (disch := omega) only [va_up_ne])) (show hp _ _ r (26 + 11 * j + 6) = mI 0 6 (I (26 + 11 * j + 6)) by rw [hpr_6 hj hr] <;> (try simp (disch := omega) only [va_up_ne])) (by decide) (by decide) (by decide) (by decide) (by decide) (Nat.le_of_ble_eq_true rfl) (Nat.le_of_ble_eq_true rfl) ?_
  rw [hur_6 hj hr]
  refine s_St_copyFrom_90 rfl ?_
  refine s_St_copyFrom_91 (hp_4) rfl ?_
  refine s_St_copyFrom_94 ?_
  refine s_St_copyFrom_95 rfl ?_
  refine s_St_copyFrom_96 (hpr_0 hj hr) rfl ?_
  refine s_St_copyFrom_99 ?_
  refine s_St_copyFrom_100 ?_
  refine s_St_copyFrom_101i (show hp _ _ r (11) = mI 0 5 (I (11)) by rw [hp_11] <;> (try simp (disch := omega) only [va_up_ne])) (show hp _ _ r (26 + 11 * j + 7) = mI 0 5 (I (26 + 11 * j + 7)) by rw [hpr_7 hj hr] <;> (try simp (disch := omega) only [va_up_ne])) (by decide) (by decide) (by decide) (by decide) (by decide) (Nat.le_of_ble_eq_true rfl) (Nat.le_of_ble_eq_true rfl) ?_
  rw [hur_7 hj hr]
  refine s_St_copyFrom_104 rfl ?_
  refine s_St_copyFrom_105 (hp_4) rfl ?_
  refine s_St_copyFrom_108 ?_
  refine s_St_copyFrom_109 rfl ?_
  refine s_St_copyFrom_110 (hpr_0 hj hr) rfl ?_
  refine s_St_copyFrom_113 ?_
  refine s_St_copyFrom_114 ?_
  refine s_St_copyFrom_115i (show hp _ _ r (12) = mI 0 5 (I (12)) by rw [hp_12] <;> (try simp (disch := omega) only [va_up_ne])) (show hp _ _ r (26 + 11 * j + 8) = mI 0 5 (I (26 + 11 * j + 8)) by rw [hpr_8 hj hr] <;> (try simp (disch := omega) only [va_up_ne])) (by decide) (by decide) (by decide) (by decide) (by decide) (Nat.le_of_ble_eq_true rfl) (Nat.le_of_ble_eq_true rfl) ?_
  rw [hur_8 hj hr]
  refine s_St_copyFrom_118 rfl ?_
  refine s_St_copyFrom_119 (hp_4) rfl ?_
  refine s_St_copyFrom_122 ?_
  refine s_St_copyFrom_123 rfl ?_
  refine s_St_copyFrom_124 (hpr_0 hj hr) rfl ?_
  refine s_St_copyFrom_127 ?_
  refine s_St_copyFrom_128 ?_
  refine s_St_copyFrom_129i (show hp _ _ r (13) = mI 0 5 (I (13)) by rw [hp_13] <;> (try simp (disch := omega) only [va_up_ne])) (show hp _ _ r (26 + 11 * j + 9) = mI 0 5 (I (26 + 11 * j + 9)) by rw [hpr_9 hj hr] <;> (try simp (disch := omega) only [va_up_ne])) (by decide) (by decide) (by decide) (by decide) (by decide) (Nat.le_of_ble_eq_true rfl) (Nat.le_of_ble_eq_true rfl) ?_
  rw [hur_9 hj hr]
  refine s_St_copyFrom_132 rfl ?_
  refine s_St_copyFrom_133 (hp_4) rfl ?_
  refine s_St_copyFrom_136 ?_
  refine s_St_copyFrom_137 rfl ?_
  refine s_St_copyFrom_138 (hpr_0 hj hr) rfl ?_
  refine s_St_copyFrom_141 ?_
  refine s_St_copyFrom_142 ?_
  refine s_St_copyFrom_143i (show hp _ _ r (14) = mI 0 5 (I (14)) by rw [hp_14] <;> (try simp (disch := omega) only [va_up_ne])) (show hp _ _ r (26 + 11 * j + 10) = mI 0 5 (I (26 + 11 * j + 10)) by rw [hpr_10 hj hr] <;> (try simp (disch := omega) only [va_up_ne])) (by decide) (by decide) (by decide) (by decide) (by decide) (Nat.le_of_ble_eq_true rfl) (Nat.le_of_ble_eq_true rfl) ?_
  rw [hur_10 hj hr]
  refine s_St_copyFrom_146 rfl ?_
  refine s_St_copyFrom_147 rfl ?_
  refine s_St_copyFrom_148 (hp_4) rfl ?_
  refine ev_topi (show _ = I (4) 10 by simp (disch := omega) only [va_up_ne, va_up_self, upd_ne]) ?_
  refine s_St_copyFrom_151 (hpr_0 hj hr) (Nat.le_of_ble_eq_true rfl) ?_
  rw [hur_0_10 hj hr]
  refine s_St_copyFrom_154 rfl ?_
  refine s_St_copyFrom_155 rfl ?_
  refine s_St_copyFrom_156 (hp_4) rfl ?_
  refine ev_topi (show _ = I (4) 11 by simp (disch := omega) only [va_up_ne, va_up_self, upd_ne]) ?_
  refine s_St_copyFrom_159 (hpr_0 hj hr) (Nat.le_of_ble_eq_true rfl) ?_
  rw [hur_0_11 hj hr]
  refine s_St_copyFrom_162 rfl ?_
  refine s_St_copyFrom_163 rfl ?_
  refine s_St_copyFrom_164 (hp_4) rfl ?_
  refine ev_topi (show _ = I (4) 12 by simp (disch := omega) only [va_up_ne, va_up_self, upd_ne]) ?_
  refine s_St_copyFrom_167 (hpr_0 hj hr) (Nat.le_of_ble_eq_true rfl) ?_
  rw [hur_0_12 hj hr]
  refine s_St_copyFrom_170 rfl ?_
  refine s_St_copyFrom_171 rfl ?_
  refine s_St_copyFrom_172 (hp_4) rfl ?_
  refine ev_topi (show _ = I (4) 13 by simp (disch := omega) only [va_up_ne, va_up_self, upd_ne]) ?_
  refine s_St_copyFrom_175 (hpr_0 hj hr) (Nat.le_of_ble_eq_true rfl) ?_
  rw [hur_0_13 hj hr]
  refine s_St_copyFrom_178 rfl ?_
  refine s_St_copyFrom_179 rfl ?_
  refine s_St_copyFrom_180 (hp_4) rfl ?_
  refine ev_topi (show _ = I (4) 14 by simp (disch := omega) only [va_up_ne, va_up_self, upd_ne]) ?_
  refine s_St_copyFrom_183 (hpr_0 hj hr) (Nat.le_of_ble_eq_true rfl) ?_
  rw [hur_0_14 hj hr]
  exact s_St_copyFrom_186 ⟨rfl, rfl⟩ z0
set_option maxRecDepth 100000 in
set_option maxHeartbeats 2000000 in
theorem t_copy_main {G : GW} {L : LT} {I : IT} {r : Nat} {j : Nat} (hj : j < r) (hr : r ≤ 40) : mt G M_St_copyFrom 1 0 0 [.ref 4, .ref (26 + 11 * j)] (hp L I r) (dt none (hp (cpL L 4 (26 + 11 * j)) (cpI I 4 (26 + 11 * j)) r)) := by
  refine mt_of_ev (by decide) (Nat.le_of_ble_eq_true rfl) ?_
  show ev G M_St_copyFrom (rmv 1 0 0) (Er M_St_copyFrom _ 0 0) 0 [(0, .ref 4), (1, .ref (26 + 11 * j))] [] (hp L I r) 0 0
  refine s_St_copyFrom_0 rfl ?_
  refine s_St_copyFrom_1 (hpr_0 hj hr) rfl ?_
  refine s_St_copyFrom_4 ?_
  refine s_St_copyFrom_5 rfl ?_
  refine s_St_copyFrom_6 (hp_4) rfl ?_
  refine s_St_copyFrom_9 ?_
  refine s_St_copyFrom_10 ?_
  refine s_St_copyFrom_12l (show hp _ _ r (26 + 11 * j + 1) = mL 1 102 (L (26 + 11 * j + 1)) by rw [hpr_1 hj hr] <;> (try simp (disch := omega) only [va_up_ne])) (show hp _ _ r (5) = mL 1 102 (L (5)) by rw [hp_5] <;> (try simp (disch := omega) only [va_up_ne])) (by decide) (by decide) (by decide) (by decide) (by decide) (Nat.le_of_ble_eq_true rfl) (Nat.le_of_ble_eq_true rfl) ?_
  rw [hu_5]
  refine s_St_copyFrom_15 rfl ?_
  refine s_St_copyFrom_16 (hpr_0 hj hr) rfl ?_
  refine s_St_copyFrom_19 ?_
  refine s_St_copyFrom_20 rfl ?_
  refine s_St_copyFrom_21 (hp_4) rfl ?_
  refine s_St_copyFrom_24 ?_
  refine s_St_copyFrom_25 ?_
  refine s_St_copyFrom_27l (show hp _ _ r (26 + 11 * j + 2) = mL 1 35 (L (26 + 11 * j + 2)) by rw [hpr_2 hj hr] <;> (try simp (disch := omega) only [va_up_ne])) (show hp _ _ r (6) = mL 1 35 (L (6)) by rw [hp_6] <;> (try simp (disch := omega) only [va_up_ne])) (by decide) (by decide) (by decide) (by decide) (by decide) (Nat.le_of_ble_eq_true rfl) (Nat.le_of_ble_eq_true rfl) ?_
  rw [hu_6]
  refine s_St_copyFrom_30 rfl ?_
  refine s_St_copyFrom_31 (hpr_0 hj hr) rfl ?_
  refine s_St_copyFrom_34 ?_
  refine s_St_copyFrom_35 rfl ?_
  refine s_St_copyFrom_36 (hp_4) rfl ?_
  refine s_St_copyFrom_39 ?_
  refine s_St_copyFrom_40 ?_
  refine s_St_copyFrom_42i (show hp _ _ r (26 + 11 * j + 3) = mI 0 6 (I (26 + 11 * j + 3)) by rw [hpr_3 hj hr] <;> (try simp (disch := omega) only [va_up_ne])) (show hp _ _ r (7) = mI 0 6 (I (7)) by rw [hp_7] <;> (try simp (disch := omega) only [va_up_ne])) (by decide) (by decide) (by decide) (by decide) (by decide) (Nat.le_of_ble_eq_true rfl) (Nat.le_of_ble_eq_true rfl) ?_
  rw [hu_7]
  refine s_St_copyFrom_45 rfl ?_
  refine s_St_copyFrom_46 (hpr_0 hj hr) rfl ?_
  refine s_St_copyFrom_49 ?_
  refine s_St_copyFrom_50 rfl ?_
  refine s_St_copyFrom_51 (hp_4) rfl ?_
  refine s_St_copyFrom_54 ?_
  refine s_St_copyFrom_55 ?_
  refine s_St_copyFrom_57i (show hp _ _ r (26 + 11 * j + 4) = mI 0 6 (I (26 + 11 * j + 4)) by rw [hpr_4 hj hr] <;> (try simp (disch := omega) only [va_up_ne])) (show hp _ _ r (8) = mI 0 6 (I (8)) by rw [hp_8] <;> (try simp (disch := omega) only [va_up_ne])) (by decide) (by decide) (by decide) (by decide) (by decide) (Nat.le_of_ble_eq_true rfl) (Nat.le_of_ble_eq_true rfl) ?_
  rw [hu_8]
  refine s_St_copyFrom_60 rfl ?_
  refine s_St_copyFrom_61 (hpr_0 hj hr) rfl ?_
  refine s_St_copyFrom_64 ?_
  refine s_St_copyFrom_65 rfl ?_
  refine s_St_copyFrom_66 (hp_4) rfl ?_
  refine s_St_copyFrom_69 ?_
  refine s_St_copyFrom_70 ?_
  refine s_St_copyFrom_72i (show hp _ _ r (26 + 11 * j + 5) = mI 0 6 (I (26 + 11 * j + 5)) by rw [hpr_5 hj hr] <;> (try simp (disch := omega) only [va_up_ne])) (show hp _ _ r (9) = mI 0 6 (I (9)) by rw [hp_9] <;> (try simp (disch := omega) only [va_up_ne])) (by decide) (by decide) (by decide) (by decide) (by decide) (Nat.le_of_ble_eq_true rfl) (Nat.le_of_ble_eq_true rfl) ?_
  rw [hu_9]
  refine s_St_copyFrom_75 rfl ?_
  refine s_St_copyFrom_76 (hpr_0 hj hr) rfl ?_
  refine s_St_copyFrom_79 ?_
  refine s_St_copyFrom_80 rfl ?_
  refine s_St_copyFrom_81 (hp_4) rfl ?_
  refine s_St_copyFrom_84 ?_
  refine s_St_copyFrom_85 ?_
  refine s_St_copyFrom_87i (show hp _ _ r (26 + 11 * j + 6) = mI 0 6 (I (26 + 11 * j + 6)) by rw [hpr_6 hj hr] <;> (try simp (disch := omega) only [va_up_ne])) (show hp _ _ r (10) = mI 0 6 (I (10)) by rw [hp_10] <;> (try simp (disch := omega) only [va_up_ne])) (by decide) (by decide) (by decide) (by decide) (by decide) (Nat.le_of_ble_eq_true rfl) (Nat.le_of_ble_eq_true rfl) ?_
  rw [hu_10]
  refine s_St_copyFrom_90 rfl ?_
  refine s_St_copyFrom_91 (hpr_0 hj hr) rfl ?_
  refine s_St_copyFrom_94 ?_
  refine s_St_copyFrom_95 rfl ?_
  refine s_St_copyFrom_96 (hp_4) rfl ?_
  refine s_St_copyFrom_99 ?_
  refine s_St_copyFrom_100 ?_
  refine s_St_copyFrom_101i (show hp _ _ r (26 + 11 * j + 7) = mI 0 5 (I (26 + 11 * j + 7)) by rw [hpr_7 hj hr] <;> (try simp (disch := omega) only [va_up_ne])) (show hp _ _ r (11) = mI 0 5 (I (11)) by rw [hp_11] <;> (try simp (disch := omega) only [va_up_ne])) (by decide) (by decide) (by decide) (by decide) (by decide) (Nat.le_of_ble_eq_true rfl) (Nat.le_of_ble_eq_true rfl) ?_
  rw [hu_11]
  refine s_St_copyFrom_104 rfl ?_
  refine s_St_copyFrom_105 (hpr_0 hj hr) rfl ?_
  refine s_St_copyFrom_108 ?_
  refine s_St_copyFrom_109 rfl ?_
  refine s_St_copyFrom_110 (hp_4) rfl ?_
  refine s_St_copyFrom_113 ?_
  refine s_St_copyFrom_114 ?_
  refine s_St_copyFrom_115i (show hp _ _ r (26 + 11 * j + 8) = mI 0 5 (I (26 + 11 * j + 8)) by rw [hpr_8 hj hr] <;> (try simp (disch := omega) only [va_up_ne])) (show hp _ _ r (12) = mI 0 5 (I (12)) by rw [hp_12] <;> (try simp (disch := omega) only [va_up_ne])) (by decide) (by decide) (by decide) (by decide) (by decide) (Nat.le_of_ble_eq_true rfl) (Nat.le_of_ble_eq_true rfl) ?_
  rw [hu_12]
  refine s_St_copyFrom_118 rfl ?_
  refine s_St_copyFrom_119 (hpr_0 hj hr) rfl ?_
  refine s_St_copyFrom_122 ?_
  refine s_St_copyFrom_123 rfl ?_
  refine s_St_copyFrom_124 (hp_4) rfl ?_
  refine s_St_copyFrom_127 ?_
  refine s_St_copyFrom_128 ?_
  refine s_St_copyFrom_129i (show hp _ _ r (26 + 11 * j + 9) = mI 0 5 (I (26 + 11 * j + 9)) by rw [hpr_9 hj hr] <;> (try simp (disch := omega) only [va_up_ne])) (show hp _ _ r (13) = mI 0 5 (I (13)) by rw [hp_13] <;> (try simp (disch := omega) only [va_up_ne])) (by decide) (by decide) (by decide) (by decide) (by decide) (Nat.le_of_ble_eq_true rfl) (Nat.le_of_ble_eq_true rfl) ?_
  rw [hu_13]
  refine s_St_copyFrom_132 rfl ?_
  refine s_St_copyFrom_133 (hpr_0 hj hr) rfl ?_
  refine s_St_copyFrom_136 ?_
  refine s_St_copyFrom_137 rfl ?_
  refine s_St_copyFrom_138 (hp_4) rfl ?_
  refine s_St_copyFrom_141 ?_
  refine s_St_copyFrom_142 ?_
  refine s_St_copyFrom_143i (show hp _ _ r (26 + 11 * j + 10) = mI 0 5 (I (26 + 11 * j + 10)) by rw [hpr_10 hj hr] <;> (try simp (disch := omega) only [va_up_ne])) (show hp _ _ r (14) = mI 0 5 (I (14)) by rw [hp_14] <;> (try simp (disch := omega) only [va_up_ne])) (by decide) (by decide) (by decide) (by decide) (by decide) (Nat.le_of_ble_eq_true rfl) (Nat.le_of_ble_eq_true rfl) ?_
  rw [hu_14]
  refine s_St_copyFrom_146 rfl ?_
  refine s_St_copyFrom_147 rfl ?_
  refine s_St_copyFrom_148 (hpr_0 hj hr) rfl ?_
  refine ev_topi (show _ = I (26 + 11 * j) 10 by simp (disch := omega) only [va_up_ne, va_up_self, upd_ne]) ?_
  refine s_St_copyFrom_151 (hp_4) (Nat.le_of_ble_eq_true rfl) ?_
  rw [hu_4_10]
  refine s_St_copyFrom_154 rfl ?_
  refine s_St_copyFrom_155 rfl ?_
  refine s_St_copyFrom_156 (hpr_0 hj hr) rfl ?_
  refine ev_topi (show _ = I (26 + 11 * j) 11 by simp (disch := omega) only [va_up_ne, va_up_self, upd_ne]) ?_
  refine s_St_copyFrom_159 (hp_4) (Nat.le_of_ble_eq_true rfl) ?_
  rw [hu_4_11]
  refine s_St_copyFrom_162 rfl ?_
  refine s_St_copyFrom_163 rfl ?_
  refine s_St_copyFrom_164 (hpr_0 hj hr) rfl ?_
  refine ev_topi (show _ = I (26 + 11 * j) 12 by simp (disch := omega) only [va_up_ne, va_up_self, upd_ne]) ?_
  refine s_St_copyFrom_167 (hp_4) (Nat.le_of_ble_eq_true rfl) ?_
  rw [hu_4_12]
  refine s_St_copyFrom_170 rfl ?_
  refine s_St_copyFrom_171 rfl ?_
  refine s_St_copyFrom_172 (hpr_0 hj hr) rfl ?_
  refine ev_topi (show _ = I (26 + 11 * j) 13 by simp (disch := omega) only [va_up_ne, va_up_self, upd_ne]) ?_
  refine s_St_copyFrom_175 (hp_4) (Nat.le_of_ble_eq_true rfl) ?_
  rw [hu_4_13]
  refine s_St_copyFrom_178 rfl ?_
  refine s_St_copyFrom_179 rfl ?_
  refine s_St_copyFrom_180 (hpr_0 hj hr) rfl ?_
  refine ev_topi (show _ = I (26 + 11 * j) 14 by simp (disch := omega) only [va_up_ne, va_up_self, upd_ne]) ?_
  refine s_St_copyFrom_183 (hp_4) (Nat.le_of_ble_eq_true rfl) ?_
  rw [hu_4_14]
  exact s_St_copyFrom_186 ⟨rfl, rfl⟩ z0

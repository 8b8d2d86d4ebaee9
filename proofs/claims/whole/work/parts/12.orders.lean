/-! the orders: what each answers (its fault, or 0) and does -/
abbrev OR : Type := Int32 × LT × IT
def oNum (L : LT) (I : IT) (a : Nat) : OR := if vKd (L 5 a) = 0 then (0, upL L 5 a (vNu (I 17 4)), gO I) else (3, L, I)
def oMov (L : LT) (I : IT) (a b : Nat) : OR := if vKd (L 5 a) = 0 then (0, (sAs L I a b).1, gO (sAs L I a b).2) else (3, L, I)
def oAdd (L : LT) (I : IT) (s : Int32) (a b : Nat) : OR := if vKd (L 5 a) = 0 ∧ vKd (L 5 b) = 0 then (0, upL L 5 a (vNu ((L 5 a).toInt32 + s * (L 5 b).toInt32)), gO I) else (1, L, I)
def oSpl (L : LT) (I : IT) (a b : Nat) : OR :=
  if ¬ vKd (L 5 a) = 1 then (1, L, I) else if I 17 5 < 1 ∨ ¬ I 17 5 < vEn (L 5 a) - vFr (L 5 a) then (2, L, I) else if ¬ vKd (L 5 b) = 0 then (3, L, I)
  else (0, upL (upL L 5 a (vPk 1 (vFr (L 5 a)) (vFr (L 5 a) + I 17 5) (vRi (L 5 a)) 0)) 5 b (vPk 1 (vFr (L 5 a) + I 17 5) (vEn (L 5 a)) (vRi (L 5 a)) 0), gO I)
def jRa (u v : Int64) : Bool := (decide (vEn u = vFr v) || decide (vEn v = vFr u)) && decide (vRi u = vRi v)
def jRi (u v : Int64) : Bool := (decide (vFr u = vFr v) && decide (vEn u = vEn v)) && decide (vRi u &&& vRi v = 0)
def oMer (L : LT) (I : IT) (a b : Nat) : OR :=
  if ¬ vKd (L 5 a) = 1 ∨ ¬ vKd (L 5 b) = 1 then (1, L, I) else if I 17 3 = I 17 4 ∨ (jRa (L 5 a) (L 5 b) = false ∧ jRi (L 5 a) (L 5 b) = false) then (4, L, I)
  else (0, upL (upL L 5 a (vPk 1 (if vFr (L 5 b) < vFr (L 5 a) then vFr (L 5 b) else vFr (L 5 a)) (if vEn (L 5 a) < vEn (L 5 b) then vEn (L 5 b) else vEn (L 5 a)) (vRi (L 5 a) ||| vRi (L 5 b)) 0)) 5 b 0, gO I)
def oRes (L : LT) (I : IT) (a b : Nat) : OR :=
  if ¬ vKd (L 5 a) = 1 then (1, L, I) else if vRi (L 5 a) &&& I 17 5 = 0 ∨ vRi (L 5 a) &&& (I 17 5 ^^^ (-1)) = 0 then (2, L, I) else if ¬ vKd (L 5 b) = 0 then (3, L, I)
  else (0, upL (upL L 5 a (vPk 1 (vFr (L 5 a)) (vEn (L 5 a)) (vRi (L 5 a) &&& I 17 5) 0)) 5 b (vPk 1 (vFr (L 5 a)) (vEn (L 5 a)) (vRi (L 5 a) &&& (I 17 5 ^^^ (-1))) 0), gO I)
def oFre (L : LT) (I : IT) (a : Nat) : OR :=
  if ¬ vKd (L 5 a) = 1 then (1, L, I) else if ¬ vRi (L 5 a) = 1 then (2, L, I) else if ¬ 0 ≤ fz (I 7) 0 6 then (7, L, I)
  else (0, upL L 5 a (vPk 2 (vFr (L 5 a)) (vEn (L 5 a)) 1 (fz (I 7) 0 6)), gO (upI I 7 (fz (I 7) 0 6).toNatClampNeg (I 7 (fz (I 7) 0 6).toNatClampNeg + 1)))
def oTha (L : LT) (I : IT) (a : Nat) : OR :=
  if ¬ vKd (L 5 a) = 2 then (1, L, I) else if ¬ I 7 (lk (L 5 a)) = 1 then (6, L, I)
  else (0, upL L 5 a (vPk 1 (vFr (L 5 a)) (vEn (L 5 a)) 1 0), gO (upI I 7 (lk (L 5 a)) (I 7 (lk (L 5 a)) + (-1))))
def oDro (L : LT) (I : IT) (a : Nat) : OR :=
  if ¬ vKd (L 5 a) = 2 then (1, L, I) else if ¬ 1 < I 7 (lk (L 5 a)) then (6, L, I)
  else (0, upL L 5 a 0, gO (upI I 7 (lk (L 5 a)) (I 7 (lk (L 5 a)) + (-1))))
def vIn (I : IT) (w : Int64) : Bool := decide (0 ≤ I 17 5) && decide (I 17 5 < vEn w - vFr w)
def vHas (w : Int64) (q : Int32) : Bool := vCap w && !decide (vRi w &&& q = 0)
def oLoa (L : LT) (I : IT) (a b pl : Nat) : OR :=
  if vCap (L 5 b) = false then (1, L, I) else if vIn I (L 5 b) = false ∨ vHas (L 5 b) 1 = false then (2, L, I) else if vMov (L 5 pl) = true ∧ vHas (L 5 b) 2 = false then (2, L, I)
  else if ¬ vKd (L 5 a) = 0 then (3, L, I) else (0, (sAs L I a pl).1, gO (sAs L I a pl).2)
def oSto (L : LT) (I : IT) (a b pl : Nat) : OR :=
  if vCap (L 5 b) = false then (1, L, I) else if vIn I (L 5 b) = false ∨ vHas (L 5 b) 2 = false then (2, L, I)
  else if ¬ vKd (L 5 pl) = 0 then (3, L, I) else (0, (sAs L I pl a).1, gO (sAs L I pl a).2)
def oZer (L : LT) (I : IT) (a : Nat) : OR := if ¬ vKd (L 5 a) = 0 then (1, L, I) else if (L 5 a).toInt32 = 0 then (0, L, upI I 4 12 (I 17 4)) else (0, L, gO I)
def oLes (L : LT) (I : IT) (a b : Nat) : OR := if ¬ vKd (L 5 a) = 0 ∨ ¬ vKd (L 5 b) = 0 then (1, L, I) else if (L 5 b).toInt32 ≤ (L 5 a).toInt32 then (0, L, gO I) else (0, L, upI I 4 12 (I 17 5))
def oSea (L : LT) (I : IT) (a : Nat) : OR :=
  if ¬ vKd (L 5 a) = 1 then (1, L, I) else if ¬ 0 ≤ fz (I 8) 0 6 then (7, L, I)
  else (0, upL (upL (upL L 5 (96 + (fz (I 8) 0 6).toNatClampNeg) (L 5 a)) 5 a 0) 5 a (vPk 3 0 0 0 (fz (I 8) 0 6)), gO (upI (upI (upI I 8 (fz (I 8) 0 6).toNatClampNeg 1) 9 (fz (I 8) 0 6).toNatClampNeg (I 17 4)) 10 (fz (I 8) 0 6).toNatClampNeg (I 17 5)))
def oHal (L : LT) (I : IT) : OR := (0, L, gO (upI I 4 14 (-1)))
theorem fz6 {f : Nat → Int32} (h : 0 ≤ fz f 0 6) : fz f 0 6 = nI (fz f 0 6).toNatClampNeg ∧ (fz f 0 6).toNatClampNeg < 6 := by
  rcases fz_in f 6 0 with q | ⟨j, h1, h2, h3, h4⟩
  · rw [q] at h; exact absurd h (by decide)
  · rw [h3, nI_clamp (by omega)]; exact ⟨rfl, by omega⟩
set_option maxRecDepth 100000 in
theorem t_Pr_setNumber {G : GW} {L : LT} {I : IT} {r : Nat} {a : Nat} (ea : I 17 3 = nI a) (ha : a < 8) : mt G M_Pr_setNumber 3 0 0 [.ref 17] (hp L I r) (dt (some (.int (oNum L I a).1)) (hp (oNum L I a).2.1 (oNum L I a).2.2 r)) := by
  refine mt_of_ev (by decide) (Nat.le_of_ble_eq_true rfl) ?_
  show ev G M_Pr_setNumber (rmv 3 0 0) (Er M_Pr_setNumber _ 0 0) 0 [(0, .ref 17)] [] (hp L I r) 0 0
  refine s_Pr_setNumber_0 rfl ?_
  refine s_Pr_setNumber_1 rfl ?_
  refine s_Pr_setNumber_2 hp_17 rfl ?_
  refine c_Pr_setNumber_5 (t_Pr_isFull ea (by omega)) hp_17 rfl (Nat.le_of_ble_eq_true rfl) ?_
  refine s_Pr_setNumber_8 (fun c8 => ?_) (fun c8 => ?_)
  · skip
    (first | rw [bz_n0] at c8 | rw [bz_0] at c8 | skip); (try simp only [Bool.not_eq_false', Bool.not_eq_true', decide_eq_true_eq, decide_eq_false_iff_not, Bool.or_eq_true, Bool.or_eq_false_iff, Bool.and_eq_true, Bool.and_eq_false_iff] at c8)
    refine s_Pr_setNumber_13 rfl ?_
    refine s_Pr_setNumber_14 hp_17 rfl ?_
    refine s_Pr_setNumber_17 rfl ?_
    refine s_Pr_setNumber_18 hp_17 rfl ?_
    refine s_Pr_setNumber_21 rfl ?_
    refine s_Pr_setNumber_22 hp_17 rfl ?_
    refine c_Pr_setNumber_25 (t_Va_number) (Nat.le_of_ble_eq_true rfl) ?_
    refine c_Pr_setNumber_28 (t_St_put ea (by omega)) hp_4 rfl (Nat.le_of_ble_eq_true rfl) ?_
    refine s_Pr_setNumber_31 rfl ?_
    refine c_Pr_setNumber_32 (t_Pr_goOn) hp_17 rfl (Nat.le_of_ble_eq_true rfl) ?_
    exact s_Pr_setNumber_35 ⟨by simp [oNum, c8], by simp [oNum, gO, c8]⟩ z0
  · skip
    (first | rw [bz_n0] at c8 | rw [bz_0] at c8 | skip); (try simp only [Bool.not_eq_false', Bool.not_eq_true', decide_eq_true_eq, decide_eq_false_iff_not, Bool.or_eq_true, Bool.or_eq_false_iff, Bool.and_eq_true, Bool.and_eq_false_iff] at c8)
    refine s_Pr_setNumber_11 ?_
    exact s_Pr_setNumber_12 ⟨by simp [oNum, c8], by simp [oNum, gO, c8]⟩ z0
set_option maxRecDepth 100000 in
theorem t_Pr_move {G : GW} {L : LT} {I : IT} {r : Nat} {a : Nat} (ea : I 17 3 = nI a) (ha : a < 8) {b : Nat} (eb : I 17 4 = nI b) (hb : b < 8) (hlk : vKd (L 5 b) = 2 → lk (L 5 b) < 6) : mt G M_Pr_move 3 0 0 [.ref 17] (hp L I r) (dt (some (.int (oMov L I a b).1)) (hp (oMov L I a b).2.1 (oMov L I a b).2.2 r)) := by
  refine mt_of_ev (by decide) (Nat.le_of_ble_eq_true rfl) ?_
  show ev G M_Pr_move (rmv 3 0 0) (Er M_Pr_move _ 0 0) 0 [(0, .ref 17)] [] (hp L I r) 0 0
  refine s_Pr_move_0 rfl ?_
  refine s_Pr_move_1 rfl ?_
  refine s_Pr_move_2 hp_17 rfl ?_
  refine c_Pr_move_5 (t_Pr_isFull ea (by omega)) hp_17 rfl (Nat.le_of_ble_eq_true rfl) ?_
  refine s_Pr_move_8 (fun c8 => ?_) (fun c8 => ?_)
  · skip
    (first | rw [bz_n0] at c8 | rw [bz_0] at c8 | skip); (try simp only [Bool.not_eq_false', Bool.not_eq_true', decide_eq_true_eq, decide_eq_false_iff_not, Bool.or_eq_true, Bool.or_eq_false_iff, Bool.and_eq_true, Bool.and_eq_false_iff] at c8)
    refine s_Pr_move_13 rfl ?_
    refine s_Pr_move_14 hp_17 rfl ?_
    refine s_Pr_move_17 rfl ?_
    refine s_Pr_move_18 hp_17 rfl ?_
    refine s_Pr_move_21 rfl ?_
    refine s_Pr_move_22 hp_17 rfl ?_
    refine c_Pr_move_25 (t_St_assign ea (by omega) eb (by omega) hlk) hp_4 rfl (Nat.le_of_ble_eq_true rfl) ?_
    refine s_Pr_move_28 rfl ?_
    refine c_Pr_move_29 (t_Pr_goOn) hp_17 rfl (Nat.le_of_ble_eq_true rfl) ?_
    exact s_Pr_move_32 ⟨by simp [oMov, c8], by simp [oMov, gO, c8]⟩ z0
  · skip
    (first | rw [bz_n0] at c8 | rw [bz_0] at c8 | skip); (try simp only [Bool.not_eq_false', Bool.not_eq_true', decide_eq_true_eq, decide_eq_false_iff_not, Bool.or_eq_true, Bool.or_eq_false_iff, Bool.and_eq_true, Bool.and_eq_false_iff] at c8)
    refine s_Pr_move_11 ?_
    exact s_Pr_move_12 ⟨by simp [oMov, c8], by simp [oMov, gO, c8]⟩ z0
set_option maxRecDepth 100000 in
theorem t_Pr_add {G : GW} {L : LT} {I : IT} {r : Nat} {a : Nat} (ea : I 17 3 = nI a) (ha : a < 8) {b : Nat} (eb : I 17 4 = nI b) (hb : b < 8) {s : Int32} : mt G M_Pr_add 3 0 0 [.ref 17, .int s] (hp L I r) (dt (some (.int (oAdd L I s a b).1)) (hp (oAdd L I s a b).2.1 (oAdd L I s a b).2.2 r)) := by
  refine mt_of_ev (by decide) (Nat.le_of_ble_eq_true rfl) ?_
  show ev G M_Pr_add (rmv 3 0 0) (Er M_Pr_add _ 0 0) 0 [(0, .ref 17), (1, .int s)] [] (hp L I r) 0 0
  refine s_Pr_add_0 rfl ?_
  refine s_Pr_add_1 rfl ?_
  refine s_Pr_add_2 hp_17 rfl ?_
  refine c_Pr_add_5 (t_Pr_isFull ea (by omega)) hp_17 rfl (Nat.le_of_ble_eq_true rfl) ?_
  refine s_Pr_add_8 (fun c8 => ?_) (fun c8 => ?_)
  · skip
    (first | rw [bz_n0] at c8 | rw [bz_0] at c8 | skip); (try simp only [Bool.not_eq_false', Bool.not_eq_true', decide_eq_true_eq, decide_eq_false_iff_not, Bool.or_eq_true, Bool.or_eq_false_iff, Bool.and_eq_true, Bool.and_eq_false_iff] at c8)
    refine s_Pr_add_22 ?_
    exact s_Pr_add_23 ⟨by simp [oAdd, c8], by simp [oAdd, gO, c8]⟩ z0
  · skip
    (first | rw [bz_n0] at c8 | rw [bz_0] at c8 | skip); (try simp only [Bool.not_eq_false', Bool.not_eq_true', decide_eq_true_eq, decide_eq_false_iff_not, Bool.or_eq_true, Bool.or_eq_false_iff, Bool.and_eq_true, Bool.and_eq_false_iff] at c8)
    refine s_Pr_add_11 rfl ?_
    refine s_Pr_add_12 rfl ?_
    refine s_Pr_add_13 hp_17 rfl ?_
    refine c_Pr_add_16 (t_Pr_isFull eb (by omega)) hp_17 rfl (Nat.le_of_ble_eq_true rfl) ?_
    refine s_Pr_add_19 (fun c19 => ?_) (fun c19 => ?_)
    · skip
      (first | rw [bz_n0] at c19 | rw [bz_0] at c19 | skip); (try simp only [Bool.not_eq_false', Bool.not_eq_true', decide_eq_true_eq, decide_eq_false_iff_not, Bool.or_eq_true, Bool.or_eq_false_iff, Bool.and_eq_true, Bool.and_eq_false_iff] at c19)
      refine s_Pr_add_24 rfl ?_
      refine s_Pr_add_25 hp_17 rfl ?_
      refine s_Pr_add_28 rfl ?_
      refine s_Pr_add_29 hp_17 rfl ?_
      refine s_Pr_add_32 rfl ?_
      refine s_Pr_add_33 hp_17 rfl ?_
      refine s_Pr_add_36 rfl ?_
      refine s_Pr_add_37 hp_17 rfl ?_
      refine c_Pr_add_40 (t_St_held ea (by omega)) hp_4 rfl (Nat.le_of_ble_eq_true rfl) ?_
      refine s_Pr_add_43 ?_
      refine s_Pr_add_44 rfl ?_
      refine s_Pr_add_45 rfl ?_
      refine s_Pr_add_46 hp_17 rfl ?_
      refine s_Pr_add_49 rfl ?_
      refine s_Pr_add_50 hp_17 rfl ?_
      refine c_Pr_add_53 (t_St_held eb (by omega)) hp_4 rfl (Nat.le_of_ble_eq_true rfl) ?_
      refine s_Pr_add_56 ?_
      refine s_Pr_add_57 ?_
      refine s_Pr_add_58 ?_
      refine c_Pr_add_59 (t_Va_number) (Nat.le_of_ble_eq_true rfl) ?_
      refine c_Pr_add_62 (t_St_put ea (by omega)) hp_4 rfl (Nat.le_of_ble_eq_true rfl) ?_
      refine s_Pr_add_65 rfl ?_
      refine c_Pr_add_66 (t_Pr_goOn) hp_17 rfl (Nat.le_of_ble_eq_true rfl) ?_
      exact s_Pr_add_69 ⟨by simp [oAdd, c8, c19], by simp [oAdd, gO, c8, c19]⟩ z0
    · skip
      (first | rw [bz_n0] at c19 | rw [bz_0] at c19 | skip); (try simp only [Bool.not_eq_false', Bool.not_eq_true', decide_eq_true_eq, decide_eq_false_iff_not, Bool.or_eq_true, Bool.or_eq_false_iff, Bool.and_eq_true, Bool.and_eq_false_iff] at c19)
      refine s_Pr_add_22 ?_
      exact s_Pr_add_23 ⟨by simp [oAdd, c8, c19], by simp [oAdd, gO, c8, c19]⟩ z0
set_option maxRecDepth 100000 in
theorem t_Pr_split {G : GW} {L : LT} {I : IT} {r : Nat} {a : Nat} (ea : I 17 3 = nI a) (ha : a < 8) {b : Nat} (eb : I 17 4 = nI b) (hb : b < 8) : mt G M_Pr_split 3 0 0 [.ref 17] (hp L I r) (dt (some (.int (oSpl L I a b).1)) (hp (oSpl L I a b).2.1 (oSpl L I a b).2.2 r)) := by
  refine mt_of_ev (by decide) (Nat.le_of_ble_eq_true rfl) ?_
  show ev G M_Pr_split (rmv 3 0 0) (Er M_Pr_split _ 0 0) 0 [(0, .ref 17)] [] (hp L I r) 0 0
  refine s_Pr_split_0 rfl ?_
  refine s_Pr_split_1 rfl ?_
  refine s_Pr_split_2 hp_17 rfl ?_
  refine c_Pr_split_5 (t_Pr_isExclusive ea (by omega)) hp_17 rfl (Nat.le_of_ble_eq_true rfl) ?_
  refine s_Pr_split_8 (fun c8 => ?_) (fun c8 => ?_)
  · skip
    (first | rw [bz_n0] at c8 | rw [bz_0] at c8 | skip); (try simp only [Bool.not_eq_false', Bool.not_eq_true', decide_eq_true_eq, decide_eq_false_iff_not, Bool.or_eq_true, Bool.or_eq_false_iff, Bool.and_eq_true, Bool.and_eq_false_iff] at c8)
    refine s_Pr_split_13 rfl ?_
    refine s_Pr_split_14 hp_17 rfl ?_
    refine s_Pr_split_17 rfl ?_
    refine s_Pr_split_18 hp_17 rfl ?_
    refine c_Pr_split_21 (t_St_held ea (by omega)) hp_4 rfl (Nat.le_of_ble_eq_true rfl) ?_
    refine s_Pr_split_24 ?_
    refine s_Pr_split_25 rfl ?_
    refine s_Pr_split_26 hp_17 rfl ?_
    refine s_Pr_split_29 ?_
    refine s_Pr_split_30 (fun c30 => ?_) (fun c30 => ?_)
    · skip
      refine s_Pr_split_44 ?_
      exact s_Pr_split_45 ⟨by simp [oSpl, c8, c30], by simp [oSpl, gO, c8, c30]⟩ z0
    · skip
      refine s_Pr_split_33 rfl ?_
      refine s_Pr_split_34 hp_17 rfl ?_
      refine s_Pr_split_37 rfl ?_
      refine c_Pr_split_38 (t_Va_length) (Nat.le_of_ble_eq_true rfl) ?_
      refine s_Pr_split_41 (fun c41 => ?_) (fun c41 => ?_)
      · skip
        refine s_Pr_split_46 rfl ?_
        refine s_Pr_split_47 rfl ?_
        refine s_Pr_split_48 hp_17 rfl ?_
        refine c_Pr_split_51 (t_Pr_isFull eb (by omega)) hp_17 rfl (Nat.le_of_ble_eq_true rfl) ?_
        refine s_Pr_split_54 (fun c54 => ?_) (fun c54 => ?_)
        · skip
          (first | rw [bz_n0] at c54 | rw [bz_0] at c54 | skip); (try simp only [Bool.not_eq_false', Bool.not_eq_true', decide_eq_true_eq, decide_eq_false_iff_not, Bool.or_eq_true, Bool.or_eq_false_iff, Bool.and_eq_true, Bool.and_eq_false_iff] at c54)
          refine s_Pr_split_59 rfl ?_
          refine c_Pr_split_60 (t_Va_from) (Nat.le_of_ble_eq_true rfl) ?_
          refine s_Pr_split_63 rfl ?_
          refine s_Pr_split_64 hp_17 rfl ?_
          refine s_Pr_split_67 ?_
          refine s_Pr_split_68 ?_
          refine s_Pr_split_69 rfl ?_
          refine s_Pr_split_70 hp_17 rfl ?_
          refine s_Pr_split_73 rfl ?_
          refine s_Pr_split_74 hp_17 rfl ?_
          refine s_Pr_split_77 rfl ?_
          refine c_Pr_split_78 (t_Va_from) (Nat.le_of_ble_eq_true rfl) ?_
          refine s_Pr_split_81 rfl ?_
          refine s_Pr_split_82 rfl ?_
          refine c_Pr_split_83 (t_Va_rights) (Nat.le_of_ble_eq_true rfl) ?_
          refine c_Pr_split_86 (t_Va_exclusive) (Nat.le_of_ble_eq_true rfl) ?_
          refine c_Pr_split_89 (t_St_put ea (by omega)) hp_4 rfl (Nat.le_of_ble_eq_true rfl) ?_
          refine s_Pr_split_92 rfl ?_
          refine s_Pr_split_93 hp_17 rfl ?_
          refine s_Pr_split_96 rfl ?_
          refine s_Pr_split_97 hp_17 rfl ?_
          refine s_Pr_split_100 rfl ?_
          refine s_Pr_split_101 rfl ?_
          refine c_Pr_split_102 (t_Va_end) (Nat.le_of_ble_eq_true rfl) ?_
          refine s_Pr_split_105 rfl ?_
          refine c_Pr_split_106 (t_Va_rights) (Nat.le_of_ble_eq_true rfl) ?_
          refine c_Pr_split_109 (t_Va_exclusive) (Nat.le_of_ble_eq_true rfl) ?_
          refine c_Pr_split_112 (t_St_put eb (by omega)) hp_4 rfl (Nat.le_of_ble_eq_true rfl) ?_
          refine s_Pr_split_115 rfl ?_
          refine c_Pr_split_116 (t_Pr_goOn) hp_17 rfl (Nat.le_of_ble_eq_true rfl) ?_
          exact s_Pr_split_119 ⟨by simp [oSpl, c8, c30, c41, c54], by simp [oSpl, gO, c8, c30, c41, c54]⟩ z0
        · skip
          (first | rw [bz_n0] at c54 | rw [bz_0] at c54 | skip); (try simp only [Bool.not_eq_false', Bool.not_eq_true', decide_eq_true_eq, decide_eq_false_iff_not, Bool.or_eq_true, Bool.or_eq_false_iff, Bool.and_eq_true, Bool.and_eq_false_iff] at c54)
          refine s_Pr_split_57 ?_
          exact s_Pr_split_58 ⟨by simp [oSpl, c8, c30, c41, c54], by simp [oSpl, gO, c8, c30, c41, c54]⟩ z0
      · skip
        refine s_Pr_split_44 ?_
        exact s_Pr_split_45 ⟨by simp [oSpl, c8, c30, c41], by simp [oSpl, gO, c8, c30, c41]⟩ z0
  · skip
    (first | rw [bz_n0] at c8 | rw [bz_0] at c8 | skip); (try simp only [Bool.not_eq_false', Bool.not_eq_true', decide_eq_true_eq, decide_eq_false_iff_not, Bool.or_eq_true, Bool.or_eq_false_iff, Bool.and_eq_true, Bool.and_eq_false_iff] at c8)
    refine s_Pr_split_11 ?_
    exact s_Pr_split_12 ⟨by simp [oSpl, c8], by simp [oSpl, gO, c8]⟩ z0
set_option maxRecDepth 100000 in
theorem t_Pr_merge {G : GW} {L : LT} {I : IT} {r : Nat} {a : Nat} (ea : I 17 3 = nI a) (ha : a < 8) {b : Nat} (eb : I 17 4 = nI b) (hb : b < 8) : mt G M_Pr_merge 2 0 0 [.ref 17] (hp L I r) (dt (some (.int (oMer L I a b).1)) (hp (oMer L I a b).2.1 (oMer L I a b).2.2 r)) := by
  refine mt_of_ev (by decide) (Nat.le_of_ble_eq_true rfl) ?_
  show ev G M_Pr_merge (rmv 2 0 0) (Er M_Pr_merge _ 0 0) 0 [(0, .ref 17)] [] (hp L I r) 0 0
  refine s_Pr_merge_0 rfl ?_
  refine s_Pr_merge_1 rfl ?_
  refine s_Pr_merge_2 hp_17 rfl ?_
  refine c_Pr_merge_5 (t_Pr_isExclusive ea (by omega)) hp_17 rfl (Nat.le_of_ble_eq_true rfl) ?_
  refine s_Pr_merge_8 (fun c8 => ?_) (fun c8 => ?_)
  · skip
    (first | rw [bz_n0] at c8 | rw [bz_0] at c8 | skip); (try simp only [Bool.not_eq_false', Bool.not_eq_true', decide_eq_true_eq, decide_eq_false_iff_not, Bool.or_eq_true, Bool.or_eq_false_iff, Bool.and_eq_true, Bool.and_eq_false_iff] at c8)
    refine s_Pr_merge_22 ?_
    exact s_Pr_merge_23 ⟨by simp [oMer, c8], by simp [oMer, gO, c8]⟩ z0
  · skip
    (first | rw [bz_n0] at c8 | rw [bz_0] at c8 | skip); (try simp only [Bool.not_eq_false', Bool.not_eq_true', decide_eq_true_eq, decide_eq_false_iff_not, Bool.or_eq_true, Bool.or_eq_false_iff, Bool.and_eq_true, Bool.and_eq_false_iff] at c8)
    refine s_Pr_merge_11 rfl ?_
    refine s_Pr_merge_12 rfl ?_
    refine s_Pr_merge_13 hp_17 rfl ?_
    refine c_Pr_merge_16 (t_Pr_isExclusive eb (by omega)) hp_17 rfl (Nat.le_of_ble_eq_true rfl) ?_
    refine s_Pr_merge_19 (fun c19 => ?_) (fun c19 => ?_)
    · skip
      (first | rw [bz_n0] at c19 | rw [bz_0] at c19 | skip); (try simp only [Bool.not_eq_false', Bool.not_eq_true', decide_eq_true_eq, decide_eq_false_iff_not, Bool.or_eq_true, Bool.or_eq_false_iff, Bool.and_eq_true, Bool.and_eq_false_iff] at c19)
      refine s_Pr_merge_24 rfl ?_
      refine s_Pr_merge_25 hp_17 rfl ?_
      refine s_Pr_merge_28 rfl ?_
      refine s_Pr_merge_29 hp_17 rfl ?_
      refine c_Pr_merge_32 (t_St_held ea (by omega)) hp_4 rfl (Nat.le_of_ble_eq_true rfl) ?_
      refine s_Pr_merge_35 ?_
      refine s_Pr_merge_36 rfl ?_
      refine s_Pr_merge_37 hp_17 rfl ?_
      refine s_Pr_merge_40 rfl ?_
      refine s_Pr_merge_41 hp_17 rfl ?_
      refine c_Pr_merge_44 (t_St_held eb (by omega)) hp_4 rfl (Nat.le_of_ble_eq_true rfl) ?_
      refine s_Pr_merge_47 ?_
      refine s_Pr_merge_48 rfl ?_
      refine s_Pr_merge_49 hp_17 rfl ?_
      refine s_Pr_merge_52 rfl ?_
      refine s_Pr_merge_53 hp_17 rfl ?_
      refine s_Pr_merge_56 (fun c56 => ?_) (fun c56 => ?_)
      · skip
        refine s_Pr_merge_75 ?_
        exact s_Pr_merge_76 ⟨by simp [oMer, c8, c19, c56], by simp [oMer, gO, c8, c19, c56]⟩ z0
      · skip
        refine s_Pr_merge_59 rfl ?_
        refine s_Pr_merge_60 rfl ?_
        refine c_Pr_merge_61 (show mt _ _ _ _ _ _ _ (dt (some (.int (bz (jRa (L 5 a) (L 5 b))))) _) from t_Pr_haveJoinedRange) (Nat.le_of_ble_eq_true rfl) ?_
        refine s_Pr_merge_64 (fun c64 => ?_) (fun c64 => ?_)
        · skip
          (first | rw [bz_n0] at c64 | rw [bz_0] at c64 | skip); (try simp only [Bool.not_eq_false', Bool.not_eq_true', decide_eq_true_eq, decide_eq_false_iff_not, Bool.or_eq_true, Bool.or_eq_false_iff, Bool.and_eq_true, Bool.and_eq_false_iff] at c64)
          refine s_Pr_merge_77 rfl ?_
          refine c_Pr_merge_78 (t_Va_from) (Nat.le_of_ble_eq_true rfl) ?_
          refine s_Pr_merge_81 rfl ?_
          refine c_Pr_merge_82 (t_Va_from) (Nat.le_of_ble_eq_true rfl) ?_
          refine c_Pr_merge_85 (t_Jm_min) (Nat.le_of_ble_eq_true rfl) ?_
          refine s_Pr_merge_88 ?_
          refine s_Pr_merge_90 rfl ?_
          refine c_Pr_merge_91 (t_Va_end) (Nat.le_of_ble_eq_true rfl) ?_
          refine s_Pr_merge_94 rfl ?_
          refine c_Pr_merge_95 (t_Va_end) (Nat.le_of_ble_eq_true rfl) ?_
          refine c_Pr_merge_98 (t_Jm_max) (Nat.le_of_ble_eq_true rfl) ?_
          refine s_Pr_merge_101 ?_
          refine s_Pr_merge_103 rfl ?_
          refine s_Pr_merge_104 hp_17 rfl ?_
          refine s_Pr_merge_107 rfl ?_
          refine s_Pr_merge_108 hp_17 rfl ?_
          refine s_Pr_merge_111 rfl ?_
          refine s_Pr_merge_113 rfl ?_
          refine s_Pr_merge_115 rfl ?_
          refine c_Pr_merge_116 (t_Va_rights) (Nat.le_of_ble_eq_true rfl) ?_
          refine s_Pr_merge_119 rfl ?_
          refine c_Pr_merge_120 (t_Va_rights) (Nat.le_of_ble_eq_true rfl) ?_
          refine s_Pr_merge_123 ?_
          refine c_Pr_merge_124 (t_Va_exclusive) (Nat.le_of_ble_eq_true rfl) ?_
          refine c_Pr_merge_127 (t_St_put ea (by omega)) hp_4 rfl (Nat.le_of_ble_eq_true rfl) ?_
          refine s_Pr_merge_130 rfl ?_
          refine s_Pr_merge_131 hp_17 rfl ?_
          refine s_Pr_merge_134 rfl ?_
          refine s_Pr_merge_135 hp_17 rfl ?_
          refine s_Pr_merge_138 ?_
          refine c_Pr_merge_139 (t_St_put eb (by omega)) hp_4 rfl (Nat.le_of_ble_eq_true rfl) ?_
          refine s_Pr_merge_142 rfl ?_
          refine c_Pr_merge_143 (t_Pr_goOn) hp_17 rfl (Nat.le_of_ble_eq_true rfl) ?_
          exact s_Pr_merge_146 ⟨by simp [oMer, c8, c19, c56, c64], by simp [oMer, gO, c8, c19, c56, c64]⟩ z0
        · skip
          (first | rw [bz_n0] at c64 | rw [bz_0] at c64 | skip); (try simp only [Bool.not_eq_false', Bool.not_eq_true', decide_eq_true_eq, decide_eq_false_iff_not, Bool.or_eq_true, Bool.or_eq_false_iff, Bool.and_eq_true, Bool.and_eq_false_iff] at c64)
          refine s_Pr_merge_67 rfl ?_
          refine s_Pr_merge_68 rfl ?_
          refine c_Pr_merge_69 (show mt _ _ _ _ _ _ _ (dt (some (.int (bz (jRi (L 5 a) (L 5 b))))) _) from t_Pr_haveJoinedRights) (Nat.le_of_ble_eq_true rfl) ?_
          refine s_Pr_merge_72 (fun c72 => ?_) (fun c72 => ?_)
          · skip
            (first | rw [bz_n0] at c72 | rw [bz_0] at c72 | skip); (try simp only [Bool.not_eq_false', Bool.not_eq_true', decide_eq_true_eq, decide_eq_false_iff_not, Bool.or_eq_true, Bool.or_eq_false_iff, Bool.and_eq_true, Bool.and_eq_false_iff] at c72)
            refine s_Pr_merge_77 rfl ?_
            refine c_Pr_merge_78 (t_Va_from) (Nat.le_of_ble_eq_true rfl) ?_
            refine s_Pr_merge_81 rfl ?_
            refine c_Pr_merge_82 (t_Va_from) (Nat.le_of_ble_eq_true rfl) ?_
            refine c_Pr_merge_85 (t_Jm_min) (Nat.le_of_ble_eq_true rfl) ?_
            refine s_Pr_merge_88 ?_
            refine s_Pr_merge_90 rfl ?_
            refine c_Pr_merge_91 (t_Va_end) (Nat.le_of_ble_eq_true rfl) ?_
            refine s_Pr_merge_94 rfl ?_
            refine c_Pr_merge_95 (t_Va_end) (Nat.le_of_ble_eq_true rfl) ?_
            refine c_Pr_merge_98 (t_Jm_max) (Nat.le_of_ble_eq_true rfl) ?_
            refine s_Pr_merge_101 ?_
            refine s_Pr_merge_103 rfl ?_
            refine s_Pr_merge_104 hp_17 rfl ?_
            refine s_Pr_merge_107 rfl ?_
            refine s_Pr_merge_108 hp_17 rfl ?_
            refine s_Pr_merge_111 rfl ?_
            refine s_Pr_merge_113 rfl ?_
            refine s_Pr_merge_115 rfl ?_
            refine c_Pr_merge_116 (t_Va_rights) (Nat.le_of_ble_eq_true rfl) ?_
            refine s_Pr_merge_119 rfl ?_
            refine c_Pr_merge_120 (t_Va_rights) (Nat.le_of_ble_eq_true rfl) ?_
            refine s_Pr_merge_123 ?_
            refine c_Pr_merge_124 (t_Va_exclusive) (Nat.le_of_ble_eq_true rfl) ?_
            refine c_Pr_merge_127 (t_St_put ea (by omega)) hp_4 rfl (Nat.le_of_ble_eq_true rfl) ?_
            refine s_Pr_merge_130 rfl ?_
            refine s_Pr_merge_131 hp_17 rfl ?_
            refine s_Pr_merge_134 rfl ?_
            refine s_Pr_merge_135 hp_17 rfl ?_
            refine s_Pr_merge_138 ?_
            refine c_Pr_merge_139 (t_St_put eb (by omega)) hp_4 rfl (Nat.le_of_ble_eq_true rfl) ?_
            refine s_Pr_merge_142 rfl ?_
            refine c_Pr_merge_143 (t_Pr_goOn) hp_17 rfl (Nat.le_of_ble_eq_true rfl) ?_
            exact s_Pr_merge_146 ⟨by simp [oMer, c8, c19, c56, c64, c72], by simp [oMer, gO, c8, c19, c56, c64, c72]⟩ z0
          · skip
            (first | rw [bz_n0] at c72 | rw [bz_0] at c72 | skip); (try simp only [Bool.not_eq_false', Bool.not_eq_true', decide_eq_true_eq, decide_eq_false_iff_not, Bool.or_eq_true, Bool.or_eq_false_iff, Bool.and_eq_true, Bool.and_eq_false_iff] at c72)
            refine s_Pr_merge_75 ?_
            exact s_Pr_merge_76 ⟨by simp [oMer, c8, c19, c56, c64, c72], by simp [oMer, gO, c8, c19, c56, c64, c72]⟩ z0
    · skip
      (first | rw [bz_n0] at c19 | rw [bz_0] at c19 | skip); (try simp only [Bool.not_eq_false', Bool.not_eq_true', decide_eq_true_eq, decide_eq_false_iff_not, Bool.or_eq_true, Bool.or_eq_false_iff, Bool.and_eq_true, Bool.and_eq_false_iff] at c19)
      refine s_Pr_merge_22 ?_
      exact s_Pr_merge_23 ⟨by simp [oMer, c8, c19], by simp [oMer, gO, c8, c19]⟩ z0
set_option maxRecDepth 100000 in
theorem t_Pr_restrict {G : GW} {L : LT} {I : IT} {r : Nat} {a : Nat} (ea : I 17 3 = nI a) (ha : a < 8) {b : Nat} (eb : I 17 4 = nI b) (hb : b < 8) : mt G M_Pr_restrict 3 0 0 [.ref 17] (hp L I r) (dt (some (.int (oRes L I a b).1)) (hp (oRes L I a b).2.1 (oRes L I a b).2.2 r)) := by
  refine mt_of_ev (by decide) (Nat.le_of_ble_eq_true rfl) ?_
  show ev G M_Pr_restrict (rmv 3 0 0) (Er M_Pr_restrict _ 0 0) 0 [(0, .ref 17)] [] (hp L I r) 0 0
  refine s_Pr_restrict_0 rfl ?_
  refine s_Pr_restrict_1 rfl ?_
  refine s_Pr_restrict_2 hp_17 rfl ?_
  refine c_Pr_restrict_5 (t_Pr_isExclusive ea (by omega)) hp_17 rfl (Nat.le_of_ble_eq_true rfl) ?_
  refine s_Pr_restrict_8 (fun c8 => ?_) (fun c8 => ?_)
  · skip
    (first | rw [bz_n0] at c8 | rw [bz_0] at c8 | skip); (try simp only [Bool.not_eq_false', Bool.not_eq_true', decide_eq_true_eq, decide_eq_false_iff_not, Bool.or_eq_true, Bool.or_eq_false_iff, Bool.and_eq_true, Bool.and_eq_false_iff] at c8)
    refine s_Pr_restrict_13 rfl ?_
    refine s_Pr_restrict_14 hp_17 rfl ?_
    refine s_Pr_restrict_17 rfl ?_
    refine s_Pr_restrict_18 hp_17 rfl ?_
    refine c_Pr_restrict_21 (t_St_held ea (by omega)) hp_4 rfl (Nat.le_of_ble_eq_true rfl) ?_
    refine s_Pr_restrict_24 ?_
    refine s_Pr_restrict_25 rfl ?_
    refine c_Pr_restrict_26 (t_Va_rights) (Nat.le_of_ble_eq_true rfl) ?_
    refine s_Pr_restrict_29 rfl ?_
    refine s_Pr_restrict_30 hp_17 rfl ?_
    refine s_Pr_restrict_33 ?_
    refine s_Pr_restrict_34 ?_
    refine s_Pr_restrict_35 rfl ?_
    refine c_Pr_restrict_36 (t_Va_rights) (Nat.le_of_ble_eq_true rfl) ?_
    refine s_Pr_restrict_39 rfl ?_
    refine s_Pr_restrict_40 hp_17 rfl ?_
    refine s_Pr_restrict_43 ?_
    refine s_Pr_restrict_44 ?_
    refine s_Pr_restrict_45 ?_
    refine s_Pr_restrict_46 ?_
    refine s_Pr_restrict_48 rfl ?_
    refine s_Pr_restrict_49 (fun c49 => ?_) (fun c49 => ?_)
    · skip
      refine s_Pr_restrict_57 ?_
      exact s_Pr_restrict_58 ⟨by simp only [oRes, c8, c49, not_true_eq_false, not_false_eq_true, ↓reduceIte, or_self, or_false, false_or, true_or, or_true], by simp only [oRes, gO, c8, c49, not_true_eq_false, not_false_eq_true, ↓reduceIte, or_self, or_false, false_or, true_or, or_true]⟩ z0
    · skip
      refine s_Pr_restrict_52 rfl ?_
      refine s_Pr_restrict_54 (fun c54 => ?_) (fun c54 => ?_)
      · skip
        refine s_Pr_restrict_59 rfl ?_
        refine s_Pr_restrict_60 rfl ?_
        refine s_Pr_restrict_61 hp_17 rfl ?_
        refine c_Pr_restrict_64 (t_Pr_isFull eb (by omega)) hp_17 rfl (Nat.le_of_ble_eq_true rfl) ?_
        refine s_Pr_restrict_67 (fun c67 => ?_) (fun c67 => ?_)
        · skip
          (first | rw [bz_n0] at c67 | rw [bz_0] at c67 | skip); (try simp only [Bool.not_eq_false', Bool.not_eq_true', decide_eq_true_eq, decide_eq_false_iff_not, Bool.or_eq_true, Bool.or_eq_false_iff, Bool.and_eq_true, Bool.and_eq_false_iff] at c67)
          refine s_Pr_restrict_72 rfl ?_
          refine s_Pr_restrict_73 hp_17 rfl ?_
          refine s_Pr_restrict_76 rfl ?_
          refine s_Pr_restrict_77 hp_17 rfl ?_
          refine s_Pr_restrict_80 rfl ?_
          refine c_Pr_restrict_81 (t_Va_from) (Nat.le_of_ble_eq_true rfl) ?_
          refine s_Pr_restrict_84 rfl ?_
          refine c_Pr_restrict_85 (t_Va_end) (Nat.le_of_ble_eq_true rfl) ?_
          refine s_Pr_restrict_88 rfl ?_
          refine c_Pr_restrict_89 (t_Va_exclusive) (Nat.le_of_ble_eq_true rfl) ?_
          refine c_Pr_restrict_92 (t_St_put ea (by omega)) hp_4 rfl (Nat.le_of_ble_eq_true rfl) ?_
          refine s_Pr_restrict_95 rfl ?_
          refine s_Pr_restrict_96 hp_17 rfl ?_
          refine s_Pr_restrict_99 rfl ?_
          refine s_Pr_restrict_100 hp_17 rfl ?_
          refine s_Pr_restrict_103 rfl ?_
          refine c_Pr_restrict_104 (t_Va_from) (Nat.le_of_ble_eq_true rfl) ?_
          refine s_Pr_restrict_107 rfl ?_
          refine c_Pr_restrict_108 (t_Va_end) (Nat.le_of_ble_eq_true rfl) ?_
          refine s_Pr_restrict_111 rfl ?_
          refine c_Pr_restrict_113 (t_Va_exclusive) (Nat.le_of_ble_eq_true rfl) ?_
          refine c_Pr_restrict_116 (t_St_put eb (by omega)) hp_4 rfl (Nat.le_of_ble_eq_true rfl) ?_
          refine s_Pr_restrict_119 rfl ?_
          refine c_Pr_restrict_120 (t_Pr_goOn) hp_17 rfl (Nat.le_of_ble_eq_true rfl) ?_
          exact s_Pr_restrict_123 ⟨by simp only [oRes, c8, c49, c54, c67, not_true_eq_false, not_false_eq_true, ↓reduceIte, or_self, or_false, false_or, true_or, or_true], by simp only [oRes, gO, c8, c49, c54, c67, not_true_eq_false, not_false_eq_true, ↓reduceIte, or_self, or_false, false_or, true_or, or_true]⟩ z0
        · skip
          (first | rw [bz_n0] at c67 | rw [bz_0] at c67 | skip); (try simp only [Bool.not_eq_false', Bool.not_eq_true', decide_eq_true_eq, decide_eq_false_iff_not, Bool.or_eq_true, Bool.or_eq_false_iff, Bool.and_eq_true, Bool.and_eq_false_iff] at c67)
          refine s_Pr_restrict_70 ?_
          exact s_Pr_restrict_71 ⟨by simp only [oRes, c8, c49, c54, c67, not_true_eq_false, not_false_eq_true, ↓reduceIte, or_self, or_false, false_or, true_or, or_true], by simp only [oRes, gO, c8, c49, c54, c67, not_true_eq_false, not_false_eq_true, ↓reduceIte, or_self, or_false, false_or, true_or, or_true]⟩ z0
      · skip
        refine s_Pr_restrict_57 ?_
        exact s_Pr_restrict_58 ⟨by simp only [oRes, c8, c49, c54, not_true_eq_false, not_false_eq_true, ↓reduceIte, or_self, or_false, false_or, true_or, or_true], by simp only [oRes, gO, c8, c49, c54, not_true_eq_false, not_false_eq_true, ↓reduceIte, or_self, or_false, false_or, true_or, or_true]⟩ z0
  · skip
    (first | rw [bz_n0] at c8 | rw [bz_0] at c8 | skip); (try simp only [Bool.not_eq_false', Bool.not_eq_true', decide_eq_true_eq, decide_eq_false_iff_not, Bool.or_eq_true, Bool.or_eq_false_iff, Bool.and_eq_true, Bool.and_eq_false_iff] at c8)
    refine s_Pr_restrict_11 ?_
    exact s_Pr_restrict_12 ⟨by simp only [oRes, c8, not_true_eq_false, not_false_eq_true, ↓reduceIte, or_self, or_false, false_or, true_or, or_true], by simp only [oRes, gO, c8, not_true_eq_false, not_false_eq_true, ↓reduceIte, or_self, or_false, false_or, true_or, or_true]⟩ z0
set_option maxRecDepth 100000 in
theorem t_Pr_freeze {G : GW} {L : LT} {I : IT} {r : Nat} {a : Nat} (ea : I 17 3 = nI a) (ha : a < 8) : mt G M_Pr_freeze 2 0 0 [.ref 17] (hp L I r) (dt (some (.int (oFre L I a).1)) (hp (oFre L I a).2.1 (oFre L I a).2.2 r)) := by
  refine mt_of_ev (by decide) (Nat.le_of_ble_eq_true rfl) ?_
  show ev G M_Pr_freeze (rmv 2 0 0) (Er M_Pr_freeze _ 0 0) 0 [(0, .ref 17)] [] (hp L I r) 0 0
  refine s_Pr_freeze_0 rfl ?_
  refine s_Pr_freeze_1 rfl ?_
  refine s_Pr_freeze_2 hp_17 rfl ?_
  refine c_Pr_freeze_5 (t_Pr_isExclusive ea (by omega)) hp_17 rfl (Nat.le_of_ble_eq_true rfl) ?_
  refine s_Pr_freeze_8 (fun c8 => ?_) (fun c8 => ?_)
  · skip
    (first | rw [bz_n0] at c8 | rw [bz_0] at c8 | skip); (try simp only [Bool.not_eq_false', Bool.not_eq_true', decide_eq_true_eq, decide_eq_false_iff_not, Bool.or_eq_true, Bool.or_eq_false_iff, Bool.and_eq_true, Bool.and_eq_false_iff] at c8)
    refine s_Pr_freeze_13 rfl ?_
    refine s_Pr_freeze_14 hp_17 rfl ?_
    refine s_Pr_freeze_17 rfl ?_
    refine s_Pr_freeze_18 hp_17 rfl ?_
    refine c_Pr_freeze_21 (t_St_held ea (by omega)) hp_4 rfl (Nat.le_of_ble_eq_true rfl) ?_
    refine s_Pr_freeze_24 ?_
    refine s_Pr_freeze_25 rfl ?_
    refine c_Pr_freeze_26 (t_Va_rights) (Nat.le_of_ble_eq_true rfl) ?_
    refine s_Pr_freeze_29 ?_
    refine s_Pr_freeze_30 (fun c30 => ?_) (fun c30 => ?_)
    · skip
      refine s_Pr_freeze_35 rfl ?_
      refine s_Pr_freeze_36 hp_17 rfl ?_
      refine c_Pr_freeze_39 (t_St_freeCell) hp_4 rfl (Nat.le_of_ble_eq_true rfl) ?_
      refine s_Pr_freeze_42 ?_
      refine s_Pr_freeze_43 rfl ?_
      refine s_Pr_freeze_44 (fun c44 => ?_) (fun c44 => ?_)
      · skip
        refine s_Pr_freeze_50 rfl ?_
        refine s_Pr_freeze_51 hp_17 rfl ?_
        refine s_Pr_freeze_54 rfl ?_
        refine s_Pr_freeze_55 hp_17 rfl ?_
        refine s_Pr_freeze_58 rfl ?_
        refine c_Pr_freeze_59 (t_Va_from) (Nat.le_of_ble_eq_true rfl) ?_
        refine s_Pr_freeze_62 rfl ?_
        refine c_Pr_freeze_63 (t_Va_end) (Nat.le_of_ble_eq_true rfl) ?_
        refine s_Pr_freeze_66 rfl ?_
        refine c_Pr_freeze_67 (t_Va_shared) (Nat.le_of_ble_eq_true rfl) ?_
        refine c_Pr_freeze_70 (t_St_put ea (by omega)) hp_4 rfl (Nat.le_of_ble_eq_true rfl) ?_
        refine s_Pr_freeze_73 rfl ?_
        refine s_Pr_freeze_74 hp_17 rfl ?_
        refine s_Pr_freeze_77 rfl ?_
        refine s_Pr_freeze_78 ?_
        refine c_Pr_freeze_79 (t_St_addToCount (fz6 c44).1 (fz6 c44).2) hp_4 rfl (Nat.le_of_ble_eq_true rfl) ?_
        refine s_Pr_freeze_82 rfl ?_
        refine c_Pr_freeze_83 (t_Pr_goOn) hp_17 rfl (Nat.le_of_ble_eq_true rfl) ?_
        exact s_Pr_freeze_86 ⟨by simp [oFre, c8, c30, c44], by simp [oFre, gO, c8, c30, c44]⟩ z0
      · skip
        refine s_Pr_freeze_47 ?_
        exact s_Pr_freeze_49 ⟨by simp [oFre, c8, c30, c44], by simp [oFre, gO, c8, c30, c44]⟩ z0
    · skip
      refine s_Pr_freeze_33 ?_
      exact s_Pr_freeze_34 ⟨by simp [oFre, c8, c30], by simp [oFre, gO, c8, c30]⟩ z0
  · skip
    (first | rw [bz_n0] at c8 | rw [bz_0] at c8 | skip); (try simp only [Bool.not_eq_false', Bool.not_eq_true', decide_eq_true_eq, decide_eq_false_iff_not, Bool.or_eq_true, Bool.or_eq_false_iff, Bool.and_eq_true, Bool.and_eq_false_iff] at c8)
    refine s_Pr_freeze_11 ?_
    exact s_Pr_freeze_12 ⟨by simp [oFre, c8], by simp [oFre, gO, c8]⟩ z0
set_option maxRecDepth 100000 in
theorem t_Pr_thaw {G : GW} {L : LT} {I : IT} {r : Nat} {a : Nat} (ea : I 17 3 = nI a) (ha : a < 8) (hlk : vKd (L 5 a) = 2 → lk (L 5 a) < 6) : mt G M_Pr_thaw 2 0 0 [.ref 17] (hp L I r) (dt (some (.int (oTha L I a).1)) (hp (oTha L I a).2.1 (oTha L I a).2.2 r)) := by
  refine mt_of_ev (by decide) (Nat.le_of_ble_eq_true rfl) ?_
  show ev G M_Pr_thaw (rmv 2 0 0) (Er M_Pr_thaw _ 0 0) 0 [(0, .ref 17)] [] (hp L I r) 0 0
  refine s_Pr_thaw_0 rfl ?_
  refine s_Pr_thaw_1 rfl ?_
  refine s_Pr_thaw_2 hp_17 rfl ?_
  refine c_Pr_thaw_5 (t_Pr_isShared ea (by omega)) hp_17 rfl (Nat.le_of_ble_eq_true rfl) ?_
  refine s_Pr_thaw_8 (fun c8 => ?_) (fun c8 => ?_)
  · skip
    (first | rw [bz_n0] at c8 | rw [bz_0] at c8 | skip); (try simp only [Bool.not_eq_false', Bool.not_eq_true', decide_eq_true_eq, decide_eq_false_iff_not, Bool.or_eq_true, Bool.or_eq_false_iff, Bool.and_eq_true, Bool.and_eq_false_iff] at c8)
    refine s_Pr_thaw_13 rfl ?_
    refine s_Pr_thaw_14 hp_17 rfl ?_
    refine s_Pr_thaw_17 rfl ?_
    refine s_Pr_thaw_18 hp_17 rfl ?_
    refine c_Pr_thaw_21 (t_St_held ea (by omega)) hp_4 rfl (Nat.le_of_ble_eq_true rfl) ?_
    refine s_Pr_thaw_24 ?_
    refine s_Pr_thaw_25 rfl ?_
    refine s_Pr_thaw_26 hp_17 rfl ?_
    refine s_Pr_thaw_29 rfl ?_
    refine c_Pr_thaw_30 (t_Va_link) (Nat.le_of_ble_eq_true rfl) ?_
    refine c_Pr_thaw_33 (t_St_countOf (vLk_nI _) (hlk c8)) hp_4 rfl (Nat.le_of_ble_eq_true rfl) ?_
    refine s_Pr_thaw_36 ?_
    refine s_Pr_thaw_37 (fun c37 => ?_) (fun c37 => ?_)
    · skip
      refine s_Pr_thaw_43 rfl ?_
      refine s_Pr_thaw_44 hp_17 rfl ?_
      refine s_Pr_thaw_47 rfl ?_
      refine c_Pr_thaw_48 (t_Va_link) (Nat.le_of_ble_eq_true rfl) ?_
      refine s_Pr_thaw_51 ?_
      refine c_Pr_thaw_52 (t_St_addToCount (vLk_nI _) (hlk c8)) hp_4 rfl (Nat.le_of_ble_eq_true rfl) ?_
      refine s_Pr_thaw_55 rfl ?_
      refine s_Pr_thaw_56 hp_17 rfl ?_
      refine s_Pr_thaw_59 rfl ?_
      refine s_Pr_thaw_60 hp_17 rfl ?_
      refine s_Pr_thaw_63 rfl ?_
      refine c_Pr_thaw_64 (t_Va_from) (Nat.le_of_ble_eq_true rfl) ?_
      refine s_Pr_thaw_67 rfl ?_
      refine c_Pr_thaw_68 (t_Va_end) (Nat.le_of_ble_eq_true rfl) ?_
      refine s_Pr_thaw_71 ?_
      refine c_Pr_thaw_72 (t_Va_exclusive) (Nat.le_of_ble_eq_true rfl) ?_
      refine c_Pr_thaw_75 (t_St_put ea (by omega)) hp_4 rfl (Nat.le_of_ble_eq_true rfl) ?_
      refine s_Pr_thaw_78 rfl ?_
      refine c_Pr_thaw_79 (t_Pr_goOn) hp_17 rfl (Nat.le_of_ble_eq_true rfl) ?_
      exact s_Pr_thaw_82 ⟨by simp [oTha, c8, c37], by simp [oTha, gO, c8, c37]⟩ z0
    · skip
      refine s_Pr_thaw_40 ?_
      exact s_Pr_thaw_42 ⟨by simp [oTha, c8, c37], by simp [oTha, gO, c8, c37]⟩ z0
  · skip
    (first | rw [bz_n0] at c8 | rw [bz_0] at c8 | skip); (try simp only [Bool.not_eq_false', Bool.not_eq_true', decide_eq_true_eq, decide_eq_false_iff_not, Bool.or_eq_true, Bool.or_eq_false_iff, Bool.and_eq_true, Bool.and_eq_false_iff] at c8)
    refine s_Pr_thaw_11 ?_
    exact s_Pr_thaw_12 ⟨by simp [oTha, c8], by simp [oTha, gO, c8]⟩ z0
set_option maxRecDepth 100000 in
theorem t_Pr_drop {G : GW} {L : LT} {I : IT} {r : Nat} {a : Nat} (ea : I 17 3 = nI a) (ha : a < 8) (hlk : vKd (L 5 a) = 2 → lk (L 5 a) < 6) : mt G M_Pr_drop 2 0 0 [.ref 17] (hp L I r) (dt (some (.int (oDro L I a).1)) (hp (oDro L I a).2.1 (oDro L I a).2.2 r)) := by
  refine mt_of_ev (by decide) (Nat.le_of_ble_eq_true rfl) ?_
  show ev G M_Pr_drop (rmv 2 0 0) (Er M_Pr_drop _ 0 0) 0 [(0, .ref 17)] [] (hp L I r) 0 0
  refine s_Pr_drop_0 rfl ?_
  refine s_Pr_drop_1 rfl ?_
  refine s_Pr_drop_2 hp_17 rfl ?_
  refine c_Pr_drop_5 (t_Pr_isShared ea (by omega)) hp_17 rfl (Nat.le_of_ble_eq_true rfl) ?_
  refine s_Pr_drop_8 (fun c8 => ?_) (fun c8 => ?_)
  · skip
    (first | rw [bz_n0] at c8 | rw [bz_0] at c8 | skip); (try simp only [Bool.not_eq_false', Bool.not_eq_true', decide_eq_true_eq, decide_eq_false_iff_not, Bool.or_eq_true, Bool.or_eq_false_iff, Bool.and_eq_true, Bool.and_eq_false_iff] at c8)
    refine s_Pr_drop_13 rfl ?_
    refine s_Pr_drop_14 hp_17 rfl ?_
    refine s_Pr_drop_17 rfl ?_
    refine s_Pr_drop_18 hp_17 rfl ?_
    refine c_Pr_drop_21 (t_St_held ea (by omega)) hp_4 rfl (Nat.le_of_ble_eq_true rfl) ?_
    refine c_Pr_drop_24 (t_Va_link) (Nat.le_of_ble_eq_true rfl) ?_
    refine s_Pr_drop_27 ?_
    refine s_Pr_drop_28 rfl ?_
    refine s_Pr_drop_29 hp_17 rfl ?_
    refine s_Pr_drop_32 rfl ?_
    refine c_Pr_drop_33 (t_St_countOf (vLk_nI _) (hlk c8)) hp_4 rfl (Nat.le_of_ble_eq_true rfl) ?_
    refine s_Pr_drop_36 ?_
    refine s_Pr_drop_37 (fun c37 => ?_) (fun c37 => ?_)
    · skip
      refine s_Pr_drop_43 rfl ?_
      refine s_Pr_drop_44 hp_17 rfl ?_
      refine s_Pr_drop_47 rfl ?_
      refine s_Pr_drop_48 ?_
      refine c_Pr_drop_49 (t_St_addToCount (vLk_nI _) (hlk c8)) hp_4 rfl (Nat.le_of_ble_eq_true rfl) ?_
      refine s_Pr_drop_52 rfl ?_
      refine s_Pr_drop_53 hp_17 rfl ?_
      refine s_Pr_drop_56 rfl ?_
      refine s_Pr_drop_57 hp_17 rfl ?_
      refine s_Pr_drop_60 ?_
      refine c_Pr_drop_61 (t_St_put ea (by omega)) hp_4 rfl (Nat.le_of_ble_eq_true rfl) ?_
      refine s_Pr_drop_64 rfl ?_
      refine c_Pr_drop_65 (t_Pr_goOn) hp_17 rfl (Nat.le_of_ble_eq_true rfl) ?_
      exact s_Pr_drop_68 ⟨by simp [oDro, c8, c37], by simp [oDro, gO, c8, c37]⟩ z0
    · skip
      refine s_Pr_drop_40 ?_
      exact s_Pr_drop_42 ⟨by simp [oDro, c8, c37], by simp [oDro, gO, c8, c37]⟩ z0
  · skip
    (first | rw [bz_n0] at c8 | rw [bz_0] at c8 | skip); (try simp only [Bool.not_eq_false', Bool.not_eq_true', decide_eq_true_eq, decide_eq_false_iff_not, Bool.or_eq_true, Bool.or_eq_false_iff, Bool.and_eq_true, Bool.and_eq_false_iff] at c8)
    refine s_Pr_drop_11 ?_
    exact s_Pr_drop_12 ⟨by simp [oDro, c8], by simp [oDro, gO, c8]⟩ z0
set_option maxRecDepth 100000 in
theorem t_Pr_load {G : GW} {L : LT} {I : IT} {r : Nat} {a : Nat} (ea : I 17 3 = nI a) (ha : a < 8) {b : Nat} (eb : I 17 4 = nI b) (hb : b < 8) {pl : Nat} (hpl : vCap (L 5 b) = true → vIn I (L 5 b) = true → 8 + vFr (L 5 b) + I 17 5 = nI pl ∧ pl < 56) (hlk : vCap (L 5 b) = true → vIn I (L 5 b) = true → vKd (L 5 pl) = 2 → lk (L 5 pl) < 6) : mt G M_Pr_load 3 0 0 [.ref 17] (hp L I r) (dt (some (.int (oLoa L I a b pl).1)) (hp (oLoa L I a b pl).2.1 (oLoa L I a b pl).2.2 r)) := by
  refine mt_of_ev (by decide) (Nat.le_of_ble_eq_true rfl) ?_
  show ev G M_Pr_load (rmv 3 0 0) (Er M_Pr_load _ 0 0) 0 [(0, .ref 17)] [] (hp L I r) 0 0
  refine s_Pr_load_0 rfl ?_
  refine s_Pr_load_1 hp_17 rfl ?_
  refine s_Pr_load_4 rfl ?_
  refine s_Pr_load_5 hp_17 rfl ?_
  refine c_Pr_load_8 (t_St_held eb (by omega)) hp_4 rfl (Nat.le_of_ble_eq_true rfl) ?_
  refine s_Pr_load_11 ?_
  refine s_Pr_load_12 rfl ?_
  refine c_Pr_load_13 (show mt _ _ _ _ _ _ _ (dt (some (.int (bz (vCap (L 5 b))))) _) from t_Va_isCapability) (Nat.le_of_ble_eq_true rfl) ?_
  refine s_Pr_load_16 (fun c16 => ?_) (fun c16 => ?_)
  · skip
    (first | rw [bz_n0] at c16 | rw [bz_0] at c16 | skip); (try simp only [Bool.not_eq_false', Bool.not_eq_true', decide_eq_true_eq, decide_eq_false_iff_not, Bool.or_eq_true, Bool.or_eq_false_iff, Bool.and_eq_true, Bool.and_eq_false_iff] at c16)
    refine s_Pr_load_21 rfl ?_
    refine s_Pr_load_22 rfl ?_
    refine c_Pr_load_23 (show mt _ _ _ _ _ _ _ (dt (some (.int (bz (vIn I (L 5 b))))) _) from t_Pr_isInside) hp_17 rfl (Nat.le_of_ble_eq_true rfl) ?_
    refine s_Pr_load_26 (fun c26 => ?_) (fun c26 => ?_)
    · skip
      (first | rw [bz_n0] at c26 | rw [bz_0] at c26 | skip); (try simp only [Bool.not_eq_false', Bool.not_eq_true', decide_eq_true_eq, decide_eq_false_iff_not, Bool.or_eq_true, Bool.or_eq_false_iff, Bool.and_eq_true, Bool.and_eq_false_iff] at c26)
      refine s_Pr_load_37 ?_
      exact s_Pr_load_38 ⟨by simp [oLoa, c16, c26], by simp [oLoa, gO, c16, c26]⟩ z0
    · skip
      (first | rw [bz_n0] at c26 | rw [bz_0] at c26 | skip); (try simp only [Bool.not_eq_false', Bool.not_eq_true', decide_eq_true_eq, decide_eq_false_iff_not, Bool.or_eq_true, Bool.or_eq_false_iff, Bool.and_eq_true, Bool.and_eq_false_iff] at c26)
      refine s_Pr_load_29 rfl ?_
      refine s_Pr_load_30 ?_
      refine c_Pr_load_31 (show mt _ _ _ _ _ _ _ (dt (some (.int (bz (vHas (L 5 b) 1)))) _) from t_Va_hasRight) (Nat.le_of_ble_eq_true rfl) ?_
      refine s_Pr_load_34 (fun c34 => ?_) (fun c34 => ?_)
      · skip
        (first | rw [bz_n0] at c34 | rw [bz_0] at c34 | skip); (try simp only [Bool.not_eq_false', Bool.not_eq_true', decide_eq_true_eq, decide_eq_false_iff_not, Bool.or_eq_true, Bool.or_eq_false_iff, Bool.and_eq_true, Bool.and_eq_false_iff] at c34)
        refine s_Pr_load_39 ?_
        refine s_Pr_load_41 rfl ?_
        refine c_Pr_load_42 (t_Va_from) (Nat.le_of_ble_eq_true rfl) ?_
        refine s_Pr_load_45 ?_
        refine s_Pr_load_46 rfl ?_
        refine s_Pr_load_47 hp_17 rfl ?_
        refine s_Pr_load_50 ?_
        refine s_Pr_load_51 ?_
        refine s_Pr_load_52 rfl ?_
        refine s_Pr_load_53 hp_17 rfl ?_
        refine s_Pr_load_56 rfl ?_
        refine c_Pr_load_57 (t_St_held (hpl c16 c26).1 (by have := (hpl c16 c26).2; omega)) hp_4 rfl (Nat.le_of_ble_eq_true rfl) ?_
        refine c_Pr_load_60 (show mt _ _ _ _ _ _ _ (dt (some (.int (bz (vMov (L 5 pl))))) _) from t_Va_isMoved) (Nat.le_of_ble_eq_true rfl) ?_
        refine s_Pr_load_63 (fun c63 => ?_) (fun c63 => ?_)
        · skip
          (first | rw [bz_n0] at c63 | rw [bz_0] at c63 | skip); (try simp only [Bool.not_eq_false', Bool.not_eq_true', decide_eq_true_eq, decide_eq_false_iff_not, Bool.or_eq_true, Bool.or_eq_false_iff, Bool.and_eq_true, Bool.and_eq_false_iff] at c63)
          refine s_Pr_load_76 rfl ?_
          refine s_Pr_load_77 rfl ?_
          refine s_Pr_load_78 hp_17 rfl ?_
          refine c_Pr_load_81 (t_Pr_isFull ea (by omega)) hp_17 rfl (Nat.le_of_ble_eq_true rfl) ?_
          refine s_Pr_load_84 (fun c84 => ?_) (fun c84 => ?_)
          · skip
            (first | rw [bz_n0] at c84 | rw [bz_0] at c84 | skip); (try simp only [Bool.not_eq_false', Bool.not_eq_true', decide_eq_true_eq, decide_eq_false_iff_not, Bool.or_eq_true, Bool.or_eq_false_iff, Bool.and_eq_true, Bool.and_eq_false_iff] at c84)
            refine s_Pr_load_89 rfl ?_
            refine s_Pr_load_90 hp_17 rfl ?_
            refine s_Pr_load_93 rfl ?_
            refine s_Pr_load_94 hp_17 rfl ?_
            refine s_Pr_load_97 rfl ?_
            refine c_Pr_load_98 (t_St_assign ea (by omega) (hpl c16 c26).1 (by have := (hpl c16 c26).2; omega) (hlk c16 c26)) hp_4 rfl (Nat.le_of_ble_eq_true rfl) ?_
            refine s_Pr_load_101 rfl ?_
            refine c_Pr_load_102 (t_Pr_goOn) hp_17 rfl (Nat.le_of_ble_eq_true rfl) ?_
            exact s_Pr_load_105 ⟨by simp [oLoa, c16, c26, c34, c63, c84], by simp [oLoa, gO, c16, c26, c34, c63, c84]⟩ z0
          · skip
            (first | rw [bz_n0] at c84 | rw [bz_0] at c84 | skip); (try simp only [Bool.not_eq_false', Bool.not_eq_true', decide_eq_true_eq, decide_eq_false_iff_not, Bool.or_eq_true, Bool.or_eq_false_iff, Bool.and_eq_true, Bool.and_eq_false_iff] at c84)
            refine s_Pr_load_87 ?_
            exact s_Pr_load_88 ⟨by simp [oLoa, c16, c26, c34, c63, c84], by simp [oLoa, gO, c16, c26, c34, c63, c84]⟩ z0
        · skip
          (first | rw [bz_n0] at c63 | rw [bz_0] at c63 | skip); (try simp only [Bool.not_eq_false', Bool.not_eq_true', decide_eq_true_eq, decide_eq_false_iff_not, Bool.or_eq_true, Bool.or_eq_false_iff, Bool.and_eq_true, Bool.and_eq_false_iff] at c63)
          refine s_Pr_load_66 rfl ?_
          refine s_Pr_load_67 ?_
          refine c_Pr_load_68 (show mt _ _ _ _ _ _ _ (dt (some (.int (bz (vHas (L 5 b) 2)))) _) from t_Va_hasRight) (Nat.le_of_ble_eq_true rfl) ?_
          refine s_Pr_load_71 (fun c71 => ?_) (fun c71 => ?_)
          · skip
            (first | rw [bz_n0] at c71 | rw [bz_0] at c71 | skip); (try simp only [Bool.not_eq_false', Bool.not_eq_true', decide_eq_true_eq, decide_eq_false_iff_not, Bool.or_eq_true, Bool.or_eq_false_iff, Bool.and_eq_true, Bool.and_eq_false_iff] at c71)
            refine s_Pr_load_76 rfl ?_
            refine s_Pr_load_77 rfl ?_
            refine s_Pr_load_78 hp_17 rfl ?_
            refine c_Pr_load_81 (t_Pr_isFull ea (by omega)) hp_17 rfl (Nat.le_of_ble_eq_true rfl) ?_
            refine s_Pr_load_84 (fun c84 => ?_) (fun c84 => ?_)
            · skip
              (first | rw [bz_n0] at c84 | rw [bz_0] at c84 | skip); (try simp only [Bool.not_eq_false', Bool.not_eq_true', decide_eq_true_eq, decide_eq_false_iff_not, Bool.or_eq_true, Bool.or_eq_false_iff, Bool.and_eq_true, Bool.and_eq_false_iff] at c84)
              refine s_Pr_load_89 rfl ?_
              refine s_Pr_load_90 hp_17 rfl ?_
              refine s_Pr_load_93 rfl ?_
              refine s_Pr_load_94 hp_17 rfl ?_
              refine s_Pr_load_97 rfl ?_
              refine c_Pr_load_98 (t_St_assign ea (by omega) (hpl c16 c26).1 (by have := (hpl c16 c26).2; omega) (hlk c16 c26)) hp_4 rfl (Nat.le_of_ble_eq_true rfl) ?_
              refine s_Pr_load_101 rfl ?_
              refine c_Pr_load_102 (t_Pr_goOn) hp_17 rfl (Nat.le_of_ble_eq_true rfl) ?_
              exact s_Pr_load_105 ⟨by simp [oLoa, c16, c26, c34, c63, c71, c84], by simp [oLoa, gO, c16, c26, c34, c63, c71, c84]⟩ z0
            · skip
              (first | rw [bz_n0] at c84 | rw [bz_0] at c84 | skip); (try simp only [Bool.not_eq_false', Bool.not_eq_true', decide_eq_true_eq, decide_eq_false_iff_not, Bool.or_eq_true, Bool.or_eq_false_iff, Bool.and_eq_true, Bool.and_eq_false_iff] at c84)
              refine s_Pr_load_87 ?_
              exact s_Pr_load_88 ⟨by simp [oLoa, c16, c26, c34, c63, c71, c84], by simp [oLoa, gO, c16, c26, c34, c63, c71, c84]⟩ z0
          · skip
            (first | rw [bz_n0] at c71 | rw [bz_0] at c71 | skip); (try simp only [Bool.not_eq_false', Bool.not_eq_true', decide_eq_true_eq, decide_eq_false_iff_not, Bool.or_eq_true, Bool.or_eq_false_iff, Bool.and_eq_true, Bool.and_eq_false_iff] at c71)
            refine s_Pr_load_74 ?_
            exact s_Pr_load_75 ⟨by simp [oLoa, c16, c26, c34, c63, c71], by simp [oLoa, gO, c16, c26, c34, c63, c71]⟩ z0
      · skip
        (first | rw [bz_n0] at c34 | rw [bz_0] at c34 | skip); (try simp only [Bool.not_eq_false', Bool.not_eq_true', decide_eq_true_eq, decide_eq_false_iff_not, Bool.or_eq_true, Bool.or_eq_false_iff, Bool.and_eq_true, Bool.and_eq_false_iff] at c34)
        refine s_Pr_load_37 ?_
        exact s_Pr_load_38 ⟨by simp [oLoa, c16, c26, c34], by simp [oLoa, gO, c16, c26, c34]⟩ z0
  · skip
    (first | rw [bz_n0] at c16 | rw [bz_0] at c16 | skip); (try simp only [Bool.not_eq_false', Bool.not_eq_true', decide_eq_true_eq, decide_eq_false_iff_not, Bool.or_eq_true, Bool.or_eq_false_iff, Bool.and_eq_true, Bool.and_eq_false_iff] at c16)
    refine s_Pr_load_19 ?_
    exact s_Pr_load_20 ⟨by simp [oLoa, c16], by simp [oLoa, gO, c16]⟩ z0
set_option maxRecDepth 100000 in
theorem t_Pr_store {G : GW} {L : LT} {I : IT} {r : Nat} {a : Nat} (ea : I 17 3 = nI a) (ha : a < 8) {b : Nat} (eb : I 17 4 = nI b) (hb : b < 8) {pl : Nat} (hpl : vCap (L 5 b) = true → vIn I (L 5 b) = true → 8 + vFr (L 5 b) + I 17 5 = nI pl ∧ pl < 56) (hlk : vKd (L 5 a) = 2 → lk (L 5 a) < 6) : mt G M_Pr_store 3 0 0 [.ref 17] (hp L I r) (dt (some (.int (oSto L I a b pl).1)) (hp (oSto L I a b pl).2.1 (oSto L I a b pl).2.2 r)) := by
  refine mt_of_ev (by decide) (Nat.le_of_ble_eq_true rfl) ?_
  show ev G M_Pr_store (rmv 3 0 0) (Er M_Pr_store _ 0 0) 0 [(0, .ref 17)] [] (hp L I r) 0 0
  refine s_Pr_store_0 rfl ?_
  refine s_Pr_store_1 hp_17 rfl ?_
  refine s_Pr_store_4 rfl ?_
  refine s_Pr_store_5 hp_17 rfl ?_
  refine c_Pr_store_8 (t_St_held eb (by omega)) hp_4 rfl (Nat.le_of_ble_eq_true rfl) ?_
  refine s_Pr_store_11 ?_
  refine s_Pr_store_12 rfl ?_
  refine c_Pr_store_13 (show mt _ _ _ _ _ _ _ (dt (some (.int (bz (vCap (L 5 b))))) _) from t_Va_isCapability) (Nat.le_of_ble_eq_true rfl) ?_
  refine s_Pr_store_16 (fun c16 => ?_) (fun c16 => ?_)
  · skip
    (first | rw [bz_n0] at c16 | rw [bz_0] at c16 | skip); (try simp only [Bool.not_eq_false', Bool.not_eq_true', decide_eq_true_eq, decide_eq_false_iff_not, Bool.or_eq_true, Bool.or_eq_false_iff, Bool.and_eq_true, Bool.and_eq_false_iff] at c16)
    refine s_Pr_store_21 rfl ?_
    refine s_Pr_store_22 rfl ?_
    refine c_Pr_store_23 (show mt _ _ _ _ _ _ _ (dt (some (.int (bz (vIn I (L 5 b))))) _) from t_Pr_isInside) hp_17 rfl (Nat.le_of_ble_eq_true rfl) ?_
    refine s_Pr_store_26 (fun c26 => ?_) (fun c26 => ?_)
    · skip
      (first | rw [bz_n0] at c26 | rw [bz_0] at c26 | skip); (try simp only [Bool.not_eq_false', Bool.not_eq_true', decide_eq_true_eq, decide_eq_false_iff_not, Bool.or_eq_true, Bool.or_eq_false_iff, Bool.and_eq_true, Bool.and_eq_false_iff] at c26)
      refine s_Pr_store_37 ?_
      exact s_Pr_store_38 ⟨by simp [oSto, c16, c26], by simp [oSto, gO, c16, c26]⟩ z0
    · skip
      (first | rw [bz_n0] at c26 | rw [bz_0] at c26 | skip); (try simp only [Bool.not_eq_false', Bool.not_eq_true', decide_eq_true_eq, decide_eq_false_iff_not, Bool.or_eq_true, Bool.or_eq_false_iff, Bool.and_eq_true, Bool.and_eq_false_iff] at c26)
      refine s_Pr_store_29 rfl ?_
      refine s_Pr_store_30 ?_
      refine c_Pr_store_31 (show mt _ _ _ _ _ _ _ (dt (some (.int (bz (vHas (L 5 b) 2)))) _) from t_Va_hasRight) (Nat.le_of_ble_eq_true rfl) ?_
      refine s_Pr_store_34 (fun c34 => ?_) (fun c34 => ?_)
      · skip
        (first | rw [bz_n0] at c34 | rw [bz_0] at c34 | skip); (try simp only [Bool.not_eq_false', Bool.not_eq_true', decide_eq_true_eq, decide_eq_false_iff_not, Bool.or_eq_true, Bool.or_eq_false_iff, Bool.and_eq_true, Bool.and_eq_false_iff] at c34)
        refine s_Pr_store_39 ?_
        refine s_Pr_store_41 rfl ?_
        refine c_Pr_store_42 (t_Va_from) (Nat.le_of_ble_eq_true rfl) ?_
        refine s_Pr_store_45 ?_
        refine s_Pr_store_46 rfl ?_
        refine s_Pr_store_47 hp_17 rfl ?_
        refine s_Pr_store_50 ?_
        refine s_Pr_store_51 ?_
        refine s_Pr_store_52 rfl ?_
        refine s_Pr_store_53 rfl ?_
        refine c_Pr_store_54 (t_Pr_isFull (hpl c16 c26).1 (by have := (hpl c16 c26).2; omega)) hp_17 rfl (Nat.le_of_ble_eq_true rfl) ?_
        refine s_Pr_store_57 (fun c57 => ?_) (fun c57 => ?_)
        · skip
          (first | rw [bz_n0] at c57 | rw [bz_0] at c57 | skip); (try simp only [Bool.not_eq_false', Bool.not_eq_true', decide_eq_true_eq, decide_eq_false_iff_not, Bool.or_eq_true, Bool.or_eq_false_iff, Bool.and_eq_true, Bool.and_eq_false_iff] at c57)
          refine s_Pr_store_62 rfl ?_
          refine s_Pr_store_63 hp_17 rfl ?_
          refine s_Pr_store_66 rfl ?_
          refine s_Pr_store_67 rfl ?_
          refine s_Pr_store_68 hp_17 rfl ?_
          refine c_Pr_store_71 (t_St_assign (hpl c16 c26).1 (by have := (hpl c16 c26).2; omega) ea (by omega) hlk) hp_4 rfl (Nat.le_of_ble_eq_true rfl) ?_
          refine s_Pr_store_74 rfl ?_
          refine c_Pr_store_75 (t_Pr_goOn) hp_17 rfl (Nat.le_of_ble_eq_true rfl) ?_
          exact s_Pr_store_78 ⟨by simp [oSto, c16, c26, c34, c57], by simp [oSto, gO, c16, c26, c34, c57]⟩ z0
        · skip
          (first | rw [bz_n0] at c57 | rw [bz_0] at c57 | skip); (try simp only [Bool.not_eq_false', Bool.not_eq_true', decide_eq_true_eq, decide_eq_false_iff_not, Bool.or_eq_true, Bool.or_eq_false_iff, Bool.and_eq_true, Bool.and_eq_false_iff] at c57)
          refine s_Pr_store_60 ?_
          exact s_Pr_store_61 ⟨by simp [oSto, c16, c26, c34, c57], by simp [oSto, gO, c16, c26, c34, c57]⟩ z0
      · skip
        (first | rw [bz_n0] at c34 | rw [bz_0] at c34 | skip); (try simp only [Bool.not_eq_false', Bool.not_eq_true', decide_eq_true_eq, decide_eq_false_iff_not, Bool.or_eq_true, Bool.or_eq_false_iff, Bool.and_eq_true, Bool.and_eq_false_iff] at c34)
        refine s_Pr_store_37 ?_
        exact s_Pr_store_38 ⟨by simp [oSto, c16, c26, c34], by simp [oSto, gO, c16, c26, c34]⟩ z0
  · skip
    (first | rw [bz_n0] at c16 | rw [bz_0] at c16 | skip); (try simp only [Bool.not_eq_false', Bool.not_eq_true', decide_eq_true_eq, decide_eq_false_iff_not, Bool.or_eq_true, Bool.or_eq_false_iff, Bool.and_eq_true, Bool.and_eq_false_iff] at c16)
    refine s_Pr_store_19 ?_
    exact s_Pr_store_20 ⟨by simp [oSto, c16], by simp [oSto, gO, c16]⟩ z0
set_option maxRecDepth 100000 in
theorem t_Pr_jumpIfZero {G : GW} {L : LT} {I : IT} {r : Nat} {a : Nat} (ea : I 17 3 = nI a) (ha : a < 8) : mt G M_Pr_jumpIfZero 3 0 0 [.ref 17] (hp L I r) (dt (some (.int (oZer L I a).1)) (hp (oZer L I a).2.1 (oZer L I a).2.2 r)) := by
  refine mt_of_ev (by decide) (Nat.le_of_ble_eq_true rfl) ?_
  show ev G M_Pr_jumpIfZero (rmv 3 0 0) (Er M_Pr_jumpIfZero _ 0 0) 0 [(0, .ref 17)] [] (hp L I r) 0 0
  refine s_Pr_jumpIfZero_0 rfl ?_
  refine s_Pr_jumpIfZero_1 rfl ?_
  refine s_Pr_jumpIfZero_2 hp_17 rfl ?_
  refine c_Pr_jumpIfZero_5 (t_Pr_isFull ea (by omega)) hp_17 rfl (Nat.le_of_ble_eq_true rfl) ?_
  refine s_Pr_jumpIfZero_8 (fun c8 => ?_) (fun c8 => ?_)
  · skip
    (first | rw [bz_n0] at c8 | rw [bz_0] at c8 | skip); (try simp only [Bool.not_eq_false', Bool.not_eq_true', decide_eq_true_eq, decide_eq_false_iff_not, Bool.or_eq_true, Bool.or_eq_false_iff, Bool.and_eq_true, Bool.and_eq_false_iff] at c8)
    refine s_Pr_jumpIfZero_13 rfl ?_
    refine s_Pr_jumpIfZero_14 hp_17 rfl ?_
    refine s_Pr_jumpIfZero_17 rfl ?_
    refine s_Pr_jumpIfZero_18 hp_17 rfl ?_
    refine c_Pr_jumpIfZero_21 (t_St_held ea (by omega)) hp_4 rfl (Nat.le_of_ble_eq_true rfl) ?_
    refine s_Pr_jumpIfZero_24 ?_
    refine s_Pr_jumpIfZero_25 (fun c25 => ?_) (fun c25 => ?_)
    · skip
      refine s_Pr_jumpIfZero_39 rfl ?_
      refine c_Pr_jumpIfZero_40 (t_Pr_goOn) hp_17 rfl (Nat.le_of_ble_eq_true rfl) ?_
      exact s_Pr_jumpIfZero_43 ⟨by simp [oZer, c8, c25], by simp [oZer, gO, c8, c25]⟩ z0
    · skip
      refine s_Pr_jumpIfZero_28 rfl ?_
      refine s_Pr_jumpIfZero_29 rfl ?_
      refine s_Pr_jumpIfZero_30 hp_17 rfl ?_
      refine c_Pr_jumpIfZero_33 (t_Pr_goOnAt) hp_17 rfl (Nat.le_of_ble_eq_true rfl) ?_
      refine s_Pr_jumpIfZero_36 ?_
      exact s_Pr_jumpIfZero_43 ⟨by simp [oZer, c8, c25], by simp [oZer, gO, c8, c25]⟩ z0
  · skip
    (first | rw [bz_n0] at c8 | rw [bz_0] at c8 | skip); (try simp only [Bool.not_eq_false', Bool.not_eq_true', decide_eq_true_eq, decide_eq_false_iff_not, Bool.or_eq_true, Bool.or_eq_false_iff, Bool.and_eq_true, Bool.and_eq_false_iff] at c8)
    refine s_Pr_jumpIfZero_11 ?_
    exact s_Pr_jumpIfZero_12 ⟨by simp [oZer, c8], by simp [oZer, gO, c8]⟩ z0
set_option maxRecDepth 100000 in
theorem t_Pr_jumpIfLess {G : GW} {L : LT} {I : IT} {r : Nat} {a : Nat} (ea : I 17 3 = nI a) (ha : a < 8) {b : Nat} (eb : I 17 4 = nI b) (hb : b < 8) : mt G M_Pr_jumpIfLess 3 0 0 [.ref 17] (hp L I r) (dt (some (.int (oLes L I a b).1)) (hp (oLes L I a b).2.1 (oLes L I a b).2.2 r)) := by
  refine mt_of_ev (by decide) (Nat.le_of_ble_eq_true rfl) ?_
  show ev G M_Pr_jumpIfLess (rmv 3 0 0) (Er M_Pr_jumpIfLess _ 0 0) 0 [(0, .ref 17)] [] (hp L I r) 0 0
  refine s_Pr_jumpIfLess_0 rfl ?_
  refine s_Pr_jumpIfLess_1 rfl ?_
  refine s_Pr_jumpIfLess_2 hp_17 rfl ?_
  refine c_Pr_jumpIfLess_5 (t_Pr_isFull ea (by omega)) hp_17 rfl (Nat.le_of_ble_eq_true rfl) ?_
  refine s_Pr_jumpIfLess_8 (fun c8 => ?_) (fun c8 => ?_)
  · skip
    (first | rw [bz_n0] at c8 | rw [bz_0] at c8 | skip); (try simp only [Bool.not_eq_false', Bool.not_eq_true', decide_eq_true_eq, decide_eq_false_iff_not, Bool.or_eq_true, Bool.or_eq_false_iff, Bool.and_eq_true, Bool.and_eq_false_iff] at c8)
    refine s_Pr_jumpIfLess_22 ?_
    exact s_Pr_jumpIfLess_23 ⟨by simp [oLes, c8], by simp [oLes, gO, c8]⟩ z0
  · skip
    (first | rw [bz_n0] at c8 | rw [bz_0] at c8 | skip); (try simp only [Bool.not_eq_false', Bool.not_eq_true', decide_eq_true_eq, decide_eq_false_iff_not, Bool.or_eq_true, Bool.or_eq_false_iff, Bool.and_eq_true, Bool.and_eq_false_iff] at c8)
    refine s_Pr_jumpIfLess_11 rfl ?_
    refine s_Pr_jumpIfLess_12 rfl ?_
    refine s_Pr_jumpIfLess_13 hp_17 rfl ?_
    refine c_Pr_jumpIfLess_16 (t_Pr_isFull eb (by omega)) hp_17 rfl (Nat.le_of_ble_eq_true rfl) ?_
    refine s_Pr_jumpIfLess_19 (fun c19 => ?_) (fun c19 => ?_)
    · skip
      (first | rw [bz_n0] at c19 | rw [bz_0] at c19 | skip); (try simp only [Bool.not_eq_false', Bool.not_eq_true', decide_eq_true_eq, decide_eq_false_iff_not, Bool.or_eq_true, Bool.or_eq_false_iff, Bool.and_eq_true, Bool.and_eq_false_iff] at c19)
      refine s_Pr_jumpIfLess_24 rfl ?_
      refine s_Pr_jumpIfLess_25 hp_17 rfl ?_
      refine s_Pr_jumpIfLess_28 rfl ?_
      refine s_Pr_jumpIfLess_29 hp_17 rfl ?_
      refine c_Pr_jumpIfLess_32 (t_St_held ea (by omega)) hp_4 rfl (Nat.le_of_ble_eq_true rfl) ?_
      refine s_Pr_jumpIfLess_35 ?_
      refine s_Pr_jumpIfLess_36 rfl ?_
      refine s_Pr_jumpIfLess_37 hp_17 rfl ?_
      refine s_Pr_jumpIfLess_40 rfl ?_
      refine s_Pr_jumpIfLess_41 hp_17 rfl ?_
      refine c_Pr_jumpIfLess_44 (t_St_held eb (by omega)) hp_4 rfl (Nat.le_of_ble_eq_true rfl) ?_
      refine s_Pr_jumpIfLess_47 ?_
      refine s_Pr_jumpIfLess_48 (fun c48 => ?_) (fun c48 => ?_)
      · skip
        refine s_Pr_jumpIfLess_62 rfl ?_
        refine c_Pr_jumpIfLess_63 (t_Pr_goOn) hp_17 rfl (Nat.le_of_ble_eq_true rfl) ?_
        exact s_Pr_jumpIfLess_66 ⟨by simp [oLes, c8, c19, c48], by simp [oLes, gO, c8, c19, c48]⟩ z0
      · skip
        refine s_Pr_jumpIfLess_51 rfl ?_
        refine s_Pr_jumpIfLess_52 rfl ?_
        refine s_Pr_jumpIfLess_53 hp_17 rfl ?_
        refine c_Pr_jumpIfLess_56 (t_Pr_goOnAt) hp_17 rfl (Nat.le_of_ble_eq_true rfl) ?_
        refine s_Pr_jumpIfLess_59 ?_
        exact s_Pr_jumpIfLess_66 ⟨by simp [oLes, c8, c19, c48], by simp [oLes, gO, c8, c19, c48]⟩ z0
    · skip
      (first | rw [bz_n0] at c19 | rw [bz_0] at c19 | skip); (try simp only [Bool.not_eq_false', Bool.not_eq_true', decide_eq_true_eq, decide_eq_false_iff_not, Bool.or_eq_true, Bool.or_eq_false_iff, Bool.and_eq_true, Bool.and_eq_false_iff] at c19)
      refine s_Pr_jumpIfLess_22 ?_
      exact s_Pr_jumpIfLess_23 ⟨by simp [oLes, c8, c19], by simp [oLes, gO, c8, c19]⟩ z0
set_option maxRecDepth 100000 in
theorem t_Pr_seal {G : GW} {L : LT} {I : IT} {r : Nat} {a : Nat} (ea : I 17 3 = nI a) (ha : a < 8) : mt G M_Pr_seal 3 0 0 [.ref 17] (hp L I r) (dt (some (.int (oSea L I a).1)) (hp (oSea L I a).2.1 (oSea L I a).2.2 r)) := by
  refine mt_of_ev (by decide) (Nat.le_of_ble_eq_true rfl) ?_
  show ev G M_Pr_seal (rmv 3 0 0) (Er M_Pr_seal _ 0 0) 0 [(0, .ref 17)] [] (hp L I r) 0 0
  refine s_Pr_seal_0 rfl ?_
  refine s_Pr_seal_1 rfl ?_
  refine s_Pr_seal_2 hp_17 rfl ?_
  refine c_Pr_seal_5 (t_Pr_isExclusive ea (by omega)) hp_17 rfl (Nat.le_of_ble_eq_true rfl) ?_
  refine s_Pr_seal_8 (fun c8 => ?_) (fun c8 => ?_)
  · skip
    (first | rw [bz_n0] at c8 | rw [bz_0] at c8 | skip); (try simp only [Bool.not_eq_false', Bool.not_eq_true', decide_eq_true_eq, decide_eq_false_iff_not, Bool.or_eq_true, Bool.or_eq_false_iff, Bool.and_eq_true, Bool.and_eq_false_iff] at c8)
    refine s_Pr_seal_13 rfl ?_
    refine s_Pr_seal_14 hp_17 rfl ?_
    refine c_Pr_seal_17 (t_St_freeGate) hp_4 rfl (Nat.le_of_ble_eq_true rfl) ?_
    refine s_Pr_seal_20 ?_
    refine s_Pr_seal_21 rfl ?_
    refine s_Pr_seal_22 (fun c22 => ?_) (fun c22 => ?_)
    · skip
      refine s_Pr_seal_28 rfl ?_
      refine s_Pr_seal_29 hp_17 rfl ?_
      refine s_Pr_seal_32 rfl ?_
      refine s_Pr_seal_33 rfl ?_
      refine s_Pr_seal_34 hp_17 rfl ?_
      refine s_Pr_seal_37 rfl ?_
      refine s_Pr_seal_38 hp_17 rfl ?_
      refine s_Pr_seal_41 rfl ?_
      refine s_Pr_seal_42 hp_17 rfl ?_
      refine c_Pr_seal_45 (t_St_fillGate (fz6 c22).1 (fz6 c22).2 ea (by omega)) hp_4 rfl (Nat.le_of_ble_eq_true rfl) ?_
      refine s_Pr_seal_48 rfl ?_
      refine s_Pr_seal_49 hp_17 rfl ?_
      refine s_Pr_seal_52 rfl ?_
      refine s_Pr_seal_53 hp_17 rfl ?_
      refine s_Pr_seal_56 rfl ?_
      refine c_Pr_seal_57 (t_Va_seal) (Nat.le_of_ble_eq_true rfl) ?_
      refine c_Pr_seal_60 (t_St_put ea (by omega)) hp_4 rfl (Nat.le_of_ble_eq_true rfl) ?_
      refine s_Pr_seal_63 rfl ?_
      refine c_Pr_seal_64 (t_Pr_goOn) hp_17 rfl (Nat.le_of_ble_eq_true rfl) ?_
      exact s_Pr_seal_67 ⟨by simp [oSea, c8, c22], by simp [oSea, gO, c8, c22]⟩ z0
    · skip
      refine s_Pr_seal_25 ?_
      exact s_Pr_seal_27 ⟨by simp [oSea, c8, c22], by simp [oSea, gO, c8, c22]⟩ z0
  · skip
    (first | rw [bz_n0] at c8 | rw [bz_0] at c8 | skip); (try simp only [Bool.not_eq_false', Bool.not_eq_true', decide_eq_true_eq, decide_eq_false_iff_not, Bool.or_eq_true, Bool.or_eq_false_iff, Bool.and_eq_true, Bool.and_eq_false_iff] at c8)
    refine s_Pr_seal_11 ?_
    exact s_Pr_seal_12 ⟨by simp [oSea, c8], by simp [oSea, gO, c8]⟩ z0
set_option maxRecDepth 100000 in
theorem t_Pr_halt {G : GW} {L : LT} {I : IT} {r : Nat}  : mt G M_Pr_halt 2 0 0 [.ref 17] (hp L I r) (dt (some (.int (oHal L I).1)) (hp (oHal L I).2.1 (oHal L I).2.2 r)) := by
  refine mt_of_ev (by decide) (Nat.le_of_ble_eq_true rfl) ?_
  show ev G M_Pr_halt (rmv 2 0 0) (Er M_Pr_halt _ 0 0) 0 [(0, .ref 17)] [] (hp L I r) 0 0
  refine s_Pr_halt_0 rfl ?_
  refine s_Pr_halt_1 hp_17 rfl ?_
  refine s_Pr_halt_4 ?_
  refine s_Pr_halt_5 hp_4 (Nat.le_of_ble_eq_true rfl) ?_
  rw [hu_4_14]
  refine s_Pr_halt_8 rfl ?_
  refine c_Pr_halt_9 (t_Pr_goOn) hp_17 rfl (Nat.le_of_ble_eq_true rfl) ?_
  exact s_Pr_halt_12 ⟨rfl, rfl⟩ z0

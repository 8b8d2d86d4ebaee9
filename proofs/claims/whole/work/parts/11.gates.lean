/-! the lowest free cell, gate; :=; the gates -/
def fz (f : Nat → Int32) : Nat → Nat → Int32
  | _, 0 => -1
  | i, n + 1 => if f i = 0 then nI i else fz f (i + 1) n
theorem fz_in (f : Nat → Int32) : ∀ n i, fz f i n = -1 ∨ ∃ j, i ≤ j ∧ j < i + n ∧ fz f i n = nI j ∧ f j = 0
  | 0, i => Or.inl rfl
  | n + 1, i => by
    by_cases h : f i = 0
    · exact Or.inr ⟨i, Nat.le_refl _, by omega, by simp [fz, h], h⟩
    · rcases fz_in f n (i + 1) with q | ⟨j, h1, h2, h3, h4⟩
      · exact Or.inl (by simp [fz, h, q])
      · exact Or.inr ⟨j, by omega, by omega, by simp [fz, h, h3], h4⟩
def lk (v : Int64) : Nat := (vLk v).toNatClampNeg
theorem vLk_nI (v : Int64) : vLk v = nI (lk v) := by
  obtain ⟨j, hj, e⟩ := pk_andE (((v.toUInt64 >>> ((24 : Int32).toInt64.toUInt64 &&& Int64.toUInt64 63)).toInt64).toInt32) (m := 255) 8 (by decide)
  have e' : vLk v = nI j := e
  rw [lk, e', nI_clamp (by omega)]
def gO (I : IT) : IT := upI I 4 12 (I 4 12 + 1)
def sAs (L : LT) (I : IT) (t f : Nat) : LT × IT := if vMov (L 5 f) = true then (upL (upL L 5 t (L 5 f)) 5 f 0, I) else (upL L 5 t (L 5 f), if vKd (L 5 f) = 2 then upI I 7 (lk (L 5 f)) (I 7 (lk (L 5 f)) + 1) else I)
set_option maxRecDepth 100000 in
theorem l_St_freeCell {G : GW} {L : LT} {I : IT} {r : Nat} {P : Option Value → HP → Prop} : ∀ n i : Nat, i + n = 6 → P (some (.int (fz (I 7) i n))) (hp L I r) → ev G M_St_freeCell (rmv 0 0 0) (Er M_St_freeCell P 0 0) 2 [(1, .int (nI i)), (0, .ref 4)] [] (hp L I r) 0 0 := by
  intro n
  induction n with
  | zero =>
    intro i hi hP
    refine s_St_freeCell_2 rfl ?_
    refine s_St_freeCell_3 ?_
    refine s_St_freeCell_5 (fun c5 => ?_) (fun c5 => absurd (show (6 : Int32) ≤ nI i by rw [show i = 6 by omega]; decide) c5)
    refine s_St_freeCell_25 ?_
    exact s_St_freeCell_26 hP z0
  | succ n ih =>
    intro i hi hP
    refine s_St_freeCell_2 rfl ?_
    refine s_St_freeCell_3 ?_
    refine s_St_freeCell_5 (fun c5 => absurd c5 (nle_nI (n := 6) rfl (by omega) (by decide))) (fun c5 => ?_)
    refine s_St_freeCell_8 rfl ?_
    refine s_St_freeCell_9 hp_4 rfl ?_
    refine s_St_freeCell_12 rfl ?_
    refine s_St_freeCell_13 hp_7 (vp_in_nI (by omega) (by decide)) ?_
    rw [nI_clamp (by omega)]
    refine s_St_freeCell_14 (fun c14 => ?_) (fun c14 => ?_)
    · skip
      refine s_St_freeCell_19 rfl ?_
      rw [nI_1]
      refine s_St_freeCell_22 ?_
      exact ih (i + 1) (by omega) (by rw [fz, if_neg c14] at hP; exact hP)
    · skip
      refine s_St_freeCell_17 rfl ?_
      exact s_St_freeCell_18 (by rw [fz, if_pos c14] at hP; exact hP) z0
set_option maxRecDepth 100000 in
theorem t_St_freeCell {G : GW} {L : LT} {I : IT} {r : Nat}  : mt G M_St_freeCell 0 0 0 [.ref 4] (hp L I r) (dt (some (.int (fz (I 7) 0 6))) (hp L I r)) := by
  refine mt_of_ev (by decide) (Nat.le_of_ble_eq_true rfl) ?_
  show ev G M_St_freeCell (rmv 0 0 0) (Er M_St_freeCell _ 0 0) 0 [(0, .ref 4)] [] (hp L I r) 0 0
  refine s_St_freeCell_0 ?_
  refine s_St_freeCell_1 ?_
  exact l_St_freeCell 6 0 rfl dt_i
set_option maxRecDepth 100000 in
theorem l_St_freeGate {G : GW} {L : LT} {I : IT} {r : Nat} {P : Option Value → HP → Prop} : ∀ n i : Nat, i + n = 6 → P (some (.int (fz (I 8) i n))) (hp L I r) → ev G M_St_freeGate (rmv 0 0 0) (Er M_St_freeGate P 0 0) 2 [(1, .int (nI i)), (0, .ref 4)] [] (hp L I r) 0 0 := by
  intro n
  induction n with
  | zero =>
    intro i hi hP
    refine s_St_freeGate_2 rfl ?_
    refine s_St_freeGate_3 ?_
    refine s_St_freeGate_5 (fun c5 => ?_) (fun c5 => absurd (show (6 : Int32) ≤ nI i by rw [show i = 6 by omega]; decide) c5)
    refine s_St_freeGate_25 ?_
    exact s_St_freeGate_26 hP z0
  | succ n ih =>
    intro i hi hP
    refine s_St_freeGate_2 rfl ?_
    refine s_St_freeGate_3 ?_
    refine s_St_freeGate_5 (fun c5 => absurd c5 (nle_nI (n := 6) rfl (by omega) (by decide))) (fun c5 => ?_)
    refine s_St_freeGate_8 rfl ?_
    refine s_St_freeGate_9 hp_4 rfl ?_
    refine s_St_freeGate_12 rfl ?_
    refine s_St_freeGate_13 hp_8 (vp_in_nI (by omega) (by decide)) ?_
    rw [nI_clamp (by omega)]
    refine s_St_freeGate_14 (fun c14 => ?_) (fun c14 => ?_)
    · skip
      refine s_St_freeGate_19 rfl ?_
      rw [nI_1]
      refine s_St_freeGate_22 ?_
      exact ih (i + 1) (by omega) (by rw [fz, if_neg c14] at hP; exact hP)
    · skip
      refine s_St_freeGate_17 rfl ?_
      exact s_St_freeGate_18 (by rw [fz, if_pos c14] at hP; exact hP) z0
set_option maxRecDepth 100000 in
theorem t_St_freeGate {G : GW} {L : LT} {I : IT} {r : Nat}  : mt G M_St_freeGate 0 0 0 [.ref 4] (hp L I r) (dt (some (.int (fz (I 8) 0 6))) (hp L I r)) := by
  refine mt_of_ev (by decide) (Nat.le_of_ble_eq_true rfl) ?_
  show ev G M_St_freeGate (rmv 0 0 0) (Er M_St_freeGate _ 0 0) 0 [(0, .ref 4)] [] (hp L I r) 0 0
  refine s_St_freeGate_0 ?_
  refine s_St_freeGate_1 ?_
  exact l_St_freeGate 6 0 rfl dt_i
set_option maxRecDepth 100000 in
theorem t_St_assign {G : GW} {L : LT} {I : IT} {r : Nat} {p q : Int32} {t f : Nat} (ep : p = nI t) (ht : t < 102) (eq : q = nI f) (hf : f < 102) (hlk : vKd (L 5 f) = 2 → lk (L 5 f) < 6) : mt G M_St_assign 2 0 0 [.ref 4, .int p, .int q] (hp L I r) (dt (none) (hp (sAs L I t f).1 (sAs L I t f).2 r)) := by
  refine mt_of_ev (by decide) (Nat.le_of_ble_eq_true rfl) ?_
  show ev G M_St_assign (rmv 2 0 0) (Er M_St_assign _ 0 0) 0 [(0, .ref 4), (1, .int p), (2, .int q)] [] (hp L I r) 0 0
  refine s_St_assign_0 rfl ?_
  refine s_St_assign_1 rfl ?_
  refine c_St_assign_2 (t_St_held eq hf) hp_4 rfl (Nat.le_of_ble_eq_true rfl) ?_
  refine s_St_assign_5 ?_
  refine s_St_assign_6 rfl ?_
  refine c_St_assign_7 (show mt _ _ _ _ _ _ _ (dt (some (.int (bz (vMov (L 5 f))))) _) from t_Va_isMoved) (Nat.le_of_ble_eq_true rfl) ?_
  refine s_St_assign_10 (fun c10 => ?_) (fun c10 => ?_)
  · skip
    (first | rw [bz_n0] at c10 | rw [bz_0] at c10 | skip); (try simp only [Bool.not_eq_false', Bool.not_eq_true', decide_eq_true_eq, decide_eq_false_iff_not, Bool.or_eq_true, Bool.or_eq_false_iff, Bool.and_eq_true, Bool.and_eq_false_iff] at c10)
    refine s_St_assign_20 rfl ?_
    refine s_St_assign_21 rfl ?_
    refine s_St_assign_22 rfl ?_
    refine c_St_assign_23 (t_St_put ep ht) hp_4 rfl (Nat.le_of_ble_eq_true rfl) ?_
    refine s_St_assign_26 rfl ?_
    refine c_St_assign_27 (t_Va_kind) (Nat.le_of_ble_eq_true rfl) ?_
    refine s_St_assign_30 ?_
    refine s_St_assign_31 (fun c31 => ?_) (fun c31 => ?_)
    · skip
      exact s_St_assign_43 ⟨rfl, by simp [sAs, *]⟩ z0
    · skip
      refine s_St_assign_34 rfl ?_
      refine s_St_assign_35 rfl ?_
      refine c_St_assign_36 (t_Va_link) (Nat.le_of_ble_eq_true rfl) ?_
      refine s_St_assign_39 ?_
      refine c_St_assign_40 (t_St_addToCount (vLk_nI _) (hlk c31)) hp_4 rfl (Nat.le_of_ble_eq_true rfl) ?_
      exact s_St_assign_43 ⟨rfl, by simp [sAs, *]⟩ z0
  · skip
    (first | rw [bz_n0] at c10 | rw [bz_0] at c10 | skip); (try simp only [Bool.not_eq_false', Bool.not_eq_true', decide_eq_true_eq, decide_eq_false_iff_not, Bool.or_eq_true, Bool.or_eq_false_iff, Bool.and_eq_true, Bool.and_eq_false_iff] at c10)
    refine s_St_assign_13 rfl ?_
    refine s_St_assign_14 rfl ?_
    refine s_St_assign_15 rfl ?_
    refine c_St_assign_16 (t_St_carry ep ht eq hf) hp_4 rfl (Nat.le_of_ble_eq_true rfl) ?_
    exact s_St_assign_19 ⟨rfl, by simp [sAs, *]⟩ z0
set_option maxRecDepth 100000 in
theorem t_St_fillGate {G : GW} {L : LT} {I : IT} {r : Nat} {p q m t : Int32} {g a : Nat} (ep : p = nI g) (hg : g < 6) (eq : q = nI a) (ha : a < 102) : mt G M_St_fillGate 2 0 0 [.ref 4, .int p, .int q, .int m, .int t] (hp L I r) (dt (none) (hp (upL (upL L 5 (96 + g) (L 5 a)) 5 a 0) (upI (upI (upI I 8 g 1) 9 g m) 10 g t) r)) := by
  refine mt_of_ev (by decide) (Nat.le_of_ble_eq_true rfl) ?_
  show ev G M_St_fillGate (rmv 2 0 0) (Er M_St_fillGate _ 0 0) 0 [(0, .ref 4), (1, .int p), (2, .int q), (3, .int m), (4, .int t)] [] (hp L I r) 0 0
  subst ep
  refine s_St_fillGate_0 rfl ?_
  refine s_St_fillGate_1 (fun c1 => absurd c1 (nI_pos (by omega))) (fun c1 => ?_)
  refine s_St_fillGate_4 rfl ?_
  refine s_St_fillGate_5 ?_
  refine s_St_fillGate_7 (fun c7 => ?_) (fun c7 => absurd c7 (nn_lt (lt_nI rfl hg (by decide))))
  refine s_St_fillGate_11 rfl ?_
  refine s_St_fillGate_12 ?_
  refine s_St_fillGate_14 rfl ?_
  refine s_St_fillGate_15 ?_
  refine s_St_fillGate_16 rfl ?_
  refine c_St_fillGate_17 (t_St_carry (show (96 : Int32) + nI g = nI (96 + g) from nI_add 96 g) (by omega) eq ha) hp_4 rfl (Nat.le_of_ble_eq_true rfl) ?_
  refine s_St_fillGate_20 rfl ?_
  refine s_St_fillGate_21 hp_4 rfl ?_
  refine s_St_fillGate_24 rfl ?_
  refine s_St_fillGate_25 ?_
  refine s_St_fillGate_26 hp_8 (vp_in_nI hg (by decide)) ?_
  rw [hu_8]
  refine s_St_fillGate_27 rfl ?_
  refine s_St_fillGate_28 hp_4 rfl ?_
  refine s_St_fillGate_31 rfl ?_
  refine s_St_fillGate_32 rfl ?_
  refine s_St_fillGate_33 hp_9 (vp_in_nI hg (by decide)) ?_
  rw [hu_9]
  refine s_St_fillGate_34 rfl ?_
  refine s_St_fillGate_35 hp_4 rfl ?_
  refine s_St_fillGate_38 rfl ?_
  refine s_St_fillGate_39 rfl ?_
  refine s_St_fillGate_41 hp_10 (vp_in_nI hg (by decide)) ?_
  rw [hu_10]
  exact s_St_fillGate_42 ⟨rfl, by rw [nI_clamp (by omega)]; rfl⟩ z0

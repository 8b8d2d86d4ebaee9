/-! call and return; the code's reads; fetch; whether an order is well formed; perform -/
def cOp (I : IT) (g : Nat) : Bool := decide (I 8 g = 1) && decide (I 4 10 < 5)
theorem cOp_t {I : IT} {g dp : Nat} (ed : I 4 10 = nI dp) (hd : dp ≤ 5) (h : cOp I g = true) : I 8 g = 1 ∧ dp < 5 := by
  simp only [cOp, Bool.and_eq_true, decide_eq_true_eq] at h
  refine ⟨h.1, ?_⟩
  have := h.2
  rw [ed, show (5 : Int32) = nI 5 from rfl, nI_ltI (by omega) (by decide)] at this
  exact this
def oCal (L : LT) (I : IT) (a dp : Nat) : OR :=
  if ¬ vKd (L 5 a) = 3 then (1, L, I) else if ¬ vKd (L 5 0) = 0 then (3, L, I) else if cOp I (lk (L 5 a)) = false then (7, L, I)
  else (0, oFL L I (lk (L 5 a)) (I 17 4) (I 4 12 + 1) dp, oFJ I (lk (L 5 a)) (I 17 4) (I 4 12 + 1) dp)
def oRet (L : LT) (I : IT) (f g k : Nat) : OR :=
  if cCl L f (decide (vKd (L 5 0) = 0) && decide (L 5 7 = L 6 (7 * f))) 1 6 = false then (8, L, I) else (0, cFL L f g k, cFJ I f g)
def hasO (I : IT) (m : Nat) (q : Int32) : Bool := decide (0 ≤ q) && decide (q < I 3 m)
def prt (I : IT) (m : Nat) (q : Int32) (j : Nat) : Int32 := if hasO I m q = true then I 2 ((m * 24 + q.toNatClampNeg) * 4 + j) else 0
def nmi (k : Nat) : Int32 := ([1, 2, 2, 2, 2, 2, 2, 1, 1, 1, 2, 2, 0, 1, 2, 1, 1, 0, 0] : List Int32).getD k 0
def nmd (k : Nat) : Value := .int (nmi k)
def fI (I : IT) (m : Nat) : IT := upI (upI (upI (upI I 17 2 (prt I m (I 4 12) 0)) 17 3 (prt I m (I 4 12) 1)) 17 4 (prt I m (I 4 12) 2)) 17 5 (prt I m (I 4 12) 3)
def isR (p : Int32) : Bool := decide (0 ≤ p) && decide (p < 8)
def wfm (I : IT) : Bool :=
  if I 17 2 < 0 ∨ ¬ I 17 2 < 19 then false
  else if (¬ nmi (I 17 2).toNatClampNeg < 1 ∧ isR (I 17 3) = false) ∨ (¬ nmi (I 17 2).toNatClampNeg < 2 ∧ isR (I 17 4) = false) then false
  else if I 17 2 = 15 then decide (¬ I 17 4 < 0 ∧ ¬ 3 ≤ I 17 4 ∧ ¬ I 17 5 < 0 ∧ ¬ 63 < I 17 5) else if I 17 2 = 16 then decide (¬ I 17 4 < 0 ∧ ¬ 6 < I 17 4) else true
theorem idx4 (m q j : Nat) : (nI m * 24 + nI q) * 4 + nI j = nI ((m * 24 + q) * 4 + j) := by
  rw [show (24 : Int32) = nI 24 from rfl, show (4 : Int32) = nI 4 from rfl, pk_mul, nI_add, pk_mul, nI_add]
theorem in24 {q s : Int32} (h1 : 0 ≤ q) (h2 : q < s) (h3 : s ≤ 24) : ∃ j : Nat, j < 24 ∧ q = nI j := by
  have a := Int32.le_iff_toInt_le.mp h1
  have b := Int32.lt_iff_toInt_lt.mp h2
  have c := Int32.le_iff_toInt_le.mp h3
  refine ⟨q.toInt.toNat, ?_, ?_⟩
  · have : (24 : Int32).toInt = 24 := rfl
    simp at a; omega
  · apply Int32.toInt_inj.mp
    have : (24 : Int32).toInt = 24 := rfl
    simp at a
    rw [nI_toInt (by omega)]; omega
set_option maxRecDepth 100000 in
theorem t_Pr_call {G : GW} {L : LT} {I : IT} {r : Nat} {a : Nat} (ea : I 17 3 = nI a) (ha : a < 8) (hlk : vKd (L 5 a) = 3 → lk (L 5 a) < 6) {dp : Nat} (ed : I 4 10 = nI dp) (hd : dp ≤ 5) : mt G M_Pr_call 3 0 0 [.ref 17] (hp L I r) (dt (some (.int (oCal L I a dp).1)) (hp (oCal L I a dp).2.1 (oCal L I a dp).2.2 r)) := by
  refine mt_of_ev (by decide) (Nat.le_of_ble_eq_true rfl) ?_
  show ev G M_Pr_call (rmv 3 0 0) (Er M_Pr_call _ 0 0) 0 [(0, .ref 17)] [] (hp L I r) 0 0
  refine s_Pr_call_0 rfl ?_
  refine s_Pr_call_1 hp_17 rfl ?_
  refine s_Pr_call_4 rfl ?_
  refine s_Pr_call_5 hp_17 rfl ?_
  refine c_Pr_call_8 (t_St_held ea (by omega)) hp_4 rfl (Nat.le_of_ble_eq_true rfl) ?_
  refine s_Pr_call_11 ?_
  refine s_Pr_call_12 rfl ?_
  refine c_Pr_call_13 (t_Va_kind) (Nat.le_of_ble_eq_true rfl) ?_
  refine s_Pr_call_16 ?_
  refine s_Pr_call_17 (fun c17 => ?_) (fun c17 => ?_)
  · skip
    refine s_Pr_call_22 rfl ?_
    refine s_Pr_call_23 ?_
    refine c_Pr_call_24 (t_Pr_isFull (j := 0) rfl (by omega)) hp_17 rfl (Nat.le_of_ble_eq_true rfl) ?_
    refine s_Pr_call_27 (fun c27 => ?_) (fun c27 => ?_)
    · skip
      (first | rw [bz_n0] at c27 | rw [bz_0] at c27 | skip); (try simp only [Bool.not_eq_false', Bool.not_eq_true', decide_eq_true_eq, decide_eq_false_iff_not, Bool.or_eq_true, Bool.or_eq_false_iff, Bool.and_eq_true, Bool.and_eq_false_iff] at c27)
      refine s_Pr_call_32 rfl ?_
      refine s_Pr_call_33 hp_17 rfl ?_
      refine s_Pr_call_36 rfl ?_
      refine c_Pr_call_37 (t_Va_link) (Nat.le_of_ble_eq_true rfl) ?_
      refine c_Pr_call_40 (show mt _ _ _ _ _ _ _ (dt (some (.int (bz (cOp I (lk (L 5 a)))))) _) from t_St_canOpen (vLk_nI _) (hlk c17)) hp_4 rfl (Nat.le_of_ble_eq_true rfl) ?_
      refine s_Pr_call_43 (fun c43 => ?_) (fun c43 => ?_)
      · skip
        (first | rw [bz_n0] at c43 | rw [bz_0] at c43 | skip); (try simp only [Bool.not_eq_false', Bool.not_eq_true', decide_eq_true_eq, decide_eq_false_iff_not, Bool.or_eq_true, Bool.or_eq_false_iff, Bool.and_eq_true, Bool.and_eq_false_iff] at c43)
        refine s_Pr_call_49 rfl ?_
        refine s_Pr_call_50 hp_17 rfl ?_
        refine s_Pr_call_53 rfl ?_
        refine c_Pr_call_54 (t_Va_link) (Nat.le_of_ble_eq_true rfl) ?_
        refine s_Pr_call_57 rfl ?_
        refine s_Pr_call_58 hp_17 rfl ?_
        refine s_Pr_call_61 rfl ?_
        refine s_Pr_call_62 hp_17 rfl ?_
        refine s_Pr_call_65 hp_4 rfl ?_
        refine s_Pr_call_68 ?_
        refine s_Pr_call_69 ?_
        refine c_Pr_call_70 (t_St_openFrame (vLk_nI _) (hlk c17) (cOp_t ed hd c43).1 ed (cOp_t ed hd c43).2) hp_4 rfl (Nat.le_of_ble_eq_true rfl) ?_
        refine s_Pr_call_73 ?_
        exact s_Pr_call_74 ⟨by simp [oCal, c17, c27, c43], by simp [oCal, c17, c27, c43]⟩ z0
      · skip
        (first | rw [bz_n0] at c43 | rw [bz_0] at c43 | skip); (try simp only [Bool.not_eq_false', Bool.not_eq_true', decide_eq_true_eq, decide_eq_false_iff_not, Bool.or_eq_true, Bool.or_eq_false_iff, Bool.and_eq_true, Bool.and_eq_false_iff] at c43)
        refine s_Pr_call_46 ?_
        exact s_Pr_call_48 ⟨by simp [oCal, c17, c27, c43], by simp [oCal, c17, c27, c43]⟩ z0
    · skip
      (first | rw [bz_n0] at c27 | rw [bz_0] at c27 | skip); (try simp only [Bool.not_eq_false', Bool.not_eq_true', decide_eq_true_eq, decide_eq_false_iff_not, Bool.or_eq_true, Bool.or_eq_false_iff, Bool.and_eq_true, Bool.and_eq_false_iff] at c27)
      refine s_Pr_call_30 ?_
      exact s_Pr_call_31 ⟨by simp [oCal, c17, c27], by simp [oCal, c17, c27]⟩ z0
  · skip
    refine s_Pr_call_20 ?_
    exact s_Pr_call_21 ⟨by simp [oCal, c17], by simp [oCal, c17]⟩ z0
set_option maxRecDepth 100000 in
theorem t_Pr_comeBack {G : GW} {L : LT} {I : IT} {r : Nat} {f g k : Nat} (ed : I 4 10 = nI (f + 1)) (hf : f < 5) (eg : I 13 f = nI g) (hg : g < 6) (ek : I 14 f = nI k) (hk : k ≤ 6) : mt G M_Pr_comeBack 3 0 0 [.ref 17] (hp L I r) (dt (some (.int (oRet L I f g k).1)) (hp (oRet L I f g k).2.1 (oRet L I f g k).2.2 r)) := by
  refine mt_of_ev (by decide) (Nat.le_of_ble_eq_true rfl) ?_
  show ev G M_Pr_comeBack (rmv 3 0 0) (Er M_Pr_comeBack _ 0 0) 0 [(0, .ref 17)] [] (hp L I r) 0 0
  refine s_Pr_comeBack_0 rfl ?_
  refine s_Pr_comeBack_1 hp_17 rfl ?_
  refine c_Pr_comeBack_4 (t_St_canCloseFrame ed hf) hp_4 rfl (Nat.le_of_ble_eq_true rfl) ?_
  refine s_Pr_comeBack_7 (fun c7 => ?_) (fun c7 => ?_)
  · skip
    (first | rw [bz_n0] at c7 | rw [bz_0] at c7 | skip); (try simp only [Bool.not_eq_false', Bool.not_eq_true', decide_eq_true_eq, decide_eq_false_iff_not, Bool.or_eq_true, Bool.or_eq_false_iff, Bool.and_eq_true, Bool.and_eq_false_iff] at c7)
    refine s_Pr_comeBack_13 rfl ?_
    refine s_Pr_comeBack_14 hp_17 rfl ?_
    refine c_Pr_comeBack_17 (t_St_closeFrame ed hf eg hg ek hk) hp_4 rfl (Nat.le_of_ble_eq_true rfl) ?_
    refine s_Pr_comeBack_20 ?_
    exact s_Pr_comeBack_21 ⟨by simp [oRet, c7], by simp [oRet, gO, c7]⟩ z0
  · skip
    (first | rw [bz_n0] at c7 | rw [bz_0] at c7 | skip); (try simp only [Bool.not_eq_false', Bool.not_eq_true', decide_eq_true_eq, decide_eq_false_iff_not, Bool.or_eq_true, Bool.or_eq_false_iff, Bool.and_eq_true, Bool.and_eq_false_iff] at c7)
    refine s_Pr_comeBack_10 ?_
    exact s_Pr_comeBack_12 ⟨by simp [oRet, c7], by simp [oRet, gO, c7]⟩ z0
set_option maxRecDepth 100000 in
theorem t_Pr_comeBack0 {G : GW} {L : LT} {I : IT} {r : Nat} (ed : I 4 10 = 0) : mt G M_Pr_comeBack 3 0 0 [.ref 17] (hp L I r) (dt (some (.int 8)) (hp L I r)) := by
  refine mt_of_ev (by decide) (Nat.le_of_ble_eq_true rfl) ?_
  show ev G M_Pr_comeBack (rmv 3 0 0) (Er M_Pr_comeBack _ 0 0) 0 [(0, .ref 17)] [] (hp L I r) 0 0
  refine s_Pr_comeBack_0 rfl ?_
  refine s_Pr_comeBack_1 hp_17 rfl ?_
  refine c_Pr_comeBack_4 (t_St_canCloseFrame0 ed) hp_4 rfl (Nat.le_of_ble_eq_true rfl) ?_
  refine s_Pr_comeBack_7 (fun c7 => absurd c7 (by decide)) (fun c7 => ?_)
  refine s_Pr_comeBack_10 ?_
  exact s_Pr_comeBack_12 ⟨by first | rfl | (simp [bz, *]; done) | (simp only [← Int32.not_le] at *; simp [bz, *]; done) | (simp only [Int32.not_lt, Int32.not_le] at *; simp [bz, *]; done) | (simp_all [bz]; done) | (simp only [bz_0, bz_n0, ← Int32.not_le] at *; simp_all [bz]; done), by first | rfl | (simp [*]; done) | (simp_all; done)⟩ z0
set_option maxRecDepth 100000 in
theorem t_Co_has {G : GW} {L : LT} {I : IT} {r : Nat} {p q : Int32} {m : Nat} (ep : p = nI m) (hm : m < 3) : mt G M_Co_has 1 0 0 [.ref 1, .int p, .int q] (hp L I r) (dt (some (.int (bz (hasO I m q)))) (hp L I r)) := by
  refine mt_of_ev (by decide) (Nat.le_of_ble_eq_true rfl) ?_
  show ev G M_Co_has (rmv 1 0 0) (Er M_Co_has _ 0 0) 0 [(0, .ref 1), (1, .int p), (2, .int q)] [] (hp L I r) 0 0
  refine s_Co_has_0 rfl ?_
  refine s_Co_has_1 (fun c1 => ?_) (fun c1 => ?_)
  · skip
    refine s_Co_has_17 ?_
    exact s_Co_has_18 (by first | exact Or.inl rfl | exact Or.inr rfl | exact bz_or | assumption) ⟨by (try rw [Int32.not_lt] at c1); (try rw [← Int32.not_le] at c1); (try rw [Int32.not_le] at c10); (try rw [← Int32.not_lt] at c10); simp [bz, hasO, c1], rfl⟩ z0
  · skip
    refine s_Co_has_4 rfl ?_
    refine s_Co_has_5 rfl ?_
    refine s_Co_has_6 rfl ?_
    refine c_Co_has_7 (t_Co_size ep hm) hp_1 rfl (Nat.le_of_ble_eq_true rfl) ?_
    refine s_Co_has_10 (fun c10 => ?_) (fun c10 => ?_)
    · skip
      refine s_Co_has_17 ?_
      exact s_Co_has_18 (by first | exact Or.inl rfl | exact Or.inr rfl | exact bz_or | assumption) ⟨by (try rw [Int32.not_lt] at c1); (try rw [← Int32.not_le] at c1); (try rw [Int32.not_le] at c10); (try rw [← Int32.not_lt] at c10); simp [bz, hasO, c1, c10], rfl⟩ z0
    · skip
      refine s_Co_has_13 ?_
      refine s_Co_has_14 ?_
      exact s_Co_has_18 (by first | exact Or.inl rfl | exact Or.inr rfl | exact bz_or | assumption) ⟨by (try rw [Int32.not_lt] at c1); (try rw [← Int32.not_le] at c1); (try rw [Int32.not_le] at c10); (try rw [← Int32.not_lt] at c10); simp [bz, hasO, c1, c10], rfl⟩ z0
set_option maxRecDepth 100000 in
theorem t_Co_part {G : GW} {L : LT} {I : IT} {r : Nat} {p q z : Int32} {m j : Nat} (ep : p = nI m) (hm : m < 3) (ez : z = nI j) (hj : j < 4) (hs : I 3 m ≤ 24) : mt G M_Co_part 2 0 0 [.ref 1, .int p, .int q, .int z] (hp L I r) (dt (some (.int (prt I m q j))) (hp L I r)) := by
  refine mt_of_ev (by decide) (Nat.le_of_ble_eq_true rfl) ?_
  show ev G M_Co_part (rmv 2 0 0) (Er M_Co_part _ 0 0) 0 [(0, .ref 1), (1, .int p), (2, .int q), (3, .int z)] [] (hp L I r) 0 0
  refine s_Co_part_0 rfl ?_
  refine s_Co_part_1 rfl ?_
  refine s_Co_part_2 rfl ?_
  refine c_Co_part_3 (t_Co_has ep hm) hp_1 rfl (Nat.le_of_ble_eq_true rfl) ?_
  refine s_Co_part_6 (fun c6 => ?_) (fun c6 => ?_)
  · skip
    (first | rw [bz_n0] at c6 | rw [bz_0] at c6 | skip); (try simp only [Bool.not_eq_false', Bool.not_eq_true', decide_eq_true_eq, decide_eq_false_iff_not, Bool.or_eq_true, Bool.or_eq_false_iff, Bool.and_eq_true, Bool.and_eq_false_iff] at c6)
    refine s_Co_part_18 ?_
    exact s_Co_part_19 ⟨by simp [prt, c6], rfl⟩ z0
  · skip
    (first | rw [bz_n0] at c6 | rw [bz_0] at c6 | skip); (try simp only [Bool.not_eq_false', Bool.not_eq_true', decide_eq_true_eq, decide_eq_false_iff_not, Bool.or_eq_true, Bool.or_eq_false_iff, Bool.and_eq_true, Bool.and_eq_false_iff] at c6)
    refine s_Co_part_9 rfl ?_
    refine s_Co_part_10 (fun c10 => absurd c10 (by rw [ez]; exact nI_pos (by omega))) (fun c10 => ?_)
    refine s_Co_part_13 rfl ?_
    refine s_Co_part_14 ?_
    refine s_Co_part_15 (fun c15 => ?_) (fun c15 => absurd c15 (nn_lt (by rw [ez]; exact lt_nI (n := 4) rfl hj (by decide))))
    have c6b := c6
    simp only [hasO, Bool.and_eq_true, decide_eq_true_eq] at c6b
    obtain ⟨w, hw, rfl⟩ := in24 c6b.1 c6b.2 hs
    subst ep; subst ez
    refine s_Co_part_20 rfl ?_
    refine s_Co_part_21 hp_1 rfl ?_
    refine s_Co_part_24 rfl ?_
    refine s_Co_part_25 ?_
    refine s_Co_part_27 ?_
    refine s_Co_part_28 rfl ?_
    refine s_Co_part_29 ?_
    refine s_Co_part_30 ?_
    refine s_Co_part_31 ?_
    refine s_Co_part_32 rfl ?_
    refine s_Co_part_33 ?_
    rw [idx4]
    refine s_Co_part_34 hp_2 (vp_in_nI (by omega) (by decide)) ?_
    exact s_Co_part_35 ⟨by rw [nI_clamp (by omega)]; simp [prt, c6, nI_clamp (show w < 2 ^ 31 by omega)], rfl⟩ z0
set_option maxRecDepth 100000 in
theorem t_Pr_fetch {G : GW} {L : LT} {I : IT} {r : Nat} {m : Nat} (em : I 4 11 = nI m) (hm : m < 3) (hs : I 3 m ≤ 24) : mt G M_Pr_fetch 3 0 0 [.ref 17] (hp L I r) (dt (some (.int (bz (hasO I m (I 4 12))))) (hp L (fI I m) r)) := by
  refine mt_of_ev (by decide) (Nat.le_of_ble_eq_true rfl) ?_
  show ev G M_Pr_fetch (rmv 3 0 0) (Er M_Pr_fetch _ 0 0) 0 [(0, .ref 17)] [] (hp L I r) 0 0
  refine s_Pr_fetch_0 rfl ?_
  refine s_Pr_fetch_1 rfl ?_
  refine s_Pr_fetch_2 hp_17 rfl ?_
  refine s_Pr_fetch_5 rfl ?_
  refine s_Pr_fetch_6 hp_17 rfl ?_
  refine s_Pr_fetch_9 hp_4 rfl ?_
  refine s_Pr_fetch_12 rfl ?_
  refine s_Pr_fetch_13 hp_17 rfl ?_
  refine s_Pr_fetch_16 hp_4 rfl ?_
  refine s_Pr_fetch_19 ?_
  refine c_Pr_fetch_20 (t_Co_part (j := 0) em hm rfl (by omega) hs) hp_1 rfl (Nat.le_of_ble_eq_true rfl) ?_
  refine s_Pr_fetch_23 hp_17 (Nat.le_of_ble_eq_true rfl) ?_
  rw [hu_17_2]
  refine s_Pr_fetch_26 rfl ?_
  refine s_Pr_fetch_27 rfl ?_
  refine s_Pr_fetch_28 hp_17 rfl ?_
  refine s_Pr_fetch_31 rfl ?_
  refine s_Pr_fetch_32 hp_17 rfl ?_
  refine s_Pr_fetch_35 hp_4 rfl ?_
  refine s_Pr_fetch_38 rfl ?_
  refine s_Pr_fetch_39 hp_17 rfl ?_
  refine s_Pr_fetch_42 hp_4 rfl ?_
  refine s_Pr_fetch_45 ?_
  refine c_Pr_fetch_46 (t_Co_part (j := 1) em hm rfl (by omega) hs) hp_1 rfl (Nat.le_of_ble_eq_true rfl) ?_
  refine s_Pr_fetch_49 hp_17 (Nat.le_of_ble_eq_true rfl) ?_
  rw [hu_17_3]
  refine s_Pr_fetch_52 rfl ?_
  refine s_Pr_fetch_53 rfl ?_
  refine s_Pr_fetch_54 hp_17 rfl ?_
  refine s_Pr_fetch_57 rfl ?_
  refine s_Pr_fetch_58 hp_17 rfl ?_
  refine s_Pr_fetch_61 hp_4 rfl ?_
  refine s_Pr_fetch_64 rfl ?_
  refine s_Pr_fetch_65 hp_17 rfl ?_
  refine s_Pr_fetch_68 hp_4 rfl ?_
  refine s_Pr_fetch_71 ?_
  refine c_Pr_fetch_72 (t_Co_part (j := 2) em hm rfl (by omega) hs) hp_1 rfl (Nat.le_of_ble_eq_true rfl) ?_
  refine s_Pr_fetch_75 hp_17 (Nat.le_of_ble_eq_true rfl) ?_
  rw [hu_17_4]
  refine s_Pr_fetch_78 rfl ?_
  refine s_Pr_fetch_79 rfl ?_
  refine s_Pr_fetch_80 hp_17 rfl ?_
  refine s_Pr_fetch_83 rfl ?_
  refine s_Pr_fetch_84 hp_17 rfl ?_
  refine s_Pr_fetch_87 hp_4 rfl ?_
  refine s_Pr_fetch_90 rfl ?_
  refine s_Pr_fetch_91 hp_17 rfl ?_
  refine s_Pr_fetch_94 hp_4 rfl ?_
  refine s_Pr_fetch_97 ?_
  refine c_Pr_fetch_98 (t_Co_part (j := 3) em hm rfl (by omega) hs) hp_1 rfl (Nat.le_of_ble_eq_true rfl) ?_
  refine s_Pr_fetch_101 hp_17 (Nat.le_of_ble_eq_true rfl) ?_
  rw [hu_17_5]
  refine s_Pr_fetch_104 rfl ?_
  refine s_Pr_fetch_105 hp_17 rfl ?_
  refine s_Pr_fetch_108 rfl ?_
  refine s_Pr_fetch_109 hp_17 rfl ?_
  refine s_Pr_fetch_112 hp_4 rfl ?_
  refine s_Pr_fetch_115 rfl ?_
  refine s_Pr_fetch_116 hp_17 rfl ?_
  refine s_Pr_fetch_119 hp_4 rfl ?_
  refine c_Pr_fetch_122 (t_Co_has em hm) hp_1 rfl (Nat.le_of_ble_eq_true rfl) ?_
  exact s_Pr_fetch_125 (by first | exact Or.inl rfl | exact Or.inr rfl | exact bz_or | assumption) ⟨rfl, rfl⟩ z0
set_option maxRecDepth 100000 in
theorem t_Pr_isWellFormed {G : GW} {L : LT} {I : IT} {r : Nat} (hG : G.2.2.2.2[0]? = some (.int, 19, nmd)) : mt G M_Pr_isWellFormed 1 0 0 [.ref 17] (hp L I r) (dt (some (.int (bz (wfm I)))) (hp L I r)) := by
  refine mt_of_ev (by decide) (Nat.le_of_ble_eq_true rfl) ?_
  show ev G M_Pr_isWellFormed (rmv 1 0 0) (Er M_Pr_isWellFormed _ 0 0) 0 [(0, .ref 17)] [] (hp L I r) 0 0
  refine s_Pr_isWellFormed_0 rfl ?_
  refine s_Pr_isWellFormed_1 hp_17 rfl ?_
  refine s_Pr_isWellFormed_4 (fun c4 => ?_) (fun c4 => ?_)
  · skip
    refine s_Pr_isWellFormed_18 ?_
    exact s_Pr_isWellFormed_19 (by first | exact Or.inl rfl | exact Or.inr rfl | exact bz_or | assumption) ⟨by rw [wfm, if_pos (by first | exact Or.inl c4 | exact Or.inr c15)]; rfl, rfl⟩ z0
  · skip
    refine s_Pr_isWellFormed_7 rfl ?_
    refine s_Pr_isWellFormed_8 hp_17 rfl ?_
    refine s_Pr_isWellFormed_11 ?_
    refine s_Pr_isWellFormed_14 hG ?_
    refine s_Pr_isWellFormed_15 (fun c15 => ?_) (fun c15 => ?_)
    · skip
      refine s_Pr_isWellFormed_20 ?_
      refine s_Pr_isWellFormed_23 rfl ?_
      refine s_Pr_isWellFormed_24 hp_17 rfl ?_
      refine s_Pr_isWellFormed_27t hG (vin (n := 19) rfl c4 (by rw [Int32.not_le]; exact c15)) rfl ?_
      refine s_Pr_isWellFormed_28 ?_
      refine s_Pr_isWellFormed_29 (fun c29 => ?_) (fun c29 => ?_)
      · skip
        refine s_Pr_isWellFormed_42 ?_
        refine s_Pr_isWellFormed_45 rfl ?_
        refine s_Pr_isWellFormed_46 hp_17 rfl ?_
        refine s_Pr_isWellFormed_49t hG (vin (n := 19) rfl c4 (by rw [Int32.not_le]; exact c15)) rfl ?_
        refine s_Pr_isWellFormed_50 ?_
        refine s_Pr_isWellFormed_51 (fun c51 => ?_) (fun c51 => ?_)
        · skip
          refine s_Pr_isWellFormed_66 rfl ?_
          refine s_Pr_isWellFormed_67 hp_17 rfl ?_
          by_cases e70_15 : I 17 2 = 15
          · skip
            refine ev_topi e70_15 ?_
            refine s_Pr_isWellFormed_70_15 ?_
            refine s_Pr_isWellFormed_96 rfl ?_
            refine s_Pr_isWellFormed_97 hp_17 rfl ?_
            refine s_Pr_isWellFormed_100 (fun c100 => ?_) (fun c100 => ?_)
            · skip
              refine s_Pr_isWellFormed_131 ?_
              exact s_Pr_isWellFormed_132 (by first | exact Or.inl rfl | exact Or.inr rfl | exact bz_or | assumption) ⟨by rw [wfm, if_neg (fun h => h.elim c4 (fun q => q c15)), if_neg (by rintro (⟨h1, h2⟩ | ⟨h1, h2⟩) <;> first | exact h1 c29 | exact h1 c51 | (rw [c39] at h2; cases h2) | (rw [c61] at h2; cases h2)), if_pos e70_15]; simp only [bz]; first | (rw [if_pos (decide_eq_true ⟨c100, c108, c115, c124⟩)]; done) | (rw [if_neg]; intro h; have h := of_decide_eq_true h; first | exact h.1 c100 | exact h.2.1 c108 | exact h.2.2.1 c115 | exact h.2.2.2 c124), rfl⟩ z0
            · skip
              refine s_Pr_isWellFormed_103 rfl ?_
              refine s_Pr_isWellFormed_104 hp_17 rfl ?_
              refine s_Pr_isWellFormed_107 ?_
              refine s_Pr_isWellFormed_108 (fun c108 => ?_) (fun c108 => ?_)
              · skip
                refine s_Pr_isWellFormed_131 ?_
                exact s_Pr_isWellFormed_132 (by first | exact Or.inl rfl | exact Or.inr rfl | exact bz_or | assumption) ⟨by rw [wfm, if_neg (fun h => h.elim c4 (fun q => q c15)), if_neg (by rintro (⟨h1, h2⟩ | ⟨h1, h2⟩) <;> first | exact h1 c29 | exact h1 c51 | (rw [c39] at h2; cases h2) | (rw [c61] at h2; cases h2)), if_pos e70_15]; simp only [bz]; first | (rw [if_pos (decide_eq_true ⟨c100, c108, c115, c124⟩)]; done) | (rw [if_neg]; intro h; have h := of_decide_eq_true h; first | exact h.1 c100 | exact h.2.1 c108 | exact h.2.2.1 c115 | exact h.2.2.2 c124), rfl⟩ z0
              · skip
                refine s_Pr_isWellFormed_111 rfl ?_
                refine s_Pr_isWellFormed_112 hp_17 rfl ?_
                refine s_Pr_isWellFormed_115 (fun c115 => ?_) (fun c115 => ?_)
                · skip
                  refine s_Pr_isWellFormed_131 ?_
                  exact s_Pr_isWellFormed_132 (by first | exact Or.inl rfl | exact Or.inr rfl | exact bz_or | assumption) ⟨by rw [wfm, if_neg (fun h => h.elim c4 (fun q => q c15)), if_neg (by rintro (⟨h1, h2⟩ | ⟨h1, h2⟩) <;> first | exact h1 c29 | exact h1 c51 | (rw [c39] at h2; cases h2) | (rw [c61] at h2; cases h2)), if_pos e70_15]; simp only [bz]; first | (rw [if_pos (decide_eq_true ⟨c100, c108, c115, c124⟩)]; done) | (rw [if_neg]; intro h; have h := of_decide_eq_true h; first | exact h.1 c100 | exact h.2.1 c108 | exact h.2.2.1 c115 | exact h.2.2.2 c124), rfl⟩ z0
                · skip
                  refine s_Pr_isWellFormed_118 rfl ?_
                  refine s_Pr_isWellFormed_119 hp_17 rfl ?_
                  refine s_Pr_isWellFormed_122 ?_
                  refine s_Pr_isWellFormed_124 (fun c124 => ?_) (fun c124 => ?_)
                  · skip
                    refine s_Pr_isWellFormed_131 ?_
                    exact s_Pr_isWellFormed_132 (by first | exact Or.inl rfl | exact Or.inr rfl | exact bz_or | assumption) ⟨by rw [wfm, if_neg (fun h => h.elim c4 (fun q => q c15)), if_neg (by rintro (⟨h1, h2⟩ | ⟨h1, h2⟩) <;> first | exact h1 c29 | exact h1 c51 | (rw [c39] at h2; cases h2) | (rw [c61] at h2; cases h2)), if_pos e70_15]; simp only [bz]; first | (rw [if_pos (decide_eq_true ⟨c100, c108, c115, c124⟩)]; done) | (rw [if_neg]; intro h; have h := of_decide_eq_true h; first | exact h.1 c100 | exact h.2.1 c108 | exact h.2.2.1 c115 | exact h.2.2.2 c124), rfl⟩ z0
                  · skip
                    refine s_Pr_isWellFormed_127 ?_
                    refine s_Pr_isWellFormed_128 ?_
                    exact s_Pr_isWellFormed_132 (by first | exact Or.inl rfl | exact Or.inr rfl | exact bz_or | assumption) ⟨by rw [wfm, if_neg (fun h => h.elim c4 (fun q => q c15)), if_neg (by rintro (⟨h1, h2⟩ | ⟨h1, h2⟩) <;> first | exact h1 c29 | exact h1 c51 | (rw [c39] at h2; cases h2) | (rw [c61] at h2; cases h2)), if_pos e70_15]; simp only [bz]; first | (rw [if_pos (decide_eq_true ⟨c100, c108, c115, c124⟩)]; done) | (rw [if_neg]; intro h; have h := of_decide_eq_true h; first | exact h.1 c100 | exact h.2.1 c108 | exact h.2.2.1 c115 | exact h.2.2.2 c124), rfl⟩ z0
          by_cases e70_16 : I 17 2 = 16
          · skip
            refine ev_topi e70_16 ?_
            refine s_Pr_isWellFormed_70_16 ?_
            refine s_Pr_isWellFormed_133 rfl ?_
            refine s_Pr_isWellFormed_134 hp_17 rfl ?_
            refine s_Pr_isWellFormed_137 (fun c137 => ?_) (fun c137 => ?_)
            · skip
              refine s_Pr_isWellFormed_153 ?_
              exact s_Pr_isWellFormed_154 (by first | exact Or.inl rfl | exact Or.inr rfl | exact bz_or | assumption) ⟨by rw [wfm, if_neg (fun h => h.elim c4 (fun q => q c15)), if_neg (by rintro (⟨h1, h2⟩ | ⟨h1, h2⟩) <;> first | exact h1 c29 | exact h1 c51 | (rw [c39] at h2; cases h2) | (rw [c61] at h2; cases h2)), if_neg e70_15, if_pos e70_16]; simp only [bz]; first | (rw [if_pos (decide_eq_true ⟨c137, c146⟩)]; done) | (rw [if_neg]; intro h; have h := of_decide_eq_true h; first | exact h.1 c137 | exact h.2 c146), rfl⟩ z0
            · skip
              refine s_Pr_isWellFormed_140 rfl ?_
              refine s_Pr_isWellFormed_141 hp_17 rfl ?_
              refine s_Pr_isWellFormed_144 ?_
              refine s_Pr_isWellFormed_146 (fun c146 => ?_) (fun c146 => ?_)
              · skip
                refine s_Pr_isWellFormed_153 ?_
                exact s_Pr_isWellFormed_154 (by first | exact Or.inl rfl | exact Or.inr rfl | exact bz_or | assumption) ⟨by rw [wfm, if_neg (fun h => h.elim c4 (fun q => q c15)), if_neg (by rintro (⟨h1, h2⟩ | ⟨h1, h2⟩) <;> first | exact h1 c29 | exact h1 c51 | (rw [c39] at h2; cases h2) | (rw [c61] at h2; cases h2)), if_neg e70_15, if_pos e70_16]; simp only [bz]; first | (rw [if_pos (decide_eq_true ⟨c137, c146⟩)]; done) | (rw [if_neg]; intro h; have h := of_decide_eq_true h; first | exact h.1 c137 | exact h.2 c146), rfl⟩ z0
              · skip
                refine s_Pr_isWellFormed_149 ?_
                refine s_Pr_isWellFormed_150 ?_
                exact s_Pr_isWellFormed_154 (by first | exact Or.inl rfl | exact Or.inr rfl | exact bz_or | assumption) ⟨by rw [wfm, if_neg (fun h => h.elim c4 (fun q => q c15)), if_neg (by rintro (⟨h1, h2⟩ | ⟨h1, h2⟩) <;> first | exact h1 c29 | exact h1 c51 | (rw [c39] at h2; cases h2) | (rw [c61] at h2; cases h2)), if_neg e70_15, if_pos e70_16]; simp only [bz]; first | (rw [if_pos (decide_eq_true ⟨c137, c146⟩)]; done) | (rw [if_neg]; intro h; have h := of_decide_eq_true h; first | exact h.1 c137 | exact h.2 c146), rfl⟩ z0
          refine s_Pr_isWellFormed_70_d e70_15 e70_16 ?_
          refine s_Pr_isWellFormed_155 ?_
          exact s_Pr_isWellFormed_156 (by first | exact Or.inl rfl | exact Or.inr rfl | exact bz_or | assumption) ⟨by rw [wfm, if_neg (fun h => h.elim c4 (fun q => q c15)), if_neg (by rintro (⟨h1, h2⟩ | ⟨h1, h2⟩) <;> first | exact h1 c29 | exact h1 c51 | (rw [c39] at h2; cases h2) | (rw [c61] at h2; cases h2)), if_neg e70_15, if_neg e70_16]; rfl, rfl⟩ z0
        · skip
          refine s_Pr_isWellFormed_54 rfl ?_
          refine s_Pr_isWellFormed_55 hp_17 rfl ?_
          refine c_Pr_isWellFormed_58 (show mt _ _ _ _ _ _ _ (dt (some (.int (bz (isR (I 17 4))))) _) from t_Pr_isRegister) (Nat.le_of_ble_eq_true rfl) ?_
          refine s_Pr_isWellFormed_61 (fun c61 => ?_) (fun c61 => ?_)
          · skip
            (first | rw [bz_n0] at c61 | rw [bz_0] at c61 | skip); (try simp only [Bool.not_eq_false', Bool.not_eq_true', decide_eq_true_eq, decide_eq_false_iff_not, Bool.or_eq_true, Bool.or_eq_false_iff, Bool.and_eq_true, Bool.and_eq_false_iff] at c61)
            refine s_Pr_isWellFormed_66 rfl ?_
            refine s_Pr_isWellFormed_67 hp_17 rfl ?_
            by_cases e70_15 : I 17 2 = 15
            · skip
              refine ev_topi e70_15 ?_
              refine s_Pr_isWellFormed_70_15 ?_
              refine s_Pr_isWellFormed_96 rfl ?_
              refine s_Pr_isWellFormed_97 hp_17 rfl ?_
              refine s_Pr_isWellFormed_100 (fun c100 => ?_) (fun c100 => ?_)
              · skip
                refine s_Pr_isWellFormed_131 ?_
                exact s_Pr_isWellFormed_132 (by first | exact Or.inl rfl | exact Or.inr rfl | exact bz_or | assumption) ⟨by rw [wfm, if_neg (fun h => h.elim c4 (fun q => q c15)), if_neg (by rintro (⟨h1, h2⟩ | ⟨h1, h2⟩) <;> first | exact h1 c29 | exact h1 c51 | (rw [c39] at h2; cases h2) | (rw [c61] at h2; cases h2)), if_pos e70_15]; simp only [bz]; first | (rw [if_pos (decide_eq_true ⟨c100, c108, c115, c124⟩)]; done) | (rw [if_neg]; intro h; have h := of_decide_eq_true h; first | exact h.1 c100 | exact h.2.1 c108 | exact h.2.2.1 c115 | exact h.2.2.2 c124), rfl⟩ z0
              · skip
                refine s_Pr_isWellFormed_103 rfl ?_
                refine s_Pr_isWellFormed_104 hp_17 rfl ?_
                refine s_Pr_isWellFormed_107 ?_
                refine s_Pr_isWellFormed_108 (fun c108 => ?_) (fun c108 => ?_)
                · skip
                  refine s_Pr_isWellFormed_131 ?_
                  exact s_Pr_isWellFormed_132 (by first | exact Or.inl rfl | exact Or.inr rfl | exact bz_or | assumption) ⟨by rw [wfm, if_neg (fun h => h.elim c4 (fun q => q c15)), if_neg (by rintro (⟨h1, h2⟩ | ⟨h1, h2⟩) <;> first | exact h1 c29 | exact h1 c51 | (rw [c39] at h2; cases h2) | (rw [c61] at h2; cases h2)), if_pos e70_15]; simp only [bz]; first | (rw [if_pos (decide_eq_true ⟨c100, c108, c115, c124⟩)]; done) | (rw [if_neg]; intro h; have h := of_decide_eq_true h; first | exact h.1 c100 | exact h.2.1 c108 | exact h.2.2.1 c115 | exact h.2.2.2 c124), rfl⟩ z0
                · skip
                  refine s_Pr_isWellFormed_111 rfl ?_
                  refine s_Pr_isWellFormed_112 hp_17 rfl ?_
                  refine s_Pr_isWellFormed_115 (fun c115 => ?_) (fun c115 => ?_)
                  · skip
                    refine s_Pr_isWellFormed_131 ?_
                    exact s_Pr_isWellFormed_132 (by first | exact Or.inl rfl | exact Or.inr rfl | exact bz_or | assumption) ⟨by rw [wfm, if_neg (fun h => h.elim c4 (fun q => q c15)), if_neg (by rintro (⟨h1, h2⟩ | ⟨h1, h2⟩) <;> first | exact h1 c29 | exact h1 c51 | (rw [c39] at h2; cases h2) | (rw [c61] at h2; cases h2)), if_pos e70_15]; simp only [bz]; first | (rw [if_pos (decide_eq_true ⟨c100, c108, c115, c124⟩)]; done) | (rw [if_neg]; intro h; have h := of_decide_eq_true h; first | exact h.1 c100 | exact h.2.1 c108 | exact h.2.2.1 c115 | exact h.2.2.2 c124), rfl⟩ z0
                  · skip
                    refine s_Pr_isWellFormed_118 rfl ?_
                    refine s_Pr_isWellFormed_119 hp_17 rfl ?_
                    refine s_Pr_isWellFormed_122 ?_
                    refine s_Pr_isWellFormed_124 (fun c124 => ?_) (fun c124 => ?_)
                    · skip
                      refine s_Pr_isWellFormed_131 ?_
                      exact s_Pr_isWellFormed_132 (by first | exact Or.inl rfl | exact Or.inr rfl | exact bz_or | assumption) ⟨by rw [wfm, if_neg (fun h => h.elim c4 (fun q => q c15)), if_neg (by rintro (⟨h1, h2⟩ | ⟨h1, h2⟩) <;> first | exact h1 c29 | exact h1 c51 | (rw [c39] at h2; cases h2) | (rw [c61] at h2; cases h2)), if_pos e70_15]; simp only [bz]; first | (rw [if_pos (decide_eq_true ⟨c100, c108, c115, c124⟩)]; done) | (rw [if_neg]; intro h; have h := of_decide_eq_true h; first | exact h.1 c100 | exact h.2.1 c108 | exact h.2.2.1 c115 | exact h.2.2.2 c124), rfl⟩ z0
                    · skip
                      refine s_Pr_isWellFormed_127 ?_
                      refine s_Pr_isWellFormed_128 ?_
                      exact s_Pr_isWellFormed_132 (by first | exact Or.inl rfl | exact Or.inr rfl | exact bz_or | assumption) ⟨by rw [wfm, if_neg (fun h => h.elim c4 (fun q => q c15)), if_neg (by rintro (⟨h1, h2⟩ | ⟨h1, h2⟩) <;> first | exact h1 c29 | exact h1 c51 | (rw [c39] at h2; cases h2) | (rw [c61] at h2; cases h2)), if_pos e70_15]; simp only [bz]; first | (rw [if_pos (decide_eq_true ⟨c100, c108, c115, c124⟩)]; done) | (rw [if_neg]; intro h; have h := of_decide_eq_true h; first | exact h.1 c100 | exact h.2.1 c108 | exact h.2.2.1 c115 | exact h.2.2.2 c124), rfl⟩ z0
            by_cases e70_16 : I 17 2 = 16
            · skip
              refine ev_topi e70_16 ?_
              refine s_Pr_isWellFormed_70_16 ?_
              refine s_Pr_isWellFormed_133 rfl ?_
              refine s_Pr_isWellFormed_134 hp_17 rfl ?_
              refine s_Pr_isWellFormed_137 (fun c137 => ?_) (fun c137 => ?_)
              · skip
                refine s_Pr_isWellFormed_153 ?_
                exact s_Pr_isWellFormed_154 (by first | exact Or.inl rfl | exact Or.inr rfl | exact bz_or | assumption) ⟨by rw [wfm, if_neg (fun h => h.elim c4 (fun q => q c15)), if_neg (by rintro (⟨h1, h2⟩ | ⟨h1, h2⟩) <;> first | exact h1 c29 | exact h1 c51 | (rw [c39] at h2; cases h2) | (rw [c61] at h2; cases h2)), if_neg e70_15, if_pos e70_16]; simp only [bz]; first | (rw [if_pos (decide_eq_true ⟨c137, c146⟩)]; done) | (rw [if_neg]; intro h; have h := of_decide_eq_true h; first | exact h.1 c137 | exact h.2 c146), rfl⟩ z0
              · skip
                refine s_Pr_isWellFormed_140 rfl ?_
                refine s_Pr_isWellFormed_141 hp_17 rfl ?_
                refine s_Pr_isWellFormed_144 ?_
                refine s_Pr_isWellFormed_146 (fun c146 => ?_) (fun c146 => ?_)
                · skip
                  refine s_Pr_isWellFormed_153 ?_
                  exact s_Pr_isWellFormed_154 (by first | exact Or.inl rfl | exact Or.inr rfl | exact bz_or | assumption) ⟨by rw [wfm, if_neg (fun h => h.elim c4 (fun q => q c15)), if_neg (by rintro (⟨h1, h2⟩ | ⟨h1, h2⟩) <;> first | exact h1 c29 | exact h1 c51 | (rw [c39] at h2; cases h2) | (rw [c61] at h2; cases h2)), if_neg e70_15, if_pos e70_16]; simp only [bz]; first | (rw [if_pos (decide_eq_true ⟨c137, c146⟩)]; done) | (rw [if_neg]; intro h; have h := of_decide_eq_true h; first | exact h.1 c137 | exact h.2 c146), rfl⟩ z0
                · skip
                  refine s_Pr_isWellFormed_149 ?_
                  refine s_Pr_isWellFormed_150 ?_
                  exact s_Pr_isWellFormed_154 (by first | exact Or.inl rfl | exact Or.inr rfl | exact bz_or | assumption) ⟨by rw [wfm, if_neg (fun h => h.elim c4 (fun q => q c15)), if_neg (by rintro (⟨h1, h2⟩ | ⟨h1, h2⟩) <;> first | exact h1 c29 | exact h1 c51 | (rw [c39] at h2; cases h2) | (rw [c61] at h2; cases h2)), if_neg e70_15, if_pos e70_16]; simp only [bz]; first | (rw [if_pos (decide_eq_true ⟨c137, c146⟩)]; done) | (rw [if_neg]; intro h; have h := of_decide_eq_true h; first | exact h.1 c137 | exact h.2 c146), rfl⟩ z0
            refine s_Pr_isWellFormed_70_d e70_15 e70_16 ?_
            refine s_Pr_isWellFormed_155 ?_
            exact s_Pr_isWellFormed_156 (by first | exact Or.inl rfl | exact Or.inr rfl | exact bz_or | assumption) ⟨by rw [wfm, if_neg (fun h => h.elim c4 (fun q => q c15)), if_neg (by rintro (⟨h1, h2⟩ | ⟨h1, h2⟩) <;> first | exact h1 c29 | exact h1 c51 | (rw [c39] at h2; cases h2) | (rw [c61] at h2; cases h2)), if_neg e70_15, if_neg e70_16]; rfl, rfl⟩ z0
          · skip
            (first | rw [bz_n0] at c61 | rw [bz_0] at c61 | skip); (try simp only [Bool.not_eq_false', Bool.not_eq_true', decide_eq_true_eq, decide_eq_false_iff_not, Bool.or_eq_true, Bool.or_eq_false_iff, Bool.and_eq_true, Bool.and_eq_false_iff] at c61)
            refine s_Pr_isWellFormed_64 ?_
            exact s_Pr_isWellFormed_65 (by first | exact Or.inl rfl | exact Or.inr rfl | exact bz_or | assumption) ⟨by rw [wfm, if_neg (fun h => h.elim c4 (fun q => q c15)), if_pos (by first | exact Or.inl ⟨c29, c39⟩ | exact Or.inr ⟨c51, c61⟩)]; rfl, rfl⟩ z0
      · skip
        refine s_Pr_isWellFormed_32 rfl ?_
        refine s_Pr_isWellFormed_33 hp_17 rfl ?_
        refine c_Pr_isWellFormed_36 (show mt _ _ _ _ _ _ _ (dt (some (.int (bz (isR (I 17 3))))) _) from t_Pr_isRegister) (Nat.le_of_ble_eq_true rfl) ?_
        refine s_Pr_isWellFormed_39 (fun c39 => ?_) (fun c39 => ?_)
        · skip
          (first | rw [bz_n0] at c39 | rw [bz_0] at c39 | skip); (try simp only [Bool.not_eq_false', Bool.not_eq_true', decide_eq_true_eq, decide_eq_false_iff_not, Bool.or_eq_true, Bool.or_eq_false_iff, Bool.and_eq_true, Bool.and_eq_false_iff] at c39)
          refine s_Pr_isWellFormed_64 ?_
          exact s_Pr_isWellFormed_65 (by first | exact Or.inl rfl | exact Or.inr rfl | exact bz_or | assumption) ⟨by rw [wfm, if_neg (fun h => h.elim c4 (fun q => q c15)), if_pos (by first | exact Or.inl ⟨c29, c39⟩ | exact Or.inr ⟨c51, c61⟩)]; rfl, rfl⟩ z0
        · skip
          (first | rw [bz_n0] at c39 | rw [bz_0] at c39 | skip); (try simp only [Bool.not_eq_false', Bool.not_eq_true', decide_eq_true_eq, decide_eq_false_iff_not, Bool.or_eq_true, Bool.or_eq_false_iff, Bool.and_eq_true, Bool.and_eq_false_iff] at c39)
          refine s_Pr_isWellFormed_42 ?_
          refine s_Pr_isWellFormed_45 rfl ?_
          refine s_Pr_isWellFormed_46 hp_17 rfl ?_
          refine s_Pr_isWellFormed_49t hG (vin (n := 19) rfl c4 (by rw [Int32.not_le]; exact c15)) rfl ?_
          refine s_Pr_isWellFormed_50 ?_
          refine s_Pr_isWellFormed_51 (fun c51 => ?_) (fun c51 => ?_)
          · skip
            refine s_Pr_isWellFormed_66 rfl ?_
            refine s_Pr_isWellFormed_67 hp_17 rfl ?_
            by_cases e70_15 : I 17 2 = 15
            · skip
              refine ev_topi e70_15 ?_
              refine s_Pr_isWellFormed_70_15 ?_
              refine s_Pr_isWellFormed_96 rfl ?_
              refine s_Pr_isWellFormed_97 hp_17 rfl ?_
              refine s_Pr_isWellFormed_100 (fun c100 => ?_) (fun c100 => ?_)
              · skip
                refine s_Pr_isWellFormed_131 ?_
                exact s_Pr_isWellFormed_132 (by first | exact Or.inl rfl | exact Or.inr rfl | exact bz_or | assumption) ⟨by rw [wfm, if_neg (fun h => h.elim c4 (fun q => q c15)), if_neg (by rintro (⟨h1, h2⟩ | ⟨h1, h2⟩) <;> first | exact h1 c29 | exact h1 c51 | (rw [c39] at h2; cases h2) | (rw [c61] at h2; cases h2)), if_pos e70_15]; simp only [bz]; first | (rw [if_pos (decide_eq_true ⟨c100, c108, c115, c124⟩)]; done) | (rw [if_neg]; intro h; have h := of_decide_eq_true h; first | exact h.1 c100 | exact h.2.1 c108 | exact h.2.2.1 c115 | exact h.2.2.2 c124), rfl⟩ z0
              · skip
                refine s_Pr_isWellFormed_103 rfl ?_
                refine s_Pr_isWellFormed_104 hp_17 rfl ?_
                refine s_Pr_isWellFormed_107 ?_
                refine s_Pr_isWellFormed_108 (fun c108 => ?_) (fun c108 => ?_)
                · skip
                  refine s_Pr_isWellFormed_131 ?_
                  exact s_Pr_isWellFormed_132 (by first | exact Or.inl rfl | exact Or.inr rfl | exact bz_or | assumption) ⟨by rw [wfm, if_neg (fun h => h.elim c4 (fun q => q c15)), if_neg (by rintro (⟨h1, h2⟩ | ⟨h1, h2⟩) <;> first | exact h1 c29 | exact h1 c51 | (rw [c39] at h2; cases h2) | (rw [c61] at h2; cases h2)), if_pos e70_15]; simp only [bz]; first | (rw [if_pos (decide_eq_true ⟨c100, c108, c115, c124⟩)]; done) | (rw [if_neg]; intro h; have h := of_decide_eq_true h; first | exact h.1 c100 | exact h.2.1 c108 | exact h.2.2.1 c115 | exact h.2.2.2 c124), rfl⟩ z0
                · skip
                  refine s_Pr_isWellFormed_111 rfl ?_
                  refine s_Pr_isWellFormed_112 hp_17 rfl ?_
                  refine s_Pr_isWellFormed_115 (fun c115 => ?_) (fun c115 => ?_)
                  · skip
                    refine s_Pr_isWellFormed_131 ?_
                    exact s_Pr_isWellFormed_132 (by first | exact Or.inl rfl | exact Or.inr rfl | exact bz_or | assumption) ⟨by rw [wfm, if_neg (fun h => h.elim c4 (fun q => q c15)), if_neg (by rintro (⟨h1, h2⟩ | ⟨h1, h2⟩) <;> first | exact h1 c29 | exact h1 c51 | (rw [c39] at h2; cases h2) | (rw [c61] at h2; cases h2)), if_pos e70_15]; simp only [bz]; first | (rw [if_pos (decide_eq_true ⟨c100, c108, c115, c124⟩)]; done) | (rw [if_neg]; intro h; have h := of_decide_eq_true h; first | exact h.1 c100 | exact h.2.1 c108 | exact h.2.2.1 c115 | exact h.2.2.2 c124), rfl⟩ z0
                  · skip
                    refine s_Pr_isWellFormed_118 rfl ?_
                    refine s_Pr_isWellFormed_119 hp_17 rfl ?_
                    refine s_Pr_isWellFormed_122 ?_
                    refine s_Pr_isWellFormed_124 (fun c124 => ?_) (fun c124 => ?_)
                    · skip
                      refine s_Pr_isWellFormed_131 ?_
                      exact s_Pr_isWellFormed_132 (by first | exact Or.inl rfl | exact Or.inr rfl | exact bz_or | assumption) ⟨by rw [wfm, if_neg (fun h => h.elim c4 (fun q => q c15)), if_neg (by rintro (⟨h1, h2⟩ | ⟨h1, h2⟩) <;> first | exact h1 c29 | exact h1 c51 | (rw [c39] at h2; cases h2) | (rw [c61] at h2; cases h2)), if_pos e70_15]; simp only [bz]; first | (rw [if_pos (decide_eq_true ⟨c100, c108, c115, c124⟩)]; done) | (rw [if_neg]; intro h; have h := of_decide_eq_true h; first | exact h.1 c100 | exact h.2.1 c108 | exact h.2.2.1 c115 | exact h.2.2.2 c124), rfl⟩ z0
                    · skip
                      refine s_Pr_isWellFormed_127 ?_
                      refine s_Pr_isWellFormed_128 ?_
                      exact s_Pr_isWellFormed_132 (by first | exact Or.inl rfl | exact Or.inr rfl | exact bz_or | assumption) ⟨by rw [wfm, if_neg (fun h => h.elim c4 (fun q => q c15)), if_neg (by rintro (⟨h1, h2⟩ | ⟨h1, h2⟩) <;> first | exact h1 c29 | exact h1 c51 | (rw [c39] at h2; cases h2) | (rw [c61] at h2; cases h2)), if_pos e70_15]; simp only [bz]; first | (rw [if_pos (decide_eq_true ⟨c100, c108, c115, c124⟩)]; done) | (rw [if_neg]; intro h; have h := of_decide_eq_true h; first | exact h.1 c100 | exact h.2.1 c108 | exact h.2.2.1 c115 | exact h.2.2.2 c124), rfl⟩ z0
            by_cases e70_16 : I 17 2 = 16
            · skip
              refine ev_topi e70_16 ?_
              refine s_Pr_isWellFormed_70_16 ?_
              refine s_Pr_isWellFormed_133 rfl ?_
              refine s_Pr_isWellFormed_134 hp_17 rfl ?_
              refine s_Pr_isWellFormed_137 (fun c137 => ?_) (fun c137 => ?_)
              · skip
                refine s_Pr_isWellFormed_153 ?_
                exact s_Pr_isWellFormed_154 (by first | exact Or.inl rfl | exact Or.inr rfl | exact bz_or | assumption) ⟨by rw [wfm, if_neg (fun h => h.elim c4 (fun q => q c15)), if_neg (by rintro (⟨h1, h2⟩ | ⟨h1, h2⟩) <;> first | exact h1 c29 | exact h1 c51 | (rw [c39] at h2; cases h2) | (rw [c61] at h2; cases h2)), if_neg e70_15, if_pos e70_16]; simp only [bz]; first | (rw [if_pos (decide_eq_true ⟨c137, c146⟩)]; done) | (rw [if_neg]; intro h; have h := of_decide_eq_true h; first | exact h.1 c137 | exact h.2 c146), rfl⟩ z0
              · skip
                refine s_Pr_isWellFormed_140 rfl ?_
                refine s_Pr_isWellFormed_141 hp_17 rfl ?_
                refine s_Pr_isWellFormed_144 ?_
                refine s_Pr_isWellFormed_146 (fun c146 => ?_) (fun c146 => ?_)
                · skip
                  refine s_Pr_isWellFormed_153 ?_
                  exact s_Pr_isWellFormed_154 (by first | exact Or.inl rfl | exact Or.inr rfl | exact bz_or | assumption) ⟨by rw [wfm, if_neg (fun h => h.elim c4 (fun q => q c15)), if_neg (by rintro (⟨h1, h2⟩ | ⟨h1, h2⟩) <;> first | exact h1 c29 | exact h1 c51 | (rw [c39] at h2; cases h2) | (rw [c61] at h2; cases h2)), if_neg e70_15, if_pos e70_16]; simp only [bz]; first | (rw [if_pos (decide_eq_true ⟨c137, c146⟩)]; done) | (rw [if_neg]; intro h; have h := of_decide_eq_true h; first | exact h.1 c137 | exact h.2 c146), rfl⟩ z0
                · skip
                  refine s_Pr_isWellFormed_149 ?_
                  refine s_Pr_isWellFormed_150 ?_
                  exact s_Pr_isWellFormed_154 (by first | exact Or.inl rfl | exact Or.inr rfl | exact bz_or | assumption) ⟨by rw [wfm, if_neg (fun h => h.elim c4 (fun q => q c15)), if_neg (by rintro (⟨h1, h2⟩ | ⟨h1, h2⟩) <;> first | exact h1 c29 | exact h1 c51 | (rw [c39] at h2; cases h2) | (rw [c61] at h2; cases h2)), if_neg e70_15, if_pos e70_16]; simp only [bz]; first | (rw [if_pos (decide_eq_true ⟨c137, c146⟩)]; done) | (rw [if_neg]; intro h; have h := of_decide_eq_true h; first | exact h.1 c137 | exact h.2 c146), rfl⟩ z0
            refine s_Pr_isWellFormed_70_d e70_15 e70_16 ?_
            refine s_Pr_isWellFormed_155 ?_
            exact s_Pr_isWellFormed_156 (by first | exact Or.inl rfl | exact Or.inr rfl | exact bz_or | assumption) ⟨by rw [wfm, if_neg (fun h => h.elim c4 (fun q => q c15)), if_neg (by rintro (⟨h1, h2⟩ | ⟨h1, h2⟩) <;> first | exact h1 c29 | exact h1 c51 | (rw [c39] at h2; cases h2) | (rw [c61] at h2; cases h2)), if_neg e70_15, if_neg e70_16]; rfl, rfl⟩ z0
          · skip
            refine s_Pr_isWellFormed_54 rfl ?_
            refine s_Pr_isWellFormed_55 hp_17 rfl ?_
            refine c_Pr_isWellFormed_58 (show mt _ _ _ _ _ _ _ (dt (some (.int (bz (isR (I 17 4))))) _) from t_Pr_isRegister) (Nat.le_of_ble_eq_true rfl) ?_
            refine s_Pr_isWellFormed_61 (fun c61 => ?_) (fun c61 => ?_)
            · skip
              (first | rw [bz_n0] at c61 | rw [bz_0] at c61 | skip); (try simp only [Bool.not_eq_false', Bool.not_eq_true', decide_eq_true_eq, decide_eq_false_iff_not, Bool.or_eq_true, Bool.or_eq_false_iff, Bool.and_eq_true, Bool.and_eq_false_iff] at c61)
              refine s_Pr_isWellFormed_66 rfl ?_
              refine s_Pr_isWellFormed_67 hp_17 rfl ?_
              by_cases e70_15 : I 17 2 = 15
              · skip
                refine ev_topi e70_15 ?_
                refine s_Pr_isWellFormed_70_15 ?_
                refine s_Pr_isWellFormed_96 rfl ?_
                refine s_Pr_isWellFormed_97 hp_17 rfl ?_
                refine s_Pr_isWellFormed_100 (fun c100 => ?_) (fun c100 => ?_)
                · skip
                  refine s_Pr_isWellFormed_131 ?_
                  exact s_Pr_isWellFormed_132 (by first | exact Or.inl rfl | exact Or.inr rfl | exact bz_or | assumption) ⟨by rw [wfm, if_neg (fun h => h.elim c4 (fun q => q c15)), if_neg (by rintro (⟨h1, h2⟩ | ⟨h1, h2⟩) <;> first | exact h1 c29 | exact h1 c51 | (rw [c39] at h2; cases h2) | (rw [c61] at h2; cases h2)), if_pos e70_15]; simp only [bz]; first | (rw [if_pos (decide_eq_true ⟨c100, c108, c115, c124⟩)]; done) | (rw [if_neg]; intro h; have h := of_decide_eq_true h; first | exact h.1 c100 | exact h.2.1 c108 | exact h.2.2.1 c115 | exact h.2.2.2 c124), rfl⟩ z0
                · skip
                  refine s_Pr_isWellFormed_103 rfl ?_
                  refine s_Pr_isWellFormed_104 hp_17 rfl ?_
                  refine s_Pr_isWellFormed_107 ?_
                  refine s_Pr_isWellFormed_108 (fun c108 => ?_) (fun c108 => ?_)
                  · skip
                    refine s_Pr_isWellFormed_131 ?_
                    exact s_Pr_isWellFormed_132 (by first | exact Or.inl rfl | exact Or.inr rfl | exact bz_or | assumption) ⟨by rw [wfm, if_neg (fun h => h.elim c4 (fun q => q c15)), if_neg (by rintro (⟨h1, h2⟩ | ⟨h1, h2⟩) <;> first | exact h1 c29 | exact h1 c51 | (rw [c39] at h2; cases h2) | (rw [c61] at h2; cases h2)), if_pos e70_15]; simp only [bz]; first | (rw [if_pos (decide_eq_true ⟨c100, c108, c115, c124⟩)]; done) | (rw [if_neg]; intro h; have h := of_decide_eq_true h; first | exact h.1 c100 | exact h.2.1 c108 | exact h.2.2.1 c115 | exact h.2.2.2 c124), rfl⟩ z0
                  · skip
                    refine s_Pr_isWellFormed_111 rfl ?_
                    refine s_Pr_isWellFormed_112 hp_17 rfl ?_
                    refine s_Pr_isWellFormed_115 (fun c115 => ?_) (fun c115 => ?_)
                    · skip
                      refine s_Pr_isWellFormed_131 ?_
                      exact s_Pr_isWellFormed_132 (by first | exact Or.inl rfl | exact Or.inr rfl | exact bz_or | assumption) ⟨by rw [wfm, if_neg (fun h => h.elim c4 (fun q => q c15)), if_neg (by rintro (⟨h1, h2⟩ | ⟨h1, h2⟩) <;> first | exact h1 c29 | exact h1 c51 | (rw [c39] at h2; cases h2) | (rw [c61] at h2; cases h2)), if_pos e70_15]; simp only [bz]; first | (rw [if_pos (decide_eq_true ⟨c100, c108, c115, c124⟩)]; done) | (rw [if_neg]; intro h; have h := of_decide_eq_true h; first | exact h.1 c100 | exact h.2.1 c108 | exact h.2.2.1 c115 | exact h.2.2.2 c124), rfl⟩ z0
                    · skip
                      refine s_Pr_isWellFormed_118 rfl ?_
                      refine s_Pr_isWellFormed_119 hp_17 rfl ?_
                      refine s_Pr_isWellFormed_122 ?_
                      refine s_Pr_isWellFormed_124 (fun c124 => ?_) (fun c124 => ?_)
                      · skip
                        refine s_Pr_isWellFormed_131 ?_
                        exact s_Pr_isWellFormed_132 (by first | exact Or.inl rfl | exact Or.inr rfl | exact bz_or | assumption) ⟨by rw [wfm, if_neg (fun h => h.elim c4 (fun q => q c15)), if_neg (by rintro (⟨h1, h2⟩ | ⟨h1, h2⟩) <;> first | exact h1 c29 | exact h1 c51 | (rw [c39] at h2; cases h2) | (rw [c61] at h2; cases h2)), if_pos e70_15]; simp only [bz]; first | (rw [if_pos (decide_eq_true ⟨c100, c108, c115, c124⟩)]; done) | (rw [if_neg]; intro h; have h := of_decide_eq_true h; first | exact h.1 c100 | exact h.2.1 c108 | exact h.2.2.1 c115 | exact h.2.2.2 c124), rfl⟩ z0
                      · skip
                        refine s_Pr_isWellFormed_127 ?_
                        refine s_Pr_isWellFormed_128 ?_
                        exact s_Pr_isWellFormed_132 (by first | exact Or.inl rfl | exact Or.inr rfl | exact bz_or | assumption) ⟨by rw [wfm, if_neg (fun h => h.elim c4 (fun q => q c15)), if_neg (by rintro (⟨h1, h2⟩ | ⟨h1, h2⟩) <;> first | exact h1 c29 | exact h1 c51 | (rw [c39] at h2; cases h2) | (rw [c61] at h2; cases h2)), if_pos e70_15]; simp only [bz]; first | (rw [if_pos (decide_eq_true ⟨c100, c108, c115, c124⟩)]; done) | (rw [if_neg]; intro h; have h := of_decide_eq_true h; first | exact h.1 c100 | exact h.2.1 c108 | exact h.2.2.1 c115 | exact h.2.2.2 c124), rfl⟩ z0
              by_cases e70_16 : I 17 2 = 16
              · skip
                refine ev_topi e70_16 ?_
                refine s_Pr_isWellFormed_70_16 ?_
                refine s_Pr_isWellFormed_133 rfl ?_
                refine s_Pr_isWellFormed_134 hp_17 rfl ?_
                refine s_Pr_isWellFormed_137 (fun c137 => ?_) (fun c137 => ?_)
                · skip
                  refine s_Pr_isWellFormed_153 ?_
                  exact s_Pr_isWellFormed_154 (by first | exact Or.inl rfl | exact Or.inr rfl | exact bz_or | assumption) ⟨by rw [wfm, if_neg (fun h => h.elim c4 (fun q => q c15)), if_neg (by rintro (⟨h1, h2⟩ | ⟨h1, h2⟩) <;> first | exact h1 c29 | exact h1 c51 | (rw [c39] at h2; cases h2) | (rw [c61] at h2; cases h2)), if_neg e70_15, if_pos e70_16]; simp only [bz]; first | (rw [if_pos (decide_eq_true ⟨c137, c146⟩)]; done) | (rw [if_neg]; intro h; have h := of_decide_eq_true h; first | exact h.1 c137 | exact h.2 c146), rfl⟩ z0
                · skip
                  refine s_Pr_isWellFormed_140 rfl ?_
                  refine s_Pr_isWellFormed_141 hp_17 rfl ?_
                  refine s_Pr_isWellFormed_144 ?_
                  refine s_Pr_isWellFormed_146 (fun c146 => ?_) (fun c146 => ?_)
                  · skip
                    refine s_Pr_isWellFormed_153 ?_
                    exact s_Pr_isWellFormed_154 (by first | exact Or.inl rfl | exact Or.inr rfl | exact bz_or | assumption) ⟨by rw [wfm, if_neg (fun h => h.elim c4 (fun q => q c15)), if_neg (by rintro (⟨h1, h2⟩ | ⟨h1, h2⟩) <;> first | exact h1 c29 | exact h1 c51 | (rw [c39] at h2; cases h2) | (rw [c61] at h2; cases h2)), if_neg e70_15, if_pos e70_16]; simp only [bz]; first | (rw [if_pos (decide_eq_true ⟨c137, c146⟩)]; done) | (rw [if_neg]; intro h; have h := of_decide_eq_true h; first | exact h.1 c137 | exact h.2 c146), rfl⟩ z0
                  · skip
                    refine s_Pr_isWellFormed_149 ?_
                    refine s_Pr_isWellFormed_150 ?_
                    exact s_Pr_isWellFormed_154 (by first | exact Or.inl rfl | exact Or.inr rfl | exact bz_or | assumption) ⟨by rw [wfm, if_neg (fun h => h.elim c4 (fun q => q c15)), if_neg (by rintro (⟨h1, h2⟩ | ⟨h1, h2⟩) <;> first | exact h1 c29 | exact h1 c51 | (rw [c39] at h2; cases h2) | (rw [c61] at h2; cases h2)), if_neg e70_15, if_pos e70_16]; simp only [bz]; first | (rw [if_pos (decide_eq_true ⟨c137, c146⟩)]; done) | (rw [if_neg]; intro h; have h := of_decide_eq_true h; first | exact h.1 c137 | exact h.2 c146), rfl⟩ z0
              refine s_Pr_isWellFormed_70_d e70_15 e70_16 ?_
              refine s_Pr_isWellFormed_155 ?_
              exact s_Pr_isWellFormed_156 (by first | exact Or.inl rfl | exact Or.inr rfl | exact bz_or | assumption) ⟨by rw [wfm, if_neg (fun h => h.elim c4 (fun q => q c15)), if_neg (by rintro (⟨h1, h2⟩ | ⟨h1, h2⟩) <;> first | exact h1 c29 | exact h1 c51 | (rw [c39] at h2; cases h2) | (rw [c61] at h2; cases h2)), if_neg e70_15, if_neg e70_16]; rfl, rfl⟩ z0
            · skip
              (first | rw [bz_n0] at c61 | rw [bz_0] at c61 | skip); (try simp only [Bool.not_eq_false', Bool.not_eq_true', decide_eq_true_eq, decide_eq_false_iff_not, Bool.or_eq_true, Bool.or_eq_false_iff, Bool.and_eq_true, Bool.and_eq_false_iff] at c61)
              refine s_Pr_isWellFormed_64 ?_
              exact s_Pr_isWellFormed_65 (by first | exact Or.inl rfl | exact Or.inr rfl | exact bz_or | assumption) ⟨by rw [wfm, if_neg (fun h => h.elim c4 (fun q => q c15)), if_pos (by first | exact Or.inl ⟨c29, c39⟩ | exact Or.inr ⟨c51, c61⟩)]; rfl, rfl⟩ z0
    · skip
      refine s_Pr_isWellFormed_18 ?_
      exact s_Pr_isWellFormed_19 (by first | exact Or.inl rfl | exact Or.inr rfl | exact bz_or | assumption) ⟨by rw [wfm, if_pos (by first | exact Or.inl c4 | exact Or.inr c15)]; rfl, rfl⟩ z0

/-! the reference: its orders -/
abbrev MR : Type := Int32 × IT
def mNum (J : IT) (a : Nat) (b : Int32) : MR := if gt J a 0 = 0 then (0, mPut J a 0 b 0 0 0) else (3, J)
def mMov (J : IT) (a b : Nat) : MR := if gt J a 0 = 0 then (0, if a = b then J else mAsg J a b) else (3, J)
def mAdd (J : IT) (a b : Nat) : MR := if gt J a 0 = 0 ∧ gt J b 0 = 0 then (0, mPut J a 0 (gt J a 1 + gt J b 1) 0 0 0) else (1, J)
def mSub (J : IT) (a b : Nat) : MR := if gt J a 0 = 0 ∧ gt J b 0 = 0 then (0, mPut J a 0 (gt J a 1 - gt J b 1) 0 0 0) else (1, J)
def mSpl (J : IT) (a b : Nat) (n : Int32) : MR :=
  if ¬ gt J a 0 = 1 then (1, J) else if inz n 1 (gt J a 2 - gt J a 1 - 1) = false then (2, J) else if ¬ gt J b 0 = 0 then (3, J)
  else (0, mPut (mPut J a 1 (gt J a 1) (gt J a 1 + n) (gt J a 3) 0) b 1 (gt J a 1 + n) (gt J a 2) (gt J a 3) 0)
def mRes (J : IT) (a b : Nat) (n : Int32) : MR :=
  if ¬ gt J a 0 = 1 then (1, J) else if gt J a 3 &&& n = 0 ∨ gt J a 3 &&& (n ^^^ (-1)) = 0 then (2, J) else if ¬ gt J b 0 = 0 then (3, J)
  else (0, mPut (mPut J a 1 (gt J a 1) (gt J a 2) (gt J a 3 &&& n) 0) b 1 (gt J a 1) (gt J a 2) (gt J a 3 &&& (n ^^^ (-1))) 0)
abbrev mBh (J : IT) (a b : Nat) : Prop := gt J a 3 = gt J b 3 ∧ gt J b 1 = gt J a 2
abbrev mBf (J : IT) (a b : Nat) : Prop := gt J a 3 = gt J b 3 ∧ gt J a 1 = gt J b 2
abbrev mOv (J : IT) (a b : Nat) : Prop := gt J a 1 = gt J b 1 ∧ gt J a 2 = gt J b 2 ∧ gt J a 3 &&& gt J b 3 = 0
def mMg (J : IT) (a b : Nat) : MR :=
  if a = b ∨ (¬ mBh J a b ∧ ¬ mBf J a b ∧ ¬ mOv J a b) then (4, J)
  else (0, mClr (mPut J a 1 (if mBf J a b then gt J b 1 else gt J a 1) (if mBh J a b then gt J b 2 else gt J a 2) (gt J a 3 ||| gt J b 3) 0) b)
def mMer (J : IT) (a b : Nat) : MR := if ¬ gt J a 0 = 1 ∨ ¬ gt J b 0 = 1 then (1, J) else mMg J a b
def mFre (J : IT) (a : Nat) : MR :=
  if ¬ gt J a 0 = 1 then (1, J) else if ¬ gt J a 3 = 1 then (2, J) else if ¬ 0 ≤ fz (J 1004) 0 6 then (7, J)
  else (0, mPut (upI (upI (upI J 1004 (fz (J 1004) 0 6).toNatClampNeg 1) 1005 (fz (J 1004) 0 6).toNatClampNeg (gt J a 1)) 1006 (fz (J 1004) 0 6).toNatClampNeg (gt J a 2)) a 2 (gt J a 1) (gt J a 2) 1 (fz (J 1004) 0 6))
def mCd (J : IT) (c : Nat) : IT := upI (upI (upI J 1004 c (J 1004 c - 1)) 1005 c (J 1005 c)) 1006 c (J 1006 c)
def mTha (J : IT) (a c : Nat) : MR := if ¬ gt J a 0 = 2 then (1, J) else if ¬ J 1004 c = 1 then (6, J) else (0, mPut (mCd J c) a 1 (gt J a 1) (gt J a 2) 1 0)
def mDro (J : IT) (a c : Nat) : MR := if ¬ gt J a 0 = 2 then (1, J) else if J 1004 c < 2 then (6, J) else (0, mClr (mCd J c) a)
def mHas (J : IT) (p : Nat) (q : Int32) : Bool := !decide (gt J p 3 &&& q = 0)
def mIn (J : IT) (b : Nat) (n : Int32) : Bool := inz n 0 (gt J b 2 - gt J b 1 - 1)
abbrev mTk (J : IT) (w : Nat) : Prop := gt J w 0 = 1 ∨ gt J w 0 = 3
def mLoa (J : IT) (a b w : Nat) (n : Int32) : MR :=
  if gt J b 0 = 0 ∨ gt J b 0 = 3 then (1, J) else if mIn J b n = false ∨ mHas J b 1 = false then (2, J) else if mTk J w ∧ mHas J b 2 = false then (2, J)
  else if ¬ gt J a 0 = 0 then (3, J) else (0, mAsg J a w)
def mSto (J : IT) (a b w : Nat) (n : Int32) : MR :=
  if gt J b 0 = 0 ∨ gt J b 0 = 3 then (1, J) else if mIn J b n = false ∨ mHas J b 2 = false then (2, J)
  else if ¬ gt J w 0 = 0 then (3, J) else (0, mAsg J w a)
def mNx (J : IT) (x : Int32) : IT := upI J 1000 14 x
def mGo (J : IT) (x : Int32) : MR := (0, mNx J (x - 1))
def mZer (J : IT) (a : Nat) (x : Int32) : MR := if ¬ gt J a 0 = 0 then (1, J) else if gt J a 1 = 0 then (0, mNx J (x - 1)) else (0, mNx J (J 1000 14))
def mLes (J : IT) (a b : Nat) (x : Int32) : MR := if ¬ gt J a 0 = 0 ∨ ¬ gt J b 0 = 0 then (1, J) else if gt J b 1 ≤ gt J a 1 then (0, mNx J (J 1000 14)) else (0, mNx J (x - 1))
def mSea (J : IT) (a : Nat) (m p : Int32) : MR :=
  if ¬ gt J a 0 = 1 then (1, J) else if ¬ 0 ≤ fz (J 1007) 0 6 then (7, J)
  else (0, mPut (upI (upI (upI (mShf J a (96 + (fz (J 1007) 0 6).toNatClampNeg)) 1007 (fz (J 1007) 0 6).toNatClampNeg 1) 1008 (fz (J 1007) 0 6).toNatClampNeg m) 1009 (fz (J 1007) 0 6).toNatClampNeg p) a 3 0 0 0 (fz (J 1007) 0 6))
set_option maxRecDepth 100000 in
theorem t_simple_0 {G : GW} {L : LT} {I : IT} {r : Nat} {p : Int32} {a : Nat} (ea : p = nI a) (ha : a < 8) {q : Int32} : mt G M_Mo_simple 4 0 0 [.ref 1000, .int 0, .int p, .int q] (hp L I r) (dt (some (.int (mNum I a q).1)) (hp L (mNum I a q).2 r)) := by
  refine mt_of_ev (by decide) (Nat.le_of_ble_eq_true rfl) ?_
  show ev G M_Mo_simple (rmv 4 0 0) (Er M_Mo_simple _ 0 0) 0 [(0, .ref 1000), (1, .int 0), (2, .int p), (3, .int q)] [] (hp L I r) 0 0
  refine s_Mo_simple_0 rfl ?_
  refine s_Mo_simple_1 ?_
  refine s_Mo_simple_2 (fun c2 => ?_) (fun c2 => absurd c2 (by decide))
  refine s_Mo_simple_23 rfl ?_
  refine s_Mo_simple_24 rfl ?_
  refine c_Mo_simple_25 (t_Mo_isNumber ea (by omega)) hp_1000 rfl (Nat.le_of_ble_eq_true rfl) ?_
  refine s_Mo_simple_28 (fun c28 => ?_) (fun c28 => ?_)
  · skip
    (first | rw [bz_n0] at c28 | rw [bz_0] at c28 | skip); (try simp only [Bool.not_eq_false', Bool.not_eq_true', decide_eq_true_eq, decide_eq_false_iff_not, Bool.or_eq_true, Bool.or_eq_false_iff, Bool.and_eq_true, Bool.and_eq_false_iff] at c28)
    refine s_Mo_simple_33 rfl ?_
    refine s_Mo_simple_34 (fun c34 => absurd c34 (by decide)) (fun c34 => ?_)
    refine s_Mo_simple_37 rfl ?_
    refine s_Mo_simple_38 rfl ?_
    refine s_Mo_simple_39 ?_
    refine s_Mo_simple_40 rfl ?_
    refine s_Mo_simple_41 ?_
    refine s_Mo_simple_42 ?_
    refine s_Mo_simple_43 ?_
    refine c_Mo_simple_44 (t_Mo_put ea (by omega)) hp_1000 rfl (Nat.le_of_ble_eq_true rfl) ?_
    refine s_Mo_simple_47 rfl ?_
    refine s_Mo_simple_48 ?_
    refine s_Mo_simple_49 (fun c49 => ?_) (fun c49 => absurd c49 (by decide))
    refine s_Mo_simple_63 rfl ?_
    refine s_Mo_simple_64 ?_
    refine s_Mo_simple_65 (fun c65 => ?_) (fun c65 => absurd c65 (by decide))
    refine s_Mo_simple_111 ?_
    exact s_Mo_simple_112 ⟨by simp [mNum, c28], by simp [mNum, c28]⟩ z0
  · skip
    (first | rw [bz_n0] at c28 | rw [bz_0] at c28 | skip); (try simp only [Bool.not_eq_false', Bool.not_eq_true', decide_eq_true_eq, decide_eq_false_iff_not, Bool.or_eq_true, Bool.or_eq_false_iff, Bool.and_eq_true, Bool.and_eq_false_iff] at c28)
    refine s_Mo_simple_31 ?_
    exact s_Mo_simple_32 ⟨by simp [mNum, c28], by simp [mNum, c28]⟩ z0
set_option maxRecDepth 100000 in
theorem t_simple_1 {G : GW} {L : LT} {I : IT} {r : Nat} {p : Int32} {a : Nat} (ea : p = nI a) (ha : a < 8) {q : Int32} {b : Nat} (eb : q = nI b) (hb : b < 8) (hne : b ≠ a) (hk : gt I b 0 = 2 → vp_in (gt I b 4) 6) : mt G M_Mo_simple 4 0 0 [.ref 1000, .int 1, .int p, .int q] (hp L I r) (dt (some (.int (mMov I a b).1)) (hp L (mMov I a b).2 r)) := by
  refine mt_of_ev (by decide) (Nat.le_of_ble_eq_true rfl) ?_
  show ev G M_Mo_simple (rmv 4 0 0) (Er M_Mo_simple _ 0 0) 0 [(0, .ref 1000), (1, .int 1), (2, .int p), (3, .int q)] [] (hp L I r) 0 0
  refine s_Mo_simple_0 rfl ?_
  refine s_Mo_simple_1 ?_
  refine s_Mo_simple_2 (fun c2 => ?_) (fun c2 => absurd c2 (by decide))
  refine s_Mo_simple_23 rfl ?_
  refine s_Mo_simple_24 rfl ?_
  refine c_Mo_simple_25 (t_Mo_isNumber ea (by omega)) hp_1000 rfl (Nat.le_of_ble_eq_true rfl) ?_
  refine s_Mo_simple_28 (fun c28 => ?_) (fun c28 => ?_)
  · skip
    (first | rw [bz_n0] at c28 | rw [bz_0] at c28 | skip); (try simp only [Bool.not_eq_false', Bool.not_eq_true', decide_eq_true_eq, decide_eq_false_iff_not, Bool.or_eq_true, Bool.or_eq_false_iff, Bool.and_eq_true, Bool.and_eq_false_iff] at c28)
    refine s_Mo_simple_33 rfl ?_
    refine s_Mo_simple_34 (fun c34 => ?_) (fun c34 => absurd c34 (by decide))
    refine s_Mo_simple_47 rfl ?_
    refine s_Mo_simple_48 ?_
    refine s_Mo_simple_49 (fun c49 => absurd c49 (by decide)) (fun c49 => ?_)
    refine s_Mo_simple_52 rfl ?_
    refine s_Mo_simple_53 rfl ?_
    refine s_Mo_simple_54 (fun c54 => absurd c54 (fun h => hne ((nI_eq (by omega) (by omega)).mp (eb.symm.trans (h.symm.trans ea))))) (fun c54 => ?_)
    refine s_Mo_simple_57 rfl ?_
    refine s_Mo_simple_58 rfl ?_
    refine s_Mo_simple_59 rfl ?_
    refine c_Mo_simple_60 (t_Mo_assign ea (by omega) eb (by omega) hne hk) hp_1000 rfl (Nat.le_of_ble_eq_true rfl) ?_
    refine s_Mo_simple_63 rfl ?_
    refine s_Mo_simple_64 ?_
    refine s_Mo_simple_65 (fun c65 => ?_) (fun c65 => absurd c65 (by decide))
    refine s_Mo_simple_111 ?_
    exact s_Mo_simple_112 ⟨by simp [mMov, c28, Ne.symm hne], by simp [mMov, c28, Ne.symm hne]⟩ z0
  · skip
    (first | rw [bz_n0] at c28 | rw [bz_0] at c28 | skip); (try simp only [Bool.not_eq_false', Bool.not_eq_true', decide_eq_true_eq, decide_eq_false_iff_not, Bool.or_eq_true, Bool.or_eq_false_iff, Bool.and_eq_true, Bool.and_eq_false_iff] at c28)
    refine s_Mo_simple_31 ?_
    exact s_Mo_simple_32 ⟨by simp [mMov, c28, Ne.symm hne], by simp [mMov, c28, Ne.symm hne]⟩ z0
set_option maxRecDepth 100000 in
theorem t_simple_1s {G : GW} {L : LT} {I : IT} {r : Nat} {p : Int32} {a : Nat} (ea : p = nI a) (ha : a < 8) : mt G M_Mo_simple 4 0 0 [.ref 1000, .int 1, .int p, .int p] (hp L I r) (dt (some (.int (mMov I a a).1)) (hp L (mMov I a a).2 r)) := by
  refine mt_of_ev (by decide) (Nat.le_of_ble_eq_true rfl) ?_
  show ev G M_Mo_simple (rmv 4 0 0) (Er M_Mo_simple _ 0 0) 0 [(0, .ref 1000), (1, .int 1), (2, .int p), (3, .int p)] [] (hp L I r) 0 0
  refine s_Mo_simple_0 rfl ?_
  refine s_Mo_simple_1 ?_
  refine s_Mo_simple_2 (fun c2 => ?_) (fun c2 => absurd c2 (by decide))
  refine s_Mo_simple_23 rfl ?_
  refine s_Mo_simple_24 rfl ?_
  refine c_Mo_simple_25 (t_Mo_isNumber ea (by omega)) hp_1000 rfl (Nat.le_of_ble_eq_true rfl) ?_
  refine s_Mo_simple_28 (fun c28 => ?_) (fun c28 => ?_)
  · skip
    (first | rw [bz_n0] at c28 | rw [bz_0] at c28 | skip); (try simp only [Bool.not_eq_false', Bool.not_eq_true', decide_eq_true_eq, decide_eq_false_iff_not, Bool.or_eq_true, Bool.or_eq_false_iff, Bool.and_eq_true, Bool.and_eq_false_iff] at c28)
    refine s_Mo_simple_33 rfl ?_
    refine s_Mo_simple_34 (fun c34 => ?_) (fun c34 => absurd c34 (by decide))
    refine s_Mo_simple_47 rfl ?_
    refine s_Mo_simple_48 ?_
    refine s_Mo_simple_49 (fun c49 => absurd c49 (by decide)) (fun c49 => ?_)
    refine s_Mo_simple_52 rfl ?_
    refine s_Mo_simple_53 rfl ?_
    refine s_Mo_simple_54 (fun c54 => ?_) (fun c54 => absurd c54 (fun h => h rfl))
    refine s_Mo_simple_63 rfl ?_
    refine s_Mo_simple_64 ?_
    refine s_Mo_simple_65 (fun c65 => ?_) (fun c65 => absurd c65 (by decide))
    refine s_Mo_simple_111 ?_
    exact s_Mo_simple_112 ⟨by simp [mMov, c28], by simp [mMov, c28]⟩ z0
  · skip
    (first | rw [bz_n0] at c28 | rw [bz_0] at c28 | skip); (try simp only [Bool.not_eq_false', Bool.not_eq_true', decide_eq_true_eq, decide_eq_false_iff_not, Bool.or_eq_true, Bool.or_eq_false_iff, Bool.and_eq_true, Bool.and_eq_false_iff] at c28)
    refine s_Mo_simple_31 ?_
    exact s_Mo_simple_32 ⟨by simp [mMov, c28], by simp [mMov, c28]⟩ z0
set_option maxRecDepth 100000 in
theorem t_simple_2 {G : GW} {L : LT} {I : IT} {r : Nat} {p : Int32} {a : Nat} (ea : p = nI a) (ha : a < 8) {q : Int32} {b : Nat} (eb : q = nI b) (hb : b < 8) : mt G M_Mo_simple 4 0 0 [.ref 1000, .int 2, .int p, .int q] (hp L I r) (dt (some (.int (mAdd I a b).1)) (hp L (mAdd I a b).2 r)) := by
  refine mt_of_ev (by decide) (Nat.le_of_ble_eq_true rfl) ?_
  show ev G M_Mo_simple (rmv 4 0 0) (Er M_Mo_simple _ 0 0) 0 [(0, .ref 1000), (1, .int 2), (2, .int p), (3, .int q)] [] (hp L I r) 0 0
  refine s_Mo_simple_0 rfl ?_
  refine s_Mo_simple_1 ?_
  refine s_Mo_simple_2 (fun c2 => absurd c2 (by decide)) (fun c2 => ?_)
  refine s_Mo_simple_5 rfl ?_
  refine s_Mo_simple_6 rfl ?_
  refine c_Mo_simple_7 (t_Mo_isNumber ea (by omega)) hp_1000 rfl (Nat.le_of_ble_eq_true rfl) ?_
  refine s_Mo_simple_10 (fun c10 => ?_) (fun c10 => ?_)
  · skip
    (first | rw [bz_n0] at c10 | rw [bz_0] at c10 | skip); (try simp only [Bool.not_eq_false', Bool.not_eq_true', decide_eq_true_eq, decide_eq_false_iff_not, Bool.or_eq_true, Bool.or_eq_false_iff, Bool.and_eq_true, Bool.and_eq_false_iff] at c10)
    refine s_Mo_simple_21 ?_
    exact s_Mo_simple_22 ⟨by simp [mAdd, c10], by simp [mAdd, c10]⟩ z0
  · skip
    (first | rw [bz_n0] at c10 | rw [bz_0] at c10 | skip); (try simp only [Bool.not_eq_false', Bool.not_eq_true', decide_eq_true_eq, decide_eq_false_iff_not, Bool.or_eq_true, Bool.or_eq_false_iff, Bool.and_eq_true, Bool.and_eq_false_iff] at c10)
    refine s_Mo_simple_13 rfl ?_
    refine s_Mo_simple_14 rfl ?_
    refine c_Mo_simple_15 (t_Mo_isNumber eb (by omega)) hp_1000 rfl (Nat.le_of_ble_eq_true rfl) ?_
    refine s_Mo_simple_18 (fun c18 => ?_) (fun c18 => ?_)
    · skip
      (first | rw [bz_n0] at c18 | rw [bz_0] at c18 | skip); (try simp only [Bool.not_eq_false', Bool.not_eq_true', decide_eq_true_eq, decide_eq_false_iff_not, Bool.or_eq_true, Bool.or_eq_false_iff, Bool.and_eq_true, Bool.and_eq_false_iff] at c18)
      refine s_Mo_simple_23 rfl ?_
      refine s_Mo_simple_24 rfl ?_
      refine c_Mo_simple_25 (t_Mo_isNumber ea (by omega)) hp_1000 rfl (Nat.le_of_ble_eq_true rfl) ?_
      refine s_Mo_simple_28 (fun c28 => ?_) (fun c28 => absurd c28 (fun h => Bool.noConfusion ((decide_eq_true c10).symm.trans (bz_0.mp h))))
      refine s_Mo_simple_33 rfl ?_
      refine s_Mo_simple_34 (fun c34 => ?_) (fun c34 => absurd c34 (by decide))
      refine s_Mo_simple_47 rfl ?_
      refine s_Mo_simple_48 ?_
      refine s_Mo_simple_49 (fun c49 => ?_) (fun c49 => absurd c49 (by decide))
      refine s_Mo_simple_63 rfl ?_
      refine s_Mo_simple_64 ?_
      refine s_Mo_simple_65 (fun c65 => absurd c65 (by decide)) (fun c65 => ?_)
      refine s_Mo_simple_68 rfl ?_
      refine s_Mo_simple_69 rfl ?_
      refine s_Mo_simple_70 ?_
      refine s_Mo_simple_71 rfl ?_
      refine s_Mo_simple_72 ?_
      refine s_Mo_simple_73 (fun c73 => absurd c73 (by decide)) (fun c73 => ?_)
      refine s_Mo_simple_76 rfl ?_
      refine s_Mo_simple_77 rfl ?_
      refine s_Mo_simple_78 ?_
      refine c_Mo_simple_79 (t_Mo_get ea (by omega) (k := 1) rfl (by decide)) hp_1000 rfl (Nat.le_of_ble_eq_true rfl) ?_
      refine s_Mo_simple_82 rfl ?_
      refine s_Mo_simple_83 rfl ?_
      refine s_Mo_simple_84 ?_
      refine c_Mo_simple_85 (t_Mo_get eb (by omega) (k := 1) rfl (by decide)) hp_1000 rfl (Nat.le_of_ble_eq_true rfl) ?_
      refine s_Mo_simple_88 ?_
      refine s_Mo_simple_89 ?_
      refine s_Mo_simple_105 ?_
      refine s_Mo_simple_106 ?_
      refine s_Mo_simple_107 ?_
      refine c_Mo_simple_108 (t_Mo_put ea (by omega)) hp_1000 rfl (Nat.le_of_ble_eq_true rfl) ?_
      refine s_Mo_simple_111 ?_
      exact s_Mo_simple_112 ⟨by simp [mAdd, c10, c18], by simp [mAdd, c10, c18]⟩ z0
    · skip
      (first | rw [bz_n0] at c18 | rw [bz_0] at c18 | skip); (try simp only [Bool.not_eq_false', Bool.not_eq_true', decide_eq_true_eq, decide_eq_false_iff_not, Bool.or_eq_true, Bool.or_eq_false_iff, Bool.and_eq_true, Bool.and_eq_false_iff] at c18)
      refine s_Mo_simple_21 ?_
      exact s_Mo_simple_22 ⟨by simp [mAdd, c10, c18], by simp [mAdd, c10, c18]⟩ z0
set_option maxRecDepth 100000 in
theorem t_simple_3 {G : GW} {L : LT} {I : IT} {r : Nat} {p : Int32} {a : Nat} (ea : p = nI a) (ha : a < 8) {q : Int32} {b : Nat} (eb : q = nI b) (hb : b < 8) : mt G M_Mo_simple 4 0 0 [.ref 1000, .int 3, .int p, .int q] (hp L I r) (dt (some (.int (mSub I a b).1)) (hp L (mSub I a b).2 r)) := by
  refine mt_of_ev (by decide) (Nat.le_of_ble_eq_true rfl) ?_
  show ev G M_Mo_simple (rmv 4 0 0) (Er M_Mo_simple _ 0 0) 0 [(0, .ref 1000), (1, .int 3), (2, .int p), (3, .int q)] [] (hp L I r) 0 0
  refine s_Mo_simple_0 rfl ?_
  refine s_Mo_simple_1 ?_
  refine s_Mo_simple_2 (fun c2 => absurd c2 (by decide)) (fun c2 => ?_)
  refine s_Mo_simple_5 rfl ?_
  refine s_Mo_simple_6 rfl ?_
  refine c_Mo_simple_7 (t_Mo_isNumber ea (by omega)) hp_1000 rfl (Nat.le_of_ble_eq_true rfl) ?_
  refine s_Mo_simple_10 (fun c10 => ?_) (fun c10 => ?_)
  · skip
    (first | rw [bz_n0] at c10 | rw [bz_0] at c10 | skip); (try simp only [Bool.not_eq_false', Bool.not_eq_true', decide_eq_true_eq, decide_eq_false_iff_not, Bool.or_eq_true, Bool.or_eq_false_iff, Bool.and_eq_true, Bool.and_eq_false_iff] at c10)
    refine s_Mo_simple_21 ?_
    exact s_Mo_simple_22 ⟨by simp [mSub, c10], by simp [mSub, c10]⟩ z0
  · skip
    (first | rw [bz_n0] at c10 | rw [bz_0] at c10 | skip); (try simp only [Bool.not_eq_false', Bool.not_eq_true', decide_eq_true_eq, decide_eq_false_iff_not, Bool.or_eq_true, Bool.or_eq_false_iff, Bool.and_eq_true, Bool.and_eq_false_iff] at c10)
    refine s_Mo_simple_13 rfl ?_
    refine s_Mo_simple_14 rfl ?_
    refine c_Mo_simple_15 (t_Mo_isNumber eb (by omega)) hp_1000 rfl (Nat.le_of_ble_eq_true rfl) ?_
    refine s_Mo_simple_18 (fun c18 => ?_) (fun c18 => ?_)
    · skip
      (first | rw [bz_n0] at c18 | rw [bz_0] at c18 | skip); (try simp only [Bool.not_eq_false', Bool.not_eq_true', decide_eq_true_eq, decide_eq_false_iff_not, Bool.or_eq_true, Bool.or_eq_false_iff, Bool.and_eq_true, Bool.and_eq_false_iff] at c18)
      refine s_Mo_simple_23 rfl ?_
      refine s_Mo_simple_24 rfl ?_
      refine c_Mo_simple_25 (t_Mo_isNumber ea (by omega)) hp_1000 rfl (Nat.le_of_ble_eq_true rfl) ?_
      refine s_Mo_simple_28 (fun c28 => ?_) (fun c28 => absurd c28 (fun h => Bool.noConfusion ((decide_eq_true c10).symm.trans (bz_0.mp h))))
      refine s_Mo_simple_33 rfl ?_
      refine s_Mo_simple_34 (fun c34 => ?_) (fun c34 => absurd c34 (by decide))
      refine s_Mo_simple_47 rfl ?_
      refine s_Mo_simple_48 ?_
      refine s_Mo_simple_49 (fun c49 => ?_) (fun c49 => absurd c49 (by decide))
      refine s_Mo_simple_63 rfl ?_
      refine s_Mo_simple_64 ?_
      refine s_Mo_simple_65 (fun c65 => absurd c65 (by decide)) (fun c65 => ?_)
      refine s_Mo_simple_68 rfl ?_
      refine s_Mo_simple_69 rfl ?_
      refine s_Mo_simple_70 ?_
      refine s_Mo_simple_71 rfl ?_
      refine s_Mo_simple_72 ?_
      refine s_Mo_simple_73 (fun c73 => ?_) (fun c73 => absurd c73 (by decide))
      refine s_Mo_simple_92 rfl ?_
      refine s_Mo_simple_93 rfl ?_
      refine s_Mo_simple_94 ?_
      refine c_Mo_simple_95 (t_Mo_get ea (by omega) (k := 1) rfl (by decide)) hp_1000 rfl (Nat.le_of_ble_eq_true rfl) ?_
      refine s_Mo_simple_98 rfl ?_
      refine s_Mo_simple_99 rfl ?_
      refine s_Mo_simple_100 ?_
      refine c_Mo_simple_101 (t_Mo_get eb (by omega) (k := 1) rfl (by decide)) hp_1000 rfl (Nat.le_of_ble_eq_true rfl) ?_
      refine s_Mo_simple_104 ?_
      refine s_Mo_simple_105 ?_
      refine s_Mo_simple_106 ?_
      refine s_Mo_simple_107 ?_
      refine c_Mo_simple_108 (t_Mo_put ea (by omega)) hp_1000 rfl (Nat.le_of_ble_eq_true rfl) ?_
      refine s_Mo_simple_111 ?_
      exact s_Mo_simple_112 ⟨by simp [mSub, c10, c18], by simp [mSub, c10, c18]⟩ z0
    · skip
      (first | rw [bz_n0] at c18 | rw [bz_0] at c18 | skip); (try simp only [Bool.not_eq_false', Bool.not_eq_true', decide_eq_true_eq, decide_eq_false_iff_not, Bool.or_eq_true, Bool.or_eq_false_iff, Bool.and_eq_true, Bool.and_eq_false_iff] at c18)
      refine s_Mo_simple_21 ?_
      exact s_Mo_simple_22 ⟨by simp [mSub, c10, c18], by simp [mSub, c10, c18]⟩ z0
set_option maxHeartbeats 2000000 in
set_option maxRecDepth 100000 in
theorem t_merge {G : GW} {L : LT} {I : IT} {r : Nat} {p : Int32} {a : Nat} (ea : p = nI a) (ha : a < 8) {q : Int32} {b : Nat} (eb : q = nI b) (hb : b < 8) (hne : a ≠ b) : mt G M_Mo_merge 2 0 0 [.ref 1000, .int p, .int q] (hp L I r) (dt (some (.int (mMg I a b).1)) (hp L (mMg I a b).2 r)) := by
  refine mt_of_ev (by decide) (Nat.le_of_ble_eq_true rfl) ?_
  show ev G M_Mo_merge (rmv 2 0 0) (Er M_Mo_merge _ 0 0) 0 [(0, .ref 1000), (1, .int p), (2, .int q)] [] (hp L I r) 0 0
  refine s_Mo_merge_0 rfl ?_
  refine s_Mo_merge_1 rfl ?_
  refine s_Mo_merge_2 ?_
  refine c_Mo_merge_3 (t_Mo_get ea (by omega) (k := 3) rfl (by decide)) hp_1000 rfl (Nat.le_of_ble_eq_true rfl) ?_
  refine s_Mo_merge_6 rfl ?_
  refine s_Mo_merge_7 rfl ?_
  refine s_Mo_merge_8 ?_
  refine c_Mo_merge_9 (t_Mo_get eb (by omega) (k := 3) rfl (by decide)) hp_1000 rfl (Nat.le_of_ble_eq_true rfl) ?_
  refine s_Mo_merge_12 (fun c12 => ?_) (fun c12 => ?_)
  · skip
    refine s_Mo_merge_19 ?_
    refine s_Mo_merge_20 ?_
    refine s_Mo_merge_21 rfl ?_
    refine s_Mo_merge_22 (fun c22 => ?_) (fun c22 => absurd c22 (by decide))
    refine s_Mo_merge_44 ?_
    refine s_Mo_merge_45 ?_
    refine s_Mo_merge_47 rfl ?_
    refine s_Mo_merge_48 (fun c48 => ?_) (fun c48 => absurd c48 (by decide))
    refine s_Mo_merge_70 ?_
    refine s_Mo_merge_71 ?_
    refine s_Mo_merge_73 rfl ?_
    refine s_Mo_merge_74 rfl ?_
    refine s_Mo_merge_75 ?_
    refine c_Mo_merge_76 (t_Mo_get ea (by omega) (k := 1) rfl (by decide)) hp_1000 rfl (Nat.le_of_ble_eq_true rfl) ?_
    refine s_Mo_merge_79 rfl ?_
    refine s_Mo_merge_80 rfl ?_
    refine s_Mo_merge_81 ?_
    refine c_Mo_merge_82 (t_Mo_get eb (by omega) (k := 1) rfl (by decide)) hp_1000 rfl (Nat.le_of_ble_eq_true rfl) ?_
    refine s_Mo_merge_85 (fun c85 => ?_) (fun c85 => ?_)
    · skip
      refine s_Mo_merge_123 ?_
      refine s_Mo_merge_124 ?_
      refine s_Mo_merge_126 rfl ?_
      refine s_Mo_merge_127 rfl ?_
      refine s_Mo_merge_128 (fun c128 => absurd c128 (fun h => hne ((nI_eq (by omega) (by omega)).mp (ea.symm.trans (h.trans eb))))) (fun c128 => ?_)
      refine s_Mo_merge_131 rfl ?_
      refine s_Mo_merge_133 (fun c133 => absurd c133 (by decide)) (fun c133 => ?_)
      refine s_Mo_merge_136 rfl ?_
      refine s_Mo_merge_138 (fun c138 => absurd c138 (by decide)) (fun c138 => ?_)
      refine s_Mo_merge_141 rfl ?_
      refine s_Mo_merge_143 (fun c143 => absurd c143 (by decide)) (fun c143 => ?_)
      refine s_Mo_merge_146 ?_
      exact s_Mo_merge_147 (by have hbh : ¬ mBh I a b := fun h => c12 h.1; have hbf : ¬ mBf I a b := fun h => c12 h.1; have hov : ¬ mOv I a b := fun h => c85 h.1; exact ⟨by rw [mMg, if_pos (Or.inr ⟨hbh, hbf, hov⟩)], by rw [mMg, if_pos (Or.inr ⟨hbh, hbf, hov⟩)]⟩) z0
    · skip
      refine s_Mo_merge_88 rfl ?_
      refine s_Mo_merge_89 rfl ?_
      refine s_Mo_merge_90 ?_
      refine c_Mo_merge_91 (t_Mo_get ea (by omega) (k := 2) rfl (by decide)) hp_1000 rfl (Nat.le_of_ble_eq_true rfl) ?_
      refine s_Mo_merge_94 rfl ?_
      refine s_Mo_merge_95 rfl ?_
      refine s_Mo_merge_96 ?_
      refine c_Mo_merge_97 (t_Mo_get eb (by omega) (k := 2) rfl (by decide)) hp_1000 rfl (Nat.le_of_ble_eq_true rfl) ?_
      refine s_Mo_merge_100 (fun c100 => ?_) (fun c100 => ?_)
      · skip
        refine s_Mo_merge_123 ?_
        refine s_Mo_merge_124 ?_
        refine s_Mo_merge_126 rfl ?_
        refine s_Mo_merge_127 rfl ?_
        refine s_Mo_merge_128 (fun c128 => absurd c128 (fun h => hne ((nI_eq (by omega) (by omega)).mp (ea.symm.trans (h.trans eb))))) (fun c128 => ?_)
        refine s_Mo_merge_131 rfl ?_
        refine s_Mo_merge_133 (fun c133 => absurd c133 (by decide)) (fun c133 => ?_)
        refine s_Mo_merge_136 rfl ?_
        refine s_Mo_merge_138 (fun c138 => absurd c138 (by decide)) (fun c138 => ?_)
        refine s_Mo_merge_141 rfl ?_
        refine s_Mo_merge_143 (fun c143 => absurd c143 (by decide)) (fun c143 => ?_)
        refine s_Mo_merge_146 ?_
        exact s_Mo_merge_147 (by have hbh : ¬ mBh I a b := fun h => c12 h.1; have hbf : ¬ mBf I a b := fun h => c12 h.1; have hov : ¬ mOv I a b := fun h => c100 h.2.1; exact ⟨by rw [mMg, if_pos (Or.inr ⟨hbh, hbf, hov⟩)], by rw [mMg, if_pos (Or.inr ⟨hbh, hbf, hov⟩)]⟩) z0
      · skip
        refine s_Mo_merge_103 rfl ?_
        refine s_Mo_merge_104 rfl ?_
        refine s_Mo_merge_105 ?_
        refine c_Mo_merge_106 (t_Mo_get ea (by omega) (k := 3) rfl (by decide)) hp_1000 rfl (Nat.le_of_ble_eq_true rfl) ?_
        refine s_Mo_merge_109 rfl ?_
        refine s_Mo_merge_110 rfl ?_
        refine s_Mo_merge_111 ?_
        refine c_Mo_merge_112 (t_Mo_get eb (by omega) (k := 3) rfl (by decide)) hp_1000 rfl (Nat.le_of_ble_eq_true rfl) ?_
        refine s_Mo_merge_115 ?_
        refine s_Mo_merge_116 (fun c116 => ?_) (fun c116 => ?_)
        · skip
          refine s_Mo_merge_123 ?_
          refine s_Mo_merge_124 ?_
          refine s_Mo_merge_126 rfl ?_
          refine s_Mo_merge_127 rfl ?_
          refine s_Mo_merge_128 (fun c128 => absurd c128 (fun h => hne ((nI_eq (by omega) (by omega)).mp (ea.symm.trans (h.trans eb))))) (fun c128 => ?_)
          refine s_Mo_merge_131 rfl ?_
          refine s_Mo_merge_133 (fun c133 => absurd c133 (by decide)) (fun c133 => ?_)
          refine s_Mo_merge_136 rfl ?_
          refine s_Mo_merge_138 (fun c138 => absurd c138 (by decide)) (fun c138 => ?_)
          refine s_Mo_merge_141 rfl ?_
          refine s_Mo_merge_143 (fun c143 => absurd c143 (by decide)) (fun c143 => ?_)
          refine s_Mo_merge_146 ?_
          exact s_Mo_merge_147 (by have hbh : ¬ mBh I a b := fun h => c12 h.1; have hbf : ¬ mBf I a b := fun h => c12 h.1; have hov : ¬ mOv I a b := fun h => c116 h.2.2; exact ⟨by rw [mMg, if_pos (Or.inr ⟨hbh, hbf, hov⟩)], by rw [mMg, if_pos (Or.inr ⟨hbh, hbf, hov⟩)]⟩) z0
        · skip
          refine s_Mo_merge_119 ?_
          refine s_Mo_merge_120 ?_
          refine s_Mo_merge_124 ?_
          refine s_Mo_merge_126 rfl ?_
          refine s_Mo_merge_127 rfl ?_
          refine s_Mo_merge_128 (fun c128 => absurd c128 (fun h => hne ((nI_eq (by omega) (by omega)).mp (ea.symm.trans (h.trans eb))))) (fun c128 => ?_)
          refine s_Mo_merge_131 rfl ?_
          refine s_Mo_merge_133 (fun c133 => absurd c133 (by decide)) (fun c133 => ?_)
          refine s_Mo_merge_136 rfl ?_
          refine s_Mo_merge_138 (fun c138 => absurd c138 (by decide)) (fun c138 => ?_)
          refine s_Mo_merge_141 rfl ?_
          refine s_Mo_merge_143 (fun c143 => ?_) (fun c143 => absurd c143 (by decide))
          refine s_Mo_merge_148 rfl ?_
          refine s_Mo_merge_149 rfl ?_
          refine s_Mo_merge_150 ?_
          refine s_Mo_merge_151 rfl ?_
          refine s_Mo_merge_153 (fun c153 => ?_) (fun c153 => absurd c153 (by decide))
          refine s_Mo_merge_165 rfl ?_
          refine s_Mo_merge_166 rfl ?_
          refine s_Mo_merge_167 ?_
          refine c_Mo_merge_168 (t_Mo_get ea (by omega) (k := 1) rfl (by decide)) hp_1000 rfl (Nat.le_of_ble_eq_true rfl) ?_
          refine s_Mo_merge_171 rfl ?_
          refine s_Mo_merge_173 (fun c173 => ?_) (fun c173 => absurd c173 (by decide))
          refine s_Mo_merge_185 rfl ?_
          refine s_Mo_merge_186 rfl ?_
          refine s_Mo_merge_187 ?_
          refine c_Mo_merge_188 (t_Mo_get ea (by omega) (k := 2) rfl (by decide)) hp_1000 rfl (Nat.le_of_ble_eq_true rfl) ?_
          refine s_Mo_merge_191 rfl ?_
          refine s_Mo_merge_192 rfl ?_
          refine s_Mo_merge_193 ?_
          refine c_Mo_merge_194 (t_Mo_get ea (by omega) (k := 3) rfl (by decide)) hp_1000 rfl (Nat.le_of_ble_eq_true rfl) ?_
          refine s_Mo_merge_197 rfl ?_
          refine s_Mo_merge_198 rfl ?_
          refine s_Mo_merge_199 ?_
          refine c_Mo_merge_200 (t_Mo_get eb (by omega) (k := 3) rfl (by decide)) hp_1000 rfl (Nat.le_of_ble_eq_true rfl) ?_
          refine s_Mo_merge_203 ?_
          refine s_Mo_merge_204 ?_
          refine c_Mo_merge_205 (t_Mo_put ea (by omega)) hp_1000 rfl (Nat.le_of_ble_eq_true rfl) ?_
          refine s_Mo_merge_208 rfl ?_
          refine s_Mo_merge_209 rfl ?_
          refine c_Mo_merge_210 (t_Mo_clear eb (by omega)) hp_1000 rfl (Nat.le_of_ble_eq_true rfl) ?_
          refine s_Mo_merge_213 ?_
          exact s_Mo_merge_214 (by have hbh : ¬ mBh I a b := fun h => c12 h.1; have hbf : ¬ mBf I a b := fun h => c12 h.1; have hov : mOv I a b := ⟨c85, c100, c116⟩; exact ⟨by rw [mMg, if_neg (fun h => h.elim hne (fun h => h.2.2 hov))], by rw [mMg, if_neg (fun h => h.elim hne (fun h => h.2.2 hov)), if_neg hbf, if_neg hbh]⟩) z0
  · skip
    refine s_Mo_merge_15 ?_
    refine s_Mo_merge_16 ?_
    refine s_Mo_merge_20 ?_
    refine s_Mo_merge_21 rfl ?_
    refine s_Mo_merge_22 (fun c22 => absurd c22 (by decide)) (fun c22 => ?_)
    refine s_Mo_merge_25 rfl ?_
    refine s_Mo_merge_26 rfl ?_
    refine s_Mo_merge_27 ?_
    refine c_Mo_merge_28 (t_Mo_get eb (by omega) (k := 1) rfl (by decide)) hp_1000 rfl (Nat.le_of_ble_eq_true rfl) ?_
    refine s_Mo_merge_31 rfl ?_
    refine s_Mo_merge_32 rfl ?_
    refine s_Mo_merge_33 ?_
    refine c_Mo_merge_34 (t_Mo_get ea (by omega) (k := 2) rfl (by decide)) hp_1000 rfl (Nat.le_of_ble_eq_true rfl) ?_
    refine s_Mo_merge_37 (fun c37 => ?_) (fun c37 => ?_)
    · skip
      refine s_Mo_merge_44 ?_
      refine s_Mo_merge_45 ?_
      refine s_Mo_merge_47 rfl ?_
      refine s_Mo_merge_48 (fun c48 => absurd c48 (by decide)) (fun c48 => ?_)
      refine s_Mo_merge_51 rfl ?_
      refine s_Mo_merge_52 rfl ?_
      refine s_Mo_merge_53 ?_
      refine c_Mo_merge_54 (t_Mo_get ea (by omega) (k := 1) rfl (by decide)) hp_1000 rfl (Nat.le_of_ble_eq_true rfl) ?_
      refine s_Mo_merge_57 rfl ?_
      refine s_Mo_merge_58 rfl ?_
      refine s_Mo_merge_59 ?_
      refine c_Mo_merge_60 (t_Mo_get eb (by omega) (k := 2) rfl (by decide)) hp_1000 rfl (Nat.le_of_ble_eq_true rfl) ?_
      refine s_Mo_merge_63 (fun c63 => ?_) (fun c63 => ?_)
      · skip
        refine s_Mo_merge_70 ?_
        refine s_Mo_merge_71 ?_
        refine s_Mo_merge_73 rfl ?_
        refine s_Mo_merge_74 rfl ?_
        refine s_Mo_merge_75 ?_
        refine c_Mo_merge_76 (t_Mo_get ea (by omega) (k := 1) rfl (by decide)) hp_1000 rfl (Nat.le_of_ble_eq_true rfl) ?_
        refine s_Mo_merge_79 rfl ?_
        refine s_Mo_merge_80 rfl ?_
        refine s_Mo_merge_81 ?_
        refine c_Mo_merge_82 (t_Mo_get eb (by omega) (k := 1) rfl (by decide)) hp_1000 rfl (Nat.le_of_ble_eq_true rfl) ?_
        refine s_Mo_merge_85 (fun c85 => ?_) (fun c85 => ?_)
        · skip
          refine s_Mo_merge_123 ?_
          refine s_Mo_merge_124 ?_
          refine s_Mo_merge_126 rfl ?_
          refine s_Mo_merge_127 rfl ?_
          refine s_Mo_merge_128 (fun c128 => absurd c128 (fun h => hne ((nI_eq (by omega) (by omega)).mp (ea.symm.trans (h.trans eb))))) (fun c128 => ?_)
          refine s_Mo_merge_131 rfl ?_
          refine s_Mo_merge_133 (fun c133 => absurd c133 (by decide)) (fun c133 => ?_)
          refine s_Mo_merge_136 rfl ?_
          refine s_Mo_merge_138 (fun c138 => absurd c138 (by decide)) (fun c138 => ?_)
          refine s_Mo_merge_141 rfl ?_
          refine s_Mo_merge_143 (fun c143 => absurd c143 (by decide)) (fun c143 => ?_)
          refine s_Mo_merge_146 ?_
          exact s_Mo_merge_147 (by have hbh : ¬ mBh I a b := fun h => c37 h.2; have hbf : ¬ mBf I a b := fun h => c63 h.2; have hov : ¬ mOv I a b := fun h => c85 h.1; exact ⟨by rw [mMg, if_pos (Or.inr ⟨hbh, hbf, hov⟩)], by rw [mMg, if_pos (Or.inr ⟨hbh, hbf, hov⟩)]⟩) z0
        · skip
          refine s_Mo_merge_88 rfl ?_
          refine s_Mo_merge_89 rfl ?_
          refine s_Mo_merge_90 ?_
          refine c_Mo_merge_91 (t_Mo_get ea (by omega) (k := 2) rfl (by decide)) hp_1000 rfl (Nat.le_of_ble_eq_true rfl) ?_
          refine s_Mo_merge_94 rfl ?_
          refine s_Mo_merge_95 rfl ?_
          refine s_Mo_merge_96 ?_
          refine c_Mo_merge_97 (t_Mo_get eb (by omega) (k := 2) rfl (by decide)) hp_1000 rfl (Nat.le_of_ble_eq_true rfl) ?_
          refine s_Mo_merge_100 (fun c100 => ?_) (fun c100 => ?_)
          · skip
            refine s_Mo_merge_123 ?_
            refine s_Mo_merge_124 ?_
            refine s_Mo_merge_126 rfl ?_
            refine s_Mo_merge_127 rfl ?_
            refine s_Mo_merge_128 (fun c128 => absurd c128 (fun h => hne ((nI_eq (by omega) (by omega)).mp (ea.symm.trans (h.trans eb))))) (fun c128 => ?_)
            refine s_Mo_merge_131 rfl ?_
            refine s_Mo_merge_133 (fun c133 => absurd c133 (by decide)) (fun c133 => ?_)
            refine s_Mo_merge_136 rfl ?_
            refine s_Mo_merge_138 (fun c138 => absurd c138 (by decide)) (fun c138 => ?_)
            refine s_Mo_merge_141 rfl ?_
            refine s_Mo_merge_143 (fun c143 => absurd c143 (by decide)) (fun c143 => ?_)
            refine s_Mo_merge_146 ?_
            exact s_Mo_merge_147 (by have hbh : ¬ mBh I a b := fun h => c37 h.2; have hbf : ¬ mBf I a b := fun h => c63 h.2; have hov : ¬ mOv I a b := fun h => c100 h.2.1; exact ⟨by rw [mMg, if_pos (Or.inr ⟨hbh, hbf, hov⟩)], by rw [mMg, if_pos (Or.inr ⟨hbh, hbf, hov⟩)]⟩) z0
          · skip
            refine s_Mo_merge_103 rfl ?_
            refine s_Mo_merge_104 rfl ?_
            refine s_Mo_merge_105 ?_
            refine c_Mo_merge_106 (t_Mo_get ea (by omega) (k := 3) rfl (by decide)) hp_1000 rfl (Nat.le_of_ble_eq_true rfl) ?_
            refine s_Mo_merge_109 rfl ?_
            refine s_Mo_merge_110 rfl ?_
            refine s_Mo_merge_111 ?_
            refine c_Mo_merge_112 (t_Mo_get eb (by omega) (k := 3) rfl (by decide)) hp_1000 rfl (Nat.le_of_ble_eq_true rfl) ?_
            refine s_Mo_merge_115 ?_
            refine s_Mo_merge_116 (fun c116 => ?_) (fun c116 => ?_)
            · skip
              refine s_Mo_merge_123 ?_
              refine s_Mo_merge_124 ?_
              refine s_Mo_merge_126 rfl ?_
              refine s_Mo_merge_127 rfl ?_
              refine s_Mo_merge_128 (fun c128 => absurd c128 (fun h => hne ((nI_eq (by omega) (by omega)).mp (ea.symm.trans (h.trans eb))))) (fun c128 => ?_)
              refine s_Mo_merge_131 rfl ?_
              refine s_Mo_merge_133 (fun c133 => absurd c133 (by decide)) (fun c133 => ?_)
              refine s_Mo_merge_136 rfl ?_
              refine s_Mo_merge_138 (fun c138 => absurd c138 (by decide)) (fun c138 => ?_)
              refine s_Mo_merge_141 rfl ?_
              refine s_Mo_merge_143 (fun c143 => absurd c143 (by decide)) (fun c143 => ?_)
              refine s_Mo_merge_146 ?_
              exact s_Mo_merge_147 (by have hbh : ¬ mBh I a b := fun h => c37 h.2; have hbf : ¬ mBf I a b := fun h => c63 h.2; have hov : ¬ mOv I a b := fun h => c116 h.2.2; exact ⟨by rw [mMg, if_pos (Or.inr ⟨hbh, hbf, hov⟩)], by rw [mMg, if_pos (Or.inr ⟨hbh, hbf, hov⟩)]⟩) z0
            · skip
              refine s_Mo_merge_119 ?_
              refine s_Mo_merge_120 ?_
              refine s_Mo_merge_124 ?_
              refine s_Mo_merge_126 rfl ?_
              refine s_Mo_merge_127 rfl ?_
              refine s_Mo_merge_128 (fun c128 => absurd c128 (fun h => hne ((nI_eq (by omega) (by omega)).mp (ea.symm.trans (h.trans eb))))) (fun c128 => ?_)
              refine s_Mo_merge_131 rfl ?_
              refine s_Mo_merge_133 (fun c133 => absurd c133 (by decide)) (fun c133 => ?_)
              refine s_Mo_merge_136 rfl ?_
              refine s_Mo_merge_138 (fun c138 => absurd c138 (by decide)) (fun c138 => ?_)
              refine s_Mo_merge_141 rfl ?_
              refine s_Mo_merge_143 (fun c143 => ?_) (fun c143 => absurd c143 (by decide))
              refine s_Mo_merge_148 rfl ?_
              refine s_Mo_merge_149 rfl ?_
              refine s_Mo_merge_150 ?_
              refine s_Mo_merge_151 rfl ?_
              refine s_Mo_merge_153 (fun c153 => ?_) (fun c153 => absurd c153 (by decide))
              refine s_Mo_merge_165 rfl ?_
              refine s_Mo_merge_166 rfl ?_
              refine s_Mo_merge_167 ?_
              refine c_Mo_merge_168 (t_Mo_get ea (by omega) (k := 1) rfl (by decide)) hp_1000 rfl (Nat.le_of_ble_eq_true rfl) ?_
              refine s_Mo_merge_171 rfl ?_
              refine s_Mo_merge_173 (fun c173 => ?_) (fun c173 => absurd c173 (by decide))
              refine s_Mo_merge_185 rfl ?_
              refine s_Mo_merge_186 rfl ?_
              refine s_Mo_merge_187 ?_
              refine c_Mo_merge_188 (t_Mo_get ea (by omega) (k := 2) rfl (by decide)) hp_1000 rfl (Nat.le_of_ble_eq_true rfl) ?_
              refine s_Mo_merge_191 rfl ?_
              refine s_Mo_merge_192 rfl ?_
              refine s_Mo_merge_193 ?_
              refine c_Mo_merge_194 (t_Mo_get ea (by omega) (k := 3) rfl (by decide)) hp_1000 rfl (Nat.le_of_ble_eq_true rfl) ?_
              refine s_Mo_merge_197 rfl ?_
              refine s_Mo_merge_198 rfl ?_
              refine s_Mo_merge_199 ?_
              refine c_Mo_merge_200 (t_Mo_get eb (by omega) (k := 3) rfl (by decide)) hp_1000 rfl (Nat.le_of_ble_eq_true rfl) ?_
              refine s_Mo_merge_203 ?_
              refine s_Mo_merge_204 ?_
              refine c_Mo_merge_205 (t_Mo_put ea (by omega)) hp_1000 rfl (Nat.le_of_ble_eq_true rfl) ?_
              refine s_Mo_merge_208 rfl ?_
              refine s_Mo_merge_209 rfl ?_
              refine c_Mo_merge_210 (t_Mo_clear eb (by omega)) hp_1000 rfl (Nat.le_of_ble_eq_true rfl) ?_
              refine s_Mo_merge_213 ?_
              exact s_Mo_merge_214 (by have hbh : ¬ mBh I a b := fun h => c37 h.2; have hbf : ¬ mBf I a b := fun h => c63 h.2; have hov : mOv I a b := ⟨c85, c100, c116⟩; exact ⟨by rw [mMg, if_neg (fun h => h.elim hne (fun h => h.2.2 hov))], by rw [mMg, if_neg (fun h => h.elim hne (fun h => h.2.2 hov)), if_neg hbf, if_neg hbh]⟩) z0
      · skip
        refine s_Mo_merge_66 ?_
        refine s_Mo_merge_67 ?_
        refine s_Mo_merge_71 ?_
        refine s_Mo_merge_73 rfl ?_
        refine s_Mo_merge_74 rfl ?_
        refine s_Mo_merge_75 ?_
        refine c_Mo_merge_76 (t_Mo_get ea (by omega) (k := 1) rfl (by decide)) hp_1000 rfl (Nat.le_of_ble_eq_true rfl) ?_
        refine s_Mo_merge_79 rfl ?_
        refine s_Mo_merge_80 rfl ?_
        refine s_Mo_merge_81 ?_
        refine c_Mo_merge_82 (t_Mo_get eb (by omega) (k := 1) rfl (by decide)) hp_1000 rfl (Nat.le_of_ble_eq_true rfl) ?_
        refine s_Mo_merge_85 (fun c85 => ?_) (fun c85 => ?_)
        · skip
          refine s_Mo_merge_123 ?_
          refine s_Mo_merge_124 ?_
          refine s_Mo_merge_126 rfl ?_
          refine s_Mo_merge_127 rfl ?_
          refine s_Mo_merge_128 (fun c128 => absurd c128 (fun h => hne ((nI_eq (by omega) (by omega)).mp (ea.symm.trans (h.trans eb))))) (fun c128 => ?_)
          refine s_Mo_merge_131 rfl ?_
          refine s_Mo_merge_133 (fun c133 => absurd c133 (by decide)) (fun c133 => ?_)
          refine s_Mo_merge_136 rfl ?_
          refine s_Mo_merge_138 (fun c138 => ?_) (fun c138 => absurd c138 (by decide))
          refine s_Mo_merge_148 rfl ?_
          refine s_Mo_merge_149 rfl ?_
          refine s_Mo_merge_150 ?_
          refine s_Mo_merge_151 rfl ?_
          refine s_Mo_merge_153 (fun c153 => absurd c153 (by decide)) (fun c153 => ?_)
          refine s_Mo_merge_156 rfl ?_
          refine s_Mo_merge_157 rfl ?_
          refine s_Mo_merge_158 ?_
          refine c_Mo_merge_159 (t_Mo_get eb (by omega) (k := 1) rfl (by decide)) hp_1000 rfl (Nat.le_of_ble_eq_true rfl) ?_
          refine s_Mo_merge_162 ?_
          refine s_Mo_merge_171 rfl ?_
          refine s_Mo_merge_173 (fun c173 => ?_) (fun c173 => absurd c173 (by decide))
          refine s_Mo_merge_185 rfl ?_
          refine s_Mo_merge_186 rfl ?_
          refine s_Mo_merge_187 ?_
          refine c_Mo_merge_188 (t_Mo_get ea (by omega) (k := 2) rfl (by decide)) hp_1000 rfl (Nat.le_of_ble_eq_true rfl) ?_
          refine s_Mo_merge_191 rfl ?_
          refine s_Mo_merge_192 rfl ?_
          refine s_Mo_merge_193 ?_
          refine c_Mo_merge_194 (t_Mo_get ea (by omega) (k := 3) rfl (by decide)) hp_1000 rfl (Nat.le_of_ble_eq_true rfl) ?_
          refine s_Mo_merge_197 rfl ?_
          refine s_Mo_merge_198 rfl ?_
          refine s_Mo_merge_199 ?_
          refine c_Mo_merge_200 (t_Mo_get eb (by omega) (k := 3) rfl (by decide)) hp_1000 rfl (Nat.le_of_ble_eq_true rfl) ?_
          refine s_Mo_merge_203 ?_
          refine s_Mo_merge_204 ?_
          refine c_Mo_merge_205 (t_Mo_put ea (by omega)) hp_1000 rfl (Nat.le_of_ble_eq_true rfl) ?_
          refine s_Mo_merge_208 rfl ?_
          refine s_Mo_merge_209 rfl ?_
          refine c_Mo_merge_210 (t_Mo_clear eb (by omega)) hp_1000 rfl (Nat.le_of_ble_eq_true rfl) ?_
          refine s_Mo_merge_213 ?_
          exact s_Mo_merge_214 (by have hbh : ¬ mBh I a b := fun h => c37 h.2; have hbf : mBf I a b := ⟨c12, c63⟩; have hov : ¬ mOv I a b := fun h => c85 h.1; exact ⟨by rw [mMg, if_neg (fun h => h.elim hne (fun h => h.2.1 hbf))], by rw [mMg, if_neg (fun h => h.elim hne (fun h => h.2.1 hbf)), if_pos hbf, if_neg hbh]⟩) z0
        · skip
          refine s_Mo_merge_88 rfl ?_
          refine s_Mo_merge_89 rfl ?_
          refine s_Mo_merge_90 ?_
          refine c_Mo_merge_91 (t_Mo_get ea (by omega) (k := 2) rfl (by decide)) hp_1000 rfl (Nat.le_of_ble_eq_true rfl) ?_
          refine s_Mo_merge_94 rfl ?_
          refine s_Mo_merge_95 rfl ?_
          refine s_Mo_merge_96 ?_
          refine c_Mo_merge_97 (t_Mo_get eb (by omega) (k := 2) rfl (by decide)) hp_1000 rfl (Nat.le_of_ble_eq_true rfl) ?_
          refine s_Mo_merge_100 (fun c100 => ?_) (fun c100 => ?_)
          · skip
            refine s_Mo_merge_123 ?_
            refine s_Mo_merge_124 ?_
            refine s_Mo_merge_126 rfl ?_
            refine s_Mo_merge_127 rfl ?_
            refine s_Mo_merge_128 (fun c128 => absurd c128 (fun h => hne ((nI_eq (by omega) (by omega)).mp (ea.symm.trans (h.trans eb))))) (fun c128 => ?_)
            refine s_Mo_merge_131 rfl ?_
            refine s_Mo_merge_133 (fun c133 => absurd c133 (by decide)) (fun c133 => ?_)
            refine s_Mo_merge_136 rfl ?_
            refine s_Mo_merge_138 (fun c138 => ?_) (fun c138 => absurd c138 (by decide))
            refine s_Mo_merge_148 rfl ?_
            refine s_Mo_merge_149 rfl ?_
            refine s_Mo_merge_150 ?_
            refine s_Mo_merge_151 rfl ?_
            refine s_Mo_merge_153 (fun c153 => absurd c153 (by decide)) (fun c153 => ?_)
            refine s_Mo_merge_156 rfl ?_
            refine s_Mo_merge_157 rfl ?_
            refine s_Mo_merge_158 ?_
            refine c_Mo_merge_159 (t_Mo_get eb (by omega) (k := 1) rfl (by decide)) hp_1000 rfl (Nat.le_of_ble_eq_true rfl) ?_
            refine s_Mo_merge_162 ?_
            refine s_Mo_merge_171 rfl ?_
            refine s_Mo_merge_173 (fun c173 => ?_) (fun c173 => absurd c173 (by decide))
            refine s_Mo_merge_185 rfl ?_
            refine s_Mo_merge_186 rfl ?_
            refine s_Mo_merge_187 ?_
            refine c_Mo_merge_188 (t_Mo_get ea (by omega) (k := 2) rfl (by decide)) hp_1000 rfl (Nat.le_of_ble_eq_true rfl) ?_
            refine s_Mo_merge_191 rfl ?_
            refine s_Mo_merge_192 rfl ?_
            refine s_Mo_merge_193 ?_
            refine c_Mo_merge_194 (t_Mo_get ea (by omega) (k := 3) rfl (by decide)) hp_1000 rfl (Nat.le_of_ble_eq_true rfl) ?_
            refine s_Mo_merge_197 rfl ?_
            refine s_Mo_merge_198 rfl ?_
            refine s_Mo_merge_199 ?_
            refine c_Mo_merge_200 (t_Mo_get eb (by omega) (k := 3) rfl (by decide)) hp_1000 rfl (Nat.le_of_ble_eq_true rfl) ?_
            refine s_Mo_merge_203 ?_
            refine s_Mo_merge_204 ?_
            refine c_Mo_merge_205 (t_Mo_put ea (by omega)) hp_1000 rfl (Nat.le_of_ble_eq_true rfl) ?_
            refine s_Mo_merge_208 rfl ?_
            refine s_Mo_merge_209 rfl ?_
            refine c_Mo_merge_210 (t_Mo_clear eb (by omega)) hp_1000 rfl (Nat.le_of_ble_eq_true rfl) ?_
            refine s_Mo_merge_213 ?_
            exact s_Mo_merge_214 (by have hbh : ¬ mBh I a b := fun h => c37 h.2; have hbf : mBf I a b := ⟨c12, c63⟩; have hov : ¬ mOv I a b := fun h => c100 h.2.1; exact ⟨by rw [mMg, if_neg (fun h => h.elim hne (fun h => h.2.1 hbf))], by rw [mMg, if_neg (fun h => h.elim hne (fun h => h.2.1 hbf)), if_pos hbf, if_neg hbh]⟩) z0
          · skip
            refine s_Mo_merge_103 rfl ?_
            refine s_Mo_merge_104 rfl ?_
            refine s_Mo_merge_105 ?_
            refine c_Mo_merge_106 (t_Mo_get ea (by omega) (k := 3) rfl (by decide)) hp_1000 rfl (Nat.le_of_ble_eq_true rfl) ?_
            refine s_Mo_merge_109 rfl ?_
            refine s_Mo_merge_110 rfl ?_
            refine s_Mo_merge_111 ?_
            refine c_Mo_merge_112 (t_Mo_get eb (by omega) (k := 3) rfl (by decide)) hp_1000 rfl (Nat.le_of_ble_eq_true rfl) ?_
            refine s_Mo_merge_115 ?_
            refine s_Mo_merge_116 (fun c116 => ?_) (fun c116 => ?_)
            · skip
              refine s_Mo_merge_123 ?_
              refine s_Mo_merge_124 ?_
              refine s_Mo_merge_126 rfl ?_
              refine s_Mo_merge_127 rfl ?_
              refine s_Mo_merge_128 (fun c128 => absurd c128 (fun h => hne ((nI_eq (by omega) (by omega)).mp (ea.symm.trans (h.trans eb))))) (fun c128 => ?_)
              refine s_Mo_merge_131 rfl ?_
              refine s_Mo_merge_133 (fun c133 => absurd c133 (by decide)) (fun c133 => ?_)
              refine s_Mo_merge_136 rfl ?_
              refine s_Mo_merge_138 (fun c138 => ?_) (fun c138 => absurd c138 (by decide))
              refine s_Mo_merge_148 rfl ?_
              refine s_Mo_merge_149 rfl ?_
              refine s_Mo_merge_150 ?_
              refine s_Mo_merge_151 rfl ?_
              refine s_Mo_merge_153 (fun c153 => absurd c153 (by decide)) (fun c153 => ?_)
              refine s_Mo_merge_156 rfl ?_
              refine s_Mo_merge_157 rfl ?_
              refine s_Mo_merge_158 ?_
              refine c_Mo_merge_159 (t_Mo_get eb (by omega) (k := 1) rfl (by decide)) hp_1000 rfl (Nat.le_of_ble_eq_true rfl) ?_
              refine s_Mo_merge_162 ?_
              refine s_Mo_merge_171 rfl ?_
              refine s_Mo_merge_173 (fun c173 => ?_) (fun c173 => absurd c173 (by decide))
              refine s_Mo_merge_185 rfl ?_
              refine s_Mo_merge_186 rfl ?_
              refine s_Mo_merge_187 ?_
              refine c_Mo_merge_188 (t_Mo_get ea (by omega) (k := 2) rfl (by decide)) hp_1000 rfl (Nat.le_of_ble_eq_true rfl) ?_
              refine s_Mo_merge_191 rfl ?_
              refine s_Mo_merge_192 rfl ?_
              refine s_Mo_merge_193 ?_
              refine c_Mo_merge_194 (t_Mo_get ea (by omega) (k := 3) rfl (by decide)) hp_1000 rfl (Nat.le_of_ble_eq_true rfl) ?_
              refine s_Mo_merge_197 rfl ?_
              refine s_Mo_merge_198 rfl ?_
              refine s_Mo_merge_199 ?_
              refine c_Mo_merge_200 (t_Mo_get eb (by omega) (k := 3) rfl (by decide)) hp_1000 rfl (Nat.le_of_ble_eq_true rfl) ?_
              refine s_Mo_merge_203 ?_
              refine s_Mo_merge_204 ?_
              refine c_Mo_merge_205 (t_Mo_put ea (by omega)) hp_1000 rfl (Nat.le_of_ble_eq_true rfl) ?_
              refine s_Mo_merge_208 rfl ?_
              refine s_Mo_merge_209 rfl ?_
              refine c_Mo_merge_210 (t_Mo_clear eb (by omega)) hp_1000 rfl (Nat.le_of_ble_eq_true rfl) ?_
              refine s_Mo_merge_213 ?_
              exact s_Mo_merge_214 (by have hbh : ¬ mBh I a b := fun h => c37 h.2; have hbf : mBf I a b := ⟨c12, c63⟩; have hov : ¬ mOv I a b := fun h => c116 h.2.2; exact ⟨by rw [mMg, if_neg (fun h => h.elim hne (fun h => h.2.1 hbf))], by rw [mMg, if_neg (fun h => h.elim hne (fun h => h.2.1 hbf)), if_pos hbf, if_neg hbh]⟩) z0
            · skip
              refine s_Mo_merge_119 ?_
              refine s_Mo_merge_120 ?_
              refine s_Mo_merge_124 ?_
              refine s_Mo_merge_126 rfl ?_
              refine s_Mo_merge_127 rfl ?_
              refine s_Mo_merge_128 (fun c128 => absurd c128 (fun h => hne ((nI_eq (by omega) (by omega)).mp (ea.symm.trans (h.trans eb))))) (fun c128 => ?_)
              refine s_Mo_merge_131 rfl ?_
              refine s_Mo_merge_133 (fun c133 => absurd c133 (by decide)) (fun c133 => ?_)
              refine s_Mo_merge_136 rfl ?_
              refine s_Mo_merge_138 (fun c138 => ?_) (fun c138 => absurd c138 (by decide))
              refine s_Mo_merge_148 rfl ?_
              refine s_Mo_merge_149 rfl ?_
              refine s_Mo_merge_150 ?_
              refine s_Mo_merge_151 rfl ?_
              refine s_Mo_merge_153 (fun c153 => absurd c153 (by decide)) (fun c153 => ?_)
              refine s_Mo_merge_156 rfl ?_
              refine s_Mo_merge_157 rfl ?_
              refine s_Mo_merge_158 ?_
              refine c_Mo_merge_159 (t_Mo_get eb (by omega) (k := 1) rfl (by decide)) hp_1000 rfl (Nat.le_of_ble_eq_true rfl) ?_
              refine s_Mo_merge_162 ?_
              refine s_Mo_merge_171 rfl ?_
              refine s_Mo_merge_173 (fun c173 => ?_) (fun c173 => absurd c173 (by decide))
              refine s_Mo_merge_185 rfl ?_
              refine s_Mo_merge_186 rfl ?_
              refine s_Mo_merge_187 ?_
              refine c_Mo_merge_188 (t_Mo_get ea (by omega) (k := 2) rfl (by decide)) hp_1000 rfl (Nat.le_of_ble_eq_true rfl) ?_
              refine s_Mo_merge_191 rfl ?_
              refine s_Mo_merge_192 rfl ?_
              refine s_Mo_merge_193 ?_
              refine c_Mo_merge_194 (t_Mo_get ea (by omega) (k := 3) rfl (by decide)) hp_1000 rfl (Nat.le_of_ble_eq_true rfl) ?_
              refine s_Mo_merge_197 rfl ?_
              refine s_Mo_merge_198 rfl ?_
              refine s_Mo_merge_199 ?_
              refine c_Mo_merge_200 (t_Mo_get eb (by omega) (k := 3) rfl (by decide)) hp_1000 rfl (Nat.le_of_ble_eq_true rfl) ?_
              refine s_Mo_merge_203 ?_
              refine s_Mo_merge_204 ?_
              refine c_Mo_merge_205 (t_Mo_put ea (by omega)) hp_1000 rfl (Nat.le_of_ble_eq_true rfl) ?_
              refine s_Mo_merge_208 rfl ?_
              refine s_Mo_merge_209 rfl ?_
              refine c_Mo_merge_210 (t_Mo_clear eb (by omega)) hp_1000 rfl (Nat.le_of_ble_eq_true rfl) ?_
              refine s_Mo_merge_213 ?_
              exact s_Mo_merge_214 (by have hbh : ¬ mBh I a b := fun h => c37 h.2; have hbf : mBf I a b := ⟨c12, c63⟩; have hov : mOv I a b := ⟨c85, c100, c116⟩; exact ⟨by rw [mMg, if_neg (fun h => h.elim hne (fun h => h.2.1 hbf))], by rw [mMg, if_neg (fun h => h.elim hne (fun h => h.2.1 hbf)), if_pos hbf, if_neg hbh]⟩) z0
    · skip
      refine s_Mo_merge_40 ?_
      refine s_Mo_merge_41 ?_
      refine s_Mo_merge_45 ?_
      refine s_Mo_merge_47 rfl ?_
      refine s_Mo_merge_48 (fun c48 => absurd c48 (by decide)) (fun c48 => ?_)
      refine s_Mo_merge_51 rfl ?_
      refine s_Mo_merge_52 rfl ?_
      refine s_Mo_merge_53 ?_
      refine c_Mo_merge_54 (t_Mo_get ea (by omega) (k := 1) rfl (by decide)) hp_1000 rfl (Nat.le_of_ble_eq_true rfl) ?_
      refine s_Mo_merge_57 rfl ?_
      refine s_Mo_merge_58 rfl ?_
      refine s_Mo_merge_59 ?_
      refine c_Mo_merge_60 (t_Mo_get eb (by omega) (k := 2) rfl (by decide)) hp_1000 rfl (Nat.le_of_ble_eq_true rfl) ?_
      refine s_Mo_merge_63 (fun c63 => ?_) (fun c63 => ?_)
      · skip
        refine s_Mo_merge_70 ?_
        refine s_Mo_merge_71 ?_
        refine s_Mo_merge_73 rfl ?_
        refine s_Mo_merge_74 rfl ?_
        refine s_Mo_merge_75 ?_
        refine c_Mo_merge_76 (t_Mo_get ea (by omega) (k := 1) rfl (by decide)) hp_1000 rfl (Nat.le_of_ble_eq_true rfl) ?_
        refine s_Mo_merge_79 rfl ?_
        refine s_Mo_merge_80 rfl ?_
        refine s_Mo_merge_81 ?_
        refine c_Mo_merge_82 (t_Mo_get eb (by omega) (k := 1) rfl (by decide)) hp_1000 rfl (Nat.le_of_ble_eq_true rfl) ?_
        refine s_Mo_merge_85 (fun c85 => ?_) (fun c85 => ?_)
        · skip
          refine s_Mo_merge_123 ?_
          refine s_Mo_merge_124 ?_
          refine s_Mo_merge_126 rfl ?_
          refine s_Mo_merge_127 rfl ?_
          refine s_Mo_merge_128 (fun c128 => absurd c128 (fun h => hne ((nI_eq (by omega) (by omega)).mp (ea.symm.trans (h.trans eb))))) (fun c128 => ?_)
          refine s_Mo_merge_131 rfl ?_
          refine s_Mo_merge_133 (fun c133 => ?_) (fun c133 => absurd c133 (by decide))
          refine s_Mo_merge_148 rfl ?_
          refine s_Mo_merge_149 rfl ?_
          refine s_Mo_merge_150 ?_
          refine s_Mo_merge_151 rfl ?_
          refine s_Mo_merge_153 (fun c153 => ?_) (fun c153 => absurd c153 (by decide))
          refine s_Mo_merge_165 rfl ?_
          refine s_Mo_merge_166 rfl ?_
          refine s_Mo_merge_167 ?_
          refine c_Mo_merge_168 (t_Mo_get ea (by omega) (k := 1) rfl (by decide)) hp_1000 rfl (Nat.le_of_ble_eq_true rfl) ?_
          refine s_Mo_merge_171 rfl ?_
          refine s_Mo_merge_173 (fun c173 => absurd c173 (by decide)) (fun c173 => ?_)
          refine s_Mo_merge_176 rfl ?_
          refine s_Mo_merge_177 rfl ?_
          refine s_Mo_merge_178 ?_
          refine c_Mo_merge_179 (t_Mo_get eb (by omega) (k := 2) rfl (by decide)) hp_1000 rfl (Nat.le_of_ble_eq_true rfl) ?_
          refine s_Mo_merge_182 ?_
          refine s_Mo_merge_191 rfl ?_
          refine s_Mo_merge_192 rfl ?_
          refine s_Mo_merge_193 ?_
          refine c_Mo_merge_194 (t_Mo_get ea (by omega) (k := 3) rfl (by decide)) hp_1000 rfl (Nat.le_of_ble_eq_true rfl) ?_
          refine s_Mo_merge_197 rfl ?_
          refine s_Mo_merge_198 rfl ?_
          refine s_Mo_merge_199 ?_
          refine c_Mo_merge_200 (t_Mo_get eb (by omega) (k := 3) rfl (by decide)) hp_1000 rfl (Nat.le_of_ble_eq_true rfl) ?_
          refine s_Mo_merge_203 ?_
          refine s_Mo_merge_204 ?_
          refine c_Mo_merge_205 (t_Mo_put ea (by omega)) hp_1000 rfl (Nat.le_of_ble_eq_true rfl) ?_
          refine s_Mo_merge_208 rfl ?_
          refine s_Mo_merge_209 rfl ?_
          refine c_Mo_merge_210 (t_Mo_clear eb (by omega)) hp_1000 rfl (Nat.le_of_ble_eq_true rfl) ?_
          refine s_Mo_merge_213 ?_
          exact s_Mo_merge_214 (by have hbh : mBh I a b := ⟨c12, c37⟩; have hbf : ¬ mBf I a b := fun h => c63 h.2; have hov : ¬ mOv I a b := fun h => c85 h.1; exact ⟨by rw [mMg, if_neg (fun h => h.elim hne (fun h => h.1 hbh))], by rw [mMg, if_neg (fun h => h.elim hne (fun h => h.1 hbh)), if_neg hbf, if_pos hbh]⟩) z0
        · skip
          refine s_Mo_merge_88 rfl ?_
          refine s_Mo_merge_89 rfl ?_
          refine s_Mo_merge_90 ?_
          refine c_Mo_merge_91 (t_Mo_get ea (by omega) (k := 2) rfl (by decide)) hp_1000 rfl (Nat.le_of_ble_eq_true rfl) ?_
          refine s_Mo_merge_94 rfl ?_
          refine s_Mo_merge_95 rfl ?_
          refine s_Mo_merge_96 ?_
          refine c_Mo_merge_97 (t_Mo_get eb (by omega) (k := 2) rfl (by decide)) hp_1000 rfl (Nat.le_of_ble_eq_true rfl) ?_
          refine s_Mo_merge_100 (fun c100 => ?_) (fun c100 => ?_)
          · skip
            refine s_Mo_merge_123 ?_
            refine s_Mo_merge_124 ?_
            refine s_Mo_merge_126 rfl ?_
            refine s_Mo_merge_127 rfl ?_
            refine s_Mo_merge_128 (fun c128 => absurd c128 (fun h => hne ((nI_eq (by omega) (by omega)).mp (ea.symm.trans (h.trans eb))))) (fun c128 => ?_)
            refine s_Mo_merge_131 rfl ?_
            refine s_Mo_merge_133 (fun c133 => ?_) (fun c133 => absurd c133 (by decide))
            refine s_Mo_merge_148 rfl ?_
            refine s_Mo_merge_149 rfl ?_
            refine s_Mo_merge_150 ?_
            refine s_Mo_merge_151 rfl ?_
            refine s_Mo_merge_153 (fun c153 => ?_) (fun c153 => absurd c153 (by decide))
            refine s_Mo_merge_165 rfl ?_
            refine s_Mo_merge_166 rfl ?_
            refine s_Mo_merge_167 ?_
            refine c_Mo_merge_168 (t_Mo_get ea (by omega) (k := 1) rfl (by decide)) hp_1000 rfl (Nat.le_of_ble_eq_true rfl) ?_
            refine s_Mo_merge_171 rfl ?_
            refine s_Mo_merge_173 (fun c173 => absurd c173 (by decide)) (fun c173 => ?_)
            refine s_Mo_merge_176 rfl ?_
            refine s_Mo_merge_177 rfl ?_
            refine s_Mo_merge_178 ?_
            refine c_Mo_merge_179 (t_Mo_get eb (by omega) (k := 2) rfl (by decide)) hp_1000 rfl (Nat.le_of_ble_eq_true rfl) ?_
            refine s_Mo_merge_182 ?_
            refine s_Mo_merge_191 rfl ?_
            refine s_Mo_merge_192 rfl ?_
            refine s_Mo_merge_193 ?_
            refine c_Mo_merge_194 (t_Mo_get ea (by omega) (k := 3) rfl (by decide)) hp_1000 rfl (Nat.le_of_ble_eq_true rfl) ?_
            refine s_Mo_merge_197 rfl ?_
            refine s_Mo_merge_198 rfl ?_
            refine s_Mo_merge_199 ?_
            refine c_Mo_merge_200 (t_Mo_get eb (by omega) (k := 3) rfl (by decide)) hp_1000 rfl (Nat.le_of_ble_eq_true rfl) ?_
            refine s_Mo_merge_203 ?_
            refine s_Mo_merge_204 ?_
            refine c_Mo_merge_205 (t_Mo_put ea (by omega)) hp_1000 rfl (Nat.le_of_ble_eq_true rfl) ?_
            refine s_Mo_merge_208 rfl ?_
            refine s_Mo_merge_209 rfl ?_
            refine c_Mo_merge_210 (t_Mo_clear eb (by omega)) hp_1000 rfl (Nat.le_of_ble_eq_true rfl) ?_
            refine s_Mo_merge_213 ?_
            exact s_Mo_merge_214 (by have hbh : mBh I a b := ⟨c12, c37⟩; have hbf : ¬ mBf I a b := fun h => c63 h.2; have hov : ¬ mOv I a b := fun h => c100 h.2.1; exact ⟨by rw [mMg, if_neg (fun h => h.elim hne (fun h => h.1 hbh))], by rw [mMg, if_neg (fun h => h.elim hne (fun h => h.1 hbh)), if_neg hbf, if_pos hbh]⟩) z0
          · skip
            refine s_Mo_merge_103 rfl ?_
            refine s_Mo_merge_104 rfl ?_
            refine s_Mo_merge_105 ?_
            refine c_Mo_merge_106 (t_Mo_get ea (by omega) (k := 3) rfl (by decide)) hp_1000 rfl (Nat.le_of_ble_eq_true rfl) ?_
            refine s_Mo_merge_109 rfl ?_
            refine s_Mo_merge_110 rfl ?_
            refine s_Mo_merge_111 ?_
            refine c_Mo_merge_112 (t_Mo_get eb (by omega) (k := 3) rfl (by decide)) hp_1000 rfl (Nat.le_of_ble_eq_true rfl) ?_
            refine s_Mo_merge_115 ?_
            refine s_Mo_merge_116 (fun c116 => ?_) (fun c116 => ?_)
            · skip
              refine s_Mo_merge_123 ?_
              refine s_Mo_merge_124 ?_
              refine s_Mo_merge_126 rfl ?_
              refine s_Mo_merge_127 rfl ?_
              refine s_Mo_merge_128 (fun c128 => absurd c128 (fun h => hne ((nI_eq (by omega) (by omega)).mp (ea.symm.trans (h.trans eb))))) (fun c128 => ?_)
              refine s_Mo_merge_131 rfl ?_
              refine s_Mo_merge_133 (fun c133 => ?_) (fun c133 => absurd c133 (by decide))
              refine s_Mo_merge_148 rfl ?_
              refine s_Mo_merge_149 rfl ?_
              refine s_Mo_merge_150 ?_
              refine s_Mo_merge_151 rfl ?_
              refine s_Mo_merge_153 (fun c153 => ?_) (fun c153 => absurd c153 (by decide))
              refine s_Mo_merge_165 rfl ?_
              refine s_Mo_merge_166 rfl ?_
              refine s_Mo_merge_167 ?_
              refine c_Mo_merge_168 (t_Mo_get ea (by omega) (k := 1) rfl (by decide)) hp_1000 rfl (Nat.le_of_ble_eq_true rfl) ?_
              refine s_Mo_merge_171 rfl ?_
              refine s_Mo_merge_173 (fun c173 => absurd c173 (by decide)) (fun c173 => ?_)
              refine s_Mo_merge_176 rfl ?_
              refine s_Mo_merge_177 rfl ?_
              refine s_Mo_merge_178 ?_
              refine c_Mo_merge_179 (t_Mo_get eb (by omega) (k := 2) rfl (by decide)) hp_1000 rfl (Nat.le_of_ble_eq_true rfl) ?_
              refine s_Mo_merge_182 ?_
              refine s_Mo_merge_191 rfl ?_
              refine s_Mo_merge_192 rfl ?_
              refine s_Mo_merge_193 ?_
              refine c_Mo_merge_194 (t_Mo_get ea (by omega) (k := 3) rfl (by decide)) hp_1000 rfl (Nat.le_of_ble_eq_true rfl) ?_
              refine s_Mo_merge_197 rfl ?_
              refine s_Mo_merge_198 rfl ?_
              refine s_Mo_merge_199 ?_
              refine c_Mo_merge_200 (t_Mo_get eb (by omega) (k := 3) rfl (by decide)) hp_1000 rfl (Nat.le_of_ble_eq_true rfl) ?_
              refine s_Mo_merge_203 ?_
              refine s_Mo_merge_204 ?_
              refine c_Mo_merge_205 (t_Mo_put ea (by omega)) hp_1000 rfl (Nat.le_of_ble_eq_true rfl) ?_
              refine s_Mo_merge_208 rfl ?_
              refine s_Mo_merge_209 rfl ?_
              refine c_Mo_merge_210 (t_Mo_clear eb (by omega)) hp_1000 rfl (Nat.le_of_ble_eq_true rfl) ?_
              refine s_Mo_merge_213 ?_
              exact s_Mo_merge_214 (by have hbh : mBh I a b := ⟨c12, c37⟩; have hbf : ¬ mBf I a b := fun h => c63 h.2; have hov : ¬ mOv I a b := fun h => c116 h.2.2; exact ⟨by rw [mMg, if_neg (fun h => h.elim hne (fun h => h.1 hbh))], by rw [mMg, if_neg (fun h => h.elim hne (fun h => h.1 hbh)), if_neg hbf, if_pos hbh]⟩) z0
            · skip
              refine s_Mo_merge_119 ?_
              refine s_Mo_merge_120 ?_
              refine s_Mo_merge_124 ?_
              refine s_Mo_merge_126 rfl ?_
              refine s_Mo_merge_127 rfl ?_
              refine s_Mo_merge_128 (fun c128 => absurd c128 (fun h => hne ((nI_eq (by omega) (by omega)).mp (ea.symm.trans (h.trans eb))))) (fun c128 => ?_)
              refine s_Mo_merge_131 rfl ?_
              refine s_Mo_merge_133 (fun c133 => ?_) (fun c133 => absurd c133 (by decide))
              refine s_Mo_merge_148 rfl ?_
              refine s_Mo_merge_149 rfl ?_
              refine s_Mo_merge_150 ?_
              refine s_Mo_merge_151 rfl ?_
              refine s_Mo_merge_153 (fun c153 => ?_) (fun c153 => absurd c153 (by decide))
              refine s_Mo_merge_165 rfl ?_
              refine s_Mo_merge_166 rfl ?_
              refine s_Mo_merge_167 ?_
              refine c_Mo_merge_168 (t_Mo_get ea (by omega) (k := 1) rfl (by decide)) hp_1000 rfl (Nat.le_of_ble_eq_true rfl) ?_
              refine s_Mo_merge_171 rfl ?_
              refine s_Mo_merge_173 (fun c173 => absurd c173 (by decide)) (fun c173 => ?_)
              refine s_Mo_merge_176 rfl ?_
              refine s_Mo_merge_177 rfl ?_
              refine s_Mo_merge_178 ?_
              refine c_Mo_merge_179 (t_Mo_get eb (by omega) (k := 2) rfl (by decide)) hp_1000 rfl (Nat.le_of_ble_eq_true rfl) ?_
              refine s_Mo_merge_182 ?_
              refine s_Mo_merge_191 rfl ?_
              refine s_Mo_merge_192 rfl ?_
              refine s_Mo_merge_193 ?_
              refine c_Mo_merge_194 (t_Mo_get ea (by omega) (k := 3) rfl (by decide)) hp_1000 rfl (Nat.le_of_ble_eq_true rfl) ?_
              refine s_Mo_merge_197 rfl ?_
              refine s_Mo_merge_198 rfl ?_
              refine s_Mo_merge_199 ?_
              refine c_Mo_merge_200 (t_Mo_get eb (by omega) (k := 3) rfl (by decide)) hp_1000 rfl (Nat.le_of_ble_eq_true rfl) ?_
              refine s_Mo_merge_203 ?_
              refine s_Mo_merge_204 ?_
              refine c_Mo_merge_205 (t_Mo_put ea (by omega)) hp_1000 rfl (Nat.le_of_ble_eq_true rfl) ?_
              refine s_Mo_merge_208 rfl ?_
              refine s_Mo_merge_209 rfl ?_
              refine c_Mo_merge_210 (t_Mo_clear eb (by omega)) hp_1000 rfl (Nat.le_of_ble_eq_true rfl) ?_
              refine s_Mo_merge_213 ?_
              exact s_Mo_merge_214 (by have hbh : mBh I a b := ⟨c12, c37⟩; have hbf : ¬ mBf I a b := fun h => c63 h.2; have hov : mOv I a b := ⟨c85, c100, c116⟩; exact ⟨by rw [mMg, if_neg (fun h => h.elim hne (fun h => h.1 hbh))], by rw [mMg, if_neg (fun h => h.elim hne (fun h => h.1 hbh)), if_neg hbf, if_pos hbh]⟩) z0
      · skip
        refine s_Mo_merge_66 ?_
        refine s_Mo_merge_67 ?_
        refine s_Mo_merge_71 ?_
        refine s_Mo_merge_73 rfl ?_
        refine s_Mo_merge_74 rfl ?_
        refine s_Mo_merge_75 ?_
        refine c_Mo_merge_76 (t_Mo_get ea (by omega) (k := 1) rfl (by decide)) hp_1000 rfl (Nat.le_of_ble_eq_true rfl) ?_
        refine s_Mo_merge_79 rfl ?_
        refine s_Mo_merge_80 rfl ?_
        refine s_Mo_merge_81 ?_
        refine c_Mo_merge_82 (t_Mo_get eb (by omega) (k := 1) rfl (by decide)) hp_1000 rfl (Nat.le_of_ble_eq_true rfl) ?_
        refine s_Mo_merge_85 (fun c85 => ?_) (fun c85 => ?_)
        · skip
          refine s_Mo_merge_123 ?_
          refine s_Mo_merge_124 ?_
          refine s_Mo_merge_126 rfl ?_
          refine s_Mo_merge_127 rfl ?_
          refine s_Mo_merge_128 (fun c128 => absurd c128 (fun h => hne ((nI_eq (by omega) (by omega)).mp (ea.symm.trans (h.trans eb))))) (fun c128 => ?_)
          refine s_Mo_merge_131 rfl ?_
          refine s_Mo_merge_133 (fun c133 => ?_) (fun c133 => absurd c133 (by decide))
          refine s_Mo_merge_148 rfl ?_
          refine s_Mo_merge_149 rfl ?_
          refine s_Mo_merge_150 ?_
          refine s_Mo_merge_151 rfl ?_
          refine s_Mo_merge_153 (fun c153 => absurd c153 (by decide)) (fun c153 => ?_)
          refine s_Mo_merge_156 rfl ?_
          refine s_Mo_merge_157 rfl ?_
          refine s_Mo_merge_158 ?_
          refine c_Mo_merge_159 (t_Mo_get eb (by omega) (k := 1) rfl (by decide)) hp_1000 rfl (Nat.le_of_ble_eq_true rfl) ?_
          refine s_Mo_merge_162 ?_
          refine s_Mo_merge_171 rfl ?_
          refine s_Mo_merge_173 (fun c173 => absurd c173 (by decide)) (fun c173 => ?_)
          refine s_Mo_merge_176 rfl ?_
          refine s_Mo_merge_177 rfl ?_
          refine s_Mo_merge_178 ?_
          refine c_Mo_merge_179 (t_Mo_get eb (by omega) (k := 2) rfl (by decide)) hp_1000 rfl (Nat.le_of_ble_eq_true rfl) ?_
          refine s_Mo_merge_182 ?_
          refine s_Mo_merge_191 rfl ?_
          refine s_Mo_merge_192 rfl ?_
          refine s_Mo_merge_193 ?_
          refine c_Mo_merge_194 (t_Mo_get ea (by omega) (k := 3) rfl (by decide)) hp_1000 rfl (Nat.le_of_ble_eq_true rfl) ?_
          refine s_Mo_merge_197 rfl ?_
          refine s_Mo_merge_198 rfl ?_
          refine s_Mo_merge_199 ?_
          refine c_Mo_merge_200 (t_Mo_get eb (by omega) (k := 3) rfl (by decide)) hp_1000 rfl (Nat.le_of_ble_eq_true rfl) ?_
          refine s_Mo_merge_203 ?_
          refine s_Mo_merge_204 ?_
          refine c_Mo_merge_205 (t_Mo_put ea (by omega)) hp_1000 rfl (Nat.le_of_ble_eq_true rfl) ?_
          refine s_Mo_merge_208 rfl ?_
          refine s_Mo_merge_209 rfl ?_
          refine c_Mo_merge_210 (t_Mo_clear eb (by omega)) hp_1000 rfl (Nat.le_of_ble_eq_true rfl) ?_
          refine s_Mo_merge_213 ?_
          exact s_Mo_merge_214 (by have hbh : mBh I a b := ⟨c12, c37⟩; have hbf : mBf I a b := ⟨c12, c63⟩; have hov : ¬ mOv I a b := fun h => c85 h.1; exact ⟨by rw [mMg, if_neg (fun h => h.elim hne (fun h => h.1 hbh))], by rw [mMg, if_neg (fun h => h.elim hne (fun h => h.1 hbh)), if_pos hbf, if_pos hbh]⟩) z0
        · skip
          refine s_Mo_merge_88 rfl ?_
          refine s_Mo_merge_89 rfl ?_
          refine s_Mo_merge_90 ?_
          refine c_Mo_merge_91 (t_Mo_get ea (by omega) (k := 2) rfl (by decide)) hp_1000 rfl (Nat.le_of_ble_eq_true rfl) ?_
          refine s_Mo_merge_94 rfl ?_
          refine s_Mo_merge_95 rfl ?_
          refine s_Mo_merge_96 ?_
          refine c_Mo_merge_97 (t_Mo_get eb (by omega) (k := 2) rfl (by decide)) hp_1000 rfl (Nat.le_of_ble_eq_true rfl) ?_
          refine s_Mo_merge_100 (fun c100 => ?_) (fun c100 => ?_)
          · skip
            refine s_Mo_merge_123 ?_
            refine s_Mo_merge_124 ?_
            refine s_Mo_merge_126 rfl ?_
            refine s_Mo_merge_127 rfl ?_
            refine s_Mo_merge_128 (fun c128 => absurd c128 (fun h => hne ((nI_eq (by omega) (by omega)).mp (ea.symm.trans (h.trans eb))))) (fun c128 => ?_)
            refine s_Mo_merge_131 rfl ?_
            refine s_Mo_merge_133 (fun c133 => ?_) (fun c133 => absurd c133 (by decide))
            refine s_Mo_merge_148 rfl ?_
            refine s_Mo_merge_149 rfl ?_
            refine s_Mo_merge_150 ?_
            refine s_Mo_merge_151 rfl ?_
            refine s_Mo_merge_153 (fun c153 => absurd c153 (by decide)) (fun c153 => ?_)
            refine s_Mo_merge_156 rfl ?_
            refine s_Mo_merge_157 rfl ?_
            refine s_Mo_merge_158 ?_
            refine c_Mo_merge_159 (t_Mo_get eb (by omega) (k := 1) rfl (by decide)) hp_1000 rfl (Nat.le_of_ble_eq_true rfl) ?_
            refine s_Mo_merge_162 ?_
            refine s_Mo_merge_171 rfl ?_
            refine s_Mo_merge_173 (fun c173 => absurd c173 (by decide)) (fun c173 => ?_)
            refine s_Mo_merge_176 rfl ?_
            refine s_Mo_merge_177 rfl ?_
            refine s_Mo_merge_178 ?_
            refine c_Mo_merge_179 (t_Mo_get eb (by omega) (k := 2) rfl (by decide)) hp_1000 rfl (Nat.le_of_ble_eq_true rfl) ?_
            refine s_Mo_merge_182 ?_
            refine s_Mo_merge_191 rfl ?_
            refine s_Mo_merge_192 rfl ?_
            refine s_Mo_merge_193 ?_
            refine c_Mo_merge_194 (t_Mo_get ea (by omega) (k := 3) rfl (by decide)) hp_1000 rfl (Nat.le_of_ble_eq_true rfl) ?_
            refine s_Mo_merge_197 rfl ?_
            refine s_Mo_merge_198 rfl ?_
            refine s_Mo_merge_199 ?_
            refine c_Mo_merge_200 (t_Mo_get eb (by omega) (k := 3) rfl (by decide)) hp_1000 rfl (Nat.le_of_ble_eq_true rfl) ?_
            refine s_Mo_merge_203 ?_
            refine s_Mo_merge_204 ?_
            refine c_Mo_merge_205 (t_Mo_put ea (by omega)) hp_1000 rfl (Nat.le_of_ble_eq_true rfl) ?_
            refine s_Mo_merge_208 rfl ?_
            refine s_Mo_merge_209 rfl ?_
            refine c_Mo_merge_210 (t_Mo_clear eb (by omega)) hp_1000 rfl (Nat.le_of_ble_eq_true rfl) ?_
            refine s_Mo_merge_213 ?_
            exact s_Mo_merge_214 (by have hbh : mBh I a b := ⟨c12, c37⟩; have hbf : mBf I a b := ⟨c12, c63⟩; have hov : ¬ mOv I a b := fun h => c100 h.2.1; exact ⟨by rw [mMg, if_neg (fun h => h.elim hne (fun h => h.1 hbh))], by rw [mMg, if_neg (fun h => h.elim hne (fun h => h.1 hbh)), if_pos hbf, if_pos hbh]⟩) z0
          · skip
            refine s_Mo_merge_103 rfl ?_
            refine s_Mo_merge_104 rfl ?_
            refine s_Mo_merge_105 ?_
            refine c_Mo_merge_106 (t_Mo_get ea (by omega) (k := 3) rfl (by decide)) hp_1000 rfl (Nat.le_of_ble_eq_true rfl) ?_
            refine s_Mo_merge_109 rfl ?_
            refine s_Mo_merge_110 rfl ?_
            refine s_Mo_merge_111 ?_
            refine c_Mo_merge_112 (t_Mo_get eb (by omega) (k := 3) rfl (by decide)) hp_1000 rfl (Nat.le_of_ble_eq_true rfl) ?_
            refine s_Mo_merge_115 ?_
            refine s_Mo_merge_116 (fun c116 => ?_) (fun c116 => ?_)
            · skip
              refine s_Mo_merge_123 ?_
              refine s_Mo_merge_124 ?_
              refine s_Mo_merge_126 rfl ?_
              refine s_Mo_merge_127 rfl ?_
              refine s_Mo_merge_128 (fun c128 => absurd c128 (fun h => hne ((nI_eq (by omega) (by omega)).mp (ea.symm.trans (h.trans eb))))) (fun c128 => ?_)
              refine s_Mo_merge_131 rfl ?_
              refine s_Mo_merge_133 (fun c133 => ?_) (fun c133 => absurd c133 (by decide))
              refine s_Mo_merge_148 rfl ?_
              refine s_Mo_merge_149 rfl ?_
              refine s_Mo_merge_150 ?_
              refine s_Mo_merge_151 rfl ?_
              refine s_Mo_merge_153 (fun c153 => absurd c153 (by decide)) (fun c153 => ?_)
              refine s_Mo_merge_156 rfl ?_
              refine s_Mo_merge_157 rfl ?_
              refine s_Mo_merge_158 ?_
              refine c_Mo_merge_159 (t_Mo_get eb (by omega) (k := 1) rfl (by decide)) hp_1000 rfl (Nat.le_of_ble_eq_true rfl) ?_
              refine s_Mo_merge_162 ?_
              refine s_Mo_merge_171 rfl ?_
              refine s_Mo_merge_173 (fun c173 => absurd c173 (by decide)) (fun c173 => ?_)
              refine s_Mo_merge_176 rfl ?_
              refine s_Mo_merge_177 rfl ?_
              refine s_Mo_merge_178 ?_
              refine c_Mo_merge_179 (t_Mo_get eb (by omega) (k := 2) rfl (by decide)) hp_1000 rfl (Nat.le_of_ble_eq_true rfl) ?_
              refine s_Mo_merge_182 ?_
              refine s_Mo_merge_191 rfl ?_
              refine s_Mo_merge_192 rfl ?_
              refine s_Mo_merge_193 ?_
              refine c_Mo_merge_194 (t_Mo_get ea (by omega) (k := 3) rfl (by decide)) hp_1000 rfl (Nat.le_of_ble_eq_true rfl) ?_
              refine s_Mo_merge_197 rfl ?_
              refine s_Mo_merge_198 rfl ?_
              refine s_Mo_merge_199 ?_
              refine c_Mo_merge_200 (t_Mo_get eb (by omega) (k := 3) rfl (by decide)) hp_1000 rfl (Nat.le_of_ble_eq_true rfl) ?_
              refine s_Mo_merge_203 ?_
              refine s_Mo_merge_204 ?_
              refine c_Mo_merge_205 (t_Mo_put ea (by omega)) hp_1000 rfl (Nat.le_of_ble_eq_true rfl) ?_
              refine s_Mo_merge_208 rfl ?_
              refine s_Mo_merge_209 rfl ?_
              refine c_Mo_merge_210 (t_Mo_clear eb (by omega)) hp_1000 rfl (Nat.le_of_ble_eq_true rfl) ?_
              refine s_Mo_merge_213 ?_
              exact s_Mo_merge_214 (by have hbh : mBh I a b := ⟨c12, c37⟩; have hbf : mBf I a b := ⟨c12, c63⟩; have hov : ¬ mOv I a b := fun h => c116 h.2.2; exact ⟨by rw [mMg, if_neg (fun h => h.elim hne (fun h => h.1 hbh))], by rw [mMg, if_neg (fun h => h.elim hne (fun h => h.1 hbh)), if_pos hbf, if_pos hbh]⟩) z0
            · skip
              refine s_Mo_merge_119 ?_
              refine s_Mo_merge_120 ?_
              refine s_Mo_merge_124 ?_
              refine s_Mo_merge_126 rfl ?_
              refine s_Mo_merge_127 rfl ?_
              refine s_Mo_merge_128 (fun c128 => absurd c128 (fun h => hne ((nI_eq (by omega) (by omega)).mp (ea.symm.trans (h.trans eb))))) (fun c128 => ?_)
              refine s_Mo_merge_131 rfl ?_
              refine s_Mo_merge_133 (fun c133 => ?_) (fun c133 => absurd c133 (by decide))
              refine s_Mo_merge_148 rfl ?_
              refine s_Mo_merge_149 rfl ?_
              refine s_Mo_merge_150 ?_
              refine s_Mo_merge_151 rfl ?_
              refine s_Mo_merge_153 (fun c153 => absurd c153 (by decide)) (fun c153 => ?_)
              refine s_Mo_merge_156 rfl ?_
              refine s_Mo_merge_157 rfl ?_
              refine s_Mo_merge_158 ?_
              refine c_Mo_merge_159 (t_Mo_get eb (by omega) (k := 1) rfl (by decide)) hp_1000 rfl (Nat.le_of_ble_eq_true rfl) ?_
              refine s_Mo_merge_162 ?_
              refine s_Mo_merge_171 rfl ?_
              refine s_Mo_merge_173 (fun c173 => absurd c173 (by decide)) (fun c173 => ?_)
              refine s_Mo_merge_176 rfl ?_
              refine s_Mo_merge_177 rfl ?_
              refine s_Mo_merge_178 ?_
              refine c_Mo_merge_179 (t_Mo_get eb (by omega) (k := 2) rfl (by decide)) hp_1000 rfl (Nat.le_of_ble_eq_true rfl) ?_
              refine s_Mo_merge_182 ?_
              refine s_Mo_merge_191 rfl ?_
              refine s_Mo_merge_192 rfl ?_
              refine s_Mo_merge_193 ?_
              refine c_Mo_merge_194 (t_Mo_get ea (by omega) (k := 3) rfl (by decide)) hp_1000 rfl (Nat.le_of_ble_eq_true rfl) ?_
              refine s_Mo_merge_197 rfl ?_
              refine s_Mo_merge_198 rfl ?_
              refine s_Mo_merge_199 ?_
              refine c_Mo_merge_200 (t_Mo_get eb (by omega) (k := 3) rfl (by decide)) hp_1000 rfl (Nat.le_of_ble_eq_true rfl) ?_
              refine s_Mo_merge_203 ?_
              refine s_Mo_merge_204 ?_
              refine c_Mo_merge_205 (t_Mo_put ea (by omega)) hp_1000 rfl (Nat.le_of_ble_eq_true rfl) ?_
              refine s_Mo_merge_208 rfl ?_
              refine s_Mo_merge_209 rfl ?_
              refine c_Mo_merge_210 (t_Mo_clear eb (by omega)) hp_1000 rfl (Nat.le_of_ble_eq_true rfl) ?_
              refine s_Mo_merge_213 ?_
              exact s_Mo_merge_214 (by have hbh : mBh I a b := ⟨c12, c37⟩; have hbf : mBf I a b := ⟨c12, c63⟩; have hov : mOv I a b := ⟨c85, c100, c116⟩; exact ⟨by rw [mMg, if_neg (fun h => h.elim hne (fun h => h.1 hbh))], by rw [mMg, if_neg (fun h => h.elim hne (fun h => h.1 hbh)), if_pos hbf, if_pos hbh]⟩) z0
set_option maxRecDepth 100000 in
theorem t_merge_s {G : GW} {L : LT} {I : IT} {r : Nat} {p : Int32} {a : Nat} (ea : p = nI a) (ha : a < 8) : mt G M_Mo_merge 2 0 0 [.ref 1000, .int p, .int p] (hp L I r) (dt (some (.int (mMg I a a).1)) (hp L (mMg I a a).2 r)) := by
  refine mt_of_ev (by decide) (Nat.le_of_ble_eq_true rfl) ?_
  show ev G M_Mo_merge (rmv 2 0 0) (Er M_Mo_merge _ 0 0) 0 [(0, .ref 1000), (1, .int p), (2, .int p)] [] (hp L I r) 0 0
  refine s_Mo_merge_0 rfl ?_
  refine s_Mo_merge_1 rfl ?_
  refine s_Mo_merge_2 ?_
  refine c_Mo_merge_3 (t_Mo_get ea (by omega) (k := 3) rfl (by decide)) hp_1000 rfl (Nat.le_of_ble_eq_true rfl) ?_
  refine s_Mo_merge_6 rfl ?_
  refine s_Mo_merge_7 rfl ?_
  refine s_Mo_merge_8 ?_
  refine c_Mo_merge_9 (t_Mo_get ea (by omega) (k := 3) rfl (by decide)) hp_1000 rfl (Nat.le_of_ble_eq_true rfl) ?_
  refine s_Mo_merge_12 (fun c12 => absurd c12 (fun h => h rfl)) (fun c12 => ?_)
  refine s_Mo_merge_15 ?_
  refine s_Mo_merge_16 ?_
  refine s_Mo_merge_20 ?_
  refine s_Mo_merge_21 rfl ?_
  refine s_Mo_merge_22 (fun c22 => absurd c22 (by decide)) (fun c22 => ?_)
  refine s_Mo_merge_25 rfl ?_
  refine s_Mo_merge_26 rfl ?_
  refine s_Mo_merge_27 ?_
  refine c_Mo_merge_28 (t_Mo_get ea (by omega) (k := 1) rfl (by decide)) hp_1000 rfl (Nat.le_of_ble_eq_true rfl) ?_
  refine s_Mo_merge_31 rfl ?_
  refine s_Mo_merge_32 rfl ?_
  refine s_Mo_merge_33 ?_
  refine c_Mo_merge_34 (t_Mo_get ea (by omega) (k := 2) rfl (by decide)) hp_1000 rfl (Nat.le_of_ble_eq_true rfl) ?_
  refine s_Mo_merge_37 (fun c37 => ?_) (fun c37 => ?_)
  · skip
    refine s_Mo_merge_44 ?_
    refine s_Mo_merge_45 ?_
    refine s_Mo_merge_47 rfl ?_
    refine s_Mo_merge_48 (fun c48 => absurd c48 (by decide)) (fun c48 => ?_)
    refine s_Mo_merge_51 rfl ?_
    refine s_Mo_merge_52 rfl ?_
    refine s_Mo_merge_53 ?_
    refine c_Mo_merge_54 (t_Mo_get ea (by omega) (k := 1) rfl (by decide)) hp_1000 rfl (Nat.le_of_ble_eq_true rfl) ?_
    refine s_Mo_merge_57 rfl ?_
    refine s_Mo_merge_58 rfl ?_
    refine s_Mo_merge_59 ?_
    refine c_Mo_merge_60 (t_Mo_get ea (by omega) (k := 2) rfl (by decide)) hp_1000 rfl (Nat.le_of_ble_eq_true rfl) ?_
    refine s_Mo_merge_63 (fun c63 => ?_) (fun c63 => ?_)
    · skip
      refine s_Mo_merge_70 ?_
      refine s_Mo_merge_71 ?_
      refine s_Mo_merge_73 rfl ?_
      refine s_Mo_merge_74 rfl ?_
      refine s_Mo_merge_75 ?_
      refine c_Mo_merge_76 (t_Mo_get ea (by omega) (k := 1) rfl (by decide)) hp_1000 rfl (Nat.le_of_ble_eq_true rfl) ?_
      refine s_Mo_merge_79 rfl ?_
      refine s_Mo_merge_80 rfl ?_
      refine s_Mo_merge_81 ?_
      refine c_Mo_merge_82 (t_Mo_get ea (by omega) (k := 1) rfl (by decide)) hp_1000 rfl (Nat.le_of_ble_eq_true rfl) ?_
      refine s_Mo_merge_85 (fun c85 => absurd c85 (fun h => h rfl)) (fun c85 => ?_)
      refine s_Mo_merge_88 rfl ?_
      refine s_Mo_merge_89 rfl ?_
      refine s_Mo_merge_90 ?_
      refine c_Mo_merge_91 (t_Mo_get ea (by omega) (k := 2) rfl (by decide)) hp_1000 rfl (Nat.le_of_ble_eq_true rfl) ?_
      refine s_Mo_merge_94 rfl ?_
      refine s_Mo_merge_95 rfl ?_
      refine s_Mo_merge_96 ?_
      refine c_Mo_merge_97 (t_Mo_get ea (by omega) (k := 2) rfl (by decide)) hp_1000 rfl (Nat.le_of_ble_eq_true rfl) ?_
      refine s_Mo_merge_100 (fun c100 => absurd c100 (fun h => h rfl)) (fun c100 => ?_)
      refine s_Mo_merge_103 rfl ?_
      refine s_Mo_merge_104 rfl ?_
      refine s_Mo_merge_105 ?_
      refine c_Mo_merge_106 (t_Mo_get ea (by omega) (k := 3) rfl (by decide)) hp_1000 rfl (Nat.le_of_ble_eq_true rfl) ?_
      refine s_Mo_merge_109 rfl ?_
      refine s_Mo_merge_110 rfl ?_
      refine s_Mo_merge_111 ?_
      refine c_Mo_merge_112 (t_Mo_get ea (by omega) (k := 3) rfl (by decide)) hp_1000 rfl (Nat.le_of_ble_eq_true rfl) ?_
      refine s_Mo_merge_115 ?_
      refine s_Mo_merge_116 (fun c116 => ?_) (fun c116 => ?_)
      · skip
        refine s_Mo_merge_123 ?_
        refine s_Mo_merge_124 ?_
        refine s_Mo_merge_126 rfl ?_
        refine s_Mo_merge_127 rfl ?_
        refine s_Mo_merge_128 (fun c128 => ?_) (fun c128 => absurd c128 (fun h => h rfl))
        refine s_Mo_merge_146 ?_
        exact s_Mo_merge_147 ⟨by simp [mMg], by simp [mMg]⟩ z0
      · skip
        refine s_Mo_merge_119 ?_
        refine s_Mo_merge_120 ?_
        refine s_Mo_merge_124 ?_
        refine s_Mo_merge_126 rfl ?_
        refine s_Mo_merge_127 rfl ?_
        refine s_Mo_merge_128 (fun c128 => ?_) (fun c128 => absurd c128 (fun h => h rfl))
        refine s_Mo_merge_146 ?_
        exact s_Mo_merge_147 ⟨by simp [mMg], by simp [mMg]⟩ z0
    · skip
      refine s_Mo_merge_66 ?_
      refine s_Mo_merge_67 ?_
      refine s_Mo_merge_71 ?_
      refine s_Mo_merge_73 rfl ?_
      refine s_Mo_merge_74 rfl ?_
      refine s_Mo_merge_75 ?_
      refine c_Mo_merge_76 (t_Mo_get ea (by omega) (k := 1) rfl (by decide)) hp_1000 rfl (Nat.le_of_ble_eq_true rfl) ?_
      refine s_Mo_merge_79 rfl ?_
      refine s_Mo_merge_80 rfl ?_
      refine s_Mo_merge_81 ?_
      refine c_Mo_merge_82 (t_Mo_get ea (by omega) (k := 1) rfl (by decide)) hp_1000 rfl (Nat.le_of_ble_eq_true rfl) ?_
      refine s_Mo_merge_85 (fun c85 => absurd c85 (fun h => h rfl)) (fun c85 => ?_)
      refine s_Mo_merge_88 rfl ?_
      refine s_Mo_merge_89 rfl ?_
      refine s_Mo_merge_90 ?_
      refine c_Mo_merge_91 (t_Mo_get ea (by omega) (k := 2) rfl (by decide)) hp_1000 rfl (Nat.le_of_ble_eq_true rfl) ?_
      refine s_Mo_merge_94 rfl ?_
      refine s_Mo_merge_95 rfl ?_
      refine s_Mo_merge_96 ?_
      refine c_Mo_merge_97 (t_Mo_get ea (by omega) (k := 2) rfl (by decide)) hp_1000 rfl (Nat.le_of_ble_eq_true rfl) ?_
      refine s_Mo_merge_100 (fun c100 => absurd c100 (fun h => h rfl)) (fun c100 => ?_)
      refine s_Mo_merge_103 rfl ?_
      refine s_Mo_merge_104 rfl ?_
      refine s_Mo_merge_105 ?_
      refine c_Mo_merge_106 (t_Mo_get ea (by omega) (k := 3) rfl (by decide)) hp_1000 rfl (Nat.le_of_ble_eq_true rfl) ?_
      refine s_Mo_merge_109 rfl ?_
      refine s_Mo_merge_110 rfl ?_
      refine s_Mo_merge_111 ?_
      refine c_Mo_merge_112 (t_Mo_get ea (by omega) (k := 3) rfl (by decide)) hp_1000 rfl (Nat.le_of_ble_eq_true rfl) ?_
      refine s_Mo_merge_115 ?_
      refine s_Mo_merge_116 (fun c116 => ?_) (fun c116 => ?_)
      · skip
        refine s_Mo_merge_123 ?_
        refine s_Mo_merge_124 ?_
        refine s_Mo_merge_126 rfl ?_
        refine s_Mo_merge_127 rfl ?_
        refine s_Mo_merge_128 (fun c128 => ?_) (fun c128 => absurd c128 (fun h => h rfl))
        refine s_Mo_merge_146 ?_
        exact s_Mo_merge_147 ⟨by simp [mMg], by simp [mMg]⟩ z0
      · skip
        refine s_Mo_merge_119 ?_
        refine s_Mo_merge_120 ?_
        refine s_Mo_merge_124 ?_
        refine s_Mo_merge_126 rfl ?_
        refine s_Mo_merge_127 rfl ?_
        refine s_Mo_merge_128 (fun c128 => ?_) (fun c128 => absurd c128 (fun h => h rfl))
        refine s_Mo_merge_146 ?_
        exact s_Mo_merge_147 ⟨by simp [mMg], by simp [mMg]⟩ z0
  · skip
    refine s_Mo_merge_40 ?_
    refine s_Mo_merge_41 ?_
    refine s_Mo_merge_45 ?_
    refine s_Mo_merge_47 rfl ?_
    refine s_Mo_merge_48 (fun c48 => absurd c48 (by decide)) (fun c48 => ?_)
    refine s_Mo_merge_51 rfl ?_
    refine s_Mo_merge_52 rfl ?_
    refine s_Mo_merge_53 ?_
    refine c_Mo_merge_54 (t_Mo_get ea (by omega) (k := 1) rfl (by decide)) hp_1000 rfl (Nat.le_of_ble_eq_true rfl) ?_
    refine s_Mo_merge_57 rfl ?_
    refine s_Mo_merge_58 rfl ?_
    refine s_Mo_merge_59 ?_
    refine c_Mo_merge_60 (t_Mo_get ea (by omega) (k := 2) rfl (by decide)) hp_1000 rfl (Nat.le_of_ble_eq_true rfl) ?_
    refine s_Mo_merge_63 (fun c63 => ?_) (fun c63 => ?_)
    · skip
      refine s_Mo_merge_70 ?_
      refine s_Mo_merge_71 ?_
      refine s_Mo_merge_73 rfl ?_
      refine s_Mo_merge_74 rfl ?_
      refine s_Mo_merge_75 ?_
      refine c_Mo_merge_76 (t_Mo_get ea (by omega) (k := 1) rfl (by decide)) hp_1000 rfl (Nat.le_of_ble_eq_true rfl) ?_
      refine s_Mo_merge_79 rfl ?_
      refine s_Mo_merge_80 rfl ?_
      refine s_Mo_merge_81 ?_
      refine c_Mo_merge_82 (t_Mo_get ea (by omega) (k := 1) rfl (by decide)) hp_1000 rfl (Nat.le_of_ble_eq_true rfl) ?_
      refine s_Mo_merge_85 (fun c85 => absurd c85 (fun h => h rfl)) (fun c85 => ?_)
      refine s_Mo_merge_88 rfl ?_
      refine s_Mo_merge_89 rfl ?_
      refine s_Mo_merge_90 ?_
      refine c_Mo_merge_91 (t_Mo_get ea (by omega) (k := 2) rfl (by decide)) hp_1000 rfl (Nat.le_of_ble_eq_true rfl) ?_
      refine s_Mo_merge_94 rfl ?_
      refine s_Mo_merge_95 rfl ?_
      refine s_Mo_merge_96 ?_
      refine c_Mo_merge_97 (t_Mo_get ea (by omega) (k := 2) rfl (by decide)) hp_1000 rfl (Nat.le_of_ble_eq_true rfl) ?_
      refine s_Mo_merge_100 (fun c100 => absurd c100 (fun h => h rfl)) (fun c100 => ?_)
      refine s_Mo_merge_103 rfl ?_
      refine s_Mo_merge_104 rfl ?_
      refine s_Mo_merge_105 ?_
      refine c_Mo_merge_106 (t_Mo_get ea (by omega) (k := 3) rfl (by decide)) hp_1000 rfl (Nat.le_of_ble_eq_true rfl) ?_
      refine s_Mo_merge_109 rfl ?_
      refine s_Mo_merge_110 rfl ?_
      refine s_Mo_merge_111 ?_
      refine c_Mo_merge_112 (t_Mo_get ea (by omega) (k := 3) rfl (by decide)) hp_1000 rfl (Nat.le_of_ble_eq_true rfl) ?_
      refine s_Mo_merge_115 ?_
      refine s_Mo_merge_116 (fun c116 => ?_) (fun c116 => ?_)
      · skip
        refine s_Mo_merge_123 ?_
        refine s_Mo_merge_124 ?_
        refine s_Mo_merge_126 rfl ?_
        refine s_Mo_merge_127 rfl ?_
        refine s_Mo_merge_128 (fun c128 => ?_) (fun c128 => absurd c128 (fun h => h rfl))
        refine s_Mo_merge_146 ?_
        exact s_Mo_merge_147 ⟨by simp [mMg], by simp [mMg]⟩ z0
      · skip
        refine s_Mo_merge_119 ?_
        refine s_Mo_merge_120 ?_
        refine s_Mo_merge_124 ?_
        refine s_Mo_merge_126 rfl ?_
        refine s_Mo_merge_127 rfl ?_
        refine s_Mo_merge_128 (fun c128 => ?_) (fun c128 => absurd c128 (fun h => h rfl))
        refine s_Mo_merge_146 ?_
        exact s_Mo_merge_147 ⟨by simp [mMg], by simp [mMg]⟩ z0
    · skip
      refine s_Mo_merge_66 ?_
      refine s_Mo_merge_67 ?_
      refine s_Mo_merge_71 ?_
      refine s_Mo_merge_73 rfl ?_
      refine s_Mo_merge_74 rfl ?_
      refine s_Mo_merge_75 ?_
      refine c_Mo_merge_76 (t_Mo_get ea (by omega) (k := 1) rfl (by decide)) hp_1000 rfl (Nat.le_of_ble_eq_true rfl) ?_
      refine s_Mo_merge_79 rfl ?_
      refine s_Mo_merge_80 rfl ?_
      refine s_Mo_merge_81 ?_
      refine c_Mo_merge_82 (t_Mo_get ea (by omega) (k := 1) rfl (by decide)) hp_1000 rfl (Nat.le_of_ble_eq_true rfl) ?_
      refine s_Mo_merge_85 (fun c85 => absurd c85 (fun h => h rfl)) (fun c85 => ?_)
      refine s_Mo_merge_88 rfl ?_
      refine s_Mo_merge_89 rfl ?_
      refine s_Mo_merge_90 ?_
      refine c_Mo_merge_91 (t_Mo_get ea (by omega) (k := 2) rfl (by decide)) hp_1000 rfl (Nat.le_of_ble_eq_true rfl) ?_
      refine s_Mo_merge_94 rfl ?_
      refine s_Mo_merge_95 rfl ?_
      refine s_Mo_merge_96 ?_
      refine c_Mo_merge_97 (t_Mo_get ea (by omega) (k := 2) rfl (by decide)) hp_1000 rfl (Nat.le_of_ble_eq_true rfl) ?_
      refine s_Mo_merge_100 (fun c100 => absurd c100 (fun h => h rfl)) (fun c100 => ?_)
      refine s_Mo_merge_103 rfl ?_
      refine s_Mo_merge_104 rfl ?_
      refine s_Mo_merge_105 ?_
      refine c_Mo_merge_106 (t_Mo_get ea (by omega) (k := 3) rfl (by decide)) hp_1000 rfl (Nat.le_of_ble_eq_true rfl) ?_
      refine s_Mo_merge_109 rfl ?_
      refine s_Mo_merge_110 rfl ?_
      refine s_Mo_merge_111 ?_
      refine c_Mo_merge_112 (t_Mo_get ea (by omega) (k := 3) rfl (by decide)) hp_1000 rfl (Nat.le_of_ble_eq_true rfl) ?_
      refine s_Mo_merge_115 ?_
      refine s_Mo_merge_116 (fun c116 => ?_) (fun c116 => ?_)
      · skip
        refine s_Mo_merge_123 ?_
        refine s_Mo_merge_124 ?_
        refine s_Mo_merge_126 rfl ?_
        refine s_Mo_merge_127 rfl ?_
        refine s_Mo_merge_128 (fun c128 => ?_) (fun c128 => absurd c128 (fun h => h rfl))
        refine s_Mo_merge_146 ?_
        exact s_Mo_merge_147 ⟨by simp [mMg], by simp [mMg]⟩ z0
      · skip
        refine s_Mo_merge_119 ?_
        refine s_Mo_merge_120 ?_
        refine s_Mo_merge_124 ?_
        refine s_Mo_merge_126 rfl ?_
        refine s_Mo_merge_127 rfl ?_
        refine s_Mo_merge_128 (fun c128 => ?_) (fun c128 => absurd c128 (fun h => h rfl))
        refine s_Mo_merge_146 ?_
        exact s_Mo_merge_147 ⟨by simp [mMg], by simp [mMg]⟩ z0
set_option maxRecDepth 100000 in
theorem t_ranges_4 {G : GW} {L : LT} {I : IT} {r : Nat} {p : Int32} {a : Nat} (ea : p = nI a) (ha : a < 8) {q : Int32} {b : Nat} (eb : q = nI b) (hb : b < 8) {n : Int32} : mt G M_Mo_ranges 3 0 0 [.ref 1000, .int 4, .int p, .int q, .int n] (hp L I r) (dt (some (.int (mSpl I a b n).1)) (hp L (mSpl I a b n).2 r)) := by
  refine mt_of_ev (by decide) (Nat.le_of_ble_eq_true rfl) ?_
  show ev G M_Mo_ranges (rmv 3 0 0) (Er M_Mo_ranges _ 0 0) 0 [(0, .ref 1000), (1, .int 4), (2, .int p), (3, .int q), (4, .int n)] [] (hp L I r) 0 0
  refine s_Mo_ranges_0 rfl ?_
  refine s_Mo_ranges_1 rfl ?_
  refine c_Mo_ranges_2 (t_Mo_what ea (by omega)) hp_1000 rfl (Nat.le_of_ble_eq_true rfl) ?_
  refine s_Mo_ranges_5 ?_
  refine s_Mo_ranges_6 (fun c6 => ?_) (fun c6 => ?_)
  · skip
    refine s_Mo_ranges_23 ?_
    exact s_Mo_ranges_24 ⟨by simp [mSpl, c6], by simp [mSpl, c6]⟩ z0
  · skip
    refine s_Mo_ranges_9 rfl ?_
    refine s_Mo_ranges_10 ?_
    refine s_Mo_ranges_11 (fun c11 => ?_) (fun c11 => absurd c11 (by decide))
    refine s_Mo_ranges_25 rfl ?_
    refine s_Mo_ranges_26 rfl ?_
    refine s_Mo_ranges_27 ?_
    refine c_Mo_ranges_28 (t_Mo_get ea (by omega) (k := 1) rfl (by decide)) hp_1000 rfl (Nat.le_of_ble_eq_true rfl) ?_
    refine s_Mo_ranges_31 ?_
    refine s_Mo_ranges_33 rfl ?_
    refine s_Mo_ranges_34 rfl ?_
    refine s_Mo_ranges_35 ?_
    refine c_Mo_ranges_36 (t_Mo_get ea (by omega) (k := 2) rfl (by decide)) hp_1000 rfl (Nat.le_of_ble_eq_true rfl) ?_
    refine s_Mo_ranges_39 ?_
    refine s_Mo_ranges_41 rfl ?_
    refine s_Mo_ranges_42 rfl ?_
    refine s_Mo_ranges_43 ?_
    refine c_Mo_ranges_44 (t_Mo_get ea (by omega) (k := 3) rfl (by decide)) hp_1000 rfl (Nat.le_of_ble_eq_true rfl) ?_
    refine s_Mo_ranges_47 ?_
    refine s_Mo_ranges_49 rfl ?_
    refine s_Mo_ranges_50 ?_
    refine s_Mo_ranges_51 (fun c51 => ?_) (fun c51 => absurd c51 (by decide))
    refine s_Mo_ranges_61 rfl ?_
    refine s_Mo_ranges_62 ?_
    refine s_Mo_ranges_63 (fun c63 => absurd c63 (by decide)) (fun c63 => ?_)
    refine s_Mo_ranges_66 rfl ?_
    refine s_Mo_ranges_68 ?_
    refine s_Mo_ranges_69 rfl ?_
    refine s_Mo_ranges_71 rfl ?_
    refine s_Mo_ranges_73 ?_
    refine s_Mo_ranges_74 ?_
    refine s_Mo_ranges_75 ?_
    refine c_Mo_ranges_76 (t_Mo_in) (Nat.le_of_ble_eq_true rfl) ?_
    refine s_Mo_ranges_79 (fun c79 => ?_) (fun c79 => ?_)
    · skip
      (first | rw [bz_n0] at c79 | rw [bz_0] at c79 | skip); (try simp only [Bool.not_eq_false', Bool.not_eq_true', decide_eq_true_eq, decide_eq_false_iff_not, Bool.or_eq_true, Bool.or_eq_false_iff, Bool.and_eq_true, Bool.and_eq_false_iff] at c79)
      refine s_Mo_ranges_105 rfl ?_
      refine s_Mo_ranges_106 rfl ?_
      refine c_Mo_ranges_107 (t_Mo_isNumber eb (by omega)) hp_1000 rfl (Nat.le_of_ble_eq_true rfl) ?_
      refine s_Mo_ranges_110 (fun c110 => ?_) (fun c110 => ?_)
      · skip
        (first | rw [bz_n0] at c110 | rw [bz_0] at c110 | skip); (try simp only [Bool.not_eq_false', Bool.not_eq_true', decide_eq_true_eq, decide_eq_false_iff_not, Bool.or_eq_true, Bool.or_eq_false_iff, Bool.and_eq_true, Bool.and_eq_false_iff] at c110)
        refine s_Mo_ranges_115 rfl ?_
        refine s_Mo_ranges_116 rfl ?_
        refine s_Mo_ranges_117 ?_
        refine s_Mo_ranges_118 rfl ?_
        refine s_Mo_ranges_120 rfl ?_
        refine s_Mo_ranges_121 ?_
        refine s_Mo_ranges_122 (fun c122 => absurd c122 (by decide)) (fun c122 => ?_)
        refine s_Mo_ranges_125 rfl ?_
        refine s_Mo_ranges_127 rfl ?_
        refine s_Mo_ranges_129 ?_
        refine s_Mo_ranges_130 ?_
        refine s_Mo_ranges_135 rfl ?_
        refine s_Mo_ranges_136 ?_
        refine s_Mo_ranges_137 (fun c137 => absurd c137 (by decide)) (fun c137 => ?_)
        refine s_Mo_ranges_140 rfl ?_
        refine s_Mo_ranges_142 ?_
        refine s_Mo_ranges_150 ?_
        refine c_Mo_ranges_151 (t_Mo_put ea (by omega)) hp_1000 rfl (Nat.le_of_ble_eq_true rfl) ?_
        refine s_Mo_ranges_154 rfl ?_
        refine s_Mo_ranges_155 rfl ?_
        refine s_Mo_ranges_156 ?_
        refine s_Mo_ranges_157 rfl ?_
        refine s_Mo_ranges_158 ?_
        refine s_Mo_ranges_159 (fun c159 => absurd c159 (by decide)) (fun c159 => ?_)
        refine s_Mo_ranges_162 rfl ?_
        refine s_Mo_ranges_164 rfl ?_
        refine s_Mo_ranges_166 ?_
        refine s_Mo_ranges_167 ?_
        refine s_Mo_ranges_172 rfl ?_
        refine s_Mo_ranges_174 rfl ?_
        refine s_Mo_ranges_175 ?_
        refine s_Mo_ranges_176 (fun c176 => absurd c176 (by decide)) (fun c176 => ?_)
        refine s_Mo_ranges_179 rfl ?_
        refine s_Mo_ranges_181 ?_
        refine s_Mo_ranges_191 ?_
        refine c_Mo_ranges_192 (t_Mo_put eb (by omega)) hp_1000 rfl (Nat.le_of_ble_eq_true rfl) ?_
        refine s_Mo_ranges_195 ?_
        exact s_Mo_ranges_196 ⟨by simp [mSpl, c6, c79, c110], by simp [mSpl, c6, c79, c110]⟩ z0
      · skip
        (first | rw [bz_n0] at c110 | rw [bz_0] at c110 | skip); (try simp only [Bool.not_eq_false', Bool.not_eq_true', decide_eq_true_eq, decide_eq_false_iff_not, Bool.or_eq_true, Bool.or_eq_false_iff, Bool.and_eq_true, Bool.and_eq_false_iff] at c110)
        refine s_Mo_ranges_113 ?_
        exact s_Mo_ranges_114 ⟨by simp [mSpl, c6, c79, c110], by simp [mSpl, c6, c79, c110]⟩ z0
    · skip
      (first | rw [bz_n0] at c79 | rw [bz_0] at c79 | skip); (try simp only [Bool.not_eq_false', Bool.not_eq_true', decide_eq_true_eq, decide_eq_false_iff_not, Bool.or_eq_true, Bool.or_eq_false_iff, Bool.and_eq_true, Bool.and_eq_false_iff] at c79)
      refine s_Mo_ranges_82 ?_
      refine s_Mo_ranges_103 ?_
      exact s_Mo_ranges_104 ⟨by simp [mSpl, c6, c79], by simp [mSpl, c6, c79]⟩ z0
set_option maxRecDepth 100000 in
theorem t_ranges_6 {G : GW} {L : LT} {I : IT} {r : Nat} {p : Int32} {a : Nat} (ea : p = nI a) (ha : a < 8) {q : Int32} {b : Nat} (eb : q = nI b) (hb : b < 8) {n : Int32} : mt G M_Mo_ranges 3 0 0 [.ref 1000, .int 6, .int p, .int q, .int n] (hp L I r) (dt (some (.int (mRes I a b n).1)) (hp L (mRes I a b n).2 r)) := by
  refine mt_of_ev (by decide) (Nat.le_of_ble_eq_true rfl) ?_
  show ev G M_Mo_ranges (rmv 3 0 0) (Er M_Mo_ranges _ 0 0) 0 [(0, .ref 1000), (1, .int 6), (2, .int p), (3, .int q), (4, .int n)] [] (hp L I r) 0 0
  refine s_Mo_ranges_0 rfl ?_
  refine s_Mo_ranges_1 rfl ?_
  refine c_Mo_ranges_2 (t_Mo_what ea (by omega)) hp_1000 rfl (Nat.le_of_ble_eq_true rfl) ?_
  refine s_Mo_ranges_5 ?_
  refine s_Mo_ranges_6 (fun c6 => ?_) (fun c6 => ?_)
  · skip
    refine s_Mo_ranges_23 ?_
    exact s_Mo_ranges_24 ⟨by simp only [mRes, c6, not_true_eq_false, not_false_eq_true, ↓reduceIte, or_self, or_false, false_or, true_or, or_true], by simp only [mRes, c6, not_true_eq_false, not_false_eq_true, ↓reduceIte, or_self, or_false, false_or, true_or, or_true]⟩ z0
  · skip
    refine s_Mo_ranges_9 rfl ?_
    refine s_Mo_ranges_10 ?_
    refine s_Mo_ranges_11 (fun c11 => ?_) (fun c11 => absurd c11 (by decide))
    refine s_Mo_ranges_25 rfl ?_
    refine s_Mo_ranges_26 rfl ?_
    refine s_Mo_ranges_27 ?_
    refine c_Mo_ranges_28 (t_Mo_get ea (by omega) (k := 1) rfl (by decide)) hp_1000 rfl (Nat.le_of_ble_eq_true rfl) ?_
    refine s_Mo_ranges_31 ?_
    refine s_Mo_ranges_33 rfl ?_
    refine s_Mo_ranges_34 rfl ?_
    refine s_Mo_ranges_35 ?_
    refine c_Mo_ranges_36 (t_Mo_get ea (by omega) (k := 2) rfl (by decide)) hp_1000 rfl (Nat.le_of_ble_eq_true rfl) ?_
    refine s_Mo_ranges_39 ?_
    refine s_Mo_ranges_41 rfl ?_
    refine s_Mo_ranges_42 rfl ?_
    refine s_Mo_ranges_43 ?_
    refine c_Mo_ranges_44 (t_Mo_get ea (by omega) (k := 3) rfl (by decide)) hp_1000 rfl (Nat.le_of_ble_eq_true rfl) ?_
    refine s_Mo_ranges_47 ?_
    refine s_Mo_ranges_49 rfl ?_
    refine s_Mo_ranges_50 ?_
    refine s_Mo_ranges_51 (fun c51 => ?_) (fun c51 => absurd c51 (by decide))
    refine s_Mo_ranges_61 rfl ?_
    refine s_Mo_ranges_62 ?_
    refine s_Mo_ranges_63 (fun c63 => ?_) (fun c63 => absurd c63 (by decide))
    refine s_Mo_ranges_85 rfl ?_
    refine s_Mo_ranges_87 rfl ?_
    refine s_Mo_ranges_89 ?_
    refine s_Mo_ranges_90 (fun c90 => ?_) (fun c90 => ?_)
    · skip
      refine s_Mo_ranges_103 ?_
      exact s_Mo_ranges_104 ⟨by simp only [mRes, c6, c90, not_true_eq_false, not_false_eq_true, ↓reduceIte, or_self, or_false, false_or, true_or, or_true], by simp only [mRes, c6, c90, not_true_eq_false, not_false_eq_true, ↓reduceIte, or_self, or_false, false_or, true_or, or_true]⟩ z0
    · skip
      refine s_Mo_ranges_93 rfl ?_
      refine s_Mo_ranges_95 rfl ?_
      refine s_Mo_ranges_97 ?_
      refine s_Mo_ranges_98 ?_
      refine s_Mo_ranges_99 ?_
      refine s_Mo_ranges_100 (fun c100 => ?_) (fun c100 => ?_)
      · skip
        refine s_Mo_ranges_105 rfl ?_
        refine s_Mo_ranges_106 rfl ?_
        refine c_Mo_ranges_107 (t_Mo_isNumber eb (by omega)) hp_1000 rfl (Nat.le_of_ble_eq_true rfl) ?_
        refine s_Mo_ranges_110 (fun c110 => ?_) (fun c110 => ?_)
        · skip
          (first | rw [bz_n0] at c110 | rw [bz_0] at c110 | skip); (try simp only [Bool.not_eq_false', Bool.not_eq_true', decide_eq_true_eq, decide_eq_false_iff_not, Bool.or_eq_true, Bool.or_eq_false_iff, Bool.and_eq_true, Bool.and_eq_false_iff] at c110)
          refine s_Mo_ranges_115 rfl ?_
          refine s_Mo_ranges_116 rfl ?_
          refine s_Mo_ranges_117 ?_
          refine s_Mo_ranges_118 rfl ?_
          refine s_Mo_ranges_120 rfl ?_
          refine s_Mo_ranges_121 ?_
          refine s_Mo_ranges_122 (fun c122 => ?_) (fun c122 => absurd c122 (by decide))
          refine s_Mo_ranges_133 rfl ?_
          refine s_Mo_ranges_135 rfl ?_
          refine s_Mo_ranges_136 ?_
          refine s_Mo_ranges_137 (fun c137 => ?_) (fun c137 => absurd c137 (by decide))
          refine s_Mo_ranges_145 rfl ?_
          refine s_Mo_ranges_147 rfl ?_
          refine s_Mo_ranges_149 ?_
          refine s_Mo_ranges_150 ?_
          refine c_Mo_ranges_151 (t_Mo_put ea (by omega)) hp_1000 rfl (Nat.le_of_ble_eq_true rfl) ?_
          refine s_Mo_ranges_154 rfl ?_
          refine s_Mo_ranges_155 rfl ?_
          refine s_Mo_ranges_156 ?_
          refine s_Mo_ranges_157 rfl ?_
          refine s_Mo_ranges_158 ?_
          refine s_Mo_ranges_159 (fun c159 => ?_) (fun c159 => absurd c159 (by decide))
          refine s_Mo_ranges_170 rfl ?_
          refine s_Mo_ranges_172 rfl ?_
          refine s_Mo_ranges_174 rfl ?_
          refine s_Mo_ranges_175 ?_
          refine s_Mo_ranges_176 (fun c176 => ?_) (fun c176 => absurd c176 (by decide))
          refine s_Mo_ranges_184 rfl ?_
          refine s_Mo_ranges_186 rfl ?_
          refine s_Mo_ranges_188 ?_
          refine s_Mo_ranges_189 ?_
          refine s_Mo_ranges_190 ?_
          refine s_Mo_ranges_191 ?_
          refine c_Mo_ranges_192 (t_Mo_put eb (by omega)) hp_1000 rfl (Nat.le_of_ble_eq_true rfl) ?_
          refine s_Mo_ranges_195 ?_
          exact s_Mo_ranges_196 ⟨by simp only [mRes, c6, c90, c100, c110, not_true_eq_false, not_false_eq_true, ↓reduceIte, or_self, or_false, false_or, true_or, or_true], by simp only [mRes, c6, c90, c100, c110, not_true_eq_false, not_false_eq_true, ↓reduceIte, or_self, or_false, false_or, true_or, or_true]⟩ z0
        · skip
          (first | rw [bz_n0] at c110 | rw [bz_0] at c110 | skip); (try simp only [Bool.not_eq_false', Bool.not_eq_true', decide_eq_true_eq, decide_eq_false_iff_not, Bool.or_eq_true, Bool.or_eq_false_iff, Bool.and_eq_true, Bool.and_eq_false_iff] at c110)
          refine s_Mo_ranges_113 ?_
          exact s_Mo_ranges_114 ⟨by simp only [mRes, c6, c90, c100, c110, not_true_eq_false, not_false_eq_true, ↓reduceIte, or_self, or_false, false_or, true_or, or_true], by simp only [mRes, c6, c90, c100, c110, not_true_eq_false, not_false_eq_true, ↓reduceIte, or_self, or_false, false_or, true_or, or_true]⟩ z0
      · skip
        refine s_Mo_ranges_103 ?_
        exact s_Mo_ranges_104 ⟨by simp only [mRes, c6, c90, c100, not_true_eq_false, not_false_eq_true, ↓reduceIte, or_self, or_false, false_or, true_or, or_true], by simp only [mRes, c6, c90, c100, not_true_eq_false, not_false_eq_true, ↓reduceIte, or_self, or_false, false_or, true_or, or_true]⟩ z0
set_option maxRecDepth 100000 in
theorem t_ranges_5 {G : GW} {L : LT} {I : IT} {r : Nat} {p : Int32} {a : Nat} (ea : p = nI a) (ha : a < 8) {q : Int32} {b : Nat} (eb : q = nI b) (hb : b < 8) {n : Int32} (hne : a ≠ b) : mt G M_Mo_ranges 3 0 0 [.ref 1000, .int 5, .int p, .int q, .int n] (hp L I r) (dt (some (.int (mMer I a b).1)) (hp L (mMer I a b).2 r)) := by
  refine mt_of_ev (by decide) (Nat.le_of_ble_eq_true rfl) ?_
  show ev G M_Mo_ranges (rmv 3 0 0) (Er M_Mo_ranges _ 0 0) 0 [(0, .ref 1000), (1, .int 5), (2, .int p), (3, .int q), (4, .int n)] [] (hp L I r) 0 0
  refine s_Mo_ranges_0 rfl ?_
  refine s_Mo_ranges_1 rfl ?_
  refine c_Mo_ranges_2 (t_Mo_what ea (by omega)) hp_1000 rfl (Nat.le_of_ble_eq_true rfl) ?_
  refine s_Mo_ranges_5 ?_
  refine s_Mo_ranges_6 (fun c6 => ?_) (fun c6 => ?_)
  · skip
    refine s_Mo_ranges_23 ?_
    exact s_Mo_ranges_24 ⟨by simp [mMer, c6], by simp [mMer, c6]⟩ z0
  · skip
    refine s_Mo_ranges_9 rfl ?_
    refine s_Mo_ranges_10 ?_
    refine s_Mo_ranges_11 (fun c11 => absurd c11 (by decide)) (fun c11 => ?_)
    refine s_Mo_ranges_14 rfl ?_
    refine s_Mo_ranges_15 rfl ?_
    refine c_Mo_ranges_16 (t_Mo_what eb (by omega)) hp_1000 rfl (Nat.le_of_ble_eq_true rfl) ?_
    refine s_Mo_ranges_19 ?_
    refine s_Mo_ranges_20 (fun c20 => ?_) (fun c20 => ?_)
    · skip
      refine s_Mo_ranges_25 rfl ?_
      refine s_Mo_ranges_26 rfl ?_
      refine s_Mo_ranges_27 ?_
      refine c_Mo_ranges_28 (t_Mo_get ea (by omega) (k := 1) rfl (by decide)) hp_1000 rfl (Nat.le_of_ble_eq_true rfl) ?_
      refine s_Mo_ranges_31 ?_
      refine s_Mo_ranges_33 rfl ?_
      refine s_Mo_ranges_34 rfl ?_
      refine s_Mo_ranges_35 ?_
      refine c_Mo_ranges_36 (t_Mo_get ea (by omega) (k := 2) rfl (by decide)) hp_1000 rfl (Nat.le_of_ble_eq_true rfl) ?_
      refine s_Mo_ranges_39 ?_
      refine s_Mo_ranges_41 rfl ?_
      refine s_Mo_ranges_42 rfl ?_
      refine s_Mo_ranges_43 ?_
      refine c_Mo_ranges_44 (t_Mo_get ea (by omega) (k := 3) rfl (by decide)) hp_1000 rfl (Nat.le_of_ble_eq_true rfl) ?_
      refine s_Mo_ranges_47 ?_
      refine s_Mo_ranges_49 rfl ?_
      refine s_Mo_ranges_50 ?_
      refine s_Mo_ranges_51 (fun c51 => absurd c51 (by decide)) (fun c51 => ?_)
      refine s_Mo_ranges_54 rfl ?_
      refine s_Mo_ranges_55 rfl ?_
      refine s_Mo_ranges_56 rfl ?_
      refine c_Mo_ranges_57 (t_merge ea ha eb hb hne) hp_1000 rfl (Nat.le_of_ble_eq_true rfl) ?_
      exact s_Mo_ranges_60 ⟨by simp [mMer, c6, c20], by simp [mMer, c6, c20]⟩ z0
    · skip
      refine s_Mo_ranges_23 ?_
      exact s_Mo_ranges_24 ⟨by simp [mMer, c6, c20], by simp [mMer, c6, c20]⟩ z0
set_option maxRecDepth 100000 in
theorem t_ranges_5s {G : GW} {L : LT} {I : IT} {r : Nat} {p : Int32} {a : Nat} (ea : p = nI a) (ha : a < 8) {n : Int32} : mt G M_Mo_ranges 3 0 0 [.ref 1000, .int 5, .int p, .int p, .int n] (hp L I r) (dt (some (.int (mMer I a a).1)) (hp L (mMer I a a).2 r)) := by
  refine mt_of_ev (by decide) (Nat.le_of_ble_eq_true rfl) ?_
  show ev G M_Mo_ranges (rmv 3 0 0) (Er M_Mo_ranges _ 0 0) 0 [(0, .ref 1000), (1, .int 5), (2, .int p), (3, .int p), (4, .int n)] [] (hp L I r) 0 0
  refine s_Mo_ranges_0 rfl ?_
  refine s_Mo_ranges_1 rfl ?_
  refine c_Mo_ranges_2 (t_Mo_what ea (by omega)) hp_1000 rfl (Nat.le_of_ble_eq_true rfl) ?_
  refine s_Mo_ranges_5 ?_
  refine s_Mo_ranges_6 (fun c6 => ?_) (fun c6 => ?_)
  · skip
    refine s_Mo_ranges_23 ?_
    exact s_Mo_ranges_24 ⟨by simp [mMer, c6], by simp [mMer, c6]⟩ z0
  · skip
    refine s_Mo_ranges_9 rfl ?_
    refine s_Mo_ranges_10 ?_
    refine s_Mo_ranges_11 (fun c11 => absurd c11 (by decide)) (fun c11 => ?_)
    refine s_Mo_ranges_14 rfl ?_
    refine s_Mo_ranges_15 rfl ?_
    refine c_Mo_ranges_16 (t_Mo_what ea (by omega)) hp_1000 rfl (Nat.le_of_ble_eq_true rfl) ?_
    refine s_Mo_ranges_19 ?_
    refine s_Mo_ranges_20 (fun c20 => ?_) (fun c20 => absurd c20 (fun h => h c6))
    refine s_Mo_ranges_25 rfl ?_
    refine s_Mo_ranges_26 rfl ?_
    refine s_Mo_ranges_27 ?_
    refine c_Mo_ranges_28 (t_Mo_get ea (by omega) (k := 1) rfl (by decide)) hp_1000 rfl (Nat.le_of_ble_eq_true rfl) ?_
    refine s_Mo_ranges_31 ?_
    refine s_Mo_ranges_33 rfl ?_
    refine s_Mo_ranges_34 rfl ?_
    refine s_Mo_ranges_35 ?_
    refine c_Mo_ranges_36 (t_Mo_get ea (by omega) (k := 2) rfl (by decide)) hp_1000 rfl (Nat.le_of_ble_eq_true rfl) ?_
    refine s_Mo_ranges_39 ?_
    refine s_Mo_ranges_41 rfl ?_
    refine s_Mo_ranges_42 rfl ?_
    refine s_Mo_ranges_43 ?_
    refine c_Mo_ranges_44 (t_Mo_get ea (by omega) (k := 3) rfl (by decide)) hp_1000 rfl (Nat.le_of_ble_eq_true rfl) ?_
    refine s_Mo_ranges_47 ?_
    refine s_Mo_ranges_49 rfl ?_
    refine s_Mo_ranges_50 ?_
    refine s_Mo_ranges_51 (fun c51 => absurd c51 (by decide)) (fun c51 => ?_)
    refine s_Mo_ranges_54 rfl ?_
    refine s_Mo_ranges_55 rfl ?_
    refine s_Mo_ranges_56 rfl ?_
    refine c_Mo_ranges_57 (t_merge_s ea ha) hp_1000 rfl (Nat.le_of_ble_eq_true rfl) ?_
    exact s_Mo_ranges_60 ⟨by simp [mMer, c6], by simp [mMer, c6]⟩ z0
set_option maxRecDepth 100000 in
theorem t_cells_7 {G : GW} {L : LT} {I : IT} {r : Nat} {p : Int32} {a : Nat} (ea : p = nI a) (ha : a < 8) : mt G M_Mo_cells 2 0 0 [.ref 1000, .int 7, .int p] (hp L I r) (dt (some (.int (mFre I a).1)) (hp L (mFre I a).2 r)) := by
  refine mt_of_ev (by decide) (Nat.le_of_ble_eq_true rfl) ?_
  show ev G M_Mo_cells (rmv 2 0 0) (Er M_Mo_cells _ 0 0) 0 [(0, .ref 1000), (1, .int 7), (2, .int p)] [] (hp L I r) 0 0
  refine s_Mo_cells_0 rfl ?_
  refine s_Mo_cells_1 rfl ?_
  refine c_Mo_cells_2 (t_Mo_what ea (by omega)) hp_1000 rfl (Nat.le_of_ble_eq_true rfl) ?_
  refine s_Mo_cells_5 rfl ?_
  refine s_Mo_cells_6 ?_
  refine s_Mo_cells_8 (fun c8 => absurd c8 (by decide)) (fun c8 => ?_)
  refine s_Mo_cells_11 ?_
  refine s_Mo_cells_12 ?_
  refine s_Mo_cells_16 (fun c16 => ?_) (fun c16 => ?_)
  · skip
    refine s_Mo_cells_21 rfl ?_
    refine s_Mo_cells_22 ?_
    refine s_Mo_cells_24 (fun c24 => absurd c24 (by decide)) (fun c24 => ?_)
    refine s_Mo_cells_27 rfl ?_
    refine c_Mo_cells_28 (t_Mo_lowestCell) hp_1000 rfl (Nat.le_of_ble_eq_true rfl) ?_
    refine s_Mo_cells_31 ?_
    refine s_Mo_cells_40 ?_
    refine s_Mo_cells_41 rfl ?_
    refine s_Mo_cells_42 ?_
    refine s_Mo_cells_44 (fun c44 => absurd c44 (by decide)) (fun c44 => ?_)
    refine s_Mo_cells_47 rfl ?_
    refine s_Mo_cells_48 rfl ?_
    refine s_Mo_cells_49 ?_
    refine c_Mo_cells_50 (t_Mo_get ea (by omega) (k := 3) rfl (by decide)) hp_1000 rfl (Nat.le_of_ble_eq_true rfl) ?_
    refine s_Mo_cells_53 ?_
    refine s_Mo_cells_54 (fun c54 => ?_) (fun c54 => ?_)
    · skip
      refine s_Mo_cells_59 rfl ?_
      refine s_Mo_cells_60 ?_
      refine s_Mo_cells_62 (fun c62 => ?_) (fun c62 => absurd c62 (by decide))
      refine s_Mo_cells_75 rfl ?_
      refine s_Mo_cells_76 ?_
      refine s_Mo_cells_78 (fun c78 => ?_) (fun c78 => absurd c78 (by decide))
      refine s_Mo_cells_94 rfl ?_
      refine s_Mo_cells_95 (fun c95 => ?_) (fun c95 => ?_)
      · skip
        refine s_Mo_cells_101 rfl ?_
        refine s_Mo_cells_102 rfl ?_
        refine s_Mo_cells_103 ?_
        refine c_Mo_cells_104 (t_Mo_get ea (by omega) (k := 1) rfl (by decide)) hp_1000 rfl (Nat.le_of_ble_eq_true rfl) ?_
        refine s_Mo_cells_107 ?_
        refine s_Mo_cells_109 rfl ?_
        refine s_Mo_cells_110 rfl ?_
        refine s_Mo_cells_111 ?_
        refine c_Mo_cells_112 (t_Mo_get ea (by omega) (k := 2) rfl (by decide)) hp_1000 rfl (Nat.le_of_ble_eq_true rfl) ?_
        refine s_Mo_cells_115 ?_
        refine s_Mo_cells_117 rfl ?_
        refine s_Mo_cells_118 hp_1000 rfl ?_
        refine s_Mo_cells_121 rfl ?_
        refine s_Mo_cells_122 rfl ?_
        refine s_Mo_cells_123 ?_
        refine s_Mo_cells_125 (fun c125 => absurd c125 (by decide)) (fun c125 => ?_)
        refine s_Mo_cells_128 ?_
        refine s_Mo_cells_129 ?_
        refine s_Mo_cells_140 hp_1004 (by rw [(fz6 c95).1]; exact vp_in_nI (fz6 c95).2 (by decide)) ?_
        rw [hu_1004]
        refine s_Mo_cells_141 rfl ?_
        refine s_Mo_cells_142 hp_1000 rfl ?_
        refine s_Mo_cells_145 rfl ?_
        refine s_Mo_cells_146 rfl ?_
        refine s_Mo_cells_147 ?_
        refine s_Mo_cells_149 (fun c149 => absurd c149 (by decide)) (fun c149 => ?_)
        refine s_Mo_cells_152 rfl ?_
        refine s_Mo_cells_154 ?_
        refine s_Mo_cells_163 hp_1005 (by rw [(fz6 c95).1]; exact vp_in_nI (fz6 c95).2 (by decide)) ?_
        rw [hu_1005]
        refine s_Mo_cells_164 rfl ?_
        refine s_Mo_cells_165 hp_1000 rfl ?_
        refine s_Mo_cells_168 rfl ?_
        refine s_Mo_cells_169 rfl ?_
        refine s_Mo_cells_170 ?_
        refine s_Mo_cells_172 (fun c172 => absurd c172 (by decide)) (fun c172 => ?_)
        refine s_Mo_cells_175 rfl ?_
        refine s_Mo_cells_177 ?_
        refine s_Mo_cells_186 hp_1006 (by rw [(fz6 c95).1]; exact vp_in_nI (fz6 c95).2 (by decide)) ?_
        rw [hu_1006]
        refine s_Mo_cells_187 rfl ?_
        refine s_Mo_cells_188 ?_
        refine s_Mo_cells_190 (fun c190 => absurd c190 (by decide)) (fun c190 => ?_)
        refine s_Mo_cells_193 rfl ?_
        refine s_Mo_cells_194 rfl ?_
        refine s_Mo_cells_195 ?_
        refine s_Mo_cells_196 rfl ?_
        refine s_Mo_cells_198 rfl ?_
        refine s_Mo_cells_200 ?_
        refine s_Mo_cells_201 rfl ?_
        refine c_Mo_cells_202 (t_Mo_put ea (by omega)) hp_1000 rfl (Nat.le_of_ble_eq_true rfl) ?_
        refine s_Mo_cells_205 rfl ?_
        refine s_Mo_cells_206 ?_
        refine s_Mo_cells_208 (fun c208 => ?_) (fun c208 => absurd c208 (by decide))
        refine s_Mo_cells_223 rfl ?_
        refine s_Mo_cells_224 ?_
        refine s_Mo_cells_226 (fun c226 => ?_) (fun c226 => absurd c226 (by decide))
        refine s_Mo_cells_234 ?_
        exact s_Mo_cells_235 ⟨by rw [mFre, if_neg (fun h => h c16), if_neg (fun h => h c54), if_neg (fun h => h c95)], by rw [mFre, if_neg (fun h => h c16), if_neg (fun h => h c54), if_neg (fun h => h c95)]; rfl⟩ z0
      · skip
        refine s_Mo_cells_98 ?_
        exact s_Mo_cells_100 ⟨by simp [mFre, c16, c54, c95], by simp [mFre, c16, c54, c95]⟩ z0
    · skip
      refine s_Mo_cells_57 ?_
      exact s_Mo_cells_58 ⟨by simp [mFre, c16, c54], by simp [mFre, c16, c54]⟩ z0
  · skip
    refine s_Mo_cells_19 ?_
    exact s_Mo_cells_20 ⟨by simp [mFre, c16], by simp [mFre, c16]⟩ z0
set_option maxRecDepth 100000 in
theorem t_cells_8 {G : GW} {L : LT} {I : IT} {r : Nat} {p : Int32} {a : Nat} (ea : p = nI a) (ha : a < 8) {c : Nat} (hk : gt I a 0 = 2 → gt I a 4 = nI c ∧ c < 6) : mt G M_Mo_cells 2 0 0 [.ref 1000, .int 8, .int p] (hp L I r) (dt (some (.int (mTha I a c).1)) (hp L (mTha I a c).2 r)) := by
  refine mt_of_ev (by decide) (Nat.le_of_ble_eq_true rfl) ?_
  show ev G M_Mo_cells (rmv 2 0 0) (Er M_Mo_cells _ 0 0) 0 [(0, .ref 1000), (1, .int 8), (2, .int p)] [] (hp L I r) 0 0
  refine s_Mo_cells_0 rfl ?_
  refine s_Mo_cells_1 rfl ?_
  refine c_Mo_cells_2 (t_Mo_what ea (by omega)) hp_1000 rfl (Nat.le_of_ble_eq_true rfl) ?_
  refine s_Mo_cells_5 rfl ?_
  refine s_Mo_cells_6 ?_
  refine s_Mo_cells_8 (fun c8 => ?_) (fun c8 => absurd c8 (by decide))
  refine s_Mo_cells_15 ?_
  refine s_Mo_cells_16 (fun c16 => ?_) (fun c16 => ?_)
  · skip
    refine s_Mo_cells_21 rfl ?_
    refine s_Mo_cells_22 ?_
    refine s_Mo_cells_24 (fun c24 => ?_) (fun c24 => absurd c24 (by decide))
    refine s_Mo_cells_34 rfl ?_
    refine s_Mo_cells_35 rfl ?_
    refine s_Mo_cells_36 ?_
    refine c_Mo_cells_37 (t_Mo_get ea (by omega) (k := 4) rfl (by decide)) hp_1000 rfl (Nat.le_of_ble_eq_true rfl) ?_
    refine ev_topi (hk c16).1 ?_
    have hc := (hk c16).2
    refine s_Mo_cells_40 ?_
    refine s_Mo_cells_41 rfl ?_
    refine s_Mo_cells_42 ?_
    refine s_Mo_cells_44 (fun c44 => ?_) (fun c44 => absurd c44 (by decide))
    refine s_Mo_cells_59 rfl ?_
    refine s_Mo_cells_60 ?_
    refine s_Mo_cells_62 (fun c62 => absurd c62 (by decide)) (fun c62 => ?_)
    refine s_Mo_cells_65 rfl ?_
    refine s_Mo_cells_66 hp_1000 rfl ?_
    refine s_Mo_cells_69 rfl ?_
    refine s_Mo_cells_70 hp_1004 (vp_in_nI hc (by decide)) ?_
    rw [nI_clamp (by omega)]
    refine s_Mo_cells_71 ?_
    refine s_Mo_cells_72 (fun c72 => ?_) (fun c72 => ?_)
    · skip
      refine s_Mo_cells_91 ?_
      exact s_Mo_cells_93 ⟨by rw [mTha, if_neg (fun h => h c16), if_pos c72], by rw [mTha, if_neg (fun h => h c16), if_pos c72]⟩ z0
    · skip
      refine s_Mo_cells_75 rfl ?_
      refine s_Mo_cells_76 ?_
      refine s_Mo_cells_78 (fun c78 => ?_) (fun c78 => absurd c78 (by decide))
      refine s_Mo_cells_94 rfl ?_
      refine s_Mo_cells_95 (fun c95 => ?_) (fun c95 => absurd c95 (fun h => h (nI_pos' (by omega))))
      refine s_Mo_cells_101 rfl ?_
      refine s_Mo_cells_102 rfl ?_
      refine s_Mo_cells_103 ?_
      refine c_Mo_cells_104 (t_Mo_get ea (by omega) (k := 1) rfl (by decide)) hp_1000 rfl (Nat.le_of_ble_eq_true rfl) ?_
      refine s_Mo_cells_107 ?_
      refine s_Mo_cells_109 rfl ?_
      refine s_Mo_cells_110 rfl ?_
      refine s_Mo_cells_111 ?_
      refine c_Mo_cells_112 (t_Mo_get ea (by omega) (k := 2) rfl (by decide)) hp_1000 rfl (Nat.le_of_ble_eq_true rfl) ?_
      refine s_Mo_cells_115 ?_
      refine s_Mo_cells_117 rfl ?_
      refine s_Mo_cells_118 hp_1000 rfl ?_
      refine s_Mo_cells_121 rfl ?_
      refine s_Mo_cells_122 rfl ?_
      refine s_Mo_cells_123 ?_
      refine s_Mo_cells_125 (fun c125 => ?_) (fun c125 => absurd c125 (by decide))
      refine s_Mo_cells_132 rfl ?_
      refine s_Mo_cells_133 hp_1000 rfl ?_
      refine s_Mo_cells_136 rfl ?_
      refine s_Mo_cells_137 hp_1004 (vp_in_nI hc (by decide)) ?_
      rw [nI_clamp (by omega)]
      refine s_Mo_cells_138 ?_
      refine s_Mo_cells_139 ?_
      refine s_Mo_cells_140 hp_1004 (vp_in_nI hc (by decide)) ?_
      rw [hu_1004]
      rw [nI_clamp (by omega)]
      refine s_Mo_cells_141 rfl ?_
      refine s_Mo_cells_142 hp_1000 rfl ?_
      refine s_Mo_cells_145 rfl ?_
      refine s_Mo_cells_146 rfl ?_
      refine s_Mo_cells_147 ?_
      refine s_Mo_cells_149 (fun c149 => ?_) (fun c149 => absurd c149 (by decide))
      refine s_Mo_cells_157 rfl ?_
      refine s_Mo_cells_158 hp_1000 rfl ?_
      refine s_Mo_cells_161 rfl ?_
      refine s_Mo_cells_162 hp_1005 (vp_in_nI hc (by decide)) ?_
      rw [nI_clamp (by omega)]
      refine s_Mo_cells_163 hp_1005 (vp_in_nI hc (by decide)) ?_
      rw [hu_1005]
      rw [nI_clamp (by omega)]
      refine s_Mo_cells_164 rfl ?_
      refine s_Mo_cells_165 hp_1000 rfl ?_
      refine s_Mo_cells_168 rfl ?_
      refine s_Mo_cells_169 rfl ?_
      refine s_Mo_cells_170 ?_
      refine s_Mo_cells_172 (fun c172 => ?_) (fun c172 => absurd c172 (by decide))
      refine s_Mo_cells_180 rfl ?_
      refine s_Mo_cells_181 hp_1000 rfl ?_
      refine s_Mo_cells_184 rfl ?_
      refine s_Mo_cells_185 hp_1006 (vp_in_nI hc (by decide)) ?_
      rw [nI_clamp (by omega)]
      refine s_Mo_cells_186 hp_1006 (vp_in_nI hc (by decide)) ?_
      rw [hu_1006]
      rw [nI_clamp (by omega)]
      refine s_Mo_cells_187 rfl ?_
      refine s_Mo_cells_188 ?_
      refine s_Mo_cells_190 (fun c190 => ?_) (fun c190 => absurd c190 (by decide))
      refine s_Mo_cells_205 rfl ?_
      refine s_Mo_cells_206 ?_
      refine s_Mo_cells_208 (fun c208 => absurd c208 (by decide)) (fun c208 => ?_)
      refine s_Mo_cells_211 rfl ?_
      refine s_Mo_cells_212 rfl ?_
      refine s_Mo_cells_213 ?_
      refine s_Mo_cells_214 rfl ?_
      refine s_Mo_cells_216 rfl ?_
      refine s_Mo_cells_218 ?_
      refine s_Mo_cells_219 ?_
      refine c_Mo_cells_220 (t_Mo_put ea (by omega)) hp_1000 rfl (Nat.le_of_ble_eq_true rfl) ?_
      refine s_Mo_cells_223 rfl ?_
      refine s_Mo_cells_224 ?_
      refine s_Mo_cells_226 (fun c226 => ?_) (fun c226 => absurd c226 (by decide))
      refine s_Mo_cells_234 ?_
      exact s_Mo_cells_235 ⟨by rw [mTha, if_neg (fun h => h c16), if_neg (fun h => h c72)], by rw [mTha, if_neg (fun h => h c16), if_neg (fun h => h c72)]; rfl⟩ z0
  · skip
    refine s_Mo_cells_19 ?_
    exact s_Mo_cells_20 ⟨by rw [mTha, if_pos c16], by rw [mTha, if_pos c16]⟩ z0
set_option maxRecDepth 100000 in
theorem t_cells_9 {G : GW} {L : LT} {I : IT} {r : Nat} {p : Int32} {a : Nat} (ea : p = nI a) (ha : a < 8) {c : Nat} (hk : gt I a 0 = 2 → gt I a 4 = nI c ∧ c < 6) : mt G M_Mo_cells 2 0 0 [.ref 1000, .int 9, .int p] (hp L I r) (dt (some (.int (mDro I a c).1)) (hp L (mDro I a c).2 r)) := by
  refine mt_of_ev (by decide) (Nat.le_of_ble_eq_true rfl) ?_
  show ev G M_Mo_cells (rmv 2 0 0) (Er M_Mo_cells _ 0 0) 0 [(0, .ref 1000), (1, .int 9), (2, .int p)] [] (hp L I r) 0 0
  refine s_Mo_cells_0 rfl ?_
  refine s_Mo_cells_1 rfl ?_
  refine c_Mo_cells_2 (t_Mo_what ea (by omega)) hp_1000 rfl (Nat.le_of_ble_eq_true rfl) ?_
  refine s_Mo_cells_5 rfl ?_
  refine s_Mo_cells_6 ?_
  refine s_Mo_cells_8 (fun c8 => ?_) (fun c8 => absurd c8 (by decide))
  refine s_Mo_cells_15 ?_
  refine s_Mo_cells_16 (fun c16 => ?_) (fun c16 => ?_)
  · skip
    refine s_Mo_cells_21 rfl ?_
    refine s_Mo_cells_22 ?_
    refine s_Mo_cells_24 (fun c24 => ?_) (fun c24 => absurd c24 (by decide))
    refine s_Mo_cells_34 rfl ?_
    refine s_Mo_cells_35 rfl ?_
    refine s_Mo_cells_36 ?_
    refine c_Mo_cells_37 (t_Mo_get ea (by omega) (k := 4) rfl (by decide)) hp_1000 rfl (Nat.le_of_ble_eq_true rfl) ?_
    refine ev_topi (hk c16).1 ?_
    have hc := (hk c16).2
    refine s_Mo_cells_40 ?_
    refine s_Mo_cells_41 rfl ?_
    refine s_Mo_cells_42 ?_
    refine s_Mo_cells_44 (fun c44 => ?_) (fun c44 => absurd c44 (by decide))
    refine s_Mo_cells_59 rfl ?_
    refine s_Mo_cells_60 ?_
    refine s_Mo_cells_62 (fun c62 => ?_) (fun c62 => absurd c62 (by decide))
    refine s_Mo_cells_75 rfl ?_
    refine s_Mo_cells_76 ?_
    refine s_Mo_cells_78 (fun c78 => absurd c78 (by decide)) (fun c78 => ?_)
    refine s_Mo_cells_81 rfl ?_
    refine s_Mo_cells_82 hp_1000 rfl ?_
    refine s_Mo_cells_85 rfl ?_
    refine s_Mo_cells_86 hp_1004 (vp_in_nI hc (by decide)) ?_
    rw [nI_clamp (by omega)]
    refine s_Mo_cells_87 ?_
    refine s_Mo_cells_88 (fun c88 => ?_) (fun c88 => ?_)
    · skip
      refine s_Mo_cells_94 rfl ?_
      refine s_Mo_cells_95 (fun c95 => ?_) (fun c95 => absurd c95 (fun h => h (nI_pos' (by omega))))
      refine s_Mo_cells_101 rfl ?_
      refine s_Mo_cells_102 rfl ?_
      refine s_Mo_cells_103 ?_
      refine c_Mo_cells_104 (t_Mo_get ea (by omega) (k := 1) rfl (by decide)) hp_1000 rfl (Nat.le_of_ble_eq_true rfl) ?_
      refine s_Mo_cells_107 ?_
      refine s_Mo_cells_109 rfl ?_
      refine s_Mo_cells_110 rfl ?_
      refine s_Mo_cells_111 ?_
      refine c_Mo_cells_112 (t_Mo_get ea (by omega) (k := 2) rfl (by decide)) hp_1000 rfl (Nat.le_of_ble_eq_true rfl) ?_
      refine s_Mo_cells_115 ?_
      refine s_Mo_cells_117 rfl ?_
      refine s_Mo_cells_118 hp_1000 rfl ?_
      refine s_Mo_cells_121 rfl ?_
      refine s_Mo_cells_122 rfl ?_
      refine s_Mo_cells_123 ?_
      refine s_Mo_cells_125 (fun c125 => ?_) (fun c125 => absurd c125 (by decide))
      refine s_Mo_cells_132 rfl ?_
      refine s_Mo_cells_133 hp_1000 rfl ?_
      refine s_Mo_cells_136 rfl ?_
      refine s_Mo_cells_137 hp_1004 (vp_in_nI hc (by decide)) ?_
      rw [nI_clamp (by omega)]
      refine s_Mo_cells_138 ?_
      refine s_Mo_cells_139 ?_
      refine s_Mo_cells_140 hp_1004 (vp_in_nI hc (by decide)) ?_
      rw [hu_1004]
      rw [nI_clamp (by omega)]
      refine s_Mo_cells_141 rfl ?_
      refine s_Mo_cells_142 hp_1000 rfl ?_
      refine s_Mo_cells_145 rfl ?_
      refine s_Mo_cells_146 rfl ?_
      refine s_Mo_cells_147 ?_
      refine s_Mo_cells_149 (fun c149 => ?_) (fun c149 => absurd c149 (by decide))
      refine s_Mo_cells_157 rfl ?_
      refine s_Mo_cells_158 hp_1000 rfl ?_
      refine s_Mo_cells_161 rfl ?_
      refine s_Mo_cells_162 hp_1005 (vp_in_nI hc (by decide)) ?_
      rw [nI_clamp (by omega)]
      refine s_Mo_cells_163 hp_1005 (vp_in_nI hc (by decide)) ?_
      rw [hu_1005]
      rw [nI_clamp (by omega)]
      refine s_Mo_cells_164 rfl ?_
      refine s_Mo_cells_165 hp_1000 rfl ?_
      refine s_Mo_cells_168 rfl ?_
      refine s_Mo_cells_169 rfl ?_
      refine s_Mo_cells_170 ?_
      refine s_Mo_cells_172 (fun c172 => ?_) (fun c172 => absurd c172 (by decide))
      refine s_Mo_cells_180 rfl ?_
      refine s_Mo_cells_181 hp_1000 rfl ?_
      refine s_Mo_cells_184 rfl ?_
      refine s_Mo_cells_185 hp_1006 (vp_in_nI hc (by decide)) ?_
      rw [nI_clamp (by omega)]
      refine s_Mo_cells_186 hp_1006 (vp_in_nI hc (by decide)) ?_
      rw [hu_1006]
      rw [nI_clamp (by omega)]
      refine s_Mo_cells_187 rfl ?_
      refine s_Mo_cells_188 ?_
      refine s_Mo_cells_190 (fun c190 => ?_) (fun c190 => absurd c190 (by decide))
      refine s_Mo_cells_205 rfl ?_
      refine s_Mo_cells_206 ?_
      refine s_Mo_cells_208 (fun c208 => ?_) (fun c208 => absurd c208 (by decide))
      refine s_Mo_cells_223 rfl ?_
      refine s_Mo_cells_224 ?_
      refine s_Mo_cells_226 (fun c226 => absurd c226 (by decide)) (fun c226 => ?_)
      refine s_Mo_cells_229 rfl ?_
      refine s_Mo_cells_230 rfl ?_
      refine c_Mo_cells_231 (t_Mo_clear ea (by omega)) hp_1000 rfl (Nat.le_of_ble_eq_true rfl) ?_
      refine s_Mo_cells_234 ?_
      exact s_Mo_cells_235 ⟨by rw [mDro, if_neg (fun h => h c16), if_neg (Int32.not_lt.mpr c88)], by rw [mDro, if_neg (fun h => h c16), if_neg (Int32.not_lt.mpr c88)]; rfl⟩ z0
    · skip
      refine s_Mo_cells_91 ?_
      exact s_Mo_cells_93 ⟨by rw [mDro, if_neg (fun h => h c16), if_pos (Int32.not_le.mp c88)], by rw [mDro, if_neg (fun h => h c16), if_pos (Int32.not_le.mp c88)]⟩ z0
  · skip
    refine s_Mo_cells_19 ?_
    exact s_Mo_cells_20 ⟨by rw [mDro, if_pos c16], by rw [mDro, if_pos c16]⟩ z0
set_option maxHeartbeats 2000000 in
set_option maxRecDepth 100000 in
theorem t_memory_10 {G : GW} {L : LT} {I : IT} {r : Nat} {p : Int32} {a : Nat} (ea : p = nI a) (ha : a < 8) {q : Int32} {b : Nat} (eb : q = nI b) (hb : b < 8) {n : Int32} {w : Nat} (hw : ¬ gt I b 0 = 0 → ¬ gt I b 0 = 3 → mIn I b n = true → 8 + (gt I b 1 + n) = nI w ∧ w < 56 ∧ 8 ≤ w) (hk : ¬ gt I b 0 = 0 → ¬ gt I b 0 = 3 → mIn I b n = true → gt I w 0 = 2 → vp_in (gt I w 4) 6) : mt G M_Mo_memory 4 0 0 [.ref 1000, .int 10, .int p, .int q, .int n] (hp L I r) (dt (some (.int (mLoa I a b w n).1)) (hp L (mLoa I a b w n).2 r)) := by
  refine mt_of_ev (by decide) (Nat.le_of_ble_eq_true rfl) ?_
  show ev G M_Mo_memory (rmv 4 0 0) (Er M_Mo_memory _ 0 0) 0 [(0, .ref 1000), (1, .int 10), (2, .int p), (3, .int q), (4, .int n)] [] (hp L I r) 0 0
  refine s_Mo_memory_0 rfl ?_
  refine s_Mo_memory_1 rfl ?_
  refine c_Mo_memory_2 (t_Mo_what eb (by omega)) hp_1000 rfl (Nat.le_of_ble_eq_true rfl) ?_
  refine s_Mo_memory_5 (fun c5 => ?_) (fun c5 => ?_)
  · skip
    refine s_Mo_memory_17 ?_
    exact s_Mo_memory_18 ⟨by rw [mLoa, if_pos (Or.inl c5)], by rw [mLoa, if_pos (Or.inl c5)]⟩ z0
  · skip
    refine s_Mo_memory_8 rfl ?_
    refine s_Mo_memory_9 rfl ?_
    refine c_Mo_memory_10 (t_Mo_what eb (by omega)) hp_1000 rfl (Nat.le_of_ble_eq_true rfl) ?_
    refine s_Mo_memory_13 ?_
    refine s_Mo_memory_14 (fun c14 => ?_) (fun c14 => ?_)
    · skip
      refine s_Mo_memory_19 rfl ?_
      refine s_Mo_memory_21 ?_
      refine s_Mo_memory_22 rfl ?_
      refine s_Mo_memory_23 rfl ?_
      refine c_Mo_memory_24 (t_Mo_length eb (by omega)) hp_1000 rfl (Nat.le_of_ble_eq_true rfl) ?_
      refine s_Mo_memory_27 ?_
      refine s_Mo_memory_28 ?_
      refine c_Mo_memory_29 (show mt _ _ _ _ _ _ _ (dt (some (.int (bz (mIn I b n)))) _) from t_Mo_in) (Nat.le_of_ble_eq_true rfl) ?_
      refine s_Mo_memory_32 ?_
      refine s_Mo_memory_34 ?_
      refine s_Mo_memory_36 rfl ?_
      refine s_Mo_memory_38 (fun c38 => ?_) (fun c38 => ?_)
      · skip
        (first | rw [bz_n0] at c38 | rw [bz_0] at c38 | skip); (try simp only [Bool.not_eq_false', Bool.not_eq_true', decide_eq_true_eq, decide_eq_false_iff_not, Bool.or_eq_true, Bool.or_eq_false_iff, Bool.and_eq_true, Bool.and_eq_false_iff] at c38)
        refine s_Mo_memory_53 ?_
        refine s_Mo_memory_54 ?_
        refine s_Mo_memory_55 ?_
        refine s_Mo_memory_57 rfl ?_
        refine s_Mo_memory_59 (fun c59 => ?_) (fun c59 => absurd c59 (fun h => h (bz_0.mpr c38)))
        refine s_Mo_memory_81 ?_
        exact s_Mo_memory_82 ⟨by rw [mLoa, if_neg (fun h => h.elim c5 c14), if_pos (Or.inl c38)], by rw [mLoa, if_neg (fun h => h.elim c5 c14), if_pos (Or.inl c38)]⟩ z0
      · skip
        (first | rw [bz_n0] at c38 | rw [bz_0] at c38 | skip); (try simp only [Bool.not_eq_false', Bool.not_eq_true', decide_eq_true_eq, decide_eq_false_iff_not, Bool.or_eq_true, Bool.or_eq_false_iff, Bool.and_eq_true, Bool.and_eq_false_iff] at c38)
        refine s_Mo_memory_41 rfl ?_
        refine s_Mo_memory_42 rfl ?_
        refine s_Mo_memory_43 ?_
        refine c_Mo_memory_44 (t_Mo_get eb (by omega) (k := 1) rfl (by decide)) hp_1000 rfl (Nat.le_of_ble_eq_true rfl) ?_
        refine s_Mo_memory_47 rfl ?_
        refine s_Mo_memory_49 ?_
        refine s_Mo_memory_50 ?_
        refine s_Mo_memory_54 ?_
        refine s_Mo_memory_55 ?_
        refine s_Mo_memory_57 rfl ?_
        refine s_Mo_memory_59 (fun c59 => absurd c59 (bz_n0.mpr c38)) (fun c59 => ?_)
        refine s_Mo_memory_62 rfl ?_
        refine s_Mo_memory_63 rfl ?_
        refine s_Mo_memory_64 rfl ?_
        refine s_Mo_memory_65 ?_
        refine s_Mo_memory_67 (fun c67 => absurd c67 (by decide)) (fun c67 => ?_)
        refine s_Mo_memory_70 ?_
        refine s_Mo_memory_71 ?_
        refine c_Mo_memory_75 (show mt _ _ _ _ _ _ _ (dt (some (.int (bz (mHas I b 1)))) _) from t_Mo_has eb (by omega)) hp_1000 rfl (Nat.le_of_ble_eq_true rfl) ?_
        refine s_Mo_memory_78 (fun c78 => ?_) (fun c78 => ?_)
        · skip
          (first | rw [bz_n0] at c78 | rw [bz_0] at c78 | skip); (try simp only [Bool.not_eq_false', Bool.not_eq_true', decide_eq_true_eq, decide_eq_false_iff_not, Bool.or_eq_true, Bool.or_eq_false_iff, Bool.and_eq_true, Bool.and_eq_false_iff] at c78)
          refine s_Mo_memory_83 rfl ?_
          refine s_Mo_memory_84 rfl ?_
          refine c_Mo_memory_86 (t_Mo_what (hw c5 c14 c38).1 (by have := (hw c5 c14 c38).2.1; omega)) hp_1000 rfl (Nat.le_of_ble_eq_true rfl) ?_
          refine s_Mo_memory_89 ?_
          refine s_Mo_memory_90 (fun c90 => ?_) (fun c90 => ?_)
          · skip
            refine s_Mo_memory_103 ?_
            refine s_Mo_memory_104 ?_
            refine s_Mo_memory_108 ?_
            refine s_Mo_memory_110 rfl ?_
            refine s_Mo_memory_111 ?_
            refine s_Mo_memory_113 (fun c113 => absurd c113 (by decide)) (fun c113 => ?_)
            refine s_Mo_memory_116 rfl ?_
            refine s_Mo_memory_118 (fun c118 => absurd c118 (by decide)) (fun c118 => ?_)
            refine s_Mo_memory_121 rfl ?_
            refine s_Mo_memory_122 rfl ?_
            refine s_Mo_memory_123 ?_
            refine c_Mo_memory_124 (show mt _ _ _ _ _ _ _ (dt (some (.int (bz (mHas I b 2)))) _) from t_Mo_has eb (by omega)) hp_1000 rfl (Nat.le_of_ble_eq_true rfl) ?_
            refine s_Mo_memory_127 (fun c127 => ?_) (fun c127 => ?_)
            · skip
              (first | rw [bz_n0] at c127 | rw [bz_0] at c127 | skip); (try simp only [Bool.not_eq_false', Bool.not_eq_true', decide_eq_true_eq, decide_eq_false_iff_not, Bool.or_eq_true, Bool.or_eq_false_iff, Bool.and_eq_true, Bool.and_eq_false_iff] at c127)
              refine s_Mo_memory_132 rfl ?_
              refine s_Mo_memory_133 ?_
              refine s_Mo_memory_135 (fun c135 => absurd c135 (by decide)) (fun c135 => ?_)
              refine s_Mo_memory_138 rfl ?_
              refine s_Mo_memory_139 ?_
              refine s_Mo_memory_144 ?_
              refine s_Mo_memory_146 rfl ?_
              refine s_Mo_memory_147 rfl ?_
              refine c_Mo_memory_149 (t_Mo_isNumber ea (by omega)) hp_1000 rfl (Nat.le_of_ble_eq_true rfl) ?_
              refine s_Mo_memory_152 (fun c152 => ?_) (fun c152 => ?_)
              · skip
                (first | rw [bz_n0] at c152 | rw [bz_0] at c152 | skip); (try simp only [Bool.not_eq_false', Bool.not_eq_true', decide_eq_true_eq, decide_eq_false_iff_not, Bool.or_eq_true, Bool.or_eq_false_iff, Bool.and_eq_true, Bool.and_eq_false_iff] at c152)
                refine s_Mo_memory_157 rfl ?_
                refine s_Mo_memory_158 rfl ?_
                refine s_Mo_memory_160 rfl ?_
                refine s_Mo_memory_161 ?_
                refine s_Mo_memory_163 (fun c163 => absurd c163 (by decide)) (fun c163 => ?_)
                refine s_Mo_memory_166 rfl ?_
                refine s_Mo_memory_168 ?_
                refine c_Mo_memory_172 (t_Mo_assign ea (by omega) (hw c5 c14 c38).1 (by have := (hw c5 c14 c38).2.1; omega) (by have := (hw c5 c14 c38).2.2; omega) (hk c5 c14 c38)) hp_1000 rfl (Nat.le_of_ble_eq_true rfl) ?_
                refine s_Mo_memory_175 ?_
                exact s_Mo_memory_176 ⟨by rw [mLoa, if_neg (fun h => h.elim c5 c14), if_neg (fun h => h.elim (fun h => Bool.noConfusion (c38.symm.trans h)) (fun h => Bool.noConfusion (c78.symm.trans h))), if_neg (fun h => Bool.noConfusion (c127.symm.trans h.2)), if_neg (fun h => h c152)], by rw [mLoa, if_neg (fun h => h.elim c5 c14), if_neg (fun h => h.elim (fun h => Bool.noConfusion (c38.symm.trans h)) (fun h => Bool.noConfusion (c78.symm.trans h))), if_neg (fun h => Bool.noConfusion (c127.symm.trans h.2)), if_neg (fun h => h c152)]⟩ z0
              · skip
                (first | rw [bz_n0] at c152 | rw [bz_0] at c152 | skip); (try simp only [Bool.not_eq_false', Bool.not_eq_true', decide_eq_true_eq, decide_eq_false_iff_not, Bool.or_eq_true, Bool.or_eq_false_iff, Bool.and_eq_true, Bool.and_eq_false_iff] at c152)
                refine s_Mo_memory_155 ?_
                exact s_Mo_memory_156 ⟨by rw [mLoa, if_neg (fun h => h.elim c5 c14), if_neg (fun h => h.elim (fun h => Bool.noConfusion (c38.symm.trans h)) (fun h => Bool.noConfusion (c78.symm.trans h))), if_neg (fun h => Bool.noConfusion (c127.symm.trans h.2)), if_pos c152], by rw [mLoa, if_neg (fun h => h.elim c5 c14), if_neg (fun h => h.elim (fun h => Bool.noConfusion (c38.symm.trans h)) (fun h => Bool.noConfusion (c78.symm.trans h))), if_neg (fun h => Bool.noConfusion (c127.symm.trans h.2)), if_pos c152]⟩ z0
            · skip
              (first | rw [bz_n0] at c127 | rw [bz_0] at c127 | skip); (try simp only [Bool.not_eq_false', Bool.not_eq_true', decide_eq_true_eq, decide_eq_false_iff_not, Bool.or_eq_true, Bool.or_eq_false_iff, Bool.and_eq_true, Bool.and_eq_false_iff] at c127)
              refine s_Mo_memory_130 ?_
              exact s_Mo_memory_131 ⟨by rw [mLoa, if_neg (fun h => h.elim c5 c14), if_neg (fun h => h.elim (fun h => Bool.noConfusion (c38.symm.trans h)) (fun h => Bool.noConfusion (c78.symm.trans h))), if_pos ⟨Or.inl c90, c127⟩], by rw [mLoa, if_neg (fun h => h.elim c5 c14), if_neg (fun h => h.elim (fun h => Bool.noConfusion (c38.symm.trans h)) (fun h => Bool.noConfusion (c78.symm.trans h))), if_pos ⟨Or.inl c90, c127⟩]⟩ z0
          · skip
            refine s_Mo_memory_93 rfl ?_
            refine s_Mo_memory_94 rfl ?_
            refine c_Mo_memory_96 (t_Mo_what (hw c5 c14 c38).1 (by have := (hw c5 c14 c38).2.1; omega)) hp_1000 rfl (Nat.le_of_ble_eq_true rfl) ?_
            refine s_Mo_memory_99 ?_
            refine s_Mo_memory_100 (fun c100 => ?_) (fun c100 => ?_)
            · skip
              refine s_Mo_memory_107 ?_
              refine s_Mo_memory_108 ?_
              refine s_Mo_memory_110 rfl ?_
              refine s_Mo_memory_111 ?_
              refine s_Mo_memory_113 (fun c113 => absurd c113 (by decide)) (fun c113 => ?_)
              refine s_Mo_memory_116 rfl ?_
              refine s_Mo_memory_118 (fun c118 => ?_) (fun c118 => absurd c118 (by decide))
              refine s_Mo_memory_132 rfl ?_
              refine s_Mo_memory_133 ?_
              refine s_Mo_memory_135 (fun c135 => absurd c135 (by decide)) (fun c135 => ?_)
              refine s_Mo_memory_138 rfl ?_
              refine s_Mo_memory_139 ?_
              refine s_Mo_memory_144 ?_
              refine s_Mo_memory_146 rfl ?_
              refine s_Mo_memory_147 rfl ?_
              refine c_Mo_memory_149 (t_Mo_isNumber ea (by omega)) hp_1000 rfl (Nat.le_of_ble_eq_true rfl) ?_
              refine s_Mo_memory_152 (fun c152 => ?_) (fun c152 => ?_)
              · skip
                (first | rw [bz_n0] at c152 | rw [bz_0] at c152 | skip); (try simp only [Bool.not_eq_false', Bool.not_eq_true', decide_eq_true_eq, decide_eq_false_iff_not, Bool.or_eq_true, Bool.or_eq_false_iff, Bool.and_eq_true, Bool.and_eq_false_iff] at c152)
                refine s_Mo_memory_157 rfl ?_
                refine s_Mo_memory_158 rfl ?_
                refine s_Mo_memory_160 rfl ?_
                refine s_Mo_memory_161 ?_
                refine s_Mo_memory_163 (fun c163 => absurd c163 (by decide)) (fun c163 => ?_)
                refine s_Mo_memory_166 rfl ?_
                refine s_Mo_memory_168 ?_
                refine c_Mo_memory_172 (t_Mo_assign ea (by omega) (hw c5 c14 c38).1 (by have := (hw c5 c14 c38).2.1; omega) (by have := (hw c5 c14 c38).2.2; omega) (hk c5 c14 c38)) hp_1000 rfl (Nat.le_of_ble_eq_true rfl) ?_
                refine s_Mo_memory_175 ?_
                exact s_Mo_memory_176 ⟨by rw [mLoa, if_neg (fun h => h.elim c5 c14), if_neg (fun h => h.elim (fun h => Bool.noConfusion (c38.symm.trans h)) (fun h => Bool.noConfusion (c78.symm.trans h))), if_neg (fun h => h.1.elim c90 c100), if_neg (fun h => h c152)], by rw [mLoa, if_neg (fun h => h.elim c5 c14), if_neg (fun h => h.elim (fun h => Bool.noConfusion (c38.symm.trans h)) (fun h => Bool.noConfusion (c78.symm.trans h))), if_neg (fun h => h.1.elim c90 c100), if_neg (fun h => h c152)]⟩ z0
              · skip
                (first | rw [bz_n0] at c152 | rw [bz_0] at c152 | skip); (try simp only [Bool.not_eq_false', Bool.not_eq_true', decide_eq_true_eq, decide_eq_false_iff_not, Bool.or_eq_true, Bool.or_eq_false_iff, Bool.and_eq_true, Bool.and_eq_false_iff] at c152)
                refine s_Mo_memory_155 ?_
                exact s_Mo_memory_156 ⟨by rw [mLoa, if_neg (fun h => h.elim c5 c14), if_neg (fun h => h.elim (fun h => Bool.noConfusion (c38.symm.trans h)) (fun h => Bool.noConfusion (c78.symm.trans h))), if_neg (fun h => h.1.elim c90 c100), if_pos c152], by rw [mLoa, if_neg (fun h => h.elim c5 c14), if_neg (fun h => h.elim (fun h => Bool.noConfusion (c38.symm.trans h)) (fun h => Bool.noConfusion (c78.symm.trans h))), if_neg (fun h => h.1.elim c90 c100), if_pos c152]⟩ z0
            · skip
              refine s_Mo_memory_103 ?_
              refine s_Mo_memory_104 ?_
              refine s_Mo_memory_108 ?_
              refine s_Mo_memory_110 rfl ?_
              refine s_Mo_memory_111 ?_
              refine s_Mo_memory_113 (fun c113 => absurd c113 (by decide)) (fun c113 => ?_)
              refine s_Mo_memory_116 rfl ?_
              refine s_Mo_memory_118 (fun c118 => absurd c118 (by decide)) (fun c118 => ?_)
              refine s_Mo_memory_121 rfl ?_
              refine s_Mo_memory_122 rfl ?_
              refine s_Mo_memory_123 ?_
              refine c_Mo_memory_124 (show mt _ _ _ _ _ _ _ (dt (some (.int (bz (mHas I b 2)))) _) from t_Mo_has eb (by omega)) hp_1000 rfl (Nat.le_of_ble_eq_true rfl) ?_
              refine s_Mo_memory_127 (fun c127 => ?_) (fun c127 => ?_)
              · skip
                (first | rw [bz_n0] at c127 | rw [bz_0] at c127 | skip); (try simp only [Bool.not_eq_false', Bool.not_eq_true', decide_eq_true_eq, decide_eq_false_iff_not, Bool.or_eq_true, Bool.or_eq_false_iff, Bool.and_eq_true, Bool.and_eq_false_iff] at c127)
                refine s_Mo_memory_132 rfl ?_
                refine s_Mo_memory_133 ?_
                refine s_Mo_memory_135 (fun c135 => absurd c135 (by decide)) (fun c135 => ?_)
                refine s_Mo_memory_138 rfl ?_
                refine s_Mo_memory_139 ?_
                refine s_Mo_memory_144 ?_
                refine s_Mo_memory_146 rfl ?_
                refine s_Mo_memory_147 rfl ?_
                refine c_Mo_memory_149 (t_Mo_isNumber ea (by omega)) hp_1000 rfl (Nat.le_of_ble_eq_true rfl) ?_
                refine s_Mo_memory_152 (fun c152 => ?_) (fun c152 => ?_)
                · skip
                  (first | rw [bz_n0] at c152 | rw [bz_0] at c152 | skip); (try simp only [Bool.not_eq_false', Bool.not_eq_true', decide_eq_true_eq, decide_eq_false_iff_not, Bool.or_eq_true, Bool.or_eq_false_iff, Bool.and_eq_true, Bool.and_eq_false_iff] at c152)
                  refine s_Mo_memory_157 rfl ?_
                  refine s_Mo_memory_158 rfl ?_
                  refine s_Mo_memory_160 rfl ?_
                  refine s_Mo_memory_161 ?_
                  refine s_Mo_memory_163 (fun c163 => absurd c163 (by decide)) (fun c163 => ?_)
                  refine s_Mo_memory_166 rfl ?_
                  refine s_Mo_memory_168 ?_
                  refine c_Mo_memory_172 (t_Mo_assign ea (by omega) (hw c5 c14 c38).1 (by have := (hw c5 c14 c38).2.1; omega) (by have := (hw c5 c14 c38).2.2; omega) (hk c5 c14 c38)) hp_1000 rfl (Nat.le_of_ble_eq_true rfl) ?_
                  refine s_Mo_memory_175 ?_
                  exact s_Mo_memory_176 ⟨by rw [mLoa, if_neg (fun h => h.elim c5 c14), if_neg (fun h => h.elim (fun h => Bool.noConfusion (c38.symm.trans h)) (fun h => Bool.noConfusion (c78.symm.trans h))), if_neg (fun h => Bool.noConfusion (c127.symm.trans h.2)), if_neg (fun h => h c152)], by rw [mLoa, if_neg (fun h => h.elim c5 c14), if_neg (fun h => h.elim (fun h => Bool.noConfusion (c38.symm.trans h)) (fun h => Bool.noConfusion (c78.symm.trans h))), if_neg (fun h => Bool.noConfusion (c127.symm.trans h.2)), if_neg (fun h => h c152)]⟩ z0
                · skip
                  (first | rw [bz_n0] at c152 | rw [bz_0] at c152 | skip); (try simp only [Bool.not_eq_false', Bool.not_eq_true', decide_eq_true_eq, decide_eq_false_iff_not, Bool.or_eq_true, Bool.or_eq_false_iff, Bool.and_eq_true, Bool.and_eq_false_iff] at c152)
                  refine s_Mo_memory_155 ?_
                  exact s_Mo_memory_156 ⟨by rw [mLoa, if_neg (fun h => h.elim c5 c14), if_neg (fun h => h.elim (fun h => Bool.noConfusion (c38.symm.trans h)) (fun h => Bool.noConfusion (c78.symm.trans h))), if_neg (fun h => Bool.noConfusion (c127.symm.trans h.2)), if_pos c152], by rw [mLoa, if_neg (fun h => h.elim c5 c14), if_neg (fun h => h.elim (fun h => Bool.noConfusion (c38.symm.trans h)) (fun h => Bool.noConfusion (c78.symm.trans h))), if_neg (fun h => Bool.noConfusion (c127.symm.trans h.2)), if_pos c152]⟩ z0
              · skip
                (first | rw [bz_n0] at c127 | rw [bz_0] at c127 | skip); (try simp only [Bool.not_eq_false', Bool.not_eq_true', decide_eq_true_eq, decide_eq_false_iff_not, Bool.or_eq_true, Bool.or_eq_false_iff, Bool.and_eq_true, Bool.and_eq_false_iff] at c127)
                refine s_Mo_memory_130 ?_
                exact s_Mo_memory_131 ⟨by rw [mLoa, if_neg (fun h => h.elim c5 c14), if_neg (fun h => h.elim (fun h => Bool.noConfusion (c38.symm.trans h)) (fun h => Bool.noConfusion (c78.symm.trans h))), if_pos ⟨Or.inr c100, c127⟩], by rw [mLoa, if_neg (fun h => h.elim c5 c14), if_neg (fun h => h.elim (fun h => Bool.noConfusion (c38.symm.trans h)) (fun h => Bool.noConfusion (c78.symm.trans h))), if_pos ⟨Or.inr c100, c127⟩]⟩ z0
        · skip
          (first | rw [bz_n0] at c78 | rw [bz_0] at c78 | skip); (try simp only [Bool.not_eq_false', Bool.not_eq_true', decide_eq_true_eq, decide_eq_false_iff_not, Bool.or_eq_true, Bool.or_eq_false_iff, Bool.and_eq_true, Bool.and_eq_false_iff] at c78)
          refine s_Mo_memory_81 ?_
          exact s_Mo_memory_82 ⟨by rw [mLoa, if_neg (fun h => h.elim c5 c14), if_pos (Or.inr c78)], by rw [mLoa, if_neg (fun h => h.elim c5 c14), if_pos (Or.inr c78)]⟩ z0
    · skip
      refine s_Mo_memory_17 ?_
      exact s_Mo_memory_18 ⟨by rw [mLoa, if_pos (Or.inr c14)], by rw [mLoa, if_pos (Or.inr c14)]⟩ z0
set_option maxHeartbeats 2000000 in
set_option maxRecDepth 100000 in
theorem t_memory_11 {G : GW} {L : LT} {I : IT} {r : Nat} {p : Int32} {a : Nat} (ea : p = nI a) (ha : a < 8) {q : Int32} {b : Nat} (eb : q = nI b) (hb : b < 8) {n : Int32} {w : Nat} (hw : ¬ gt I b 0 = 0 → ¬ gt I b 0 = 3 → mIn I b n = true → 8 + (gt I b 1 + n) = nI w ∧ w < 56 ∧ 8 ≤ w) (hk : gt I a 0 = 2 → vp_in (gt I a 4) 6) : mt G M_Mo_memory 4 0 0 [.ref 1000, .int 11, .int p, .int q, .int n] (hp L I r) (dt (some (.int (mSto I a b w n).1)) (hp L (mSto I a b w n).2 r)) := by
  refine mt_of_ev (by decide) (Nat.le_of_ble_eq_true rfl) ?_
  show ev G M_Mo_memory (rmv 4 0 0) (Er M_Mo_memory _ 0 0) 0 [(0, .ref 1000), (1, .int 11), (2, .int p), (3, .int q), (4, .int n)] [] (hp L I r) 0 0
  refine s_Mo_memory_0 rfl ?_
  refine s_Mo_memory_1 rfl ?_
  refine c_Mo_memory_2 (t_Mo_what eb (by omega)) hp_1000 rfl (Nat.le_of_ble_eq_true rfl) ?_
  refine s_Mo_memory_5 (fun c5 => ?_) (fun c5 => ?_)
  · skip
    refine s_Mo_memory_17 ?_
    exact s_Mo_memory_18 ⟨by rw [mSto, if_pos (Or.inl c5)], by rw [mSto, if_pos (Or.inl c5)]⟩ z0
  · skip
    refine s_Mo_memory_8 rfl ?_
    refine s_Mo_memory_9 rfl ?_
    refine c_Mo_memory_10 (t_Mo_what eb (by omega)) hp_1000 rfl (Nat.le_of_ble_eq_true rfl) ?_
    refine s_Mo_memory_13 ?_
    refine s_Mo_memory_14 (fun c14 => ?_) (fun c14 => ?_)
    · skip
      refine s_Mo_memory_19 rfl ?_
      refine s_Mo_memory_21 ?_
      refine s_Mo_memory_22 rfl ?_
      refine s_Mo_memory_23 rfl ?_
      refine c_Mo_memory_24 (t_Mo_length eb (by omega)) hp_1000 rfl (Nat.le_of_ble_eq_true rfl) ?_
      refine s_Mo_memory_27 ?_
      refine s_Mo_memory_28 ?_
      refine c_Mo_memory_29 (show mt _ _ _ _ _ _ _ (dt (some (.int (bz (mIn I b n)))) _) from t_Mo_in) (Nat.le_of_ble_eq_true rfl) ?_
      refine s_Mo_memory_32 ?_
      refine s_Mo_memory_34 ?_
      refine s_Mo_memory_36 rfl ?_
      refine s_Mo_memory_38 (fun c38 => ?_) (fun c38 => ?_)
      · skip
        (first | rw [bz_n0] at c38 | rw [bz_0] at c38 | skip); (try simp only [Bool.not_eq_false', Bool.not_eq_true', decide_eq_true_eq, decide_eq_false_iff_not, Bool.or_eq_true, Bool.or_eq_false_iff, Bool.and_eq_true, Bool.and_eq_false_iff] at c38)
        refine s_Mo_memory_53 ?_
        refine s_Mo_memory_54 ?_
        refine s_Mo_memory_55 ?_
        refine s_Mo_memory_57 rfl ?_
        refine s_Mo_memory_59 (fun c59 => ?_) (fun c59 => absurd c59 (fun h => h (bz_0.mpr c38)))
        refine s_Mo_memory_81 ?_
        exact s_Mo_memory_82 ⟨by rw [mSto, if_neg (fun h => h.elim c5 c14), if_pos (Or.inl c38)], by rw [mSto, if_neg (fun h => h.elim c5 c14), if_pos (Or.inl c38)]⟩ z0
      · skip
        (first | rw [bz_n0] at c38 | rw [bz_0] at c38 | skip); (try simp only [Bool.not_eq_false', Bool.not_eq_true', decide_eq_true_eq, decide_eq_false_iff_not, Bool.or_eq_true, Bool.or_eq_false_iff, Bool.and_eq_true, Bool.and_eq_false_iff] at c38)
        refine s_Mo_memory_41 rfl ?_
        refine s_Mo_memory_42 rfl ?_
        refine s_Mo_memory_43 ?_
        refine c_Mo_memory_44 (t_Mo_get eb (by omega) (k := 1) rfl (by decide)) hp_1000 rfl (Nat.le_of_ble_eq_true rfl) ?_
        refine s_Mo_memory_47 rfl ?_
        refine s_Mo_memory_49 ?_
        refine s_Mo_memory_50 ?_
        refine s_Mo_memory_54 ?_
        refine s_Mo_memory_55 ?_
        refine s_Mo_memory_57 rfl ?_
        refine s_Mo_memory_59 (fun c59 => absurd c59 (bz_n0.mpr c38)) (fun c59 => ?_)
        refine s_Mo_memory_62 rfl ?_
        refine s_Mo_memory_63 rfl ?_
        refine s_Mo_memory_64 rfl ?_
        refine s_Mo_memory_65 ?_
        refine s_Mo_memory_67 (fun c67 => ?_) (fun c67 => absurd c67 (by decide))
        refine s_Mo_memory_74 ?_
        refine c_Mo_memory_75 (show mt _ _ _ _ _ _ _ (dt (some (.int (bz (mHas I b 2)))) _) from t_Mo_has eb (by omega)) hp_1000 rfl (Nat.le_of_ble_eq_true rfl) ?_
        refine s_Mo_memory_78 (fun c78 => ?_) (fun c78 => ?_)
        · skip
          (first | rw [bz_n0] at c78 | rw [bz_0] at c78 | skip); (try simp only [Bool.not_eq_false', Bool.not_eq_true', decide_eq_true_eq, decide_eq_false_iff_not, Bool.or_eq_true, Bool.or_eq_false_iff, Bool.and_eq_true, Bool.and_eq_false_iff] at c78)
          refine s_Mo_memory_83 rfl ?_
          refine s_Mo_memory_84 rfl ?_
          refine c_Mo_memory_86 (t_Mo_what (hw c5 c14 c38).1 (by have := (hw c5 c14 c38).2.1; omega)) hp_1000 rfl (Nat.le_of_ble_eq_true rfl) ?_
          refine s_Mo_memory_89 ?_
          refine s_Mo_memory_90 (fun c90 => ?_) (fun c90 => ?_)
          · skip
            refine s_Mo_memory_103 ?_
            refine s_Mo_memory_104 ?_
            refine s_Mo_memory_108 ?_
            refine s_Mo_memory_110 rfl ?_
            refine s_Mo_memory_111 ?_
            refine s_Mo_memory_113 (fun c113 => ?_) (fun c113 => absurd c113 (by decide))
            refine s_Mo_memory_132 rfl ?_
            refine s_Mo_memory_133 ?_
            refine s_Mo_memory_135 (fun c135 => ?_) (fun c135 => absurd c135 (by decide))
            refine s_Mo_memory_142 rfl ?_
            refine s_Mo_memory_144 ?_
            refine s_Mo_memory_146 rfl ?_
            refine s_Mo_memory_147 rfl ?_
            refine c_Mo_memory_149 (t_Mo_isNumber (hw c5 c14 c38).1 (by have := (hw c5 c14 c38).2.1; omega)) hp_1000 rfl (Nat.le_of_ble_eq_true rfl) ?_
            refine s_Mo_memory_152 (fun c152 => ?_) (fun c152 => ?_)
            · skip
              (first | rw [bz_n0] at c152 | rw [bz_0] at c152 | skip); (try simp only [Bool.not_eq_false', Bool.not_eq_true', decide_eq_true_eq, decide_eq_false_iff_not, Bool.or_eq_true, Bool.or_eq_false_iff, Bool.and_eq_true, Bool.and_eq_false_iff] at c152)
              refine s_Mo_memory_157 rfl ?_
              refine s_Mo_memory_158 rfl ?_
              refine s_Mo_memory_160 rfl ?_
              refine s_Mo_memory_161 ?_
              refine s_Mo_memory_163 (fun c163 => ?_) (fun c163 => absurd c163 (by decide))
              refine s_Mo_memory_171 rfl ?_
              refine c_Mo_memory_172 (t_Mo_assign (hw c5 c14 c38).1 (by have := (hw c5 c14 c38).2.1; omega) ea (by omega) (by have := (hw c5 c14 c38).2.2; omega) hk) hp_1000 rfl (Nat.le_of_ble_eq_true rfl) ?_
              refine s_Mo_memory_175 ?_
              exact s_Mo_memory_176 ⟨by rw [mSto, if_neg (fun h => h.elim c5 c14), if_neg (fun h => h.elim (fun h => Bool.noConfusion (c38.symm.trans h)) (fun h => Bool.noConfusion (c78.symm.trans h))), if_neg (fun h => h c152)], by rw [mSto, if_neg (fun h => h.elim c5 c14), if_neg (fun h => h.elim (fun h => Bool.noConfusion (c38.symm.trans h)) (fun h => Bool.noConfusion (c78.symm.trans h))), if_neg (fun h => h c152)]⟩ z0
            · skip
              (first | rw [bz_n0] at c152 | rw [bz_0] at c152 | skip); (try simp only [Bool.not_eq_false', Bool.not_eq_true', decide_eq_true_eq, decide_eq_false_iff_not, Bool.or_eq_true, Bool.or_eq_false_iff, Bool.and_eq_true, Bool.and_eq_false_iff] at c152)
              refine s_Mo_memory_155 ?_
              exact s_Mo_memory_156 ⟨by rw [mSto, if_neg (fun h => h.elim c5 c14), if_neg (fun h => h.elim (fun h => Bool.noConfusion (c38.symm.trans h)) (fun h => Bool.noConfusion (c78.symm.trans h))), if_pos c152], by rw [mSto, if_neg (fun h => h.elim c5 c14), if_neg (fun h => h.elim (fun h => Bool.noConfusion (c38.symm.trans h)) (fun h => Bool.noConfusion (c78.symm.trans h))), if_pos c152]⟩ z0
          · skip
            refine s_Mo_memory_93 rfl ?_
            refine s_Mo_memory_94 rfl ?_
            refine c_Mo_memory_96 (t_Mo_what (hw c5 c14 c38).1 (by have := (hw c5 c14 c38).2.1; omega)) hp_1000 rfl (Nat.le_of_ble_eq_true rfl) ?_
            refine s_Mo_memory_99 ?_
            refine s_Mo_memory_100 (fun c100 => ?_) (fun c100 => ?_)
            · skip
              refine s_Mo_memory_107 ?_
              refine s_Mo_memory_108 ?_
              refine s_Mo_memory_110 rfl ?_
              refine s_Mo_memory_111 ?_
              refine s_Mo_memory_113 (fun c113 => ?_) (fun c113 => absurd c113 (by decide))
              refine s_Mo_memory_132 rfl ?_
              refine s_Mo_memory_133 ?_
              refine s_Mo_memory_135 (fun c135 => ?_) (fun c135 => absurd c135 (by decide))
              refine s_Mo_memory_142 rfl ?_
              refine s_Mo_memory_144 ?_
              refine s_Mo_memory_146 rfl ?_
              refine s_Mo_memory_147 rfl ?_
              refine c_Mo_memory_149 (t_Mo_isNumber (hw c5 c14 c38).1 (by have := (hw c5 c14 c38).2.1; omega)) hp_1000 rfl (Nat.le_of_ble_eq_true rfl) ?_
              refine s_Mo_memory_152 (fun c152 => ?_) (fun c152 => ?_)
              · skip
                (first | rw [bz_n0] at c152 | rw [bz_0] at c152 | skip); (try simp only [Bool.not_eq_false', Bool.not_eq_true', decide_eq_true_eq, decide_eq_false_iff_not, Bool.or_eq_true, Bool.or_eq_false_iff, Bool.and_eq_true, Bool.and_eq_false_iff] at c152)
                refine s_Mo_memory_157 rfl ?_
                refine s_Mo_memory_158 rfl ?_
                refine s_Mo_memory_160 rfl ?_
                refine s_Mo_memory_161 ?_
                refine s_Mo_memory_163 (fun c163 => ?_) (fun c163 => absurd c163 (by decide))
                refine s_Mo_memory_171 rfl ?_
                refine c_Mo_memory_172 (t_Mo_assign (hw c5 c14 c38).1 (by have := (hw c5 c14 c38).2.1; omega) ea (by omega) (by have := (hw c5 c14 c38).2.2; omega) hk) hp_1000 rfl (Nat.le_of_ble_eq_true rfl) ?_
                refine s_Mo_memory_175 ?_
                exact s_Mo_memory_176 ⟨by rw [mSto, if_neg (fun h => h.elim c5 c14), if_neg (fun h => h.elim (fun h => Bool.noConfusion (c38.symm.trans h)) (fun h => Bool.noConfusion (c78.symm.trans h))), if_neg (fun h => h c152)], by rw [mSto, if_neg (fun h => h.elim c5 c14), if_neg (fun h => h.elim (fun h => Bool.noConfusion (c38.symm.trans h)) (fun h => Bool.noConfusion (c78.symm.trans h))), if_neg (fun h => h c152)]⟩ z0
              · skip
                (first | rw [bz_n0] at c152 | rw [bz_0] at c152 | skip); (try simp only [Bool.not_eq_false', Bool.not_eq_true', decide_eq_true_eq, decide_eq_false_iff_not, Bool.or_eq_true, Bool.or_eq_false_iff, Bool.and_eq_true, Bool.and_eq_false_iff] at c152)
                refine s_Mo_memory_155 ?_
                exact s_Mo_memory_156 ⟨by rw [mSto, if_neg (fun h => h.elim c5 c14), if_neg (fun h => h.elim (fun h => Bool.noConfusion (c38.symm.trans h)) (fun h => Bool.noConfusion (c78.symm.trans h))), if_pos c152], by rw [mSto, if_neg (fun h => h.elim c5 c14), if_neg (fun h => h.elim (fun h => Bool.noConfusion (c38.symm.trans h)) (fun h => Bool.noConfusion (c78.symm.trans h))), if_pos c152]⟩ z0
            · skip
              refine s_Mo_memory_103 ?_
              refine s_Mo_memory_104 ?_
              refine s_Mo_memory_108 ?_
              refine s_Mo_memory_110 rfl ?_
              refine s_Mo_memory_111 ?_
              refine s_Mo_memory_113 (fun c113 => ?_) (fun c113 => absurd c113 (by decide))
              refine s_Mo_memory_132 rfl ?_
              refine s_Mo_memory_133 ?_
              refine s_Mo_memory_135 (fun c135 => ?_) (fun c135 => absurd c135 (by decide))
              refine s_Mo_memory_142 rfl ?_
              refine s_Mo_memory_144 ?_
              refine s_Mo_memory_146 rfl ?_
              refine s_Mo_memory_147 rfl ?_
              refine c_Mo_memory_149 (t_Mo_isNumber (hw c5 c14 c38).1 (by have := (hw c5 c14 c38).2.1; omega)) hp_1000 rfl (Nat.le_of_ble_eq_true rfl) ?_
              refine s_Mo_memory_152 (fun c152 => ?_) (fun c152 => ?_)
              · skip
                (first | rw [bz_n0] at c152 | rw [bz_0] at c152 | skip); (try simp only [Bool.not_eq_false', Bool.not_eq_true', decide_eq_true_eq, decide_eq_false_iff_not, Bool.or_eq_true, Bool.or_eq_false_iff, Bool.and_eq_true, Bool.and_eq_false_iff] at c152)
                refine s_Mo_memory_157 rfl ?_
                refine s_Mo_memory_158 rfl ?_
                refine s_Mo_memory_160 rfl ?_
                refine s_Mo_memory_161 ?_
                refine s_Mo_memory_163 (fun c163 => ?_) (fun c163 => absurd c163 (by decide))
                refine s_Mo_memory_171 rfl ?_
                refine c_Mo_memory_172 (t_Mo_assign (hw c5 c14 c38).1 (by have := (hw c5 c14 c38).2.1; omega) ea (by omega) (by have := (hw c5 c14 c38).2.2; omega) hk) hp_1000 rfl (Nat.le_of_ble_eq_true rfl) ?_
                refine s_Mo_memory_175 ?_
                exact s_Mo_memory_176 ⟨by rw [mSto, if_neg (fun h => h.elim c5 c14), if_neg (fun h => h.elim (fun h => Bool.noConfusion (c38.symm.trans h)) (fun h => Bool.noConfusion (c78.symm.trans h))), if_neg (fun h => h c152)], by rw [mSto, if_neg (fun h => h.elim c5 c14), if_neg (fun h => h.elim (fun h => Bool.noConfusion (c38.symm.trans h)) (fun h => Bool.noConfusion (c78.symm.trans h))), if_neg (fun h => h c152)]⟩ z0
              · skip
                (first | rw [bz_n0] at c152 | rw [bz_0] at c152 | skip); (try simp only [Bool.not_eq_false', Bool.not_eq_true', decide_eq_true_eq, decide_eq_false_iff_not, Bool.or_eq_true, Bool.or_eq_false_iff, Bool.and_eq_true, Bool.and_eq_false_iff] at c152)
                refine s_Mo_memory_155 ?_
                exact s_Mo_memory_156 ⟨by rw [mSto, if_neg (fun h => h.elim c5 c14), if_neg (fun h => h.elim (fun h => Bool.noConfusion (c38.symm.trans h)) (fun h => Bool.noConfusion (c78.symm.trans h))), if_pos c152], by rw [mSto, if_neg (fun h => h.elim c5 c14), if_neg (fun h => h.elim (fun h => Bool.noConfusion (c38.symm.trans h)) (fun h => Bool.noConfusion (c78.symm.trans h))), if_pos c152]⟩ z0
        · skip
          (first | rw [bz_n0] at c78 | rw [bz_0] at c78 | skip); (try simp only [Bool.not_eq_false', Bool.not_eq_true', decide_eq_true_eq, decide_eq_false_iff_not, Bool.or_eq_true, Bool.or_eq_false_iff, Bool.and_eq_true, Bool.and_eq_false_iff] at c78)
          refine s_Mo_memory_81 ?_
          exact s_Mo_memory_82 ⟨by rw [mSto, if_neg (fun h => h.elim c5 c14), if_pos (Or.inr c78)], by rw [mSto, if_neg (fun h => h.elim c5 c14), if_pos (Or.inr c78)]⟩ z0
    · skip
      refine s_Mo_memory_17 ?_
      exact s_Mo_memory_18 ⟨by rw [mSto, if_pos (Or.inr c14)], by rw [mSto, if_pos (Or.inr c14)]⟩ z0
set_option maxRecDepth 100000 in
theorem t_jumps_12 {G : GW} {L : LT} {I : IT} {r : Nat} {p q n : Int32} : mt G M_Mo_jumps 2 0 0 [.ref 1000, .int 12, .int p, .int q, .int n] (hp L I r) (dt (some (.int (mGo I p).1)) (hp L (mGo I p).2 r)) := by
  refine mt_of_ev (by decide) (Nat.le_of_ble_eq_true rfl) ?_
  show ev G M_Mo_jumps (rmv 2 0 0) (Er M_Mo_jumps _ 0 0) 0 [(0, .ref 1000), (1, .int 12), (2, .int p), (3, .int q), (4, .int n)] [] (hp L I r) 0 0
  refine s_Mo_jumps_0 rfl ?_
  refine s_Mo_jumps_1 ?_
  refine s_Mo_jumps_3 (fun c3 => ?_) (fun c3 => absurd c3 (by decide))
  refine s_Mo_jumps_14 rfl ?_
  refine s_Mo_jumps_15 ?_
  refine s_Mo_jumps_17 (fun c17 => ?_) (fun c17 => absurd c17 (by decide))
  refine s_Mo_jumps_30 rfl ?_
  refine s_Mo_jumps_31 ?_
  refine s_Mo_jumps_33 (fun c33 => ?_) (fun c33 => absurd c33 (by decide))
  refine s_Mo_jumps_72 ?_
  refine s_Mo_jumps_73 ?_
  refine s_Mo_jumps_77 ?_
  refine s_Mo_jumps_79 rfl ?_
  refine s_Mo_jumps_80 ?_
  refine s_Mo_jumps_82 (fun c82 => absurd c82 (by decide)) (fun c82 => ?_)
  refine s_Mo_jumps_85 rfl ?_
  refine s_Mo_jumps_86 ?_
  refine s_Mo_jumps_101 ?_
  refine s_Mo_jumps_103 rfl ?_
  refine s_Mo_jumps_104 rfl ?_
  refine s_Mo_jumps_106 (fun c106 => absurd c106 (by decide)) (fun c106 => ?_)
  refine s_Mo_jumps_109 rfl ?_
  refine s_Mo_jumps_111 ?_
  refine s_Mo_jumps_112 ?_
  refine s_Mo_jumps_113 ?_
  refine s_Mo_jumps_120 hp_1000 (Nat.le_of_ble_eq_true rfl) ?_
  rw [hu_1000_14]
  refine s_Mo_jumps_123 ?_
  exact s_Mo_jumps_124 ⟨rfl, rfl⟩ z0
set_option maxRecDepth 100000 in
theorem t_jumps_13 {G : GW} {L : LT} {I : IT} {r : Nat} {p : Int32} {a : Nat} (ea : p = nI a) (ha : a < 8) {q n : Int32} : mt G M_Mo_jumps 2 0 0 [.ref 1000, .int 13, .int p, .int q, .int n] (hp L I r) (dt (some (.int (mZer I a q).1)) (hp L (mZer I a q).2 r)) := by
  refine mt_of_ev (by decide) (Nat.le_of_ble_eq_true rfl) ?_
  show ev G M_Mo_jumps (rmv 2 0 0) (Er M_Mo_jumps _ 0 0) 0 [(0, .ref 1000), (1, .int 13), (2, .int p), (3, .int q), (4, .int n)] [] (hp L I r) 0 0
  refine s_Mo_jumps_0 rfl ?_
  refine s_Mo_jumps_1 ?_
  refine s_Mo_jumps_3 (fun c3 => absurd c3 (by decide)) (fun c3 => ?_)
  refine s_Mo_jumps_6 rfl ?_
  refine s_Mo_jumps_7 rfl ?_
  refine c_Mo_jumps_8 (t_Mo_isNumber ea (by omega)) hp_1000 rfl (Nat.le_of_ble_eq_true rfl) ?_
  refine s_Mo_jumps_11 (fun c11 => ?_) (fun c11 => ?_)
  · skip
    (first | rw [bz_n0] at c11 | rw [bz_0] at c11 | skip); (try simp only [Bool.not_eq_false', Bool.not_eq_true', decide_eq_true_eq, decide_eq_false_iff_not, Bool.or_eq_true, Bool.or_eq_false_iff, Bool.and_eq_true, Bool.and_eq_false_iff] at c11)
    refine s_Mo_jumps_28 ?_
    exact s_Mo_jumps_29 ⟨by simp [mZer, c11], by simp [mZer, mNx, upI, c11]⟩ z0
  · skip
    (first | rw [bz_n0] at c11 | rw [bz_0] at c11 | skip); (try simp only [Bool.not_eq_false', Bool.not_eq_true', decide_eq_true_eq, decide_eq_false_iff_not, Bool.or_eq_true, Bool.or_eq_false_iff, Bool.and_eq_true, Bool.and_eq_false_iff] at c11)
    refine s_Mo_jumps_14 rfl ?_
    refine s_Mo_jumps_15 ?_
    refine s_Mo_jumps_17 (fun c17 => ?_) (fun c17 => absurd c17 (by decide))
    refine s_Mo_jumps_30 rfl ?_
    refine s_Mo_jumps_31 ?_
    refine s_Mo_jumps_33 (fun c33 => absurd c33 (by decide)) (fun c33 => ?_)
    refine s_Mo_jumps_36 rfl ?_
    refine s_Mo_jumps_37 ?_
    refine s_Mo_jumps_39 (fun c39 => absurd c39 (by decide)) (fun c39 => ?_)
    refine s_Mo_jumps_42 rfl ?_
    refine s_Mo_jumps_43 rfl ?_
    refine s_Mo_jumps_44 ?_
    refine c_Mo_jumps_45 (t_Mo_get ea (by omega) (k := 1) rfl (by decide)) hp_1000 rfl (Nat.le_of_ble_eq_true rfl) ?_
    refine s_Mo_jumps_48 (fun c48 => ?_) (fun c48 => ?_)
    · skip
      refine s_Mo_jumps_72 ?_
      refine s_Mo_jumps_73 ?_
      refine s_Mo_jumps_77 ?_
      refine s_Mo_jumps_79 rfl ?_
      refine s_Mo_jumps_80 ?_
      refine s_Mo_jumps_82 (fun c82 => ?_) (fun c82 => absurd c82 (by decide))
      refine s_Mo_jumps_89 rfl ?_
      refine s_Mo_jumps_90 ?_
      refine s_Mo_jumps_92 (fun c92 => absurd c92 (by decide)) (fun c92 => ?_)
      refine s_Mo_jumps_95 rfl ?_
      refine s_Mo_jumps_96 ?_
      refine s_Mo_jumps_101 ?_
      refine s_Mo_jumps_103 rfl ?_
      refine s_Mo_jumps_104 rfl ?_
      refine s_Mo_jumps_106 (fun c106 => absurd c106 (by decide)) (fun c106 => ?_)
      refine s_Mo_jumps_109 rfl ?_
      refine s_Mo_jumps_111 ?_
      refine s_Mo_jumps_112 ?_
      refine s_Mo_jumps_113 ?_
      refine s_Mo_jumps_120 hp_1000 (Nat.le_of_ble_eq_true rfl) ?_
      rw [hu_1000_14]
      refine s_Mo_jumps_123 ?_
      exact s_Mo_jumps_124 ⟨by simp [mZer, c11, c48], by simp [mZer, mNx, upI, c11, c48]⟩ z0
    · skip
      refine s_Mo_jumps_51 rfl ?_
      refine s_Mo_jumps_52 ?_
      refine s_Mo_jumps_54 (fun c54 => ?_) (fun c54 => absurd c54 (by decide))
      refine s_Mo_jumps_76 ?_
      refine s_Mo_jumps_77 ?_
      refine s_Mo_jumps_79 rfl ?_
      refine s_Mo_jumps_80 ?_
      refine s_Mo_jumps_82 (fun c82 => ?_) (fun c82 => absurd c82 (by decide))
      refine s_Mo_jumps_89 rfl ?_
      refine s_Mo_jumps_90 ?_
      refine s_Mo_jumps_92 (fun c92 => absurd c92 (by decide)) (fun c92 => ?_)
      refine s_Mo_jumps_95 rfl ?_
      refine s_Mo_jumps_96 ?_
      refine s_Mo_jumps_101 ?_
      refine s_Mo_jumps_103 rfl ?_
      refine s_Mo_jumps_104 rfl ?_
      refine s_Mo_jumps_106 (fun c106 => ?_) (fun c106 => absurd c106 (by decide))
      refine s_Mo_jumps_116 rfl ?_
      refine s_Mo_jumps_117 hp_1000 rfl ?_
      refine s_Mo_jumps_120 hp_1000 (Nat.le_of_ble_eq_true rfl) ?_
      rw [hu_1000_14]
      refine s_Mo_jumps_123 ?_
      exact s_Mo_jumps_124 ⟨by simp [mZer, c11, c48], by simp [mZer, mNx, upI, c11, c48]⟩ z0
set_option maxRecDepth 100000 in
theorem t_jumps_14 {G : GW} {L : LT} {I : IT} {r : Nat} {p : Int32} {a : Nat} (ea : p = nI a) (ha : a < 8) {q : Int32} {b : Nat} (eb : q = nI b) (hb : b < 8) {n : Int32} : mt G M_Mo_jumps 2 0 0 [.ref 1000, .int 14, .int p, .int q, .int n] (hp L I r) (dt (some (.int (mLes I a b n).1)) (hp L (mLes I a b n).2 r)) := by
  refine mt_of_ev (by decide) (Nat.le_of_ble_eq_true rfl) ?_
  show ev G M_Mo_jumps (rmv 2 0 0) (Er M_Mo_jumps _ 0 0) 0 [(0, .ref 1000), (1, .int 14), (2, .int p), (3, .int q), (4, .int n)] [] (hp L I r) 0 0
  refine s_Mo_jumps_0 rfl ?_
  refine s_Mo_jumps_1 ?_
  refine s_Mo_jumps_3 (fun c3 => absurd c3 (by decide)) (fun c3 => ?_)
  refine s_Mo_jumps_6 rfl ?_
  refine s_Mo_jumps_7 rfl ?_
  refine c_Mo_jumps_8 (t_Mo_isNumber ea (by omega)) hp_1000 rfl (Nat.le_of_ble_eq_true rfl) ?_
  refine s_Mo_jumps_11 (fun c11 => ?_) (fun c11 => ?_)
  · skip
    (first | rw [bz_n0] at c11 | rw [bz_0] at c11 | skip); (try simp only [Bool.not_eq_false', Bool.not_eq_true', decide_eq_true_eq, decide_eq_false_iff_not, Bool.or_eq_true, Bool.or_eq_false_iff, Bool.and_eq_true, Bool.and_eq_false_iff] at c11)
    refine s_Mo_jumps_28 ?_
    exact s_Mo_jumps_29 ⟨by simp [mLes, c11], by simp [mLes, mNx, upI, c11]⟩ z0
  · skip
    (first | rw [bz_n0] at c11 | rw [bz_0] at c11 | skip); (try simp only [Bool.not_eq_false', Bool.not_eq_true', decide_eq_true_eq, decide_eq_false_iff_not, Bool.or_eq_true, Bool.or_eq_false_iff, Bool.and_eq_true, Bool.and_eq_false_iff] at c11)
    refine s_Mo_jumps_14 rfl ?_
    refine s_Mo_jumps_15 ?_
    refine s_Mo_jumps_17 (fun c17 => absurd c17 (by decide)) (fun c17 => ?_)
    refine s_Mo_jumps_20 rfl ?_
    refine s_Mo_jumps_21 rfl ?_
    refine c_Mo_jumps_22 (t_Mo_isNumber eb (by omega)) hp_1000 rfl (Nat.le_of_ble_eq_true rfl) ?_
    refine s_Mo_jumps_25 (fun c25 => ?_) (fun c25 => ?_)
    · skip
      (first | rw [bz_n0] at c25 | rw [bz_0] at c25 | skip); (try simp only [Bool.not_eq_false', Bool.not_eq_true', decide_eq_true_eq, decide_eq_false_iff_not, Bool.or_eq_true, Bool.or_eq_false_iff, Bool.and_eq_true, Bool.and_eq_false_iff] at c25)
      refine s_Mo_jumps_30 rfl ?_
      refine s_Mo_jumps_31 ?_
      refine s_Mo_jumps_33 (fun c33 => absurd c33 (by decide)) (fun c33 => ?_)
      refine s_Mo_jumps_36 rfl ?_
      refine s_Mo_jumps_37 ?_
      refine s_Mo_jumps_39 (fun c39 => ?_) (fun c39 => absurd c39 (by decide))
      refine s_Mo_jumps_51 rfl ?_
      refine s_Mo_jumps_52 ?_
      refine s_Mo_jumps_54 (fun c54 => absurd c54 (by decide)) (fun c54 => ?_)
      refine s_Mo_jumps_57 rfl ?_
      refine s_Mo_jumps_58 rfl ?_
      refine s_Mo_jumps_59 ?_
      refine c_Mo_jumps_60 (t_Mo_get ea (by omega) (k := 1) rfl (by decide)) hp_1000 rfl (Nat.le_of_ble_eq_true rfl) ?_
      refine s_Mo_jumps_63 rfl ?_
      refine s_Mo_jumps_64 rfl ?_
      refine s_Mo_jumps_65 ?_
      refine c_Mo_jumps_66 (t_Mo_get eb (by omega) (k := 1) rfl (by decide)) hp_1000 rfl (Nat.le_of_ble_eq_true rfl) ?_
      refine s_Mo_jumps_69 (fun c69 => ?_) (fun c69 => ?_)
      · skip
        refine s_Mo_jumps_76 ?_
        refine s_Mo_jumps_77 ?_
        refine s_Mo_jumps_79 rfl ?_
        refine s_Mo_jumps_80 ?_
        refine s_Mo_jumps_82 (fun c82 => ?_) (fun c82 => absurd c82 (by decide))
        refine s_Mo_jumps_89 rfl ?_
        refine s_Mo_jumps_90 ?_
        refine s_Mo_jumps_92 (fun c92 => ?_) (fun c92 => absurd c92 (by decide))
        refine s_Mo_jumps_99 rfl ?_
        refine s_Mo_jumps_101 ?_
        refine s_Mo_jumps_103 rfl ?_
        refine s_Mo_jumps_104 rfl ?_
        refine s_Mo_jumps_106 (fun c106 => ?_) (fun c106 => absurd c106 (by decide))
        refine s_Mo_jumps_116 rfl ?_
        refine s_Mo_jumps_117 hp_1000 rfl ?_
        refine s_Mo_jumps_120 hp_1000 (Nat.le_of_ble_eq_true rfl) ?_
        rw [hu_1000_14]
        refine s_Mo_jumps_123 ?_
        exact s_Mo_jumps_124 ⟨by simp [mLes, c11, c25, c69], by simp [mLes, mNx, upI, c11, c25, c69]⟩ z0
      · skip
        refine s_Mo_jumps_72 ?_
        refine s_Mo_jumps_73 ?_
        refine s_Mo_jumps_77 ?_
        refine s_Mo_jumps_79 rfl ?_
        refine s_Mo_jumps_80 ?_
        refine s_Mo_jumps_82 (fun c82 => ?_) (fun c82 => absurd c82 (by decide))
        refine s_Mo_jumps_89 rfl ?_
        refine s_Mo_jumps_90 ?_
        refine s_Mo_jumps_92 (fun c92 => ?_) (fun c92 => absurd c92 (by decide))
        refine s_Mo_jumps_99 rfl ?_
        refine s_Mo_jumps_101 ?_
        refine s_Mo_jumps_103 rfl ?_
        refine s_Mo_jumps_104 rfl ?_
        refine s_Mo_jumps_106 (fun c106 => absurd c106 (by decide)) (fun c106 => ?_)
        refine s_Mo_jumps_109 rfl ?_
        refine s_Mo_jumps_111 ?_
        refine s_Mo_jumps_112 ?_
        refine s_Mo_jumps_113 ?_
        refine s_Mo_jumps_120 hp_1000 (Nat.le_of_ble_eq_true rfl) ?_
        rw [hu_1000_14]
        refine s_Mo_jumps_123 ?_
        exact s_Mo_jumps_124 ⟨by simp [mLes, c11, c25, c69], by simp [mLes, mNx, upI, c11, c25, c69]⟩ z0
    · skip
      (first | rw [bz_n0] at c25 | rw [bz_0] at c25 | skip); (try simp only [Bool.not_eq_false', Bool.not_eq_true', decide_eq_true_eq, decide_eq_false_iff_not, Bool.or_eq_true, Bool.or_eq_false_iff, Bool.and_eq_true, Bool.and_eq_false_iff] at c25)
      refine s_Mo_jumps_28 ?_
      exact s_Mo_jumps_29 ⟨by simp [mLes, c11, c25], by simp [mLes, mNx, upI, c11, c25]⟩ z0
set_option maxRecDepth 100000 in
theorem t_seal {G : GW} {L : LT} {I : IT} {r : Nat} {p : Int32} {a : Nat} (ea : p = nI a) (ha : a < 8) {m n : Int32} : mt G M_Mo_seal 3 0 0 [.ref 1000, .int p, .int m, .int n] (hp L I r) (dt (some (.int (mSea I a m n).1)) (hp L (mSea I a m n).2 r)) := by
  refine mt_of_ev (by decide) (Nat.le_of_ble_eq_true rfl) ?_
  show ev G M_Mo_seal (rmv 3 0 0) (Er M_Mo_seal _ 0 0) 0 [(0, .ref 1000), (1, .int p), (2, .int m), (3, .int n)] [] (hp L I r) 0 0
  refine s_Mo_seal_0 rfl ?_
  refine s_Mo_seal_1 rfl ?_
  refine c_Mo_seal_2 (t_Mo_what ea (by omega)) hp_1000 rfl (Nat.le_of_ble_eq_true rfl) ?_
  refine s_Mo_seal_5 ?_
  refine s_Mo_seal_6 (fun c6 => ?_) (fun c6 => ?_)
  · skip
    refine s_Mo_seal_11 rfl ?_
    refine c_Mo_seal_12 (t_Mo_lowestGate) hp_1000 rfl (Nat.le_of_ble_eq_true rfl) ?_
    refine s_Mo_seal_15 ?_
    refine s_Mo_seal_17 rfl ?_
    refine s_Mo_seal_19 (fun c19 => ?_) (fun c19 => ?_)
    · skip
      refine s_Mo_seal_25 rfl ?_
      refine s_Mo_seal_26 rfl ?_
      refine s_Mo_seal_27 ?_
      refine s_Mo_seal_29 rfl ?_
      refine s_Mo_seal_31 ?_
      refine c_Mo_seal_32 (t_Mo_shift ea (by omega) (show (96 : Int32) + fz (I 1007) 0 6 = nI (96 + (fz (I 1007) 0 6).toNatClampNeg) by rw [← nI_add, ← (fz6 c19).1]; rfl) (by have := (fz6 c19).2; omega)) hp_1000 rfl (Nat.le_of_ble_eq_true rfl) ?_
      refine s_Mo_seal_35 rfl ?_
      refine s_Mo_seal_36 hp_1000 rfl ?_
      refine s_Mo_seal_39 rfl ?_
      refine s_Mo_seal_41 ?_
      refine s_Mo_seal_42 hp_1007 (by rw [(fz6 c19).1]; exact vp_in_nI (fz6 c19).2 (by decide)) ?_
      rw [hu_1007]
      refine s_Mo_seal_43 rfl ?_
      refine s_Mo_seal_44 hp_1000 rfl ?_
      refine s_Mo_seal_47 rfl ?_
      refine s_Mo_seal_49 rfl ?_
      refine s_Mo_seal_50 hp_1008 (by rw [(fz6 c19).1]; exact vp_in_nI (fz6 c19).2 (by decide)) ?_
      rw [hu_1008]
      refine s_Mo_seal_51 rfl ?_
      refine s_Mo_seal_52 hp_1000 rfl ?_
      refine s_Mo_seal_55 rfl ?_
      refine s_Mo_seal_57 rfl ?_
      refine s_Mo_seal_58 hp_1009 (by rw [(fz6 c19).1]; exact vp_in_nI (fz6 c19).2 (by decide)) ?_
      rw [hu_1009]
      refine s_Mo_seal_59 rfl ?_
      refine s_Mo_seal_60 rfl ?_
      refine s_Mo_seal_61 ?_
      refine s_Mo_seal_62 ?_
      refine s_Mo_seal_63 ?_
      refine s_Mo_seal_64 ?_
      refine s_Mo_seal_65 rfl ?_
      refine c_Mo_seal_67 (t_Mo_put ea (by omega)) hp_1000 rfl (Nat.le_of_ble_eq_true rfl) ?_
      refine s_Mo_seal_70 ?_
      exact s_Mo_seal_71 ⟨by rw [mSea, if_neg (fun h => h c6), if_neg (fun h => h c19)], by rw [mSea, if_neg (fun h => h c6), if_neg (fun h => h c19)]; rfl⟩ z0
    · skip
      refine s_Mo_seal_22 ?_
      exact s_Mo_seal_24 ⟨by simp [mSea, c6, c19], by simp [mSea, c6, c19]⟩ z0
  · skip
    refine s_Mo_seal_9 ?_
    exact s_Mo_seal_10 ⟨by simp [mSea, c6], by simp [mSea, c6]⟩ z0

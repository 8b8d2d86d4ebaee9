/-! the reference: call and return -/
def nt (J : IT) (f k j : Nat) : Int32 := J 1011 (35 * f + 5 * k + j)
def mNtl (f k p : Nat) : IT → Nat → Nat → IT
  | J, _, 0 => J
  | J, j, n + 1 => mNtl f k p (upI J 1011 (35 * f + 5 * k + j) (gt J p j)) (j + 1) n
def mNot (J : IT) (f k p : Nat) : IT := mNtl f k p J 0 5
def lnM (J : IT) (g : Nat) (k : Int32) (q : Nat) : Bool := !decide (k < nI q) && decide ((J 1009 g >>> ((nI q - 1) &&& 31)) &&& 1 = 1)
def asl (J : IT) (f k p : Nat) : Bool → Nat → Nat → Bool
  | b, _, 0 => b
  | b, j, n + 1 => if gt J p 0 = 0 then b else asl J f k p (b && decide (gt J p j = nt J f k j)) (j + 1) n
def asN (J : IT) (f k p : Nat) : Bool := asl J f k p (decide (gt J p 0 = nt J f k 0)) 1 4
def mNr (dp : Nat) : IT → Nat → Nat → IT
  | J, _, 0 => J
  | J, q, n + 1 => mNr dp (mNot J dp q q) (q + 1) n
def mSl (dp : Nat) (k : Int32) : IT → Nat → Nat → IT
  | J, _, 0 => J
  | J, q, n + 1 => mSl dp k (if q = 0 ∨ k < nI q then mShf J q (56 + 8 * dp + q) else J) (q + 1) n
def mRl (f : Nat) : IT → Nat → Nat → IT
  | J, _, 0 => J
  | J, q, n + 1 => mRl f (mShf J (56 + 8 * f + q) q) (q + 1) n
def mGd (J : IT) (f g : Nat) (k : Int32) : Bool → Nat → Nat → Bool
  | b, _, 0 => b
  | b, q, n + 1 => mGd J f g k (b && (if lnM J g k q = true then asN J f q q else decide (gt J q 0 = 0))) (q + 1) n
def mFr (J : IT) (g : Nat) (k : Int32) (dp : Nat) : IT := upI (upI (upI (upI J 1010 (4 * dp) (J 1000 14 + 1)) 1010 (4 * dp + 1) (J 1000 13)) 1010 (4 * dp + 2) (nI g)) 1010 (4 * dp + 3) k
def mMv (J : IT) (g : Nat) (k : Int32) (dp : Nat) : IT := mShf (mSl dp k (mNr dp (mNot (mFr J g k dp) dp 0 (96 + g)) 1 6) 0 8) (96 + g) 7
def mEn (J : IT) (g : Nat) : IT := upI (upI (upI (upI J 1007 g 2) 1000 10 (J 1000 10 + 1)) 1000 13 (J 1008 g)) 1000 14 0
def mCal (J : IT) (a : Nat) (k : Int32) (dp g : Nat) : MR :=
  if ¬ gt J a 0 = 3 then (1, J) else if ¬ gt J 0 0 = 0 then (3, J) else if J 1007 g = 2 ∨ J 1000 10 = 5 then (7, J) else (0, mEn (mMv J g k dp) g)
def mLv (J : IT) (f : Nat) : IT := upI (upI (upI J 1000 10 (nI f)) 1000 13 (J 1010 (4 * f + 1))) 1000 14 (J 1010 (4 * f))
def mRet (J : IT) (f g k : Nat) : MR :=
  if ¬ gt J 0 0 = 0 then (8, J) else if mGd J f g (nI k) (asN J f 0 7) 1 6 = false then (8, J)
  else (0, mLv (mClr (mRl f (upI (mShf J 7 (96 + g)) 1007 g 1) (k + 1) (7 - k)) (56 + 8 * f)) f)
theorem mul4' (j : Nat) : (4 : Int32) * nI j = nI (4 * j) := by rw [show (4 : Int32) = nI 4 from rfl, pk_mul]
theorem mul35 (j : Nat) : (35 : Int32) * nI j = nI (35 * j) := by rw [show (35 : Int32) = nI 35 from rfl, pk_mul]
theorem kplM (f q : Nat) : (56 : Int32) + 8 * nI f + nI q = nI (56 + 8 * f + q) := by
  rw [show (8 : Int32) = nI 8 from rfl, pk_mul, show (56 : Int32) = nI 56 from rfl, nI_add, nI_add]
theorem kplM0 (f : Nat) : (56 : Int32) + 8 * nI f = nI (56 + 8 * f) := by
  rw [show (8 : Int32) = nI 8 from rfl, pk_mul, show (56 : Int32) = nI 56 from rfl, nI_add]
theorem bz_not (b : Bool) : (b = false) = ¬ (b = true) := by cases b <;> simp
set_option maxRecDepth 100000 in
set_option maxHeartbeats 2000000 in
theorem l_noteDown {G : GW} {r : Nat} {L : LT} {P : Option Value → HP → Prop} {f k p : Nat} (hf : f < 5) (hk : k < 7) (hpp : p < 102) : ∀ (n j : Nat) (I : IT), j + n = 5 → P none (hp L (mNtl f k p I j n) r) → ev G M_Mo_noteDown (rmv 1 0 0) (Er M_Mo_noteDown P 0 0) 3 [(4, .int (nI j)), (0, .ref 1000), (1, .int (nI f)), (2, .int (nI k)), (3, .int (nI p))] [] (hp L I r) 0 0 := by
  intro n
  induction n with
  | zero =>
    intro j I hj hP
    obtain rfl : j = 5 := by omega
    refine s_Mo_noteDown_3 rfl ?_
    refine s_Mo_noteDown_5 ?_
    refine s_Mo_noteDown_6 (fun _ => ?_) (fun c => absurd (by decide) c)
    exact s_Mo_noteDown_38 hP z0
  | succ n ih =>
    intro j I hj hP
    refine s_Mo_noteDown_3 rfl ?_
    refine s_Mo_noteDown_5 ?_
    refine s_Mo_noteDown_6 (fun c6 => absurd c6 (nle_nI (n := 5) rfl (by omega) (by decide))) (fun c6 => ?_)
    refine s_Mo_noteDown_9 rfl ?_
    refine s_Mo_noteDown_10 hp_1000 rfl ?_
    refine s_Mo_noteDown_13 ?_
    refine s_Mo_noteDown_15 rfl ?_
    refine s_Mo_noteDown_16 ?_
    rw [mul35]
    refine s_Mo_noteDown_17 ?_
    refine s_Mo_noteDown_18 rfl ?_
    refine s_Mo_noteDown_19 ?_
    rw [mul5]
    refine s_Mo_noteDown_20 ?_
    rw [nI_add]
    refine s_Mo_noteDown_21 rfl ?_
    refine s_Mo_noteDown_23 ?_
    rw [nI_add]
    refine s_Mo_noteDown_24 rfl ?_
    refine s_Mo_noteDown_25 rfl ?_
    refine s_Mo_noteDown_26 rfl ?_
    refine c_Mo_noteDown_28 (t_Mo_get rfl hpp rfl (by omega)) hp_1000 rfl (Nat.le_of_ble_eq_true rfl) ?_
    refine s_Mo_noteDown_31 hp_1011 (vp_in_nI (by omega) (by decide)) ?_
    rw [hu_1011]
    rw [nI_clamp (by omega)]
    refine s_Mo_noteDown_32 rfl ?_
    rw [nI_1]
    refine s_Mo_noteDown_35 ?_
    refine ev_pick [0, 1, 2, 3, 4] rfl ?_
    exact ih (j + 1) _ (by omega) hP
set_option maxRecDepth 100000 in
theorem t_Mo_noteDown {G : GW} {L : LT} {I : IT} {r : Nat} {x y z : Int32} {f k p : Nat} (ef : x = nI f) (hf : f < 5) (ek : y = nI k) (hk : k < 7) (eq : z = nI p) (hpp : p < 102) : mt G M_Mo_noteDown 1 0 0 [.ref 1000, .int x, .int y, .int z] (hp L I r) (dt (none) (hp L (mNot I f k p) r)) := by
  refine mt_of_ev (by decide) (Nat.le_of_ble_eq_true rfl) ?_
  show ev G M_Mo_noteDown (rmv 1 0 0) (Er M_Mo_noteDown _ 0 0) 0 [(0, .ref 1000), (1, .int x), (2, .int y), (3, .int z)] [] (hp L I r) 0 0
  subst ef; subst ek; subst eq
  refine s_Mo_noteDown_0 ?_
  refine s_Mo_noteDown_1 ?_
  refine ev_pick [0, 1, 2, 3, 4] rfl ?_
  exact l_noteDown hf hk hpp 5 0 I rfl dt_i
set_option maxRecDepth 100000 in
theorem t_Mo_isLent {G : GW} {L : LT} {I : IT} {r : Nat} {x y k : Int32} {g q : Nat} (eg : x = nI g) (hg : g < 6) (eq : y = nI q) : mt G M_Mo_isLent 0 0 0 [.ref 1000, .int x, .int y, .int k] (hp L I r) (dt (some (.int (bz (lnM I g k q)))) (hp L I r)) := by
  refine mt_of_ev (by decide) (Nat.le_of_ble_eq_true rfl) ?_
  show ev G M_Mo_isLent (rmv 0 0 0) (Er M_Mo_isLent _ 0 0) 0 [(0, .ref 1000), (1, .int x), (2, .int y), (3, .int k)] [] (hp L I r) 0 0
  subst eg; subst eq
  refine s_Mo_isLent_0 rfl ?_
  refine s_Mo_isLent_1 rfl ?_
  refine s_Mo_isLent_2 (fun c2 => ?_) (fun c2 => ?_)
  · skip
    refine s_Mo_isLent_25 ?_
    exact s_Mo_isLent_26 (by first | exact Or.inl rfl | exact Or.inr rfl | exact bz_or | assumption) ⟨by simp [lnM, bz, c2], rfl⟩ z0
  · skip
    refine s_Mo_isLent_5 rfl ?_
    refine s_Mo_isLent_6 hp_1000 rfl ?_
    refine s_Mo_isLent_9 rfl ?_
    refine s_Mo_isLent_10 hp_1009 (vp_in_nI (by omega) (by decide)) ?_
    rw [nI_clamp (by omega)]
    refine s_Mo_isLent_11 rfl ?_
    refine s_Mo_isLent_12 ?_
    refine s_Mo_isLent_13 ?_
    refine s_Mo_isLent_14 ?_
    refine s_Mo_isLent_15 ?_
    refine s_Mo_isLent_16 ?_
    refine s_Mo_isLent_17 ?_
    refine s_Mo_isLent_18 (fun c18 => ?_) (fun c18 => ?_)
    · skip
      refine s_Mo_isLent_25 ?_
      exact s_Mo_isLent_26 (by first | exact Or.inl rfl | exact Or.inr rfl | exact bz_or | assumption) ⟨by simp [lnM, bz, c2, c18], rfl⟩ z0
    · skip
      refine s_Mo_isLent_21 ?_
      refine s_Mo_isLent_22 ?_
      exact s_Mo_isLent_26 (by first | exact Or.inl rfl | exact Or.inr rfl | exact bz_or | assumption) ⟨by simp [lnM, bz, c2, c18], rfl⟩ z0
set_option maxRecDepth 100000 in
set_option maxHeartbeats 2000000 in
theorem l_isAsNoted {G : GW} {I : IT} {r : Nat} {L : LT} {P : Option Value → HP → Prop} {f k p : Nat} (hf : f < 5) (hk : k < 7) (hpp : p < 102) : ∀ (n j : Nat) (b : Bool), j + n = 5 → 1 ≤ j → P (some (.int (bz (asl I f k p b j n)))) (hp L I r) → ev G M_Mo_isAsNoted (rmv 1 0 0) (Er M_Mo_isAsNoted P 0 0) 32 [(5, .int (nI j)), (4, .int (bz b)), (0, .ref 1000), (1, .int (nI f)), (2, .int (nI k)), (3, .int (nI p))] [] (hp L I r) 0 0 := by
  intro n
  induction n with
  | zero =>
    intro j b hj h1 hP
    obtain rfl : j = 5 := by omega
    refine s_Mo_isAsNoted_32 rfl ?_
    refine s_Mo_isAsNoted_34 ?_
    refine s_Mo_isAsNoted_35 (fun _ => ?_) (fun c => absurd (by decide) c)
    refine s_Mo_isAsNoted_91 rfl ?_
    exact s_Mo_isAsNoted_93 bz_or hP z0
  | succ n ih =>
    intro j b hj h1 hP
    refine s_Mo_isAsNoted_32 rfl ?_
    refine s_Mo_isAsNoted_34 ?_
    refine s_Mo_isAsNoted_35 (fun c35 => absurd c35 (nle_nI (n := 5) rfl (by omega) (by decide))) (fun c35 => ?_)
    refine s_Mo_isAsNoted_38 rfl ?_
    refine s_Mo_isAsNoted_39 rfl ?_
    refine s_Mo_isAsNoted_40 ?_
    refine c_Mo_isAsNoted_41 (t_Mo_get rfl hpp (k := 0) rfl (by decide)) hp_1000 rfl (Nat.le_of_ble_eq_true rfl) ?_
    refine s_Mo_isAsNoted_44 (fun c44 => ?_) (fun c44 => ?_)
    · skip
      refine s_Mo_isAsNoted_91 rfl ?_
      exact s_Mo_isAsNoted_93 (by first | exact Or.inl rfl | exact Or.inr rfl | exact bz_or | assumption) (by rw [asl, if_pos c44] at hP; exact hP) z0
    · skip
      refine s_Mo_isAsNoted_47 rfl ?_
      refine s_Mo_isAsNoted_49 (fun c49 => ?_) (fun c49 => ?_)
      · skip
        (first | rw [bz_n0] at c49 | rw [bz_0] at c49 | skip); (try simp only [Bool.not_eq_false', Bool.not_eq_true', decide_eq_true_eq, decide_eq_false_iff_not, Bool.or_eq_true, Bool.or_eq_false_iff, Bool.and_eq_true, Bool.and_eq_false_iff] at c49)
        refine s_Mo_isAsNoted_82 ?_
        refine s_Mo_isAsNoted_83 ?_
        refine s_Mo_isAsNoted_85 rfl ?_
        rw [nI_1]
        refine s_Mo_isAsNoted_88 ?_
        refine ev_pick [0, 1, 2, 3, 4, 5] rfl ?_
        exact ih (j + 1) false (by omega) (by omega) (by rw [asl, if_neg c44, c49, Bool.false_and] at hP; exact hP)
      · skip
        (first | rw [bz_n0] at c49 | rw [bz_0] at c49 | skip); (try simp only [Bool.not_eq_false', Bool.not_eq_true', decide_eq_true_eq, decide_eq_false_iff_not, Bool.or_eq_true, Bool.or_eq_false_iff, Bool.and_eq_true, Bool.and_eq_false_iff] at c49)
        refine s_Mo_isAsNoted_52 rfl ?_
        refine s_Mo_isAsNoted_53 rfl ?_
        refine s_Mo_isAsNoted_54 rfl ?_
        refine c_Mo_isAsNoted_56 (t_Mo_get rfl hpp rfl (by omega)) hp_1000 rfl (Nat.le_of_ble_eq_true rfl) ?_
        refine s_Mo_isAsNoted_59 rfl ?_
        refine s_Mo_isAsNoted_60 hp_1000 rfl ?_
        refine s_Mo_isAsNoted_63 ?_
        refine s_Mo_isAsNoted_65 rfl ?_
        refine s_Mo_isAsNoted_66 ?_
        rw [mul35]
        refine s_Mo_isAsNoted_67 ?_
        refine s_Mo_isAsNoted_68 rfl ?_
        refine s_Mo_isAsNoted_69 ?_
        rw [mul5]
        refine s_Mo_isAsNoted_70 ?_
        rw [nI_add]
        refine s_Mo_isAsNoted_71 rfl ?_
        refine s_Mo_isAsNoted_73 ?_
        rw [nI_add]
        refine s_Mo_isAsNoted_74 hp_1011 (vp_in_nI (by omega) (by decide)) ?_
        rw [nI_clamp (by omega)]
        refine s_Mo_isAsNoted_75 (fun c75 => ?_) (fun c75 => ?_)
        · skip
          refine s_Mo_isAsNoted_82 ?_
          refine s_Mo_isAsNoted_83 ?_
          refine s_Mo_isAsNoted_85 rfl ?_
          rw [nI_1]
          refine s_Mo_isAsNoted_88 ?_
          refine ev_pick [0, 1, 2, 3, 4, 5] rfl ?_
          exact ih (j + 1) false (by omega) (by omega) (by rw [asl, if_neg c44, decide_eq_false (show ¬ gt I p j = nt I f k j from c75), Bool.and_false] at hP; exact hP)
        · skip
          refine s_Mo_isAsNoted_78 ?_
          refine s_Mo_isAsNoted_79 ?_
          refine s_Mo_isAsNoted_83 ?_
          refine s_Mo_isAsNoted_85 rfl ?_
          rw [nI_1]
          refine s_Mo_isAsNoted_88 ?_
          refine ev_pick [0, 1, 2, 3, 4, 5] rfl ?_
          exact ih (j + 1) true (by omega) (by omega) (by rw [asl, if_neg c44, c49, decide_eq_true (show gt I p j = nt I f k j from c75), Bool.true_and] at hP; exact hP)
set_option maxRecDepth 100000 in
theorem t_Mo_isAsNoted {G : GW} {L : LT} {I : IT} {r : Nat} {x y z : Int32} {f k p : Nat} (ef : x = nI f) (hf : f < 5) (ek : y = nI k) (hk : k < 7) (eq : z = nI p) (hpp : p < 102) : mt G M_Mo_isAsNoted 1 0 0 [.ref 1000, .int x, .int y, .int z] (hp L I r) (dt (some (.int (bz (asN I f k p)))) (hp L I r)) := by
  refine mt_of_ev (by decide) (Nat.le_of_ble_eq_true rfl) ?_
  show ev G M_Mo_isAsNoted (rmv 1 0 0) (Er M_Mo_isAsNoted _ 0 0) 0 [(0, .ref 1000), (1, .int x), (2, .int y), (3, .int z)] [] (hp L I r) 0 0
  subst ef; subst ek; subst eq
  refine s_Mo_isAsNoted_0 rfl ?_
  refine s_Mo_isAsNoted_1 rfl ?_
  refine s_Mo_isAsNoted_2 ?_
  refine c_Mo_isAsNoted_3 (t_Mo_get rfl hpp (k := 0) rfl (by decide)) hp_1000 rfl (Nat.le_of_ble_eq_true rfl) ?_
  refine s_Mo_isAsNoted_6 rfl ?_
  refine s_Mo_isAsNoted_7 hp_1000 rfl ?_
  refine s_Mo_isAsNoted_10 ?_
  refine s_Mo_isAsNoted_12 rfl ?_
  refine s_Mo_isAsNoted_13 ?_
  rw [mul35]
  refine s_Mo_isAsNoted_14 ?_
  refine s_Mo_isAsNoted_15 rfl ?_
  refine s_Mo_isAsNoted_16 ?_
  rw [mul5]
  refine s_Mo_isAsNoted_17 ?_
  rw [nI_add]
  refine s_Mo_isAsNoted_18 hp_1011 (vp_in_nI (by omega) (by decide)) ?_
  rw [nI_clamp (by omega)]
  refine s_Mo_isAsNoted_19 (fun c19 => ?_) (fun c19 => ?_)
  · skip
    refine s_Mo_isAsNoted_26 ?_
    refine s_Mo_isAsNoted_27 ?_
    refine s_Mo_isAsNoted_29 ?_
    refine s_Mo_isAsNoted_30 ?_
    refine ev_pick [0, 1, 2, 3, 4, 5] rfl ?_
    exact l_isAsNoted hf hk hpp 4 1 false rfl (Nat.le_refl 1) ⟨by rw [asN, decide_eq_false (show ¬ gt I p 0 = nt I f k 0 from c19)], rfl⟩
  · skip
    refine s_Mo_isAsNoted_22 ?_
    refine s_Mo_isAsNoted_23 ?_
    refine s_Mo_isAsNoted_27 ?_
    refine s_Mo_isAsNoted_29 ?_
    refine s_Mo_isAsNoted_30 ?_
    refine ev_pick [0, 1, 2, 3, 4, 5] rfl ?_
    exact l_isAsNoted hf hk hpp 4 1 true rfl (Nat.le_refl 1) ⟨by rw [asN, decide_eq_true (show gt I p 0 = nt I f k 0 from c19)], rfl⟩
set_option maxRecDepth 100000 in
set_option maxHeartbeats 2000000 in
theorem l_call1 {G : GW} {r : Nat} {E : Nat → LV → List Value → HP → Nat → Nat → Prop} {L : LT} {g dp : Nat} {p k : Int32} (hd : dp < 5) : ∀ (n q : Nat) (I : IT), q + n = 7 → 1 ≤ q → ev G M_Mo_call (rmv 3 0 0) E 146 [(5, .int (nI 7)), (4, .int (nI dp)), (3, .int (nI g)), (0, .ref 1000), (1, .int p), (2, .int k)] [] (hp L (mNr dp I q n) r) 0 0 → ev G M_Mo_call (rmv 3 0 0) E 123 [(5, .int (nI q)), (4, .int (nI dp)), (3, .int (nI g)), (0, .ref 1000), (1, .int p), (2, .int k)] [] (hp L I r) 0 0 := by
  intro n
  induction n with
  | zero =>
    intro q I hq h1 hP
    obtain rfl : q = 7 := by omega
    refine s_Mo_call_123 rfl ?_
    refine s_Mo_call_125 ?_
    refine s_Mo_call_127 (fun _ => ?_) (fun c => absurd (by decide) c)
    exact hP
  | succ n ih =>
    intro q I hq h1 hP
    refine s_Mo_call_123 rfl ?_
    refine s_Mo_call_125 ?_
    refine s_Mo_call_127 (fun c127 => absurd c127 (nle_nI (n := 7) rfl (by omega) (by decide))) (fun c127 => ?_)
    refine s_Mo_call_130 rfl ?_
    refine s_Mo_call_131 rfl ?_
    refine s_Mo_call_133 rfl ?_
    refine s_Mo_call_135 rfl ?_
    refine c_Mo_call_137 (t_Mo_noteDown rfl hd rfl (by omega) rfl (by omega)) hp_1000 rfl (Nat.le_of_ble_eq_true rfl) ?_
    refine s_Mo_call_140 rfl ?_
    rw [nI_1]
    refine s_Mo_call_143 ?_
    refine ev_pick [0, 1, 2, 3, 4, 5] rfl ?_
    exact ih (q + 1) _ (by omega) (by omega) hP
set_option maxRecDepth 100000 in
set_option maxHeartbeats 2000000 in
theorem l_call2 {G : GW} {r : Nat} {E : Nat → LV → List Value → HP → Nat → Nat → Prop} {L : LT} {g dp : Nat} {p k : Int32} (hd : dp < 5) : ∀ (n q : Nat) (I : IT), q + n = 8 → ev G M_Mo_call (rmv 3 0 0) E 190 [(5, .int (nI 8)), (4, .int (nI dp)), (3, .int (nI g)), (0, .ref 1000), (1, .int p), (2, .int k)] [] (hp L (mSl dp k I q n) r) 0 0 → ev G M_Mo_call (rmv 3 0 0) E 149 [(5, .int (nI q)), (4, .int (nI dp)), (3, .int (nI g)), (0, .ref 1000), (1, .int p), (2, .int k)] [] (hp L I r) 0 0 := by
  intro n
  induction n with
  | zero =>
    intro q I hq hP
    obtain rfl : q = 8 := by omega
    refine s_Mo_call_149 rfl ?_
    refine s_Mo_call_151 ?_
    refine s_Mo_call_153 (fun _ => ?_) (fun c => absurd (by decide) c)
    exact hP
  | succ n ih =>
    intro q I hq hP
    refine s_Mo_call_149 rfl ?_
    refine s_Mo_call_151 ?_
    refine s_Mo_call_153 (fun c153 => absurd c153 (nle_nI (n := 8) rfl (by omega) (by decide))) (fun c153 => ?_)
    refine s_Mo_call_156 rfl ?_
    refine s_Mo_call_158 (fun c158 => ?_) (fun c158 => ?_)
    · skip
      refine s_Mo_call_167 rfl ?_
      refine s_Mo_call_168 rfl ?_
      refine s_Mo_call_170 ?_
      refine s_Mo_call_172 ?_
      refine s_Mo_call_174 rfl ?_
      refine s_Mo_call_176 ?_
      refine s_Mo_call_177 ?_
      refine s_Mo_call_178 rfl ?_
      refine s_Mo_call_180 ?_
      refine ev_topi (kplM dp q) ?_
      refine c_Mo_call_181 (t_Mo_shift rfl (by omega) rfl (by omega)) hp_1000 rfl (Nat.le_of_ble_eq_true rfl) ?_
      refine s_Mo_call_184 rfl ?_
      rw [nI_1]
      refine s_Mo_call_187 ?_
      refine ev_pick [0, 1, 2, 3, 4, 5] rfl ?_
      exact ih (q + 1) _ (by omega) (by rw [mSl, if_pos (Or.inl ((nI_eq (a := q) (b := 0) (by omega) (by decide)).mp (c158.trans nI_0.symm)))] at hP; exact hP)
    · skip
      refine s_Mo_call_161 rfl ?_
      refine s_Mo_call_163 rfl ?_
      refine s_Mo_call_164 (fun c164 => ?_) (fun c164 => ?_)
      · skip
        refine s_Mo_call_184 rfl ?_
        rw [nI_1]
        refine s_Mo_call_187 ?_
        refine ev_pick [0, 1, 2, 3, 4, 5] rfl ?_
        exact ih (q + 1) _ (by omega) (by rw [mSl, if_neg (fun h => h.elim (fun e => c158 (by rw [e]; rfl)) (fun e => absurd c164 (Int32.not_le.mpr e)))] at hP; exact hP)
      · skip
        refine s_Mo_call_167 rfl ?_
        refine s_Mo_call_168 rfl ?_
        refine s_Mo_call_170 ?_
        refine s_Mo_call_172 ?_
        refine s_Mo_call_174 rfl ?_
        refine s_Mo_call_176 ?_
        refine s_Mo_call_177 ?_
        refine s_Mo_call_178 rfl ?_
        refine s_Mo_call_180 ?_
        refine ev_topi (kplM dp q) ?_
        refine c_Mo_call_181 (t_Mo_shift rfl (by omega) rfl (by omega)) hp_1000 rfl (Nat.le_of_ble_eq_true rfl) ?_
        refine s_Mo_call_184 rfl ?_
        rw [nI_1]
        refine s_Mo_call_187 ?_
        refine ev_pick [0, 1, 2, 3, 4, 5] rfl ?_
        exact ih (q + 1) _ (by omega) (by rw [mSl, if_pos (Or.inr (Int32.not_le.mp c164))] at hP; exact hP)
set_option maxHeartbeats 4000000 in
set_option maxRecDepth 100000 in
theorem t_Mo_call {G : GW} {L : LT} {I : IT} {r : Nat} {p : Int32} {a : Nat} (ea : p = nI a) (ha : a < 8) {k : Int32} {g dp : Nat} (hk : gt I a 0 = 3 → gt I a 4 = nI g ∧ g < 6) (ed : I 1000 10 = nI dp) (hd5 : dp ≤ 5) : mt G M_Mo_call 3 0 0 [.ref 1000, .int p, .int k] (hp L I r) (dt (some (.int (mCal I a k dp g).1)) (hp L (mCal I a k dp g).2 r)) := by
  refine mt_of_ev (by decide) (Nat.le_of_ble_eq_true rfl) ?_
  show ev G M_Mo_call (rmv 3 0 0) (Er M_Mo_call _ 0 0) 0 [(0, .ref 1000), (1, .int p), (2, .int k)] [] (hp L I r) 0 0
  refine s_Mo_call_0 rfl ?_
  refine s_Mo_call_1 rfl ?_
  refine c_Mo_call_2 (t_Mo_what ea (by omega)) hp_1000 rfl (Nat.le_of_ble_eq_true rfl) ?_
  refine s_Mo_call_5 ?_
  refine s_Mo_call_6 (fun c6 => ?_) (fun c6 => ?_)
  · skip
    refine s_Mo_call_11 rfl ?_
    refine s_Mo_call_12 ?_
    refine c_Mo_call_13 (t_Mo_isNumber (j := 0) rfl (by omega)) hp_1000 rfl (Nat.le_of_ble_eq_true rfl) ?_
    refine s_Mo_call_16 (fun c16 => ?_) (fun c16 => ?_)
    · skip
      (first | rw [bz_n0] at c16 | rw [bz_0] at c16 | skip); (try simp only [Bool.not_eq_false', Bool.not_eq_true', decide_eq_true_eq, decide_eq_false_iff_not, Bool.or_eq_true, Bool.or_eq_false_iff, Bool.and_eq_true, Bool.and_eq_false_iff] at c16)
      refine s_Mo_call_21 rfl ?_
      refine s_Mo_call_22 rfl ?_
      refine s_Mo_call_23 ?_
      refine c_Mo_call_24 (t_Mo_get ea (by omega) (k := 4) rfl (by decide)) hp_1000 rfl (Nat.le_of_ble_eq_true rfl) ?_
      refine ev_topi (hk c6).1 ?_
      have hg := (hk c6).2
      refine s_Mo_call_27 ?_
      refine s_Mo_call_28 rfl ?_
      refine s_Mo_call_29 hp_1000 rfl ?_
      refine s_Mo_call_32 rfl ?_
      refine s_Mo_call_33 hp_1007 (vp_in_nI (by omega) (by decide)) ?_
      rw [nI_clamp (by omega)]
      refine s_Mo_call_34 ?_
      refine s_Mo_call_35 (fun c35 => ?_) (fun c35 => ?_)
      · skip
        refine s_Mo_call_46 ?_
        exact s_Mo_call_48 ⟨by rw [mCal, if_neg (fun h => h c6), if_neg (fun h => h c16), if_pos (Or.inl c35)], by rw [mCal, if_neg (fun h => h c6), if_neg (fun h => h c16), if_pos (Or.inl c35)]⟩ z0
      · skip
        refine s_Mo_call_38 rfl ?_
        refine s_Mo_call_39 hp_1000 rfl ?_
        refine s_Mo_call_42 ?_
        refine s_Mo_call_43 (fun c43 => ?_) (fun c43 => ?_)
        · skip
          have hd : dp < 5 := by
            rcases Nat.lt_or_ge dp 5 with h | h
            · exact h
            · exact absurd (by rw [ed, show dp = 5 by omega]; rfl) c43
          refine s_Mo_call_49 rfl ?_
          refine s_Mo_call_50 hp_1000 rfl ?_
          refine ev_topi ed ?_
          refine s_Mo_call_53 ?_
          refine s_Mo_call_55 rfl ?_
          refine s_Mo_call_56 hp_1000 rfl ?_
          refine s_Mo_call_59 ?_
          refine s_Mo_call_60 rfl ?_
          refine s_Mo_call_62 ?_
          rw [mul4']
          refine s_Mo_call_63 rfl ?_
          refine s_Mo_call_64 hp_1000 rfl ?_
          refine s_Mo_call_67 ?_
          refine s_Mo_call_68 ?_
          refine s_Mo_call_69 hp_1010 (vp_in_nI (by omega) (by decide)) ?_
          rw [hu_1010]
          rw [nI_clamp (by omega)]
          refine s_Mo_call_70 rfl ?_
          refine s_Mo_call_71 hp_1000 rfl ?_
          refine s_Mo_call_74 ?_
          refine s_Mo_call_75 rfl ?_
          refine s_Mo_call_77 ?_
          rw [mul4']
          refine s_Mo_call_78 ?_
          refine s_Mo_call_79 ?_
          refine ev_topi (nI_add _ 1) ?_
          refine s_Mo_call_80 rfl ?_
          refine s_Mo_call_81 hp_1000 rfl ?_
          refine s_Mo_call_84 hp_1010 (vp_in_nI (by omega) (by decide)) ?_
          rw [hu_1010]
          rw [nI_clamp (by omega)]
          refine s_Mo_call_85 rfl ?_
          refine s_Mo_call_86 hp_1000 rfl ?_
          refine s_Mo_call_89 ?_
          refine s_Mo_call_90 rfl ?_
          refine s_Mo_call_92 ?_
          rw [mul4']
          refine s_Mo_call_93 ?_
          refine s_Mo_call_94 ?_
          refine ev_topi (nI_add _ 2) ?_
          refine s_Mo_call_95 rfl ?_
          refine s_Mo_call_96 hp_1010 (vp_in_nI (by omega) (by decide)) ?_
          rw [hu_1010]
          rw [nI_clamp (by omega)]
          refine s_Mo_call_97 rfl ?_
          refine s_Mo_call_98 hp_1000 rfl ?_
          refine s_Mo_call_101 ?_
          refine s_Mo_call_102 rfl ?_
          refine s_Mo_call_104 ?_
          rw [mul4']
          refine s_Mo_call_105 ?_
          refine s_Mo_call_106 ?_
          refine ev_topi (nI_add _ 3) ?_
          refine s_Mo_call_107 rfl ?_
          refine s_Mo_call_108 hp_1010 (vp_in_nI (by omega) (by decide)) ?_
          rw [hu_1010]
          rw [nI_clamp (by omega)]
          refine s_Mo_call_109 rfl ?_
          refine s_Mo_call_110 rfl ?_
          refine s_Mo_call_112 ?_
          refine s_Mo_call_113 ?_
          refine s_Mo_call_115 rfl ?_
          refine s_Mo_call_116 ?_
          refine c_Mo_call_117 (t_Mo_noteDown rfl hd (k := 0) rfl (by decide) (show (96 : Int32) + nI g = nI (96 + g) from nI_add 96 g) (by omega)) hp_1000 rfl (Nat.le_of_ble_eq_true rfl) ?_
          refine s_Mo_call_120 ?_
          refine s_Mo_call_121 ?_
          refine ev_pick [0, 1, 2, 3, 4, 5] rfl ?_
          refine l_call1 hd 6 1 _ rfl (Nat.le_refl 1) ?_
          refine s_Mo_call_146 ?_
          refine s_Mo_call_147 ?_
          refine ev_pick [0, 1, 2, 3, 4, 5] rfl ?_
          refine l_call2 hd 8 0 _ rfl ?_
          refine s_Mo_call_190 rfl ?_
          refine s_Mo_call_191 ?_
          refine s_Mo_call_193 rfl ?_
          refine s_Mo_call_194 ?_
          refine s_Mo_call_195 ?_
          refine c_Mo_call_197 (t_Mo_shift (show (96 : Int32) + nI g = nI (96 + g) from nI_add 96 g) (by omega) (t := 7) rfl (by omega)) hp_1000 rfl (Nat.le_of_ble_eq_true rfl) ?_
          refine s_Mo_call_200 rfl ?_
          refine s_Mo_call_201 hp_1000 rfl ?_
          refine s_Mo_call_204 rfl ?_
          refine s_Mo_call_205 ?_
          refine s_Mo_call_206 hp_1007 (vp_in_nI (by omega) (by decide)) ?_
          rw [hu_1007]
          rw [nI_clamp (by omega)]
          refine s_Mo_call_207 rfl ?_
          refine s_Mo_call_208 rfl ?_
          refine s_Mo_call_209 hp_1000 rfl ?_
          refine s_Mo_call_212 ?_
          refine s_Mo_call_213 ?_
          refine s_Mo_call_214 hp_1000 (Nat.le_of_ble_eq_true rfl) ?_
          rw [hu_1000_10]
          refine s_Mo_call_217 rfl ?_
          refine s_Mo_call_218 rfl ?_
          refine s_Mo_call_219 hp_1000 rfl ?_
          refine s_Mo_call_222 rfl ?_
          refine s_Mo_call_223 hp_1008 (vp_in_nI (by omega) (by decide)) ?_
          rw [nI_clamp (by omega)]
          refine s_Mo_call_224 hp_1000 (Nat.le_of_ble_eq_true rfl) ?_
          rw [hu_1000_13]
          refine s_Mo_call_227 rfl ?_
          refine s_Mo_call_228 ?_
          refine s_Mo_call_229 hp_1000 (Nat.le_of_ble_eq_true rfl) ?_
          rw [hu_1000_14]
          refine s_Mo_call_232 ?_
          exact s_Mo_call_233 ⟨by rw [mCal, if_neg (fun h => h c6), if_neg (fun h => h c16), if_neg (fun h => h.elim c35 c43)], by rw [mCal, if_neg (fun h => h c6), if_neg (fun h => h c16), if_neg (fun h => h.elim c35 c43)]; rfl⟩ z0
        · skip
          refine s_Mo_call_46 ?_
          exact s_Mo_call_48 ⟨by rw [mCal, if_neg (fun h => h c6), if_neg (fun h => h c16), if_pos (Or.inr c43)], by rw [mCal, if_neg (fun h => h c6), if_neg (fun h => h c16), if_pos (Or.inr c43)]⟩ z0
    · skip
      (first | rw [bz_n0] at c16 | rw [bz_0] at c16 | skip); (try simp only [Bool.not_eq_false', Bool.not_eq_true', decide_eq_true_eq, decide_eq_false_iff_not, Bool.or_eq_true, Bool.or_eq_false_iff, Bool.and_eq_true, Bool.and_eq_false_iff] at c16)
      refine s_Mo_call_19 ?_
      exact s_Mo_call_20 ⟨by rw [mCal, if_neg (fun h => h c6), if_pos c16], by rw [mCal, if_neg (fun h => h c6), if_pos c16]⟩ z0
  · skip
    refine s_Mo_call_9 ?_
    exact s_Mo_call_10 ⟨by rw [mCal, if_pos c6], by rw [mCal, if_pos c6]⟩ z0
set_option maxRecDepth 100000 in
set_option maxHeartbeats 2000000 in
theorem l_comeBack1 {G : GW} {I : IT} {r : Nat} {E : Nat → LV → List Value → HP → Nat → Nat → Prop} {L : LT} {f g k : Nat} (hf : f < 5) (hg : g < 6) : ∀ (n q : Nat) (b : Bool), q + n = 7 → 1 ≤ q → ev G M_Mo_comeBack (rmv 3 0 0) E 120 [(5, .int (nI 7)), (4, .int (bz (mGd I f g (nI k) b q n))), (3, .int (nI k)), (2, .int (nI g)), (1, .int (nI f)), (0, .ref 1000)] [] (hp L I r) 0 0 → ev G M_Mo_comeBack (rmv 3 0 0) E 60 [(5, .int (nI q)), (4, .int (bz b)), (3, .int (nI k)), (2, .int (nI g)), (1, .int (nI f)), (0, .ref 1000)] [] (hp L I r) 0 0 := by
  intro n
  induction n with
  | zero =>
    intro q b hq h1 hP
    obtain rfl : q = 7 := by omega
    refine s_Mo_comeBack_60 rfl ?_
    refine s_Mo_comeBack_62 ?_
    refine s_Mo_comeBack_64 (fun _ => ?_) (fun c => absurd (by decide) c)
    exact hP
  | succ n ih =>
    intro q b hq h1 hP
    refine s_Mo_comeBack_60 rfl ?_
    refine s_Mo_comeBack_62 ?_
    refine s_Mo_comeBack_64 (fun c64 => absurd c64 (nle_nI (n := 7) rfl (by omega) (by decide))) (fun c64 => ?_)
    refine s_Mo_comeBack_67 rfl ?_
    refine s_Mo_comeBack_69 (fun c69 => ?_) (fun c69 => ?_)
    · skip
      (first | rw [bz_n0] at c69 | rw [bz_0] at c69 | skip); (try simp only [Bool.not_eq_false', Bool.not_eq_true', decide_eq_true_eq, decide_eq_false_iff_not, Bool.or_eq_true, Bool.or_eq_false_iff, Bool.and_eq_true, Bool.and_eq_false_iff] at c69)
      refine s_Mo_comeBack_111 ?_
      refine s_Mo_comeBack_112 ?_
      refine s_Mo_comeBack_114 rfl ?_
      rw [nI_1]
      refine s_Mo_comeBack_117 ?_
      refine ev_pick [0, 1, 2, 3, 4, 5] rfl ?_
      exact ih (q + 1) false (by omega) (by omega) (by rw [mGd, c69, Bool.false_and] at hP; exact hP)
    · skip
      (first | rw [bz_n0] at c69 | rw [bz_0] at c69 | skip); (try simp only [Bool.not_eq_false', Bool.not_eq_true', decide_eq_true_eq, decide_eq_false_iff_not, Bool.or_eq_true, Bool.or_eq_false_iff, Bool.and_eq_true, Bool.and_eq_false_iff] at c69)
      refine s_Mo_comeBack_72 rfl ?_
      refine s_Mo_comeBack_73 rfl ?_
      refine s_Mo_comeBack_74 rfl ?_
      refine s_Mo_comeBack_76 rfl ?_
      refine c_Mo_comeBack_77 (t_Mo_isLent rfl hg rfl) hp_1000 rfl (Nat.le_of_ble_eq_true rfl) ?_
      refine s_Mo_comeBack_80 (fun c80 => ?_) (fun c80 => ?_)
      · skip
        (first | rw [bz_n0] at c80 | rw [bz_0] at c80 | skip); (try simp only [Bool.not_eq_false', Bool.not_eq_true', decide_eq_true_eq, decide_eq_false_iff_not, Bool.or_eq_true, Bool.or_eq_false_iff, Bool.and_eq_true, Bool.and_eq_false_iff] at c80)
        refine s_Mo_comeBack_98 rfl ?_
        refine s_Mo_comeBack_99 rfl ?_
        refine c_Mo_comeBack_101 (t_Mo_isNumber rfl (by omega)) hp_1000 rfl (Nat.le_of_ble_eq_true rfl) ?_
        refine s_Mo_comeBack_104 (fun c104 => ?_) (fun c104 => ?_)
        · skip
          (first | rw [bz_n0] at c104 | rw [bz_0] at c104 | skip); (try simp only [Bool.not_eq_false', Bool.not_eq_true', decide_eq_true_eq, decide_eq_false_iff_not, Bool.or_eq_true, Bool.or_eq_false_iff, Bool.and_eq_true, Bool.and_eq_false_iff] at c104)
          refine s_Mo_comeBack_111 ?_
          refine s_Mo_comeBack_112 ?_
          refine s_Mo_comeBack_114 rfl ?_
          rw [nI_1]
          refine s_Mo_comeBack_117 ?_
          refine ev_pick [0, 1, 2, 3, 4, 5] rfl ?_
          exact ih (q + 1) false (by omega) (by omega) (by rw [mGd, c69, if_neg (by rw [c80]; decide), decide_eq_false c104, Bool.true_and] at hP; exact hP)
        · skip
          (first | rw [bz_n0] at c104 | rw [bz_0] at c104 | skip); (try simp only [Bool.not_eq_false', Bool.not_eq_true', decide_eq_true_eq, decide_eq_false_iff_not, Bool.or_eq_true, Bool.or_eq_false_iff, Bool.and_eq_true, Bool.and_eq_false_iff] at c104)
          refine s_Mo_comeBack_107 ?_
          refine s_Mo_comeBack_108 ?_
          refine s_Mo_comeBack_112 ?_
          refine s_Mo_comeBack_114 rfl ?_
          rw [nI_1]
          refine s_Mo_comeBack_117 ?_
          refine ev_pick [0, 1, 2, 3, 4, 5] rfl ?_
          exact ih (q + 1) true (by omega) (by omega) (by rw [mGd, c69, if_neg (by rw [c80]; decide), decide_eq_true c104, Bool.true_and] at hP; exact hP)
      · skip
        (first | rw [bz_n0] at c80 | rw [bz_0] at c80 | skip); (try simp only [Bool.not_eq_false', Bool.not_eq_true', decide_eq_true_eq, decide_eq_false_iff_not, Bool.or_eq_true, Bool.or_eq_false_iff, Bool.and_eq_true, Bool.and_eq_false_iff] at c80)
        refine s_Mo_comeBack_83 rfl ?_
        refine s_Mo_comeBack_84 rfl ?_
        refine s_Mo_comeBack_85 rfl ?_
        refine s_Mo_comeBack_87 rfl ?_
        refine c_Mo_comeBack_89 (t_Mo_isAsNoted rfl hf rfl (by omega) rfl (by omega)) hp_1000 rfl (Nat.le_of_ble_eq_true rfl) ?_
        refine s_Mo_comeBack_92 (fun c92 => ?_) (fun c92 => ?_)
        · skip
          (first | rw [bz_n0] at c92 | rw [bz_0] at c92 | skip); (try simp only [Bool.not_eq_false', Bool.not_eq_true', decide_eq_true_eq, decide_eq_false_iff_not, Bool.or_eq_true, Bool.or_eq_false_iff, Bool.and_eq_true, Bool.and_eq_false_iff] at c92)
          refine s_Mo_comeBack_111 ?_
          refine s_Mo_comeBack_112 ?_
          refine s_Mo_comeBack_114 rfl ?_
          rw [nI_1]
          refine s_Mo_comeBack_117 ?_
          refine ev_pick [0, 1, 2, 3, 4, 5] rfl ?_
          exact ih (q + 1) false (by omega) (by omega) (by rw [mGd, c69, if_pos c80, c92, Bool.true_and] at hP; exact hP)
        · skip
          (first | rw [bz_n0] at c92 | rw [bz_0] at c92 | skip); (try simp only [Bool.not_eq_false', Bool.not_eq_true', decide_eq_true_eq, decide_eq_false_iff_not, Bool.or_eq_true, Bool.or_eq_false_iff, Bool.and_eq_true, Bool.and_eq_false_iff] at c92)
          refine s_Mo_comeBack_95 ?_
          refine s_Mo_comeBack_107 ?_
          refine s_Mo_comeBack_108 ?_
          refine s_Mo_comeBack_112 ?_
          refine s_Mo_comeBack_114 rfl ?_
          rw [nI_1]
          refine s_Mo_comeBack_117 ?_
          refine ev_pick [0, 1, 2, 3, 4, 5] rfl ?_
          exact ih (q + 1) true (by omega) (by omega) (by rw [mGd, c69, if_pos c80, c92, Bool.true_and] at hP; exact hP)
set_option maxRecDepth 100000 in
set_option maxHeartbeats 2000000 in
theorem l_comeBack2 {G : GW} {r : Nat} {E : Nat → LV → List Value → HP → Nat → Nat → Prop} {L : LT} {f g k : Nat} {b : Bool} (hf : f < 5) : ∀ (n q : Nat) (I : IT), q + n = 8 → ev G M_Mo_comeBack (rmv 3 0 0) E 179 [(5, .int (nI 8)), (4, .int (bz b)), (3, .int (nI k)), (2, .int (nI g)), (1, .int (nI f)), (0, .ref 1000)] [] (hp L (mRl f I q n) r) 0 0 → ev G M_Mo_comeBack (rmv 3 0 0) E 150 [(5, .int (nI q)), (4, .int (bz b)), (3, .int (nI k)), (2, .int (nI g)), (1, .int (nI f)), (0, .ref 1000)] [] (hp L I r) 0 0 := by
  intro n
  induction n with
  | zero =>
    intro q I hq hP
    obtain rfl : q = 8 := by omega
    refine s_Mo_comeBack_150 rfl ?_
    refine s_Mo_comeBack_152 ?_
    refine s_Mo_comeBack_154 (fun _ => ?_) (fun c => absurd (by decide) c)
    exact hP
  | succ n ih =>
    intro q I hq hP
    refine s_Mo_comeBack_150 rfl ?_
    refine s_Mo_comeBack_152 ?_
    refine s_Mo_comeBack_154 (fun c154 => absurd c154 (nle_nI (n := 8) rfl (by omega) (by decide))) (fun c154 => ?_)
    refine s_Mo_comeBack_157 rfl ?_
    refine s_Mo_comeBack_158 ?_
    refine s_Mo_comeBack_160 ?_
    refine s_Mo_comeBack_162 rfl ?_
    refine s_Mo_comeBack_163 ?_
    refine s_Mo_comeBack_164 ?_
    refine s_Mo_comeBack_165 rfl ?_
    refine s_Mo_comeBack_167 ?_
    refine ev_topi (kplM f q) ?_
    refine s_Mo_comeBack_168 rfl ?_
    refine c_Mo_comeBack_170 (t_Mo_shift rfl (by omega) rfl (by omega)) hp_1000 rfl (Nat.le_of_ble_eq_true rfl) ?_
    refine s_Mo_comeBack_173 rfl ?_
    rw [nI_1]
    refine s_Mo_comeBack_176 ?_
    refine ev_pick [0, 1, 2, 3, 4, 5] rfl ?_
    exact ih (q + 1) _ (by omega) hP
set_option maxHeartbeats 4000000 in
set_option maxRecDepth 100000 in
theorem t_Mo_comeBack {G : GW} {L : LT} {I : IT} {r : Nat} {f g k : Nat} (ed : I 1000 10 = nI (f + 1)) (hf : f < 5) (eg : I 1010 (4 * f + 2) = nI g) (hg : g < 6) (ek : I 1010 (4 * f + 3) = nI k) (hk : k ≤ 6) : mt G M_Mo_comeBack 3 0 0 [.ref 1000] (hp L I r) (dt (some (.int (mRet I f g k).1)) (hp L (mRet I f g k).2 r)) := by
  refine mt_of_ev (by decide) (Nat.le_of_ble_eq_true rfl) ?_
  show ev G M_Mo_comeBack (rmv 3 0 0) (Er M_Mo_comeBack _ 0 0) 0 [(0, .ref 1000)] [] (hp L I r) 0 0
  refine s_Mo_comeBack_0 rfl ?_
  refine s_Mo_comeBack_1 hp_1000 rfl ?_
  refine s_Mo_comeBack_4 (fun c4 => absurd c4 (by rw [ed, show (0 : Int32) = nI 0 from rfl, nI_eq (by omega) (by decide)]; omega)) (fun c4 => ?_)
  refine s_Mo_comeBack_7 rfl ?_
  refine s_Mo_comeBack_8 ?_
  refine c_Mo_comeBack_9 (t_Mo_isNumber (j := 0) rfl (by omega)) hp_1000 rfl (Nat.le_of_ble_eq_true rfl) ?_
  refine s_Mo_comeBack_12 (fun c12 => ?_) (fun c12 => ?_)
  · skip
    (first | rw [bz_n0] at c12 | rw [bz_0] at c12 | skip); (try simp only [Bool.not_eq_false', Bool.not_eq_true', decide_eq_true_eq, decide_eq_false_iff_not, Bool.or_eq_true, Bool.or_eq_false_iff, Bool.and_eq_true, Bool.and_eq_false_iff] at c12)
    refine s_Mo_comeBack_18 rfl ?_
    refine s_Mo_comeBack_19 hp_1000 rfl ?_
    refine ev_topi ed ?_
    refine s_Mo_comeBack_22 ?_
    refine s_Mo_comeBack_23 ?_
    rw [nI_pred]
    refine s_Mo_comeBack_24 ?_
    refine s_Mo_comeBack_25 rfl ?_
    refine s_Mo_comeBack_26 hp_1000 rfl ?_
    refine s_Mo_comeBack_29 ?_
    refine s_Mo_comeBack_30 rfl ?_
    refine s_Mo_comeBack_31 ?_
    rw [mul4']
    refine s_Mo_comeBack_32 ?_
    refine s_Mo_comeBack_33 ?_
    refine ev_topi (nI_add _ 2) ?_
    refine s_Mo_comeBack_34 hp_1010 (vp_in_nI (by omega) (by decide)) ?_
    refine ev_topi (show _ = nI g by rw [nI_clamp (by omega)]; exact eg) ?_
    refine s_Mo_comeBack_35 ?_
    refine s_Mo_comeBack_36 rfl ?_
    refine s_Mo_comeBack_37 hp_1000 rfl ?_
    refine s_Mo_comeBack_40 ?_
    refine s_Mo_comeBack_41 rfl ?_
    refine s_Mo_comeBack_42 ?_
    rw [mul4']
    refine s_Mo_comeBack_43 ?_
    refine s_Mo_comeBack_44 ?_
    refine ev_topi (nI_add _ 3) ?_
    refine s_Mo_comeBack_45 hp_1010 (vp_in_nI (by omega) (by decide)) ?_
    refine ev_topi (show _ = nI k by rw [nI_clamp (by omega)]; exact ek) ?_
    refine s_Mo_comeBack_46 ?_
    refine s_Mo_comeBack_47 rfl ?_
    refine s_Mo_comeBack_48 rfl ?_
    refine s_Mo_comeBack_49 ?_
    refine s_Mo_comeBack_50 ?_
    refine c_Mo_comeBack_52 (t_Mo_isAsNoted rfl hf (k := 0) rfl (by decide) (p := 7) rfl (by decide)) hp_1000 rfl (Nat.le_of_ble_eq_true rfl) ?_
    refine s_Mo_comeBack_55 ?_
    refine s_Mo_comeBack_57 ?_
    refine s_Mo_comeBack_58 ?_
    refine ev_pick [0, 1, 2, 3, 4, 5] rfl ?_
    refine l_comeBack1 hf hg 6 1 _ rfl (Nat.le_refl 1) ?_
    refine s_Mo_comeBack_120 rfl ?_
    refine s_Mo_comeBack_122 (fun c122 => ?_) (fun c122 => ?_)
    · skip
      (first | rw [bz_n0] at c122 | rw [bz_0] at c122 | skip); (try simp only [Bool.not_eq_false', Bool.not_eq_true', decide_eq_true_eq, decide_eq_false_iff_not, Bool.or_eq_true, Bool.or_eq_false_iff, Bool.and_eq_true, Bool.and_eq_false_iff] at c122)
      refine s_Mo_comeBack_128 rfl ?_
      refine s_Mo_comeBack_129 ?_
      refine s_Mo_comeBack_131 ?_
      refine s_Mo_comeBack_133 rfl ?_
      refine s_Mo_comeBack_134 ?_
      refine c_Mo_comeBack_135 (t_Mo_shift (f := 7) rfl (by omega) (show (96 : Int32) + nI g = nI (96 + g) from nI_add 96 g) (by omega)) hp_1000 rfl (Nat.le_of_ble_eq_true rfl) ?_
      refine s_Mo_comeBack_138 rfl ?_
      refine s_Mo_comeBack_139 hp_1000 rfl ?_
      refine s_Mo_comeBack_142 rfl ?_
      refine s_Mo_comeBack_143 ?_
      refine s_Mo_comeBack_144 hp_1007 (vp_in_nI (by omega) (by decide)) ?_
      rw [hu_1007]
      rw [nI_clamp (by omega)]
      refine s_Mo_comeBack_145 rfl ?_
      refine s_Mo_comeBack_146 ?_
      refine s_Mo_comeBack_147 ?_
      rw [nI_1]
      refine s_Mo_comeBack_148 ?_
      refine ev_pick [0, 1, 2, 3, 4, 5] rfl ?_
      refine l_comeBack2 hf (7 - k) (k + 1) _ (by omega) ?_
      refine s_Mo_comeBack_179 rfl ?_
      refine s_Mo_comeBack_180 ?_
      refine s_Mo_comeBack_182 ?_
      refine s_Mo_comeBack_184 rfl ?_
      refine s_Mo_comeBack_185 ?_
      refine s_Mo_comeBack_186 ?_
      refine ev_topi (kplM0 f) ?_
      refine c_Mo_comeBack_187 (t_Mo_clear rfl (by omega)) hp_1000 rfl (Nat.le_of_ble_eq_true rfl) ?_
      refine s_Mo_comeBack_190 rfl ?_
      refine s_Mo_comeBack_191 rfl ?_
      refine s_Mo_comeBack_192 hp_1000 (Nat.le_of_ble_eq_true rfl) ?_
      rw [hu_1000_10]
      refine s_Mo_comeBack_195 rfl ?_
      refine s_Mo_comeBack_196 rfl ?_
      refine s_Mo_comeBack_197 hp_1000 rfl ?_
      refine s_Mo_comeBack_200 ?_
      refine s_Mo_comeBack_201 rfl ?_
      refine s_Mo_comeBack_202 ?_
      rw [mul4']
      refine s_Mo_comeBack_203 ?_
      refine s_Mo_comeBack_204 ?_
      refine ev_topi (nI_add _ 1) ?_
      refine s_Mo_comeBack_205 hp_1010 (vp_in_nI (by omega) (by decide)) ?_
      rw [nI_clamp (by omega)]
      refine s_Mo_comeBack_206 hp_1000 (Nat.le_of_ble_eq_true rfl) ?_
      rw [hu_1000_13]
      refine s_Mo_comeBack_209 rfl ?_
      refine s_Mo_comeBack_210 rfl ?_
      refine s_Mo_comeBack_211 hp_1000 rfl ?_
      refine s_Mo_comeBack_214 ?_
      refine s_Mo_comeBack_215 rfl ?_
      refine s_Mo_comeBack_216 ?_
      rw [mul4']
      refine s_Mo_comeBack_217 hp_1010 (vp_in_nI (by omega) (by decide)) ?_
      rw [nI_clamp (by omega)]
      refine s_Mo_comeBack_218 hp_1000 (Nat.le_of_ble_eq_true rfl) ?_
      rw [hu_1000_14]
      refine s_Mo_comeBack_221 ?_
      exact s_Mo_comeBack_222 ⟨by rw [mRet, if_neg (fun h => h c12), if_neg (by rw [c122]; decide)], by rw [mRet, if_neg (fun h => h c12), if_neg (by rw [c122]; decide)]; rfl⟩ z0
    · skip
      (first | rw [bz_n0] at c122 | rw [bz_0] at c122 | skip); (try simp only [Bool.not_eq_false', Bool.not_eq_true', decide_eq_true_eq, decide_eq_false_iff_not, Bool.or_eq_true, Bool.or_eq_false_iff, Bool.and_eq_true, Bool.and_eq_false_iff] at c122)
      refine s_Mo_comeBack_125 ?_
      exact s_Mo_comeBack_127 ⟨by rw [mRet, if_neg (fun h => h c12), if_pos c122], by rw [mRet, if_neg (fun h => h c12), if_pos c122]⟩ z0
  · skip
    (first | rw [bz_n0] at c12 | rw [bz_0] at c12 | skip); (try simp only [Bool.not_eq_false', Bool.not_eq_true', decide_eq_true_eq, decide_eq_false_iff_not, Bool.or_eq_true, Bool.or_eq_false_iff, Bool.and_eq_true, Bool.and_eq_false_iff] at c12)
    refine s_Mo_comeBack_15 ?_
    exact s_Mo_comeBack_17 ⟨by rw [mRet, if_pos c12], by rw [mRet, if_pos c12]⟩ z0
set_option maxRecDepth 100000 in
theorem t_Mo_comeBack0 {G : GW} {L : LT} {I : IT} {r : Nat} (ed : I 1000 10 = 0) : mt G M_Mo_comeBack 3 0 0 [.ref 1000] (hp L I r) (dt (some (.int 8)) (hp L I r)) := by
  refine mt_of_ev (by decide) (Nat.le_of_ble_eq_true rfl) ?_
  show ev G M_Mo_comeBack (rmv 3 0 0) (Er M_Mo_comeBack _ 0 0) 0 [(0, .ref 1000)] [] (hp L I r) 0 0
  refine s_Mo_comeBack_0 rfl ?_
  refine s_Mo_comeBack_1 hp_1000 rfl ?_
  refine s_Mo_comeBack_4 (fun c4 => ?_) (fun c4 => absurd c4 (fun h => h ed))
  refine s_Mo_comeBack_15 ?_
  exact s_Mo_comeBack_17 ⟨by first | rfl | (simp [bz, *]; done) | (simp only [← Int32.not_le] at *; simp [bz, *]; done) | (simp only [Int32.not_lt, Int32.not_le] at *; simp [bz, *]; done) | (simp_all [bz]; done) | (simp only [bz_0, bz_n0, ← Int32.not_le] at *; simp_all [bz]; done), by first | rfl | (simp [*]; done) | (simp_all; done)⟩ z0

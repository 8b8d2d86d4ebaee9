/-! the reference: begin, boot, code, its reads -/
def mBgl : IT → Nat → Nat → IT
  | J, _, 0 => J
  | J, j, n + 1 => mBgl (mClr J j) (j + 1) n
def mBg2 : IT → Nat → Nat → IT
  | J, _, 0 => J
  | J, j, n + 1 => mBg2 (upI (upI J 1004 j 0) 1007 j 0) (j + 1) n
def mB5 (J : IT) : IT := upI (upI (upI (upI (upI J 1000 10 0) 1000 13 0) 1000 14 0) 1000 15 0) 1000 16 0
def mBegN (N : Nat) (J : IT) : IT := if J 1000 0 = 0 then mB5 (mBg2 (mBgl J 0 N) 0 6) else mPut (mB5 (mBg2 (mBgl J 0 N) 0 6)) 1 1 0 48 15 0
def mBeg (J : IT) : IT := mBegN 102 J
theorem mBgl_o {x : Nat} (h : x ≠ 1003) : ∀ (n j : Nat) (J : IT), mBgl J j n x = J x
  | 0, _, _ => rfl
  | n + 1, j, J => by rw [mBgl, mBgl_o h n (j + 1)]; exact mPut_o h
theorem mBg2_o {x : Nat} (h : x ≠ 1004) (h' : x ≠ 1007) : ∀ (n j : Nat) (J : IT), mBg2 J j n x = J x
  | 0, _, _ => rfl
  | n + 1, j, J => by rw [mBg2, mBg2_o h h' n (j + 1), upI_b h', upI_b h]
theorem mB_o {N : Nat} {J : IT} {x : Nat} (h3 : x ≠ 1003) (h : x ≠ 1004) (h' : x ≠ 1007) : mBg2 (mBgl J 0 N) 0 6 x = J x := by rw [mBg2_o h h', mBgl_o h3]
theorem mB5_0 {J : IT} : mB5 J 1000 0 = J 1000 0 := rfl
theorem mBegN_0 {N : Nat} {J : IT} : mBegN N J 1000 0 = J 1000 0 := by
  have e := congrFun (mB_o (N := N) (J := J) (x := 1000) (by decide) (by decide) (by decide)) 0
  unfold mBegN
  generalize mBg2 (mBgl J 0 N) 0 6 = B at e ⊢
  split
  · rw [mB5_0]; exact e
  · rw [mPut_o (by decide), mB5_0]; exact e
theorem mBeg_0 {J : IT} : mBeg J 1000 0 = J 1000 0 := mBegN_0
def mSz (b : Bool) : IT → Nat → Nat → IT
  | J, _, 0 => J
  | J, j, n + 1 => mSz b (upI J 1001 j (if b = true then J 1001 j else 0)) (j + 1) n
theorem mSz_o {b : Bool} {x : Nat} (h : x ≠ 1001) : ∀ (n j : Nat) (J : IT), mSz b J j n x = J x
  | 0, _, _ => rfl
  | n + 1, j, J => by rw [mSz, mSz_o h n (j + 1), upI_b h]
def mBt (J : IT) (b : Bool) : IT := mSz b (mBeg (upI (upI J 1000 0 (bz b)) 1000 17 0)) 0 3
def mApp (J : IT) (m s : Nat) (op a b c : Int32) : IT := upI (upI (upI (upI (upI J 1002 (96 * m + 4 * s) op) 1002 (96 * m + 4 * s + 1) a) 1002 (96 * m + 4 * s + 2) b) 1002 (96 * m + 4 * s + 3) c) 1001 m (nI s + 1)
def mShn (J : IT) (p : Nat) (f : Int32) : Int32 := if inz f 0 4 = true then gt J p f.toNatClampNeg else -1
def mReg (J : IT) (q f : Int32) : Int32 := if inz q 0 7 = true then mShn J q.toNatClampNeg f else -1
def mWrd (J : IT) (q f : Int32) : Int32 := if inz q 0 47 = true then mShn J (8 + q.toNatClampNeg) f else -1
def mLok (J : IT) (w : Int32) : Int32 := if w = 0 then J 1000 10 else if w = 1 then J 1000 13 else if w = 2 then J 1000 14 else if w = 3 then J 1000 16 else if w = 4 then J 1000 15 else if inz w 5 7 = true then J 1001 (w - 5).toNatClampNeg else -1
def mCnt (J : IT) (q : Int32) : Int32 := if inz q 0 5 = true then J 1004 q.toNatClampNeg else -1
def mGat (J : IT) (q f : Int32) : Int32 := if inz q 0 5 = false ∨ inz f 0 2 = false then -1 else if f = 0 then J 1007 q.toNatClampNeg else if ¬ 0 < J 1007 q.toNatClampNeg then 0 else if f = 1 then J 1008 q.toNatClampNeg else J 1009 q.toNatClampNeg
theorem inz_p {v l h : Int32} (hi : inz v l h = true) : ¬ v < l ∧ ¬ h < v := by simpa [inz] using hi
theorem inz_in {v h : Int32} {n : Nat} (hh : h.toInt = n) (hi : inz v 0 h = true) : vp_in v (n + 1) := by
  have h1 := inz_p hi
  refine vp_in_iff.mpr ⟨?_, ?_⟩
  · simpa using Int32.le_iff_toInt_le.mp (Int32.not_lt.mp h1.1)
  · have := Int32.le_iff_toInt_le.mp (Int32.not_lt.mp h1.2); omega
theorem inz_nI {v h : Int32} {n : Nat} (hh : h.toInt = n) (hn : n + 1 < 2 ^ 31) (hi : inz v 0 h = true) : v = nI v.toNatClampNeg ∧ v.toNatClampNeg ≤ n := by
  obtain ⟨j, hj, e⟩ := vp_in_of (inz_in hh hi) hn
  rw [e, nI_clamp (by omega)]; exact ⟨rfl, by omega⟩
theorem inz57 {w : Int32} (hi : inz w 5 7 = true) : vp_in (w - 5) 3 := by
  have h1 := inz_p hi
  have a := Int32.le_iff_toInt_le.mp (Int32.not_lt.mp h1.1)
  have b := Int32.le_iff_toInt_le.mp (Int32.not_lt.mp h1.2)
  have c5 : (5 : Int32).toInt = 5 := rfl
  have c7 : (7 : Int32).toInt = 7 := rfl
  have e : w = nI w.toInt.toNat := by apply Int32.toInt_inj.mp; rw [nI_toInt (by omega)]; omega
  rcases (by omega : w.toInt.toNat = 5 ∨ w.toInt.toNat = 6 ∨ w.toInt.toNat = 7) with q | q | q <;> rw [e, q] <;> exact vp_in_iff.mpr (by decide)
set_option maxRecDepth 100000 in
set_option maxHeartbeats 2000000 in
theorem l_begin1 {G : GW} {r : Nat} {E : Nat → LV → List Value → HP → Nat → Nat → Prop} {L : LT} {N : Nat} (hN : N = 102) : ∀ (n j : Nat) (I : IT), j + n = N → ev G M_Mo_begin (rmv 2 0 0) E 19 [(1, .int (nI 102)), (0, .ref 1000)] [] (hp L (mBgl I j n) r) 0 0 → ev G M_Mo_begin (rmv 2 0 0) E 2 [(1, .int (nI j)), (0, .ref 1000)] [] (hp L I r) 0 0 := by
  intro n
  induction n with
  | zero =>
    intro j I hj hP
    obtain rfl : j = 102 := by omega
    refine s_Mo_begin_2 rfl ?_
    refine s_Mo_begin_3 ?_
    refine s_Mo_begin_5 (fun _ => ?_) (fun c => absurd (by decide) c)
    exact hP
  | succ n ih =>
    intro j I hj hP
    refine s_Mo_begin_2 rfl ?_
    refine s_Mo_begin_3 ?_
    refine s_Mo_begin_5 (fun c5 => absurd c5 (nle_nI (n := 102) rfl (by omega) (by decide))) (fun c5 => ?_)
    refine s_Mo_begin_8 rfl ?_
    refine s_Mo_begin_9 rfl ?_
    refine c_Mo_begin_10 (t_Mo_clear rfl (by omega)) hp_1000 rfl (Nat.le_of_ble_eq_true rfl) ?_
    refine s_Mo_begin_13 rfl ?_
    rw [nI_1]
    refine s_Mo_begin_16 ?_
    refine ev_pick [0, 1] rfl ?_
    exact ih (j + 1) _ (by omega) hP
set_option maxRecDepth 100000 in
set_option maxHeartbeats 2000000 in
theorem l_begin2 {G : GW} {r : Nat} {E : Nat → LV → List Value → HP → Nat → Nat → Prop} {L : LT} : ∀ (n j : Nat) (I : IT), j + n = 6 → ev G M_Mo_begin (rmv 2 0 0) E 47 [(1, .int (nI 6)), (0, .ref 1000)] [] (hp L (mBg2 I j n) r) 0 0 → ev G M_Mo_begin (rmv 2 0 0) E 21 [(1, .int (nI j)), (0, .ref 1000)] [] (hp L I r) 0 0 := by
  intro n
  induction n with
  | zero =>
    intro j I hj hP
    obtain rfl : j = 6 := by omega
    refine s_Mo_begin_21 rfl ?_
    refine s_Mo_begin_22 ?_
    refine s_Mo_begin_24 (fun _ => ?_) (fun c => absurd (by decide) c)
    exact hP
  | succ n ih =>
    intro j I hj hP
    refine s_Mo_begin_21 rfl ?_
    refine s_Mo_begin_22 ?_
    refine s_Mo_begin_24 (fun c24 => absurd c24 (nle_nI (n := 6) rfl (by omega) (by decide))) (fun c24 => ?_)
    refine s_Mo_begin_27 rfl ?_
    refine s_Mo_begin_28 hp_1000 rfl ?_
    refine s_Mo_begin_31 rfl ?_
    refine s_Mo_begin_32 ?_
    refine s_Mo_begin_33 hp_1004 (vp_in_nI (by omega) (by decide)) ?_
    rw [hu_1004]
    rw [nI_clamp (by omega)]
    refine s_Mo_begin_34 rfl ?_
    refine s_Mo_begin_35 hp_1000 rfl ?_
    refine s_Mo_begin_38 rfl ?_
    refine s_Mo_begin_39 ?_
    refine s_Mo_begin_40 hp_1007 (vp_in_nI (by omega) (by decide)) ?_
    rw [hu_1007]
    rw [nI_clamp (by omega)]
    refine s_Mo_begin_41 rfl ?_
    rw [nI_1]
    refine s_Mo_begin_44 ?_
    refine ev_pick [0, 1] rfl ?_
    exact ih (j + 1) _ (by omega) hP
set_option maxRecDepth 100000 in
theorem t_Mo_beginN {G : GW} {L : LT} {I : IT} {r : Nat} {N : Nat} (hN : N = 102) : mt G M_Mo_begin 2 0 0 [.ref 1000] (hp L I r) (dt (none) (hp L (mBegN N I) r)) := by
  refine mt_of_ev (by decide) (Nat.le_of_ble_eq_true rfl) ?_
  show ev G M_Mo_begin (rmv 2 0 0) (Er M_Mo_begin _ 0 0) 0 [(0, .ref 1000)] [] (hp L I r) 0 0
  refine s_Mo_begin_0 ?_
  refine s_Mo_begin_1 ?_
  refine ev_pick [0, 1] rfl ?_
  refine l_begin1 hN N 0 _ (Nat.zero_add N) ?_
  refine s_Mo_begin_19 ?_
  refine s_Mo_begin_20 ?_
  refine ev_pick [0, 1] rfl ?_
  refine l_begin2 6 0 _ rfl ?_
  have eB := congrFun (mB_o (N := N) (J := I) (x := 1000) (by decide) (by decide) (by decide)) 0
  generalize hB : mBg2 (mBgl I 0 N) 0 6 = B at eB ⊢
  refine s_Mo_begin_47 rfl ?_
  refine s_Mo_begin_48 ?_
  refine s_Mo_begin_49 hp_1000 (Nat.le_of_ble_eq_true rfl) ?_
  rw [hu_1000_10]
  refine s_Mo_begin_52 rfl ?_
  refine s_Mo_begin_53 ?_
  refine s_Mo_begin_54 hp_1000 (Nat.le_of_ble_eq_true rfl) ?_
  rw [hu_1000_13]
  refine s_Mo_begin_57 rfl ?_
  refine s_Mo_begin_58 ?_
  refine s_Mo_begin_59 hp_1000 (Nat.le_of_ble_eq_true rfl) ?_
  rw [hu_1000_14]
  refine s_Mo_begin_62 rfl ?_
  refine s_Mo_begin_63 ?_
  refine s_Mo_begin_64 hp_1000 (Nat.le_of_ble_eq_true rfl) ?_
  rw [hu_1000_15]
  refine s_Mo_begin_67 rfl ?_
  refine s_Mo_begin_68 ?_
  refine s_Mo_begin_69 hp_1000 (Nat.le_of_ble_eq_true rfl) ?_
  rw [hu_1000_16]
  refine s_Mo_begin_72 rfl ?_
  refine s_Mo_begin_73 hp_1000 rfl ?_
  refine ev_topi (show _ = I 1000 0 from eB) ?_
  refine s_Mo_begin_76 (fun c76 => ?_) (fun c76 => ?_)
  · skip
    exact s_Mo_begin_91 ⟨rfl, by rw [mBegN, if_pos c76, hB]; rfl⟩ z0
  · skip
    refine s_Mo_begin_79 rfl ?_
    refine s_Mo_begin_80 ?_
    refine s_Mo_begin_81 ?_
    refine s_Mo_begin_82 ?_
    refine s_Mo_begin_83 ?_
    refine s_Mo_begin_85 ?_
    refine s_Mo_begin_87 ?_
    refine c_Mo_begin_88 (t_Mo_put (j := 1) rfl (by omega)) hp_1000 rfl (Nat.le_of_ble_eq_true rfl) ?_
    exact s_Mo_begin_91 ⟨rfl, by rw [mBegN, if_neg c76, hB]; rfl⟩ z0
theorem t_Mo_begin {G : GW} {L : LT} {I : IT} {r : Nat} : mt G M_Mo_begin 2 0 0 [.ref 1000] (hp L I r) (dt none (hp L (mBeg I) r)) := t_Mo_beginN rfl
set_option maxRecDepth 100000 in
set_option maxHeartbeats 2000000 in
theorem l_boot_true {G : GW} {r : Nat} {E : Nat → LV → List Value → HP → Nat → Nat → Prop} {L : LT} : ∀ (n j : Nat) (I : IT), j + n = 3 → I 1000 0 = 1 → ev G M_Mo_boot (rmv 3 0 0) E 61 [(1, .int (nI 3)), (0, .ref 1000)] [] (hp L (mSz true I j n) r) 0 0 → ev G M_Mo_boot (rmv 3 0 0) E 27 [(1, .int (nI j)), (0, .ref 1000)] [] (hp L I r) 0 0 := by
  intro n
  induction n with
  | zero =>
    intro j I hj h0 hP
    obtain rfl : j = 3 := by omega
    refine s_Mo_boot_27 rfl ?_
    refine s_Mo_boot_28 ?_
    refine s_Mo_boot_29 (fun _ => ?_) (fun c => absurd (by decide) c)
    exact hP
  | succ n ih =>
    intro j I hj h0 hP
    refine s_Mo_boot_27 rfl ?_
    refine s_Mo_boot_28 ?_
    refine s_Mo_boot_29 (fun c29 => absurd c29 (nle_nI (n := 3) rfl (by omega) (by decide))) (fun c29 => ?_)
    refine s_Mo_boot_32 rfl ?_
    refine s_Mo_boot_33 hp_1000 rfl ?_
    refine s_Mo_boot_36 rfl ?_
    refine s_Mo_boot_37 rfl ?_
    refine s_Mo_boot_38 hp_1000 rfl ?_
    refine s_Mo_boot_41 (fun c41 => absurd c41 (by rw [h0]; decide)) (fun c41 => ?_)
    refine s_Mo_boot_44 rfl ?_
    refine s_Mo_boot_45 hp_1000 rfl ?_
    refine s_Mo_boot_48 rfl ?_
    refine s_Mo_boot_49 hp_1001 (vp_in_nI (by omega) (by decide)) ?_
    rw [nI_clamp (by omega)]
    refine s_Mo_boot_50 ?_
    refine s_Mo_boot_54 hp_1001 (vp_in_nI (by omega) (by decide)) ?_
    rw [hu_1001]
    rw [nI_clamp (by omega)]
    refine s_Mo_boot_55 rfl ?_
    rw [nI_1]
    refine s_Mo_boot_58 ?_
    refine ev_pick [0, 1] rfl ?_
    exact ih (j + 1) _ (by omega) (by exact h0) (by rw [mSz] at hP; exact hP)
set_option maxRecDepth 100000 in
theorem t_Mo_boot_true {G : GW} {L : LT} {I : IT} {r : Nat} (h0 : I 1000 0 = 0) : mt G M_Mo_boot 3 0 0 [.ref 1000] (hp L I r) (dt (some (.int 1)) (hp L (mBt I true) r)) := by
  refine mt_of_ev (by decide) (Nat.le_of_ble_eq_true rfl) ?_
  show ev G M_Mo_boot (rmv 3 0 0) (Er M_Mo_boot _ 0 0) 0 [(0, .ref 1000)] [] (hp L I r) 0 0
  refine s_Mo_boot_0 rfl ?_
  refine s_Mo_boot_1 rfl ?_
  refine s_Mo_boot_2 hp_1000 rfl ?_
  refine s_Mo_boot_5 (fun c5 => absurd c5 (fun h => h h0)) (fun c5 => ?_)
  refine s_Mo_boot_8 ?_
  refine s_Mo_boot_9 ?_
  refine s_Mo_boot_13 hp_1000 (Nat.le_of_ble_eq_true rfl) (by first | exact Or.inl rfl | exact Or.inr rfl | exact bz_or | assumption) ?_
  rw [hu_1000_0]
  refine s_Mo_boot_16 rfl ?_
  refine s_Mo_boot_17 ?_
  refine s_Mo_boot_18 hp_1000 (Nat.le_of_ble_eq_true rfl) ?_
  rw [hu_1000_17]
  refine s_Mo_boot_21 rfl ?_
  refine c_Mo_boot_22 (t_Mo_begin) hp_1000 rfl (Nat.le_of_ble_eq_true rfl) ?_
  refine s_Mo_boot_25 ?_
  refine s_Mo_boot_26 ?_
  refine ev_pick [0, 1] rfl ?_
  refine l_boot_true 3 0 _ rfl (mBeg_0) ?_
  refine s_Mo_boot_61 rfl ?_
  refine s_Mo_boot_62 hp_1000 rfl ?_
  refine ev_topi (show _ = 1 from (congrFun (mSz_o (b := true) (x := 1000) (by decide) 3 0 _) 0).trans mBeg_0) ?_
  exact s_Mo_boot_65 (by first | exact Or.inl rfl | exact Or.inr rfl | exact bz_or | assumption) ⟨rfl, rfl⟩ z0
set_option maxRecDepth 100000 in
set_option maxHeartbeats 2000000 in
theorem l_boot_false {G : GW} {r : Nat} {E : Nat → LV → List Value → HP → Nat → Nat → Prop} {L : LT} : ∀ (n j : Nat) (I : IT), j + n = 3 → I 1000 0 = 0 → ev G M_Mo_boot (rmv 3 0 0) E 61 [(1, .int (nI 3)), (0, .ref 1000)] [] (hp L (mSz false I j n) r) 0 0 → ev G M_Mo_boot (rmv 3 0 0) E 27 [(1, .int (nI j)), (0, .ref 1000)] [] (hp L I r) 0 0 := by
  intro n
  induction n with
  | zero =>
    intro j I hj h0 hP
    obtain rfl : j = 3 := by omega
    refine s_Mo_boot_27 rfl ?_
    refine s_Mo_boot_28 ?_
    refine s_Mo_boot_29 (fun _ => ?_) (fun c => absurd (by decide) c)
    exact hP
  | succ n ih =>
    intro j I hj h0 hP
    refine s_Mo_boot_27 rfl ?_
    refine s_Mo_boot_28 ?_
    refine s_Mo_boot_29 (fun c29 => absurd c29 (nle_nI (n := 3) rfl (by omega) (by decide))) (fun c29 => ?_)
    refine s_Mo_boot_32 rfl ?_
    refine s_Mo_boot_33 hp_1000 rfl ?_
    refine s_Mo_boot_36 rfl ?_
    refine s_Mo_boot_37 rfl ?_
    refine s_Mo_boot_38 hp_1000 rfl ?_
    refine s_Mo_boot_41 (fun c41 => ?_) (fun c41 => absurd c41 (fun h => h h0))
    refine s_Mo_boot_53 ?_
    refine s_Mo_boot_54 hp_1001 (vp_in_nI (by omega) (by decide)) ?_
    rw [hu_1001]
    rw [nI_clamp (by omega)]
    refine s_Mo_boot_55 rfl ?_
    rw [nI_1]
    refine s_Mo_boot_58 ?_
    refine ev_pick [0, 1] rfl ?_
    exact ih (j + 1) _ (by omega) (by exact h0) (by rw [mSz] at hP; exact hP)
set_option maxRecDepth 100000 in
theorem t_Mo_boot_false {G : GW} {L : LT} {I : IT} {r : Nat} (h0 : ¬ I 1000 0 = 0) : mt G M_Mo_boot 3 0 0 [.ref 1000] (hp L I r) (dt (some (.int 0)) (hp L (mBt I false) r)) := by
  refine mt_of_ev (by decide) (Nat.le_of_ble_eq_true rfl) ?_
  show ev G M_Mo_boot (rmv 3 0 0) (Er M_Mo_boot _ 0 0) 0 [(0, .ref 1000)] [] (hp L I r) 0 0
  refine s_Mo_boot_0 rfl ?_
  refine s_Mo_boot_1 rfl ?_
  refine s_Mo_boot_2 hp_1000 rfl ?_
  refine s_Mo_boot_5 (fun c5 => ?_) (fun c5 => absurd c5 (h0))
  refine s_Mo_boot_12 ?_
  refine s_Mo_boot_13 hp_1000 (Nat.le_of_ble_eq_true rfl) (by first | exact Or.inl rfl | exact Or.inr rfl | exact bz_or | assumption) ?_
  rw [hu_1000_0]
  refine s_Mo_boot_16 rfl ?_
  refine s_Mo_boot_17 ?_
  refine s_Mo_boot_18 hp_1000 (Nat.le_of_ble_eq_true rfl) ?_
  rw [hu_1000_17]
  refine s_Mo_boot_21 rfl ?_
  refine c_Mo_boot_22 (t_Mo_begin) hp_1000 rfl (Nat.le_of_ble_eq_true rfl) ?_
  refine s_Mo_boot_25 ?_
  refine s_Mo_boot_26 ?_
  refine ev_pick [0, 1] rfl ?_
  refine l_boot_false 3 0 _ rfl (mBeg_0) ?_
  refine s_Mo_boot_61 rfl ?_
  refine s_Mo_boot_62 hp_1000 rfl ?_
  refine ev_topi (show _ = 0 from (congrFun (mSz_o (b := false) (x := 1000) (by decide) 3 0 _) 0).trans mBeg_0) ?_
  exact s_Mo_boot_65 (by first | exact Or.inl rfl | exact Or.inr rfl | exact bz_or | assumption) ⟨rfl, rfl⟩ z0
theorem inzOK {m n : Nat} {h : Int32} (hh : h.toInt = n) (hm : m ≤ n) (hb : n < 2 ^ 31) : inz (nI m) 0 h = true := by
  have a : ¬ nI m < 0 := nI_pos (by omega)
  have b : ¬ h < nI m := by rw [Int32.lt_iff_toInt_lt, nI_toInt (by omega), hh]; omega
  simp [inz, a, b]
set_option maxRecDepth 100000 in
theorem t_Mo_code {G : GW} {L : LT} {I : IT} {r : Nat} {p op a b c : Int32} {m s : Nat} (ep : p = nI m) (hm : m < 3) (es : I 1001 m = nI s) (hs : s < 24) (h0 : I 1000 0 = 0) : mt G M_Mo_code 1 0 0 [.ref 1000, .int p, .int op, .int a, .int b, .int c] (hp L I r) (dt (some (.int (nI s))) (hp L (mApp I m s op a b c) r)) := by
  refine mt_of_ev (by decide) (Nat.le_of_ble_eq_true rfl) ?_
  show ev G M_Mo_code (rmv 1 0 0) (Er M_Mo_code _ 0 0) 0 [(0, .ref 1000), (1, .int p), (2, .int op), (3, .int a), (4, .int b), (5, .int c)] [] (hp L I r) 0 0
  subst ep
  refine s_Mo_code_0 rfl ?_
  refine s_Mo_code_1 ?_
  refine s_Mo_code_2 ?_
  refine c_Mo_code_3 (t_Mo_in) (Nat.le_of_ble_eq_true rfl) ?_
  refine s_Mo_code_6 (fun c6 => absurd c6 (bz_n0.mpr (inzOK (n := 2) rfl (by omega) (by decide)))) (fun c6 => ?_)
  refine s_Mo_code_9 rfl ?_
  refine s_Mo_code_10 hp_1000 rfl ?_
  refine s_Mo_code_13 rfl ?_
  refine s_Mo_code_14 hp_1001 (vp_in_nI (by omega) (by decide)) ?_
  rw [nI_clamp (by omega), es]
  refine s_Mo_code_15 ?_
  refine s_Mo_code_17 (fun c17 => absurd c17 (nle_nI (n := 24) rfl hs (by decide))) (fun c17 => ?_)
  refine s_Mo_code_20 rfl ?_
  refine s_Mo_code_21 hp_1000 rfl ?_
  refine s_Mo_code_24 (fun c24 => ?_) (fun c24 => absurd c24 (fun h => h h0))
  refine s_Mo_code_29 ?_
  refine s_Mo_code_31 rfl ?_
  refine s_Mo_code_32 ?_
  refine s_Mo_code_33 ?_
  refine s_Mo_code_34 rfl ?_
  refine s_Mo_code_35 hp_1000 rfl ?_
  refine s_Mo_code_38 rfl ?_
  refine s_Mo_code_39 hp_1001 (vp_in_nI (by omega) (by decide)) ?_
  rw [nI_clamp (by omega), es]
  refine s_Mo_code_40 ?_
  refine s_Mo_code_41 ?_
  rw [idxM]
  refine s_Mo_code_42 ?_
  refine s_Mo_code_44 rfl ?_
  refine s_Mo_code_45 hp_1000 rfl ?_
  refine s_Mo_code_48 rfl ?_
  refine s_Mo_code_50 rfl ?_
  refine s_Mo_code_51 hp_1002 (vp_in_nI (by omega) (by decide)) ?_
  rw [hu_1002]
  rw [nI_clamp (by omega)]
  refine s_Mo_code_52 rfl ?_
  refine s_Mo_code_53 hp_1000 rfl ?_
  refine s_Mo_code_56 rfl ?_
  refine s_Mo_code_58 ?_
  refine s_Mo_code_59 ?_
  refine ev_topi (nI_add _ 1) ?_
  refine s_Mo_code_60 rfl ?_
  refine s_Mo_code_61 hp_1002 (vp_in_nI (by omega) (by decide)) ?_
  rw [hu_1002]
  rw [nI_clamp (by omega)]
  refine s_Mo_code_62 rfl ?_
  refine s_Mo_code_63 hp_1000 rfl ?_
  refine s_Mo_code_66 rfl ?_
  refine s_Mo_code_68 ?_
  refine s_Mo_code_69 ?_
  refine ev_topi (nI_add _ 2) ?_
  refine s_Mo_code_70 rfl ?_
  refine s_Mo_code_72 hp_1002 (vp_in_nI (by omega) (by decide)) ?_
  rw [hu_1002]
  rw [nI_clamp (by omega)]
  refine s_Mo_code_73 rfl ?_
  refine s_Mo_code_74 hp_1000 rfl ?_
  refine s_Mo_code_77 rfl ?_
  refine s_Mo_code_79 ?_
  refine s_Mo_code_80 ?_
  refine ev_topi (nI_add _ 3) ?_
  refine s_Mo_code_81 rfl ?_
  refine s_Mo_code_83 hp_1002 (vp_in_nI (by omega) (by decide)) ?_
  rw [hu_1002]
  rw [nI_clamp (by omega)]
  refine s_Mo_code_84 rfl ?_
  refine s_Mo_code_85 hp_1000 rfl ?_
  refine s_Mo_code_88 rfl ?_
  refine s_Mo_code_89 rfl ?_
  refine s_Mo_code_90 hp_1000 rfl ?_
  refine s_Mo_code_93 rfl ?_
  refine s_Mo_code_94 hp_1001 (vp_in_nI (by omega) (by decide)) ?_
  rw [nI_clamp (by omega)]
  refine ev_topi es ?_
  refine s_Mo_code_95 ?_
  refine s_Mo_code_96 ?_
  refine s_Mo_code_97 hp_1001 (vp_in_nI (by omega) (by decide)) ?_
  rw [hu_1001]
  rw [nI_clamp (by omega)]
  refine s_Mo_code_98 rfl ?_
  refine s_Mo_code_99 hp_1000 rfl ?_
  refine s_Mo_code_102 rfl ?_
  refine s_Mo_code_103 hp_1001 (vp_in_nI (by omega) (by decide)) ?_
  rw [nI_clamp (by omega)]
  refine ev_topi (show _ = nI (s + 1) from (upI_s (I := upI (upI (upI (upI I 1002 (96 * m + 4 * s) op) 1002 (96 * m + 4 * s + 1) a) 1002 (96 * m + 4 * s + 2) b) 1002 (96 * m + 4 * s + 3) c) (a := 1001) (j := m) (x := nI s + 1)).trans (nI_1 s)) ?_
  refine s_Mo_code_104 ?_
  refine s_Mo_code_105 ?_
  rw [nI_pred]
  exact s_Mo_code_106 ⟨rfl, rfl⟩ z0
set_option maxRecDepth 100000 in
theorem t_Mo_code_no {G : GW} {L : LT} {I : IT} {r : Nat} {p op a b c : Int32} (hb : inz p 0 2 = false ∨ ¬ I 1001 p.toNatClampNeg < 24 ∨ ¬ I 1000 0 = 0) : mt G M_Mo_code 1 0 0 [.ref 1000, .int p, .int op, .int a, .int b, .int c] (hp L I r) (dt (some (.int (-1))) (hp L I r)) := by
  refine mt_of_ev (by decide) (Nat.le_of_ble_eq_true rfl) ?_
  show ev G M_Mo_code (rmv 1 0 0) (Er M_Mo_code _ 0 0) 0 [(0, .ref 1000), (1, .int p), (2, .int op), (3, .int a), (4, .int b), (5, .int c)] [] (hp L I r) 0 0
  refine s_Mo_code_0 rfl ?_
  refine s_Mo_code_1 ?_
  refine s_Mo_code_2 ?_
  refine c_Mo_code_3 (t_Mo_in) (Nat.le_of_ble_eq_true rfl) ?_
  refine s_Mo_code_6 (fun c6 => ?_) (fun c6 => ?_)
  · skip
    (first | rw [bz_n0] at c6 | rw [bz_0] at c6 | skip); (try simp only [Bool.not_eq_false', Bool.not_eq_true', decide_eq_true_eq, decide_eq_false_iff_not, Bool.or_eq_true, Bool.or_eq_false_iff, Bool.and_eq_true, Bool.and_eq_false_iff] at c6)
    refine s_Mo_code_27 ?_
    exact s_Mo_code_28 ⟨by first | rfl | (simp [bz, *]; done) | (simp only [← Int32.not_le] at *; simp [bz, *]; done) | (simp only [Int32.not_lt, Int32.not_le] at *; simp [bz, *]; done) | (simp_all [bz]; done) | (simp only [bz_0, bz_n0, ← Int32.not_le] at *; simp_all [bz]; done), by first | rfl | (simp [*]; done) | (simp_all; done)⟩ z0
  · skip
    (first | rw [bz_n0] at c6 | rw [bz_0] at c6 | skip); (try simp only [Bool.not_eq_false', Bool.not_eq_true', decide_eq_true_eq, decide_eq_false_iff_not, Bool.or_eq_true, Bool.or_eq_false_iff, Bool.and_eq_true, Bool.and_eq_false_iff] at c6)
    refine s_Mo_code_9 rfl ?_
    refine s_Mo_code_10 hp_1000 rfl ?_
    refine s_Mo_code_13 rfl ?_
    refine s_Mo_code_14 hp_1001 (inz_in (n := 2) rfl c6) ?_
    refine s_Mo_code_15 ?_
    refine s_Mo_code_17 (fun c17 => ?_) (fun c17 => ?_)
    · skip
      refine s_Mo_code_27 ?_
      exact s_Mo_code_28 ⟨by first | rfl | (simp [bz, *]; done) | (simp only [← Int32.not_le] at *; simp [bz, *]; done) | (simp only [Int32.not_lt, Int32.not_le] at *; simp [bz, *]; done) | (simp_all [bz]; done) | (simp only [bz_0, bz_n0, ← Int32.not_le] at *; simp_all [bz]; done), by first | rfl | (simp [*]; done) | (simp_all; done)⟩ z0
    · skip
      refine s_Mo_code_20 rfl ?_
      refine s_Mo_code_21 hp_1000 rfl ?_
      refine s_Mo_code_24 (fun c24 => absurd c24 ((hb.resolve_left (fun h => Bool.noConfusion (c6.symm.trans h))).resolve_left (fun h => h (Int32.not_le.mp c17)))) (fun c24 => ?_)
      refine s_Mo_code_27 ?_
      exact s_Mo_code_28 ⟨by first | rfl | (simp [bz, *]; done) | (simp only [← Int32.not_le] at *; simp [bz, *]; done) | (simp only [Int32.not_lt, Int32.not_le] at *; simp [bz, *]; done) | (simp_all [bz]; done) | (simp only [bz_0, bz_n0, ← Int32.not_le] at *; simp_all [bz]; done), by first | rfl | (simp [*]; done) | (simp_all; done)⟩ z0
set_option maxRecDepth 100000 in
theorem t_Mo_shown {G : GW} {L : LT} {I : IT} {r : Nat} {q f : Int32} {p : Nat} (ep : q = nI p) (hpp : p < 102) : mt G M_Mo_shown 1 0 0 [.ref 1000, .int q, .int f] (hp L I r) (dt (some (.int (mShn I p f))) (hp L I r)) := by
  refine mt_of_ev (by decide) (Nat.le_of_ble_eq_true rfl) ?_
  show ev G M_Mo_shown (rmv 1 0 0) (Er M_Mo_shown _ 0 0) 0 [(0, .ref 1000), (1, .int q), (2, .int f)] [] (hp L I r) 0 0
  refine s_Mo_shown_0 rfl ?_
  refine s_Mo_shown_1 ?_
  refine s_Mo_shown_2 ?_
  refine c_Mo_shown_3 (t_Mo_in) (Nat.le_of_ble_eq_true rfl) ?_
  refine s_Mo_shown_6 (fun c6 => ?_) (fun c6 => ?_)
  · skip
    (first | rw [bz_n0] at c6 | rw [bz_0] at c6 | skip); (try simp only [Bool.not_eq_false', Bool.not_eq_true', decide_eq_true_eq, decide_eq_false_iff_not, Bool.or_eq_true, Bool.or_eq_false_iff, Bool.and_eq_true, Bool.and_eq_false_iff] at c6)
    refine s_Mo_shown_18 ?_
    exact s_Mo_shown_19 ⟨by rw [mShn, if_neg (by rw [c6]; decide)], rfl⟩ z0
  · skip
    (first | rw [bz_n0] at c6 | rw [bz_0] at c6 | skip); (try simp only [Bool.not_eq_false', Bool.not_eq_true', decide_eq_true_eq, decide_eq_false_iff_not, Bool.or_eq_true, Bool.or_eq_false_iff, Bool.and_eq_true, Bool.and_eq_false_iff] at c6)
    refine s_Mo_shown_9 rfl ?_
    refine s_Mo_shown_10 rfl ?_
    refine s_Mo_shown_11 rfl ?_
    refine c_Mo_shown_12 (t_Mo_get ep hpp (inz_nI (n := 4) rfl (by decide) c6).1 (by have := (inz_nI (n := 4) rfl (by decide) c6).2; omega)) hp_1000 rfl (Nat.le_of_ble_eq_true rfl) ?_
    refine s_Mo_shown_15 ?_
    exact s_Mo_shown_19 ⟨by rw [mShn, if_pos c6], rfl⟩ z0
set_option maxRecDepth 100000 in
theorem t_Mo_register {G : GW} {L : LT} {I : IT} {r : Nat} {q f : Int32} : mt G M_Mo_register 2 0 0 [.ref 1000, .int q, .int f] (hp L I r) (dt (some (.int (mReg I q f))) (hp L I r)) := by
  refine mt_of_ev (by decide) (Nat.le_of_ble_eq_true rfl) ?_
  show ev G M_Mo_register (rmv 2 0 0) (Er M_Mo_register _ 0 0) 0 [(0, .ref 1000), (1, .int q), (2, .int f)] [] (hp L I r) 0 0
  refine s_Mo_register_0 rfl ?_
  refine s_Mo_register_1 ?_
  refine s_Mo_register_2 ?_
  refine c_Mo_register_4 (t_Mo_in) (Nat.le_of_ble_eq_true rfl) ?_
  refine s_Mo_register_7 (fun c7 => ?_) (fun c7 => ?_)
  · skip
    (first | rw [bz_n0] at c7 | rw [bz_0] at c7 | skip); (try simp only [Bool.not_eq_false', Bool.not_eq_true', decide_eq_true_eq, decide_eq_false_iff_not, Bool.or_eq_true, Bool.or_eq_false_iff, Bool.and_eq_true, Bool.and_eq_false_iff] at c7)
    refine s_Mo_register_19 ?_
    exact s_Mo_register_20 ⟨by rw [mReg, if_neg (by rw [c7]; decide)], rfl⟩ z0
  · skip
    (first | rw [bz_n0] at c7 | rw [bz_0] at c7 | skip); (try simp only [Bool.not_eq_false', Bool.not_eq_true', decide_eq_true_eq, decide_eq_false_iff_not, Bool.or_eq_true, Bool.or_eq_false_iff, Bool.and_eq_true, Bool.and_eq_false_iff] at c7)
    refine s_Mo_register_10 rfl ?_
    refine s_Mo_register_11 rfl ?_
    refine s_Mo_register_12 rfl ?_
    refine c_Mo_register_13 (t_Mo_shown (inz_nI (n := 7) rfl (by decide) c7).1 (by have := (inz_nI (n := 7) rfl (by decide) c7).2; omega)) hp_1000 rfl (Nat.le_of_ble_eq_true rfl) ?_
    refine s_Mo_register_16 ?_
    exact s_Mo_register_20 ⟨by rw [mReg, if_pos c7], rfl⟩ z0
set_option maxRecDepth 100000 in
theorem t_Mo_word {G : GW} {L : LT} {I : IT} {r : Nat} {q f : Int32} : mt G M_Mo_word 2 0 0 [.ref 1000, .int q, .int f] (hp L I r) (dt (some (.int (mWrd I q f))) (hp L I r)) := by
  refine mt_of_ev (by decide) (Nat.le_of_ble_eq_true rfl) ?_
  show ev G M_Mo_word (rmv 2 0 0) (Er M_Mo_word _ 0 0) 0 [(0, .ref 1000), (1, .int q), (2, .int f)] [] (hp L I r) 0 0
  refine s_Mo_word_0 rfl ?_
  refine s_Mo_word_1 ?_
  refine s_Mo_word_2 ?_
  refine c_Mo_word_4 (t_Mo_in) (Nat.le_of_ble_eq_true rfl) ?_
  refine s_Mo_word_7 (fun c7 => ?_) (fun c7 => ?_)
  · skip
    (first | rw [bz_n0] at c7 | rw [bz_0] at c7 | skip); (try simp only [Bool.not_eq_false', Bool.not_eq_true', decide_eq_true_eq, decide_eq_false_iff_not, Bool.or_eq_true, Bool.or_eq_false_iff, Bool.and_eq_true, Bool.and_eq_false_iff] at c7)
    refine s_Mo_word_22 ?_
    exact s_Mo_word_23 ⟨by rw [mWrd, if_neg (by rw [c7]; decide)], rfl⟩ z0
  · skip
    (first | rw [bz_n0] at c7 | rw [bz_0] at c7 | skip); (try simp only [Bool.not_eq_false', Bool.not_eq_true', decide_eq_true_eq, decide_eq_false_iff_not, Bool.or_eq_true, Bool.or_eq_false_iff, Bool.and_eq_true, Bool.and_eq_false_iff] at c7)
    refine s_Mo_word_10 rfl ?_
    refine s_Mo_word_11 ?_
    refine s_Mo_word_13 rfl ?_
    refine s_Mo_word_14 ?_
    refine s_Mo_word_15 rfl ?_
    refine c_Mo_word_16 (t_Mo_shown (show (8 : Int32) + q = nI (8 + q.toNatClampNeg) by rw [← nI_add, ← (inz_nI (n := 47) rfl (by decide) c7).1]; rfl) (by have := (inz_nI (n := 47) rfl (by decide) c7).2; omega)) hp_1000 rfl (Nat.le_of_ble_eq_true rfl) ?_
    refine s_Mo_word_19 ?_
    exact s_Mo_word_23 ⟨by rw [mWrd, if_pos c7], rfl⟩ z0
set_option maxRecDepth 100000 in
theorem t_Mo_look {G : GW} {L : LT} {I : IT} {r : Nat} {w : Int32} : mt G M_Mo_look 1 0 0 [.ref 1000, .int w] (hp L I r) (dt (some (.int (mLok I w))) (hp L I r)) := by
  refine mt_of_ev (by decide) (Nat.le_of_ble_eq_true rfl) ?_
  show ev G M_Mo_look (rmv 1 0 0) (Er M_Mo_look _ 0 0) 0 [(0, .ref 1000), (1, .int w)] [] (hp L I r) 0 0
  refine s_Mo_look_0 rfl ?_
  refine s_Mo_look_1 (fun c1 => ?_) (fun c1 => ?_)
  · skip
    refine s_Mo_look_9 rfl ?_
    refine s_Mo_look_10 ?_
    refine s_Mo_look_11 (fun c11 => ?_) (fun c11 => ?_)
    · skip
      refine s_Mo_look_19 rfl ?_
      refine s_Mo_look_20 ?_
      refine s_Mo_look_21 (fun c21 => ?_) (fun c21 => ?_)
      · skip
        refine s_Mo_look_29 rfl ?_
        refine s_Mo_look_30 ?_
        refine s_Mo_look_31 (fun c31 => ?_) (fun c31 => ?_)
        · skip
          refine s_Mo_look_39 rfl ?_
          refine s_Mo_look_40 ?_
          refine s_Mo_look_41 (fun c41 => ?_) (fun c41 => ?_)
          · skip
            refine s_Mo_look_49 rfl ?_
            refine s_Mo_look_50 ?_
            refine s_Mo_look_51 ?_
            refine c_Mo_look_53 (t_Mo_in) (Nat.le_of_ble_eq_true rfl) ?_
            refine s_Mo_look_56 (fun c56 => ?_) (fun c56 => ?_)
            · skip
              (first | rw [bz_n0] at c56 | rw [bz_0] at c56 | skip); (try simp only [Bool.not_eq_false', Bool.not_eq_true', decide_eq_true_eq, decide_eq_false_iff_not, Bool.or_eq_true, Bool.or_eq_false_iff, Bool.and_eq_true, Bool.and_eq_false_iff] at c56)
              refine s_Mo_look_70 ?_
              exact s_Mo_look_71 ⟨by simp [mLok, c1, c11, c21, c31, c41, c56], rfl⟩ z0
            · skip
              (first | rw [bz_n0] at c56 | rw [bz_0] at c56 | skip); (try simp only [Bool.not_eq_false', Bool.not_eq_true', decide_eq_true_eq, decide_eq_false_iff_not, Bool.or_eq_true, Bool.or_eq_false_iff, Bool.and_eq_true, Bool.and_eq_false_iff] at c56)
              refine s_Mo_look_59 rfl ?_
              refine s_Mo_look_60 hp_1000 rfl ?_
              refine s_Mo_look_63 rfl ?_
              refine s_Mo_look_64 ?_
              refine s_Mo_look_65 ?_
              refine s_Mo_look_66 hp_1001 (inz57 c56) ?_
              refine s_Mo_look_67 ?_
              exact s_Mo_look_71 ⟨by simp [mLok, c1, c11, c21, c31, c41, c56], rfl⟩ z0
          · skip
            refine s_Mo_look_44 rfl ?_
            refine s_Mo_look_45 hp_1000 rfl ?_
            exact s_Mo_look_48 ⟨by simp [mLok, c1, c11, c21, c31, c41], rfl⟩ z0
        · skip
          refine s_Mo_look_34 rfl ?_
          refine s_Mo_look_35 hp_1000 rfl ?_
          exact s_Mo_look_38 ⟨by simp [mLok, c1, c11, c21, c31], rfl⟩ z0
      · skip
        refine s_Mo_look_24 rfl ?_
        refine s_Mo_look_25 hp_1000 rfl ?_
        exact s_Mo_look_28 ⟨by simp [mLok, c1, c11, c21], rfl⟩ z0
    · skip
      refine s_Mo_look_14 rfl ?_
      refine s_Mo_look_15 hp_1000 rfl ?_
      exact s_Mo_look_18 ⟨by simp [mLok, c1, c11], rfl⟩ z0
  · skip
    refine s_Mo_look_4 rfl ?_
    refine s_Mo_look_5 hp_1000 rfl ?_
    exact s_Mo_look_8 ⟨by simp [mLok, c1], rfl⟩ z0
set_option maxRecDepth 100000 in
theorem t_Mo_count {G : GW} {L : LT} {I : IT} {r : Nat} {q : Int32} : mt G M_Mo_count 1 0 0 [.ref 1000, .int q] (hp L I r) (dt (some (.int (mCnt I q))) (hp L I r)) := by
  refine mt_of_ev (by decide) (Nat.le_of_ble_eq_true rfl) ?_
  show ev G M_Mo_count (rmv 1 0 0) (Er M_Mo_count _ 0 0) 0 [(0, .ref 1000), (1, .int q)] [] (hp L I r) 0 0
  refine s_Mo_count_0 rfl ?_
  refine s_Mo_count_1 ?_
  refine s_Mo_count_2 ?_
  refine c_Mo_count_3 (t_Mo_in) (Nat.le_of_ble_eq_true rfl) ?_
  refine s_Mo_count_6 (fun c6 => ?_) (fun c6 => ?_)
  · skip
    (first | rw [bz_n0] at c6 | rw [bz_0] at c6 | skip); (try simp only [Bool.not_eq_false', Bool.not_eq_true', decide_eq_true_eq, decide_eq_false_iff_not, Bool.or_eq_true, Bool.or_eq_false_iff, Bool.and_eq_true, Bool.and_eq_false_iff] at c6)
    refine s_Mo_count_18 ?_
    exact s_Mo_count_19 ⟨by rw [mCnt, if_neg (by rw [c6]; decide)], rfl⟩ z0
  · skip
    (first | rw [bz_n0] at c6 | rw [bz_0] at c6 | skip); (try simp only [Bool.not_eq_false', Bool.not_eq_true', decide_eq_true_eq, decide_eq_false_iff_not, Bool.or_eq_true, Bool.or_eq_false_iff, Bool.and_eq_true, Bool.and_eq_false_iff] at c6)
    refine s_Mo_count_9 rfl ?_
    refine s_Mo_count_10 hp_1000 rfl ?_
    refine s_Mo_count_13 rfl ?_
    refine s_Mo_count_14 hp_1004 (inz_in (n := 5) rfl c6) ?_
    refine s_Mo_count_15 ?_
    exact s_Mo_count_19 ⟨by rw [mCnt, if_pos c6], rfl⟩ z0
set_option maxRecDepth 100000 in
theorem t_Mo_gate {G : GW} {L : LT} {I : IT} {r : Nat} {q f : Int32} : mt G M_Mo_gate 1 0 0 [.ref 1000, .int q, .int f] (hp L I r) (dt (some (.int (mGat I q f))) (hp L I r)) := by
  refine mt_of_ev (by decide) (Nat.le_of_ble_eq_true rfl) ?_
  show ev G M_Mo_gate (rmv 1 0 0) (Er M_Mo_gate _ 0 0) 0 [(0, .ref 1000), (1, .int q), (2, .int f)] [] (hp L I r) 0 0
  refine s_Mo_gate_0 rfl ?_
  refine s_Mo_gate_1 ?_
  refine s_Mo_gate_2 ?_
  refine c_Mo_gate_3 (t_Mo_in) (Nat.le_of_ble_eq_true rfl) ?_
  refine s_Mo_gate_6 (fun c6 => ?_) (fun c6 => ?_)
  · skip
    (first | rw [bz_n0] at c6 | rw [bz_0] at c6 | skip); (try simp only [Bool.not_eq_false', Bool.not_eq_true', decide_eq_true_eq, decide_eq_false_iff_not, Bool.or_eq_true, Bool.or_eq_false_iff, Bool.and_eq_true, Bool.and_eq_false_iff] at c6)
    refine s_Mo_gate_18 ?_
    exact s_Mo_gate_19 ⟨by rw [mGat, if_pos (Or.inl c6)], rfl⟩ z0
  · skip
    (first | rw [bz_n0] at c6 | rw [bz_0] at c6 | skip); (try simp only [Bool.not_eq_false', Bool.not_eq_true', decide_eq_true_eq, decide_eq_false_iff_not, Bool.or_eq_true, Bool.or_eq_false_iff, Bool.and_eq_true, Bool.and_eq_false_iff] at c6)
    refine s_Mo_gate_9 rfl ?_
    refine s_Mo_gate_10 ?_
    refine s_Mo_gate_11 ?_
    refine c_Mo_gate_12 (t_Mo_in) (Nat.le_of_ble_eq_true rfl) ?_
    refine s_Mo_gate_15 (fun c15 => ?_) (fun c15 => ?_)
    · skip
      (first | rw [bz_n0] at c15 | rw [bz_0] at c15 | skip); (try simp only [Bool.not_eq_false', Bool.not_eq_true', decide_eq_true_eq, decide_eq_false_iff_not, Bool.or_eq_true, Bool.or_eq_false_iff, Bool.and_eq_true, Bool.and_eq_false_iff] at c15)
      refine s_Mo_gate_20 rfl ?_
      refine s_Mo_gate_21 hp_1000 rfl ?_
      refine s_Mo_gate_24 rfl ?_
      refine s_Mo_gate_25 hp_1007 (inz_in (n := 5) rfl c6) ?_
      refine s_Mo_gate_26 (fun c26 => ?_) (fun c26 => ?_)
      · skip
        refine s_Mo_gate_33 ?_
        refine s_Mo_gate_34 ?_
        refine s_Mo_gate_35 rfl ?_
        refine s_Mo_gate_36 (fun c36 => ?_) (fun c36 => ?_)
        · skip
          refine s_Mo_gate_48 rfl ?_
          refine s_Mo_gate_49 (fun c49 => absurd c49 (by decide)) (fun c49 => ?_)
          refine s_Mo_gate_52 ?_
          refine s_Mo_gate_53 ?_
          exact s_Mo_gate_76 ⟨by rw [mGat, if_neg (fun h => h.elim (fun h => Bool.noConfusion (c6.symm.trans h)) (fun h => Bool.noConfusion (c15.symm.trans h))), if_neg c36, if_pos (Int32.not_lt.mpr c26)], rfl⟩ z0
        · skip
          refine s_Mo_gate_39 rfl ?_
          refine s_Mo_gate_40 hp_1000 rfl ?_
          refine s_Mo_gate_43 rfl ?_
          refine s_Mo_gate_44 hp_1007 (inz_in (n := 5) rfl c6) ?_
          refine s_Mo_gate_45 ?_
          exact s_Mo_gate_76 ⟨by rw [mGat, if_neg (fun h => h.elim (fun h => Bool.noConfusion (c6.symm.trans h)) (fun h => Bool.noConfusion (c15.symm.trans h))), if_pos c36], rfl⟩ z0
      · skip
        refine s_Mo_gate_29 ?_
        refine s_Mo_gate_30 ?_
        refine s_Mo_gate_34 ?_
        refine s_Mo_gate_35 rfl ?_
        refine s_Mo_gate_36 (fun c36 => ?_) (fun c36 => ?_)
        · skip
          refine s_Mo_gate_48 rfl ?_
          refine s_Mo_gate_49 (fun c49 => ?_) (fun c49 => absurd c49 (by decide))
          refine s_Mo_gate_56 rfl ?_
          refine s_Mo_gate_57 ?_
          refine s_Mo_gate_58 (fun c58 => ?_) (fun c58 => ?_)
          · skip
            refine s_Mo_gate_70 rfl ?_
            refine s_Mo_gate_71 hp_1000 rfl ?_
            refine s_Mo_gate_74 rfl ?_
            refine s_Mo_gate_75 hp_1009 (inz_in (n := 5) rfl c6) ?_
            exact s_Mo_gate_76 ⟨by rw [mGat, if_neg (fun h => h.elim (fun h => Bool.noConfusion (c6.symm.trans h)) (fun h => Bool.noConfusion (c15.symm.trans h))), if_neg c36, if_neg (fun h => h (Int32.not_le.mp c26)), if_neg c58], rfl⟩ z0
          · skip
            refine s_Mo_gate_61 rfl ?_
            refine s_Mo_gate_62 hp_1000 rfl ?_
            refine s_Mo_gate_65 rfl ?_
            refine s_Mo_gate_66 hp_1008 (inz_in (n := 5) rfl c6) ?_
            refine s_Mo_gate_67 ?_
            exact s_Mo_gate_76 ⟨by rw [mGat, if_neg (fun h => h.elim (fun h => Bool.noConfusion (c6.symm.trans h)) (fun h => Bool.noConfusion (c15.symm.trans h))), if_neg c36, if_neg (fun h => h (Int32.not_le.mp c26)), if_pos c58], rfl⟩ z0
        · skip
          refine s_Mo_gate_39 rfl ?_
          refine s_Mo_gate_40 hp_1000 rfl ?_
          refine s_Mo_gate_43 rfl ?_
          refine s_Mo_gate_44 hp_1007 (inz_in (n := 5) rfl c6) ?_
          refine s_Mo_gate_45 ?_
          exact s_Mo_gate_76 ⟨by rw [mGat, if_neg (fun h => h.elim (fun h => Bool.noConfusion (c6.symm.trans h)) (fun h => Bool.noConfusion (c15.symm.trans h))), if_pos c36], rfl⟩ z0
    · skip
      (first | rw [bz_n0] at c15 | rw [bz_0] at c15 | skip); (try simp only [Bool.not_eq_false', Bool.not_eq_true', decide_eq_true_eq, decide_eq_false_iff_not, Bool.or_eq_true, Bool.or_eq_false_iff, Bool.and_eq_true, Bool.and_eq_false_iff] at c15)
      refine s_Mo_gate_18 ?_
      exact s_Mo_gate_19 ⟨by rw [mGat, if_pos (Or.inr c15)], rfl⟩ z0
def mKp (J : IT) : IT := upI J 1000 17 (if 40 ≤ J 1000 17 then 40 else J 1000 17 + 1)
theorem hp_eq {L : LT} {I J : IT} {r : Nat} (h : I = J) : hp L I r = hp L J r := by rw [h]
set_option maxRecDepth 100000 in
set_option maxHeartbeats 2000000 in
theorem l_Mo_step {G : GW} {r : Nat} {L : LT} {P : Option Value → HP → Prop} {n n' : Nat} {it jt : Nat → IT} (hn : n ≤ 30) (hn' : n' ≤ n) (hs : ∀ k, k < n' → it k 1000 15 = 0) (ho : ∀ k, k < n' → mt G M_Mo_order 5 0 0 [.ref 1000] (hp L (it k) r) (dt none (hp L (jt k) r))) (hk : ∀ k, k < n' → it (k + 1) = mKp (jt k)) (he : n' < n → ¬ it n' 1000 15 = 0) : ∀ (z k : Nat), k + z = n' → P (some (.int (it n' 1000 15))) (hp L (it n') r) → ev G M_Mo_step (rmv 6 0 0) (Er M_Mo_step P 0 0) 22 [(2, .int (nI k)), (0, .ref 1000), (1, .int (nI n))] [] (hp L (it k) r) 0 0 := by
  intro z
  have last : P (some (.int (it n' 1000 15))) (hp L (it n') r) → ∀ k, ev G M_Mo_step (rmv 6 0 0) (Er M_Mo_step P 0 0) 68 [(2, .int (nI k)), (0, .ref 1000), (1, .int (nI n))] [] (hp L (it n') r) 0 0 := by
    intro hP k
    refine s_Mo_step_68 rfl ?_
    refine s_Mo_step_69 hp_1000 rfl ?_
    exact s_Mo_step_72 hP z0
  induction z with
  | zero =>
    intro k hk' hP
    obtain rfl : k = n' := by omega
    refine s_Mo_step_22 rfl ?_
    refine s_Mo_step_23 rfl ?_
    rcases Nat.lt_or_ge k n with q | q
    · refine s_Mo_step_24 (fun c => absurd c (nI_ge q (by omega))) (fun _ => ?_)
      refine s_Mo_step_27 rfl ?_
      refine s_Mo_step_28 hp_1000 rfl ?_
      refine s_Mo_step_31 (fun _ => ?_) (fun c => absurd c (he q))
      exact last hP k
    · refine s_Mo_step_24 (fun _ => ?_) (fun c => absurd (nI_le q (by omega)) c)
      exact last hP k
  | succ z ih =>
    intro k hk' hP
    refine s_Mo_step_22 rfl ?_
    refine s_Mo_step_23 rfl ?_
    refine s_Mo_step_24 (fun c24 => absurd c24 (nI_ge (by omega) (by omega))) (fun c24 => ?_)
    refine s_Mo_step_27 rfl ?_
    refine s_Mo_step_28 hp_1000 rfl ?_
    refine ev_topi (hs k (by omega)) ?_
    refine s_Mo_step_31 (fun c31 => absurd c31 (fun h => h rfl)) (fun c31 => ?_)
    refine s_Mo_step_34 rfl ?_
    refine c_Mo_step_35 (ho k (by omega)) hp_1000 rfl (Nat.le_of_ble_eq_true rfl) ?_
    refine s_Mo_step_38 rfl ?_
    refine s_Mo_step_39 rfl ?_
    refine s_Mo_step_40 hp_1000 rfl ?_
    refine s_Mo_step_43 ?_
    refine s_Mo_step_45 (fun c45 => ?_) (fun c45 => ?_)
    · skip
      refine s_Mo_step_57 ?_
      refine s_Mo_step_59 hp_1000 (Nat.le_of_ble_eq_true rfl) ?_
      rw [hu_1000_17]
      refine s_Mo_step_62 rfl ?_
      rw [nI_1]
      refine s_Mo_step_65 ?_
      refine ev_pick [0, 1, 2] rfl ?_
      rw [show va_up (jt k) 1000 (upd (jt k 1000) 17 40) = it (k + 1) by rw [hk k (by omega), mKp, if_pos c45]; rfl]
      exact ih (k + 1) (by omega) hP
    · skip
      refine s_Mo_step_48 rfl ?_
      refine s_Mo_step_49 hp_1000 rfl ?_
      refine s_Mo_step_52 ?_
      refine s_Mo_step_53 ?_
      refine s_Mo_step_54 ?_
      refine s_Mo_step_59 hp_1000 (Nat.le_of_ble_eq_true rfl) ?_
      rw [hu_1000_17]
      refine s_Mo_step_62 rfl ?_
      rw [nI_1]
      refine s_Mo_step_65 ?_
      refine ev_pick [0, 1, 2] rfl ?_
      rw [show va_up (jt k) 1000 (upd (jt k 1000) 17 (jt k 1000 17 + 1)) = it (k + 1) by rw [hk k (by omega), mKp, if_neg c45]; rfl]
      exact ih (k + 1) (by omega) hP
set_option maxRecDepth 100000 in
theorem t_Mo_step {G : GW} {L : LT} {I : IT} {r : Nat} {n n' : Nat} {it jt : Nat → IT} {q : Int32} (eq : q = nI n) (h1 : inz q 1 30 = true) (hb : ¬ I 1000 0 = 0) (h0 : it 0 = I) (hn : n ≤ 30) (hn' : n' ≤ n) (hs : ∀ k, k < n' → it k 1000 15 = 0) (ho : ∀ k, k < n' → mt G M_Mo_order 5 0 0 [.ref 1000] (hp L (it k) r) (dt none (hp L (jt k) r))) (hk : ∀ k, k < n' → it (k + 1) = mKp (jt k)) (he : n' < n → ¬ it n' 1000 15 = 0) : mt G M_Mo_step 6 0 0 [.ref 1000, .int q] (hp L I r) (dt (some (.int (it n' 1000 15))) (hp L (it n') r)) := by
  refine mt_of_ev (by decide) (Nat.le_of_ble_eq_true rfl) ?_
  show ev G M_Mo_step (rmv 6 0 0) (Er M_Mo_step _ 0 0) 0 [(0, .ref 1000), (1, .int q)] [] (hp L I r) 0 0
  subst eq
  refine s_Mo_step_0 rfl ?_
  refine s_Mo_step_1 ?_
  refine s_Mo_step_2 ?_
  refine c_Mo_step_4 (t_Mo_in) (Nat.le_of_ble_eq_true rfl) ?_
  refine s_Mo_step_7 (fun c7 => absurd c7 (bz_n0.mpr h1)) (fun c7 => ?_)
  refine s_Mo_step_10 rfl ?_
  refine s_Mo_step_11 hp_1000 rfl ?_
  refine s_Mo_step_14 (fun c14 => ?_) (fun c14 => absurd c14 (hb))
  refine s_Mo_step_20 ?_
  refine s_Mo_step_21 ?_
  refine ev_pick [0, 1, 2] rfl ?_
  rw [← h0]
  exact l_Mo_step hn hn' hs ho hk he n' 0 (Nat.zero_add _) dt_i
set_option maxRecDepth 100000 in
theorem t_Mo_step_no {G : GW} {L : LT} {I : IT} {r : Nat} {q : Int32} (hb : inz q 1 30 = false ∨ I 1000 0 = 0) : mt G M_Mo_step 6 0 0 [.ref 1000, .int q] (hp L I r) (dt (some (.int (-2))) (hp L I r)) := by
  refine mt_of_ev (by decide) (Nat.le_of_ble_eq_true rfl) ?_
  show ev G M_Mo_step (rmv 6 0 0) (Er M_Mo_step _ 0 0) 0 [(0, .ref 1000), (1, .int q)] [] (hp L I r) 0 0
  refine s_Mo_step_0 rfl ?_
  refine s_Mo_step_1 ?_
  refine s_Mo_step_2 ?_
  refine c_Mo_step_4 (t_Mo_in) (Nat.le_of_ble_eq_true rfl) ?_
  refine s_Mo_step_7 (fun c7 => ?_) (fun c7 => ?_)
  · skip
    (first | rw [bz_n0] at c7 | rw [bz_0] at c7 | skip); (try simp only [Bool.not_eq_false', Bool.not_eq_true', decide_eq_true_eq, decide_eq_false_iff_not, Bool.or_eq_true, Bool.or_eq_false_iff, Bool.and_eq_true, Bool.and_eq_false_iff] at c7)
    refine s_Mo_step_17 ?_
    exact s_Mo_step_19 ⟨by first | rfl | (simp [bz, *]; done) | (simp only [← Int32.not_le] at *; simp [bz, *]; done) | (simp only [Int32.not_lt, Int32.not_le] at *; simp [bz, *]; done) | (simp_all [bz]; done) | (simp only [bz_0, bz_n0, ← Int32.not_le] at *; simp_all [bz]; done), by first | rfl | (simp [*]; done) | (simp_all; done)⟩ z0
  · skip
    (first | rw [bz_n0] at c7 | rw [bz_0] at c7 | skip); (try simp only [Bool.not_eq_false', Bool.not_eq_true', decide_eq_true_eq, decide_eq_false_iff_not, Bool.or_eq_true, Bool.or_eq_false_iff, Bool.and_eq_true, Bool.and_eq_false_iff] at c7)
    refine s_Mo_step_10 rfl ?_
    refine s_Mo_step_11 hp_1000 rfl ?_
    refine s_Mo_step_14 (fun c14 => absurd c14 (fun h => h (hb.resolve_left (fun h => Bool.noConfusion (c7.symm.trans h))))) (fun c14 => ?_)
    refine s_Mo_step_17 ?_
    exact s_Mo_step_19 ⟨by first | rfl | (simp [bz, *]; done) | (simp only [← Int32.not_le] at *; simp [bz, *]; done) | (simp only [Int32.not_lt, Int32.not_le] at *; simp [bz, *]; done) | (simp_all [bz]; done) | (simp only [bz_0, bz_n0, ← Int32.not_le] at *; simp_all [bz]; done), by first | rfl | (simp [*]; done) | (simp_all; done)⟩ z0
set_option maxRecDepth 100000 in
theorem l_Mo_undo {G : GW} {r : Nat} {L : LT} {P : Option Value → HP → Prop} {u : Nat} {x q : Int32} {it : Nat → IT} (hu : u < 2 ^ 31) (ho : ∀ k, k < u → mt G M_Mo_order 5 0 0 [.ref 1000] (hp L (it k) r) (dt none (hp L (it (k + 1)) r))) : ∀ (z k : Nat), k + z = u → P (some (.int x)) (hp L (upI (it u) 1000 17 (it u 1000 17 - x)) r) → ev G M_Mo_undo (rmv 6 0 0) (Er M_Mo_undo P 0 0) 43 [(4, .int (nI k)), (3, .int (nI u)), (2, .int x), (0, .ref 1000), (1, .int q)] [] (hp L (it k) r) 0 0 := by
  intro z
  induction z with
  | zero =>
    intro k hk hP
    obtain rfl : k = u := by omega
    refine s_Mo_undo_43 rfl ?_
    refine s_Mo_undo_45 rfl ?_
    refine s_Mo_undo_46 (fun _ => ?_) (fun c => absurd (nI_le (Nat.le_refl k) hu) c)
    refine s_Mo_undo_59 rfl ?_
    refine s_Mo_undo_60 rfl ?_
    refine s_Mo_undo_61 hp_1000 rfl ?_
    refine s_Mo_undo_64 rfl ?_
    refine s_Mo_undo_65 ?_
    refine s_Mo_undo_66 hp_1000 (Nat.le_of_ble_eq_true rfl) ?_
    rw [hu_1000_17]
    refine s_Mo_undo_69 rfl ?_
    exact s_Mo_undo_70 hP z0
  | succ z ih =>
    intro k hk hP
    refine s_Mo_undo_43 rfl ?_
    refine s_Mo_undo_45 rfl ?_
    refine s_Mo_undo_46 (fun c46 => absurd c46 (nI_ge (by omega) (by omega))) (fun c46 => ?_)
    refine s_Mo_undo_49 rfl ?_
    refine c_Mo_undo_50 (ho k (by omega)) hp_1000 rfl (Nat.le_of_ble_eq_true rfl) ?_
    refine s_Mo_undo_53 rfl ?_
    rw [nI_1]
    refine s_Mo_undo_56 ?_
    refine ev_pick [0, 1, 2, 3, 4] rfl ?_
    exact ih (k + 1) (by omega) hP
set_option maxRecDepth 100000 in
theorem t_Mo_undo {G : GW} {L : LT} {I : IT} {r : Nat} {u k s t : Nat} {it : Nat → IT} {q : Int32} (h1 : inz q 1 40 = true) (eq : q = nI k) (hk : k ≤ 40) (es : I 1000 17 = nI s) (hs : s ≤ 40) (ht : t = min k s) (hd : I 1000 16 - nI t = nI u) (hu : u < 2 ^ 31) (h0 : it 0 = mBeg I) (ho : ∀ k, k < u → mt G M_Mo_order 5 0 0 [.ref 1000] (hp L (it k) r) (dt none (hp L (it (k + 1)) r))) : mt G M_Mo_undo 6 0 0 [.ref 1000, .int q] (hp L I r) (dt (some (.int (nI t))) (hp L (upI (it u) 1000 17 (it u 1000 17 - nI t)) r)) := by
  refine mt_of_ev (by decide) (Nat.le_of_ble_eq_true rfl) ?_
  show ev G M_Mo_undo (rmv 6 0 0) (Er M_Mo_undo _ 0 0) 0 [(0, .ref 1000), (1, .int q)] [] (hp L I r) 0 0
  refine s_Mo_undo_0 rfl ?_
  refine s_Mo_undo_1 ?_
  refine s_Mo_undo_2 ?_
  refine c_Mo_undo_4 (t_Mo_in) (Nat.le_of_ble_eq_true rfl) ?_
  refine s_Mo_undo_7 (fun c7 => ?_) (fun c7 => absurd c7 (bz_n0.mpr h1))
  refine s_Mo_undo_12 rfl ?_
  refine s_Mo_undo_13 rfl ?_
  refine s_Mo_undo_14 hp_1000 rfl ?_
  refine ev_topi es ?_
  refine s_Mo_undo_17 (fun c17 => ?_) (fun c17 => ?_)
  · skip
    refine s_Mo_undo_24 rfl ?_
    refine s_Mo_undo_25 hp_1000 rfl ?_
    refine ev_topi (show _ = nI t by rw [ht, Nat.min_eq_right (by rcases Nat.lt_or_ge k s with h | h; exact absurd c17 (by rw [eq]; exact nI_ge h (by omega)); omega)]; exact es) ?_
    refine s_Mo_undo_28 ?_
    refine s_Mo_undo_29 rfl ?_
    refine s_Mo_undo_30 hp_1000 rfl ?_
    refine s_Mo_undo_33 rfl ?_
    refine s_Mo_undo_34 ?_
    refine ev_topi hd ?_
    refine s_Mo_undo_35 ?_
    refine s_Mo_undo_36 rfl ?_
    refine c_Mo_undo_37 (t_Mo_begin) hp_1000 rfl (Nat.le_of_ble_eq_true rfl) ?_
    refine s_Mo_undo_40 ?_
    refine s_Mo_undo_41 ?_
    refine ev_pick [0, 1, 2, 3, 4] rfl ?_
    rw [← h0]
    exact l_Mo_undo hu ho u 0 (Nat.zero_add _) dt_i
  · skip
    refine s_Mo_undo_20 rfl ?_
    refine ev_topi (show _ = nI t by rw [ht, Nat.min_eq_left (by rcases Nat.lt_or_ge k s with h | h; omega; exact absurd (by rw [eq]; exact nI_le h (by omega)) c17)]; exact eq) ?_
    refine s_Mo_undo_21 ?_
    refine s_Mo_undo_28 ?_
    refine s_Mo_undo_29 rfl ?_
    refine s_Mo_undo_30 hp_1000 rfl ?_
    refine s_Mo_undo_33 rfl ?_
    refine s_Mo_undo_34 ?_
    refine ev_topi hd ?_
    refine s_Mo_undo_35 ?_
    refine s_Mo_undo_36 rfl ?_
    refine c_Mo_undo_37 (t_Mo_begin) hp_1000 rfl (Nat.le_of_ble_eq_true rfl) ?_
    refine s_Mo_undo_40 ?_
    refine s_Mo_undo_41 ?_
    refine ev_pick [0, 1, 2, 3, 4] rfl ?_
    rw [← h0]
    exact l_Mo_undo hu ho u 0 (Nat.zero_add _) dt_i
set_option maxRecDepth 100000 in
theorem t_Mo_undo_no {G : GW} {L : LT} {I : IT} {r : Nat} {q : Int32} (hb : inz q 1 40 = false) : mt G M_Mo_undo 6 0 0 [.ref 1000, .int q] (hp L I r) (dt (some (.int (-1))) (hp L I r)) := by
  refine mt_of_ev (by decide) (Nat.le_of_ble_eq_true rfl) ?_
  show ev G M_Mo_undo (rmv 6 0 0) (Er M_Mo_undo _ 0 0) 0 [(0, .ref 1000), (1, .int q)] [] (hp L I r) 0 0
  refine s_Mo_undo_0 rfl ?_
  refine s_Mo_undo_1 ?_
  refine s_Mo_undo_2 ?_
  refine c_Mo_undo_4 (t_Mo_in) (Nat.le_of_ble_eq_true rfl) ?_
  refine s_Mo_undo_7 (fun c7 => absurd c7 (fun h => h (bz_0.mpr hb))) (fun c7 => ?_)
  refine s_Mo_undo_10 ?_
  exact s_Mo_undo_11 ⟨by first | rfl | (simp [bz, *]; done) | (simp only [← Int32.not_le] at *; simp [bz, *]; done) | (simp only [Int32.not_lt, Int32.not_le] at *; simp [bz, *]; done) | (simp_all [bz]; done) | (simp only [bz_0, bz_n0, ← Int32.not_le] at *; simp_all [bz]; done), by first | rfl | (simp [*]; done) | (simp_all; done)⟩ z0

/-! the reference: owner, reach, conserve -/
def mOw (J : IT) (p : Nat) (a q : Int32) : Bool := decide (gt J p 0 = 1) && (mHas J p q && inz a (gt J p 1) (gt J p 2 - 1))
def mCo (J : IT) (c : Nat) (a q : Int32) : Bool := decide (0 < J 1004 c) && (decide (q = 1) && inz a (J 1005 c) (J 1006 c - 1))
def oNbM (j : Nat) : Int32 := if j < 8 then nI j else if j < 56 then 100 + nI j - 8 else if j < 96 then 200 + (nI j - 56) / 8 * 10 + ((nI j - 56) - (nI j - 56) / 8 * 8) else 300 + nI j - 96
def mOcl (J : IT) (a q : Int32) : Nat → Nat → Int32
  | _, 0 => -1
  | c, n + 1 => if mCo J c a q = true then 400 + nI c else mOcl J a q (c + 1) n
def mOwl (J : IT) (a q : Int32) : Nat → Nat → Int32
  | _, 0 => mOcl J a q 0 6
  | j, n + 1 => if mOw J j a q = true then oNbM j else mOwl J a q (j + 1) n
def mOwn (J : IT) (a q : Int32) : Int32 := if inz a 0 47 = false ∨ (¬ q = 1 ∧ ¬ q = 2 ∧ ¬ q = 4 ∧ ¬ q = 8) then -1 else mOwl J a q 0 102
def mSc : IT → Nat → Nat → IT
  | J, _, 0 => J
  | J, j, n + 1 => mSc (upI (upI J 1012 j 0) 1013 j 0) (j + 1) n
def mSw (h : Bool) : IT → Nat → Nat → IT
  | J, _, 0 => J
  | J, w, n + 1 => mSw h (upI (upI J 1012 w 1) 1013 w (if ¬ J 1013 w = 0 ∨ h = true then 1 else 0)) (w + 1) n
abbrev opn (J : IT) (p : Nat) : Prop := (p < 8 ∨ ¬ J 1013 (p - 8) = 0) ∧ (gt J p 0 = 1 ∨ gt J p 0 = 2)
def mSp1 (J : IT) (p : Nat) : IT := mSw (mHas J p 1) J (gt J p 1).toNatClampNeg ((gt J p 2).toNatClampNeg - (gt J p 1).toNatClampNeg)
def mSp : IT → Nat → Nat → IT
  | J, _, 0 => J
  | J, p, n + 1 => mSp (if opn J p then mSp1 J p else J) (p + 1) n
def mSn (J : IT) : Int32 → Nat → Nat → Int32
  | x, _, 0 => x
  | x, j, n + 1 => mSn J ((if J 1012 j = 0 then x else x + 1) + (if J 1013 j = 0 then 0 else 100)) (j + 1) n
def mSr : Nat → IT → Int32 → Int32 → IT × Int32
  | 0, J, _, n => (J, n)
  | k + 1, J, b, n => if n = b then (J, n) else mSr k (mSp J 0 56) n (mSn (mSp J 0 56) 0 0 48)
def mSpr (J : IT) : IT × Int32 := mSr 50 (mSc J 0 48) (-1) 0
/-- the places' ranges are such -/
def okP (F : Nat → Int32) : Prop := ∀ p, p < 56 → (F (5 * p) = 1 ∨ F (5 * p) = 2) → ∃ f e : Nat, F (5 * p + 1) = nI f ∧ F (5 * p + 2) = nI e ∧ f ≤ e ∧ e ≤ 48
theorem mSw_o {h : Bool} {x : Nat} (h1 : x ≠ 1012) (h2 : x ≠ 1013) : ∀ (n w : Nat) (J : IT), mSw h J w n x = J x
  | 0, _, _ => rfl
  | n + 1, w, J => by rw [mSw, mSw_o h1 h2 n (w + 1), upI_b h2, upI_b h1]
theorem mSp_o {x : Nat} (h1 : x ≠ 1012) (h2 : x ≠ 1013) : ∀ (n p : Nat) (J : IT), mSp J p n x = J x
  | 0, _, _ => rfl
  | n + 1, p, J => by
    rw [mSp, mSp_o h1 h2 n (p + 1)]
    split
    · exact mSw_o h1 h2 _ _ _
    · rfl
theorem mSc_o {x : Nat} (h1 : x ≠ 1012) (h2 : x ≠ 1013) : ∀ (n p : Nat) (J : IT), mSc J p n x = J x
  | 0, _, _ => rfl
  | n + 1, p, J => by rw [mSc, mSc_o h1 h2 n (p + 1), upI_b h2, upI_b h1]
def cn1 (J : IT) (a q : Int32) : Int32 → Nat → Nat → Int32
  | x, _, 0 => x
  | x, j, n + 1 => cn1 J a q (if mOw J j a q = true then x + 1 else x) (j + 1) n
def cn2 (J : IT) (a q : Int32) : Int32 → Nat → Nat → Int32
  | x, _, 0 => x
  | x, j, n + 1 => cn2 J a q (if mCo J j a q = true then x + 1 else x) (j + 1) n
def cn3 (J : IT) (a q : Int32) : Int32 := cn2 J a q (cn1 J a q 0 0 102) 0 6
def cvr (J : IT) (a : Int32) : Nat → Nat → Bool
  | _, 0 => true
  | i, n + 1 => if cn3 J a (nI (2 ^ i)) = 1 then cvr J a (i + 1) n else false
def shc (J : IT) (c : Nat) : Int32 → Nat → Nat → Int32
  | x, _, 0 => x
  | x, j, n + 1 => shc J c (if gt J j 0 = 2 ∧ gt J j 4 = nI c then x + 1 else x) (j + 1) n
def cv2 (J : IT) : Nat → Nat → Int32
  | _, 0 => 0
  | c, n + 1 => if shc J c 0 0 102 = J 1004 c then cv2 J (c + 1) n else 100 + nI c
def cv1 (J : IT) : Nat → Nat → Int32
  | _, 0 => cv2 J 0 6
  | a, n + 1 => if cvr J (nI a) 0 4 = true then cv1 J (a + 1) n else 1 + nI a
theorem dbl (i : Nat) : (2 : Int32) * nI (2 ^ i) = nI (2 ^ (i + 1)) := by rw [show (2 : Int32) = nI 2 from rfl, pk_mul, Nat.pow_succ, Nat.mul_comm]
theorem sb8 {p : Nat} (h : 8 ≤ p) : nI p - 8 = nI (p - 8) := pk_sub (b := 8) h
set_option maxRecDepth 100000 in
theorem t_Mo_owns {G : GW} {L : LT} {I : IT} {r : Nat} {p : Int32} {j : Nat} (ep : p = nI j) (hj : j < 102) {a q : Int32} : mt G M_Mo_owns 2 0 0 [.ref 1000, .int p, .int a, .int q] (hp L I r) (dt (some (.int (bz (mOw I j a q)))) (hp L I r)) := by
  refine mt_of_ev (by decide) (Nat.le_of_ble_eq_true rfl) ?_
  show ev G M_Mo_owns (rmv 2 0 0) (Er M_Mo_owns _ 0 0) 0 [(0, .ref 1000), (1, .int p), (2, .int a), (3, .int q)] [] (hp L I r) 0 0
  refine s_Mo_owns_0 rfl ?_
  refine s_Mo_owns_1 rfl ?_
  refine c_Mo_owns_2 (t_Mo_what ep hj) hp_1000 rfl (Nat.le_of_ble_eq_true rfl) ?_
  refine s_Mo_owns_5 ?_
  refine s_Mo_owns_6 (fun c6 => ?_) (fun c6 => ?_)
  · skip
    refine s_Mo_owns_43 ?_
    exact s_Mo_owns_44 (by first | exact Or.inl rfl | exact Or.inr rfl | exact bz_or | assumption) ⟨by simp [mOw, bz, c6], rfl⟩ z0
  · skip
    refine s_Mo_owns_9 rfl ?_
    refine s_Mo_owns_10 rfl ?_
    refine s_Mo_owns_11 rfl ?_
    refine c_Mo_owns_12 (show mt _ _ _ _ _ _ _ (dt (some (.int (bz (mHas I j q)))) _) from t_Mo_has ep hj) hp_1000 rfl (Nat.le_of_ble_eq_true rfl) ?_
    refine s_Mo_owns_15 (fun c15 => ?_) (fun c15 => ?_)
    · skip
      (first | rw [bz_n0] at c15 | rw [bz_0] at c15 | skip); (try simp only [Bool.not_eq_false', Bool.not_eq_true', decide_eq_true_eq, decide_eq_false_iff_not, Bool.or_eq_true, Bool.or_eq_false_iff, Bool.and_eq_true, Bool.and_eq_false_iff] at c15)
      refine s_Mo_owns_43 ?_
      exact s_Mo_owns_44 (by first | exact Or.inl rfl | exact Or.inr rfl | exact bz_or | assumption) ⟨by simp [mOw, bz, c6, c15], rfl⟩ z0
    · skip
      (first | rw [bz_n0] at c15 | rw [bz_0] at c15 | skip); (try simp only [Bool.not_eq_false', Bool.not_eq_true', decide_eq_true_eq, decide_eq_false_iff_not, Bool.or_eq_true, Bool.or_eq_false_iff, Bool.and_eq_true, Bool.and_eq_false_iff] at c15)
      refine s_Mo_owns_18 rfl ?_
      refine s_Mo_owns_19 rfl ?_
      refine s_Mo_owns_20 rfl ?_
      refine s_Mo_owns_21 ?_
      refine c_Mo_owns_22 (t_Mo_get ep (by omega) (k := 1) rfl (by decide)) hp_1000 rfl (Nat.le_of_ble_eq_true rfl) ?_
      refine s_Mo_owns_25 rfl ?_
      refine s_Mo_owns_26 rfl ?_
      refine s_Mo_owns_27 ?_
      refine c_Mo_owns_28 (t_Mo_get ep (by omega) (k := 2) rfl (by decide)) hp_1000 rfl (Nat.le_of_ble_eq_true rfl) ?_
      refine s_Mo_owns_31 ?_
      refine s_Mo_owns_32 ?_
      refine c_Mo_owns_33 (t_Mo_in) (Nat.le_of_ble_eq_true rfl) ?_
      refine s_Mo_owns_36 (fun c36 => ?_) (fun c36 => ?_)
      · skip
        (first | rw [bz_n0] at c36 | rw [bz_0] at c36 | skip); (try simp only [Bool.not_eq_false', Bool.not_eq_true', decide_eq_true_eq, decide_eq_false_iff_not, Bool.or_eq_true, Bool.or_eq_false_iff, Bool.and_eq_true, Bool.and_eq_false_iff] at c36)
        refine s_Mo_owns_43 ?_
        exact s_Mo_owns_44 (by first | exact Or.inl rfl | exact Or.inr rfl | exact bz_or | assumption) ⟨by simp [mOw, bz, c6, c15, c36], rfl⟩ z0
      · skip
        (first | rw [bz_n0] at c36 | rw [bz_0] at c36 | skip); (try simp only [Bool.not_eq_false', Bool.not_eq_true', decide_eq_true_eq, decide_eq_false_iff_not, Bool.or_eq_true, Bool.or_eq_false_iff, Bool.and_eq_true, Bool.and_eq_false_iff] at c36)
        refine s_Mo_owns_39 ?_
        refine s_Mo_owns_40 ?_
        exact s_Mo_owns_44 (by first | exact Or.inl rfl | exact Or.inr rfl | exact bz_or | assumption) ⟨by simp [mOw, bz, c6, c15, c36], rfl⟩ z0
set_option maxRecDepth 100000 in
theorem t_Mo_cellOwns {G : GW} {L : LT} {I : IT} {r : Nat} {p : Int32} {c : Nat} (ep : p = nI c) (hc : c < 6) {a q : Int32} : mt G M_Mo_cellOwns 1 0 0 [.ref 1000, .int p, .int a, .int q] (hp L I r) (dt (some (.int (bz (mCo I c a q)))) (hp L I r)) := by
  refine mt_of_ev (by decide) (Nat.le_of_ble_eq_true rfl) ?_
  show ev G M_Mo_cellOwns (rmv 1 0 0) (Er M_Mo_cellOwns _ 0 0) 0 [(0, .ref 1000), (1, .int p), (2, .int a), (3, .int q)] [] (hp L I r) 0 0
  subst ep
  refine s_Mo_cellOwns_0 rfl ?_
  refine s_Mo_cellOwns_1 hp_1000 rfl ?_
  refine s_Mo_cellOwns_4 rfl ?_
  refine s_Mo_cellOwns_5 hp_1004 (vp_in_nI (by omega) (by decide)) ?_
  rw [nI_clamp (by omega)]
  refine s_Mo_cellOwns_6 (fun c6 => ?_) (fun c6 => ?_)
  · skip
    refine s_Mo_cellOwns_39 ?_
    exact s_Mo_cellOwns_40 (by first | exact Or.inl rfl | exact Or.inr rfl | exact bz_or | assumption) ⟨by rw [mCo, decide_eq_false (Int32.not_lt.mpr c6)]; rfl, rfl⟩ z0
  · skip
    refine s_Mo_cellOwns_9 rfl ?_
    refine s_Mo_cellOwns_10 ?_
    refine s_Mo_cellOwns_11 (fun c11 => ?_) (fun c11 => ?_)
    · skip
      refine s_Mo_cellOwns_39 ?_
      exact s_Mo_cellOwns_40 (by first | exact Or.inl rfl | exact Or.inr rfl | exact bz_or | assumption) ⟨by rw [mCo, decide_eq_false c11, Bool.false_and, Bool.and_false]; rfl, rfl⟩ z0
    · skip
      refine s_Mo_cellOwns_14 rfl ?_
      refine s_Mo_cellOwns_15 rfl ?_
      refine s_Mo_cellOwns_16 hp_1000 rfl ?_
      refine s_Mo_cellOwns_19 rfl ?_
      refine s_Mo_cellOwns_20 hp_1005 (vp_in_nI (by omega) (by decide)) ?_
      rw [nI_clamp (by omega)]
      refine s_Mo_cellOwns_21 rfl ?_
      refine s_Mo_cellOwns_22 hp_1000 rfl ?_
      refine s_Mo_cellOwns_25 rfl ?_
      refine s_Mo_cellOwns_26 hp_1006 (vp_in_nI (by omega) (by decide)) ?_
      rw [nI_clamp (by omega)]
      refine s_Mo_cellOwns_27 ?_
      refine s_Mo_cellOwns_28 ?_
      refine c_Mo_cellOwns_29 (t_Mo_in) (Nat.le_of_ble_eq_true rfl) ?_
      refine s_Mo_cellOwns_32 (fun c32 => ?_) (fun c32 => ?_)
      · skip
        (first | rw [bz_n0] at c32 | rw [bz_0] at c32 | skip); (try simp only [Bool.not_eq_false', Bool.not_eq_true', decide_eq_true_eq, decide_eq_false_iff_not, Bool.or_eq_true, Bool.or_eq_false_iff, Bool.and_eq_true, Bool.and_eq_false_iff] at c32)
        refine s_Mo_cellOwns_39 ?_
        exact s_Mo_cellOwns_40 (by first | exact Or.inl rfl | exact Or.inr rfl | exact bz_or | assumption) ⟨by rw [mCo, c32, Bool.and_false, Bool.and_false]; rfl, rfl⟩ z0
      · skip
        (first | rw [bz_n0] at c32 | rw [bz_0] at c32 | skip); (try simp only [Bool.not_eq_false', Bool.not_eq_true', decide_eq_true_eq, decide_eq_false_iff_not, Bool.or_eq_true, Bool.or_eq_false_iff, Bool.and_eq_true, Bool.and_eq_false_iff] at c32)
        refine s_Mo_cellOwns_35 ?_
        refine s_Mo_cellOwns_36 ?_
        exact s_Mo_cellOwns_40 (by first | exact Or.inl rfl | exact Or.inr rfl | exact bz_or | assumption) ⟨by rw [mCo, decide_eq_true (Int32.not_le.mp c6), decide_eq_true c11, c32]; rfl, rfl⟩ z0
set_option maxRecDepth 100000 in
set_option maxHeartbeats 2000000 in
theorem l_mown2 {G : GW} {I : IT} {r : Nat} {L : LT} {P : Option Value → HP → Prop} {a q : Int32} : ∀ (n j : Nat), j + n = 6 → P (some (.int (mOcl I a q j n))) (hp L I r) → ev G M_Mo_owner (rmv 3 0 0) (Er M_Mo_owner P 0 0) 125 [(3, .int (nI j)), (0, .ref 1000), (1, .int a), (2, .int q)] [] (hp L I r) 0 0 := by
  intro n
  induction n with
  | zero =>
    intro j hj hP
    obtain rfl : j = 6 := by omega
    refine s_Mo_owner_125 rfl ?_
    refine s_Mo_owner_126 ?_
    refine s_Mo_owner_128 (fun _ => ?_) (fun c => absurd (by decide) c)
    refine s_Mo_owner_153 ?_
    exact s_Mo_owner_154 hP z0
  | succ n ih =>
    intro j hj hP
    refine s_Mo_owner_125 rfl ?_
    refine s_Mo_owner_126 ?_
    refine s_Mo_owner_128 (fun c128 => absurd c128 (nle_nI (n := 6) rfl (by omega) (by decide))) (fun c128 => ?_)
    refine s_Mo_owner_131 rfl ?_
    refine s_Mo_owner_132 rfl ?_
    refine s_Mo_owner_133 rfl ?_
    refine s_Mo_owner_134 rfl ?_
    refine c_Mo_owner_135 (t_Mo_cellOwns rfl (by omega)) hp_1000 rfl (Nat.le_of_ble_eq_true rfl) ?_
    refine s_Mo_owner_138 (fun c138 => ?_) (fun c138 => ?_)
    · skip
      (first | rw [bz_n0] at c138 | rw [bz_0] at c138 | skip); (try simp only [Bool.not_eq_false', Bool.not_eq_true', decide_eq_true_eq, decide_eq_false_iff_not, Bool.or_eq_true, Bool.or_eq_false_iff, Bool.and_eq_true, Bool.and_eq_false_iff] at c138)
      refine s_Mo_owner_147 rfl ?_
      rw [nI_1]
      refine s_Mo_owner_150 ?_
      refine ev_pick [0, 1, 2, 3] rfl ?_
      exact ih (j + 1) (by omega) (by rw [mOcl, if_neg (by rw [c138]; decide)] at hP; exact hP)
    · skip
      (first | rw [bz_n0] at c138 | rw [bz_0] at c138 | skip); (try simp only [Bool.not_eq_false', Bool.not_eq_true', decide_eq_true_eq, decide_eq_false_iff_not, Bool.or_eq_true, Bool.or_eq_false_iff, Bool.and_eq_true, Bool.and_eq_false_iff] at c138)
      refine s_Mo_owner_141 ?_
      refine s_Mo_owner_144 rfl ?_
      refine s_Mo_owner_145 ?_
      exact s_Mo_owner_146 (by rw [mOcl, if_pos c138] at hP; exact hP) z0
set_option maxRecDepth 100000 in
set_option maxHeartbeats 2000000 in
theorem l_mown1 {G : GW} {I : IT} {r : Nat} {L : LT} {P : Option Value → HP → Prop} {a q : Int32} : ∀ (n j : Nat), j + n = 102 → P (some (.int (mOwl I a q j n))) (hp L I r) → ev G M_Mo_owner (rmv 3 0 0) (Er M_Mo_owner P 0 0) 35 [(3, .int (nI j)), (0, .ref 1000), (1, .int a), (2, .int q)] [] (hp L I r) 0 0 := by
  intro n
  induction n with
  | zero =>
    intro j hj hP
    obtain rfl : j = 102 := by omega
    refine s_Mo_owner_35 rfl ?_
    refine s_Mo_owner_36 ?_
    refine s_Mo_owner_38 (fun _ => ?_) (fun c => absurd (by decide) c)
    refine s_Mo_owner_123 ?_
    refine s_Mo_owner_124 ?_
    refine ev_pick [0, 1, 2, 3] rfl ?_
    exact l_mown2 6 0 rfl hP
  | succ n ih =>
    intro j hj hP
    refine s_Mo_owner_35 rfl ?_
    refine s_Mo_owner_36 ?_
    refine s_Mo_owner_38 (fun c38 => absurd c38 (nle_nI (n := 102) rfl (by omega) (by decide))) (fun c38 => ?_)
    refine s_Mo_owner_41 rfl ?_
    refine s_Mo_owner_42 rfl ?_
    refine s_Mo_owner_43 rfl ?_
    refine s_Mo_owner_44 rfl ?_
    refine c_Mo_owner_45 (t_Mo_owns rfl (by omega)) hp_1000 rfl (Nat.le_of_ble_eq_true rfl) ?_
    refine s_Mo_owner_48 (fun c48 => ?_) (fun c48 => ?_)
    · skip
      (first | rw [bz_n0] at c48 | rw [bz_0] at c48 | skip); (try simp only [Bool.not_eq_false', Bool.not_eq_true', decide_eq_true_eq, decide_eq_false_iff_not, Bool.or_eq_true, Bool.or_eq_false_iff, Bool.and_eq_true, Bool.and_eq_false_iff] at c48)
      refine s_Mo_owner_117 rfl ?_
      rw [nI_1]
      refine s_Mo_owner_120 ?_
      refine ev_pick [0, 1, 2, 3] rfl ?_
      exact ih (j + 1) (by omega) (by rw [mOwl, if_neg (by rw [c48]; decide)] at hP; exact hP)
    · skip
      (first | rw [bz_n0] at c48 | rw [bz_0] at c48 | skip); (try simp only [Bool.not_eq_false', Bool.not_eq_true', decide_eq_true_eq, decide_eq_false_iff_not, Bool.or_eq_true, Bool.or_eq_false_iff, Bool.and_eq_true, Bool.and_eq_false_iff] at c48)
      refine s_Mo_owner_51 rfl ?_
      refine s_Mo_owner_52 ?_
      refine s_Mo_owner_54 (fun c54 => ?_) (fun c54 => ?_)
      · skip
        refine s_Mo_owner_61 rfl ?_
        refine s_Mo_owner_62 ?_
        refine s_Mo_owner_64 (fun c64 => ?_) (fun c64 => ?_)
        · skip
          refine s_Mo_owner_77 rfl ?_
          refine s_Mo_owner_78 ?_
          refine s_Mo_owner_80 (fun c80 => ?_) (fun c80 => ?_)
          · skip
            refine s_Mo_owner_108 ?_
            refine s_Mo_owner_111 rfl ?_
            refine s_Mo_owner_112 ?_
            refine s_Mo_owner_113 ?_
            refine s_Mo_owner_115 ?_
            exact s_Mo_owner_116 (by have hP2 := hP; rw [mOwl, if_pos c48] at hP2; have d8 := (nI_leI (a := 8) (b := j) (by decide) (by omega)); have d56 := (nI_leI (a := 56) (b := j) (by decide) (by omega)); have d96 := (nI_leI (a := 96) (b := j) (by decide) (by omega)); rw [oNbM, if_neg (Nat.not_lt.mpr (d8.mp c54)), if_neg (Nat.not_lt.mpr (d56.mp c64)), if_neg (Nat.not_lt.mpr (d96.mp c80))] at hP2; exact hP2) z0
          · skip
            refine s_Mo_owner_83 ?_
            refine s_Mo_owner_86 rfl ?_
            refine s_Mo_owner_87 ?_
            refine s_Mo_owner_89 ?_
            refine s_Mo_owner_90 ?_
            refine s_Mo_owner_92 (by decide) ?_
            refine s_Mo_owner_93 ?_
            refine s_Mo_owner_95 ?_
            refine s_Mo_owner_96 ?_
            refine s_Mo_owner_97 rfl ?_
            refine s_Mo_owner_98 ?_
            refine s_Mo_owner_100 ?_
            refine s_Mo_owner_101 ?_
            refine s_Mo_owner_103 (by decide) ?_
            refine s_Mo_owner_104 ?_
            refine s_Mo_owner_105 ?_
            exact s_Mo_owner_116 (by have hP2 := hP; rw [mOwl, if_pos c48] at hP2; have d8 := (nI_leI (a := 8) (b := j) (by decide) (by omega)); have d56 := (nI_leI (a := 56) (b := j) (by decide) (by omega)); have d96 := (nI_leI (a := 96) (b := j) (by decide) (by omega)); rw [oNbM, if_neg (Nat.not_lt.mpr (d8.mp c54)), if_neg (Nat.not_lt.mpr (d56.mp c64)), if_pos (Nat.lt_of_not_le (fun h => c80 (d96.mpr h)))] at hP2; exact hP2) z0
        · skip
          refine s_Mo_owner_67 ?_
          refine s_Mo_owner_69 rfl ?_
          refine s_Mo_owner_70 ?_
          refine s_Mo_owner_71 ?_
          refine s_Mo_owner_73 ?_
          refine s_Mo_owner_74 ?_
          exact s_Mo_owner_116 (by have hP2 := hP; rw [mOwl, if_pos c48] at hP2; have d8 := (nI_leI (a := 8) (b := j) (by decide) (by omega)); have d56 := (nI_leI (a := 56) (b := j) (by decide) (by omega)); have d96 := (nI_leI (a := 96) (b := j) (by decide) (by omega)); rw [oNbM, if_neg (Nat.not_lt.mpr (d8.mp c54)), if_pos (Nat.lt_of_not_le (fun h => c64 (d56.mpr h)))] at hP2; exact hP2) z0
      · skip
        refine s_Mo_owner_57 rfl ?_
        refine s_Mo_owner_58 ?_
        exact s_Mo_owner_116 (by have hP2 := hP; rw [mOwl, if_pos c48] at hP2; have d8 := (nI_leI (a := 8) (b := j) (by decide) (by omega)); have d56 := (nI_leI (a := 56) (b := j) (by decide) (by omega)); have d96 := (nI_leI (a := 96) (b := j) (by decide) (by omega)); rw [oNbM, if_pos (Nat.lt_of_not_le (fun h => c54 (d8.mpr h)))] at hP2; exact hP2) z0
set_option maxRecDepth 100000 in
theorem t_Mo_owner {G : GW} {L : LT} {I : IT} {r : Nat} {a q : Int32} : mt G M_Mo_owner 3 0 0 [.ref 1000, .int a, .int q] (hp L I r) (dt (some (.int (mOwn I a q))) (hp L I r)) := by
  refine mt_of_ev (by decide) (Nat.le_of_ble_eq_true rfl) ?_
  show ev G M_Mo_owner (rmv 3 0 0) (Er M_Mo_owner _ 0 0) 0 [(0, .ref 1000), (1, .int a), (2, .int q)] [] (hp L I r) 0 0
  refine s_Mo_owner_0 rfl ?_
  refine s_Mo_owner_1 ?_
  refine s_Mo_owner_2 ?_
  refine c_Mo_owner_4 (t_Mo_in) (Nat.le_of_ble_eq_true rfl) ?_
  refine s_Mo_owner_7 (fun c7 => ?_) (fun c7 => ?_)
  · skip
    (first | rw [bz_n0] at c7 | rw [bz_0] at c7 | skip); (try simp only [Bool.not_eq_false', Bool.not_eq_true', decide_eq_true_eq, decide_eq_false_iff_not, Bool.or_eq_true, Bool.or_eq_false_iff, Bool.and_eq_true, Bool.and_eq_false_iff] at c7)
    refine s_Mo_owner_31 ?_
    exact s_Mo_owner_32 ⟨by rw [mOwn, if_pos (Or.inl c7)], rfl⟩ z0
  · skip
    (first | rw [bz_n0] at c7 | rw [bz_0] at c7 | skip); (try simp only [Bool.not_eq_false', Bool.not_eq_true', decide_eq_true_eq, decide_eq_false_iff_not, Bool.or_eq_true, Bool.or_eq_false_iff, Bool.and_eq_true, Bool.and_eq_false_iff] at c7)
    refine s_Mo_owner_10 rfl ?_
    refine s_Mo_owner_11 ?_
    refine s_Mo_owner_12 (fun c12 => ?_) (fun c12 => ?_)
    · skip
      refine s_Mo_owner_33 ?_
      refine s_Mo_owner_34 ?_
      refine ev_pick [0, 1, 2, 3] rfl ?_
      exact l_mown1 102 0 rfl ⟨by rw [mOwn, if_neg (fun h => h.elim (fun h => Bool.noConfusion (c7.symm.trans h)) (fun h => h.1 c12))], rfl⟩
    · skip
      refine s_Mo_owner_15 rfl ?_
      refine s_Mo_owner_16 ?_
      refine s_Mo_owner_17 (fun c17 => ?_) (fun c17 => ?_)
      · skip
        refine s_Mo_owner_33 ?_
        refine s_Mo_owner_34 ?_
        refine ev_pick [0, 1, 2, 3] rfl ?_
        exact l_mown1 102 0 rfl ⟨by rw [mOwn, if_neg (fun h => h.elim (fun h => Bool.noConfusion (c7.symm.trans h)) (fun h => h.2.1 c17))], rfl⟩
      · skip
        refine s_Mo_owner_20 rfl ?_
        refine s_Mo_owner_21 ?_
        refine s_Mo_owner_22 (fun c22 => ?_) (fun c22 => ?_)
        · skip
          refine s_Mo_owner_33 ?_
          refine s_Mo_owner_34 ?_
          refine ev_pick [0, 1, 2, 3] rfl ?_
          exact l_mown1 102 0 rfl ⟨by rw [mOwn, if_neg (fun h => h.elim (fun h => Bool.noConfusion (c7.symm.trans h)) (fun h => h.2.2.1 c22))], rfl⟩
        · skip
          refine s_Mo_owner_25 rfl ?_
          refine s_Mo_owner_26 ?_
          refine s_Mo_owner_28 (fun c28 => ?_) (fun c28 => ?_)
          · skip
            refine s_Mo_owner_33 ?_
            refine s_Mo_owner_34 ?_
            refine ev_pick [0, 1, 2, 3] rfl ?_
            exact l_mown1 102 0 rfl ⟨by rw [mOwn, if_neg (fun h => h.elim (fun h => Bool.noConfusion (c7.symm.trans h)) (fun h => h.2.2.2 c28))], rfl⟩
          · skip
            refine s_Mo_owner_31 ?_
            exact s_Mo_owner_32 ⟨by rw [mOwn, if_pos (Or.inr ⟨c12, c17, c22, c28⟩)], rfl⟩ z0
set_option maxRecDepth 100000 in
set_option maxHeartbeats 2000000 in
theorem l_spr0 {G : GW} {r : Nat} {E : Nat → LV → List Value → HP → Nat → Nat → Prop} {L : LT} : ∀ (n j : Nat) (I : IT), j + n = 48 → ev G M_Mo_spread (rmv 2 0 0) E 28 [(1, .int (nI 48)), (0, .ref 1000)] [] (hp L (mSc I j n) r) 0 0 → ev G M_Mo_spread (rmv 2 0 0) E 2 [(1, .int (nI j)), (0, .ref 1000)] [] (hp L I r) 0 0 := by
  intro n
  induction n with
  | zero =>
    intro j I hj hP
    obtain rfl : j = 48 := by omega
    refine s_Mo_spread_2 rfl ?_
    refine s_Mo_spread_3 ?_
    refine s_Mo_spread_5 (fun _ => ?_) (fun c => absurd (by decide) c)
    exact hP
  | succ n ih =>
    intro j I hj hP
    refine s_Mo_spread_2 rfl ?_
    refine s_Mo_spread_3 ?_
    refine s_Mo_spread_5 (fun c5 => absurd c5 (nle_nI (n := 48) rfl (by omega) (by decide))) (fun c5 => ?_)
    refine s_Mo_spread_8 rfl ?_
    refine s_Mo_spread_9 hp_1000 rfl ?_
    refine s_Mo_spread_12 rfl ?_
    refine s_Mo_spread_13 ?_
    refine s_Mo_spread_14 hp_1012 (vp_in_nI (by omega) (by decide)) ?_
    rw [hu_1012]
    rw [nI_clamp (by omega), nar0]
    refine s_Mo_spread_15 rfl ?_
    refine s_Mo_spread_16 hp_1000 rfl ?_
    refine s_Mo_spread_19 rfl ?_
    refine s_Mo_spread_20 ?_
    refine s_Mo_spread_21 hp_1013 (vp_in_nI (by omega) (by decide)) ?_
    rw [hu_1013]
    rw [nI_clamp (by omega), nar0]
    refine s_Mo_spread_22 rfl ?_
    rw [nI_1]
    refine s_Mo_spread_25 ?_
    refine ev_pick [0, 1] rfl ?_
    exact ih (j + 1) _ (by omega) hP
set_option maxRecDepth 100000 in
set_option maxHeartbeats 2000000 in
theorem l_spr1 {G : GW} {r : Nat} {E : Nat → LV → List Value → HP → Nat → Nat → Prop} {L : LT} {p e : Nat} {h : Bool} {y n0 b0 : Int32} (hpp : p < 56) (he : e ≤ 48) : ∀ (n w : Nat) (I : IT), w + n = e → gt I p 2 = nI e → mHas I p 1 = h → ev G M_Mo_spread (rmv 2 0 0) E 188 [(7, .int (nI e)), (6, .int 1), (4, .int (nI p)), (3, .int y), (2, .int n0), (1, .int b0), (0, .ref 1000)] [] (hp L (mSw h I w n) r) 0 0 → ev G M_Mo_spread (rmv 2 0 0) E 125 [(7, .int (nI w)), (6, .int 1), (4, .int (nI p)), (3, .int y), (2, .int n0), (1, .int b0), (0, .ref 1000)] [] (hp L I r) 0 0 := by
  intro n
  induction n with
  | zero =>
    intro w I hw ee hh hP
    obtain rfl : w = e := by omega
    refine s_Mo_spread_125 rfl ?_
    refine s_Mo_spread_127 (fun c => absurd c (by decide)) (fun _ => ?_)
    refine s_Mo_spread_130 rfl ?_
    refine s_Mo_spread_132 rfl ?_
    refine s_Mo_spread_133 rfl ?_
    refine s_Mo_spread_135 ?_
    refine c_Mo_spread_136 (t_Mo_get rfl (by omega) (k := 2) rfl (by decide)) hp_1000 rfl (Nat.le_of_ble_eq_true rfl) ?_
    refine ev_topi ee ?_
    refine s_Mo_spread_139 (fun _ => ?_) (fun c => absurd (nI_le (Nat.le_refl w) (by omega)) c)
    exact hP
  | succ n ih =>
    intro w I hw ee hh hP
    refine s_Mo_spread_125 rfl ?_
    refine s_Mo_spread_127 (fun c127 => absurd c127 (by decide)) (fun c127 => ?_)
    refine s_Mo_spread_130 rfl ?_
    refine s_Mo_spread_132 rfl ?_
    refine s_Mo_spread_133 rfl ?_
    refine s_Mo_spread_135 ?_
    refine c_Mo_spread_136 (t_Mo_get rfl (by omega) (k := 2) rfl (by decide)) hp_1000 rfl (Nat.le_of_ble_eq_true rfl) ?_
    refine ev_topi ee ?_
    refine s_Mo_spread_139 (fun c139 => absurd c139 (nI_ge (by omega) (by omega))) (fun c139 => ?_)
    refine s_Mo_spread_142 rfl ?_
    refine s_Mo_spread_143 hp_1000 rfl ?_
    refine s_Mo_spread_146 rfl ?_
    refine s_Mo_spread_148 ?_
    refine s_Mo_spread_149 hp_1012 (vp_in_nI (by omega) (by decide)) ?_
    rw [hu_1012]
    rw [nI_clamp (by omega), nar1]
    refine s_Mo_spread_150 rfl ?_
    refine s_Mo_spread_151 hp_1000 rfl ?_
    refine s_Mo_spread_154 rfl ?_
    refine s_Mo_spread_156 rfl ?_
    refine s_Mo_spread_157 hp_1000 rfl ?_
    refine s_Mo_spread_160 rfl ?_
    refine s_Mo_spread_162 hp_1013 (vp_in_nI (by omega) (by decide)) ?_
    rw [nI_clamp (by omega)]
    refine s_Mo_spread_163 (fun c163 => ?_) (fun c163 => ?_)
    · skip
      refine s_Mo_spread_176 ?_
      refine s_Mo_spread_177 ?_
      refine s_Mo_spread_181 hp_1013 (vp_in_nI (by omega) (by decide)) ?_
      rw [hu_1013]
      rw [nI_clamp (by omega)]
      first | rw [nar1] | rw [nar0]
      refine s_Mo_spread_182 rfl ?_
      rw [nI_1]
      refine s_Mo_spread_185 ?_
      refine ev_pick [0, 1, 2, 3, 4, 5, 6] rfl ?_
      exact ih (w + 1) _ (by omega) ee hh (by rw [mSw, if_pos (Or.inl (show ¬ I 1013 w = 0 from c163))] at hP; exact hP)
    · skip
      refine s_Mo_spread_166 rfl ?_
      refine s_Mo_spread_167 rfl ?_
      refine s_Mo_spread_169 ?_
      refine c_Mo_spread_170 (show mt _ _ _ _ _ _ _ (dt (some (.int (bz h))) _) from by rw [← hh]; exact t_Mo_has (j := p) rfl (by omega)) hp_1000 rfl (Nat.le_of_ble_eq_true rfl) ?_
      refine s_Mo_spread_173 (fun c173 => ?_) (fun c173 => ?_)
      · skip
        (first | rw [bz_n0] at c173 | rw [bz_0] at c173 | skip); (try simp only [Bool.not_eq_false', Bool.not_eq_true', decide_eq_true_eq, decide_eq_false_iff_not, Bool.or_eq_true, Bool.or_eq_false_iff, Bool.and_eq_true, Bool.and_eq_false_iff] at c173)
        refine s_Mo_spread_180 ?_
        refine s_Mo_spread_181 hp_1013 (vp_in_nI (by omega) (by decide)) ?_
        rw [hu_1013]
        rw [nI_clamp (by omega)]
        first | rw [nar1] | rw [nar0]
        refine s_Mo_spread_182 rfl ?_
        rw [nI_1]
        refine s_Mo_spread_185 ?_
        refine ev_pick [0, 1, 2, 3, 4, 5, 6] rfl ?_
        exact ih (w + 1) _ (by omega) ee hh (by rw [mSw, if_neg (show ¬ (¬ I 1013 w = 0 ∨ h = true) from fun h => h.elim (fun h => h c163) (fun h => Bool.noConfusion (c173.symm.trans h)))] at hP; exact hP)
      · skip
        (first | rw [bz_n0] at c173 | rw [bz_0] at c173 | skip); (try simp only [Bool.not_eq_false', Bool.not_eq_true', decide_eq_true_eq, decide_eq_false_iff_not, Bool.or_eq_true, Bool.or_eq_false_iff, Bool.and_eq_true, Bool.and_eq_false_iff] at c173)
        refine s_Mo_spread_176 ?_
        refine s_Mo_spread_177 ?_
        refine s_Mo_spread_181 hp_1013 (vp_in_nI (by omega) (by decide)) ?_
        rw [hu_1013]
        rw [nI_clamp (by omega)]
        first | rw [nar1] | rw [nar0]
        refine s_Mo_spread_182 rfl ?_
        rw [nI_1]
        refine s_Mo_spread_185 ?_
        refine ev_pick [0, 1, 2, 3, 4, 5, 6] rfl ?_
        exact ih (w + 1) _ (by omega) ee hh (by rw [mSw, if_pos (Or.inr c173)] at hP; exact hP)
set_option maxRecDepth 100000 in
set_option maxHeartbeats 2000000 in
theorem l_spr2 {G : GW} {r : Nat} {E : Nat → LV → List Value → HP → Nat → Nat → Prop} {L : LT} {F : Nat → Int32} {y n0 b0 : Int32} (hF : okP F) : ∀ (n p : Nat) (I : IT), p + n = 56 → I 1003 = F → ev G M_Mo_spread (rmv 2 0 0) E 194 [(4, .int (nI 56)), (3, .int y), (2, .int n0), (1, .int b0), (0, .ref 1000)] [] (hp L (mSp I p n) r) 0 0 → ev G M_Mo_spread (rmv 2 0 0) E 50 [(4, .int (nI p)), (3, .int y), (2, .int n0), (1, .int b0), (0, .ref 1000)] [] (hp L I r) 0 0 := by
  intro n
  induction n with
  | zero =>
    intro p I hpn h3 hP
    obtain rfl : p = 56 := by omega
    refine s_Mo_spread_50 rfl ?_
    refine s_Mo_spread_52 ?_
    refine s_Mo_spread_54 (fun _ => ?_) (fun c => absurd (by decide) c)
    exact hP
  | succ n ih =>
    intro p I hpn h3 hP
    refine s_Mo_spread_50 rfl ?_
    refine s_Mo_spread_52 ?_
    refine s_Mo_spread_54 (fun c54 => absurd c54 (nle_nI (n := 56) rfl (by omega) (by decide))) (fun c54 => ?_)
    refine s_Mo_spread_57 rfl ?_
    refine s_Mo_spread_59 ?_
    refine s_Mo_spread_61 (fun c61 => ?_) (fun c61 => ?_)
    · skip
      refine s_Mo_spread_77 ?_
      refine s_Mo_spread_78 ?_
      refine s_Mo_spread_82 ?_
      refine s_Mo_spread_84 rfl ?_
      refine s_Mo_spread_86 (fun c86 => absurd c86 (by decide)) (fun c86 => ?_)
      refine s_Mo_spread_89 rfl ?_
      refine s_Mo_spread_90 rfl ?_
      refine c_Mo_spread_92 (t_Mo_what rfl (by omega)) hp_1000 rfl (Nat.le_of_ble_eq_true rfl) ?_
      refine s_Mo_spread_95 ?_
      refine s_Mo_spread_96 (fun c96 => ?_) (fun c96 => ?_)
      · skip
        refine s_Mo_spread_109 ?_
        refine s_Mo_spread_110 ?_
        refine s_Mo_spread_114 ?_
        refine s_Mo_spread_116 rfl ?_
        refine s_Mo_spread_117 rfl ?_
        refine s_Mo_spread_119 ?_
        refine c_Mo_spread_120 (t_Mo_get rfl (by omega) (k := 1) rfl (by decide)) hp_1000 rfl (Nat.le_of_ble_eq_true rfl) ?_
        refine s_Mo_spread_123 ?_
        refine ev_pick [0, 1, 3, 4, 5, 6, 7] rfl ?_
        have hop : opn I p := ⟨Or.inl ((nI_ltI (a := p) (b := 8) (by omega) (by decide)).mp c61), Or.inl c96⟩
        obtain ⟨f, e, ef, ee, hfe, he⟩ := hF p (by omega) (by rw [← h3]; exact hop.2)
        rw [← h3] at ef ee
        rw [show gt I p 1 = nI f from ef]
        have e1 : mSw (mHas I p 1) I f (e - f) = mSp1 I p := by rw [mSp1, show gt I p 1 = nI f from ef, show gt I p 2 = nI e from ee, nI_clamp (by omega), nI_clamp (by omega)]
        refine l_spr1 (by omega) he (e - f) f I (by omega) ee rfl ?_
        rw [e1]
        refine s_Mo_spread_188 rfl ?_
        rw [nI_1]
        refine s_Mo_spread_191 ?_
        refine ev_pick [0, 3, 4, 5, 6] rfl ?_
        exact ih (p + 1) _ (by omega) ((mSw_o (by decide) (by decide) _ _ _).trans h3) (by rw [mSp, if_pos hop] at hP; exact hP)
      · skip
        refine s_Mo_spread_99 rfl ?_
        refine s_Mo_spread_100 rfl ?_
        refine c_Mo_spread_102 (t_Mo_what rfl (by omega)) hp_1000 rfl (Nat.le_of_ble_eq_true rfl) ?_
        refine s_Mo_spread_105 ?_
        refine s_Mo_spread_106 (fun c106 => ?_) (fun c106 => ?_)
        · skip
          refine s_Mo_spread_113 ?_
          refine s_Mo_spread_114 ?_
          refine s_Mo_spread_116 rfl ?_
          refine s_Mo_spread_117 rfl ?_
          refine s_Mo_spread_119 ?_
          refine c_Mo_spread_120 (t_Mo_get rfl (by omega) (k := 1) rfl (by decide)) hp_1000 rfl (Nat.le_of_ble_eq_true rfl) ?_
          refine s_Mo_spread_123 ?_
          refine s_Mo_spread_125 rfl ?_
          refine s_Mo_spread_127 (fun c127 => ?_) (fun c127 => absurd c127 (by decide))
          refine s_Mo_spread_188 rfl ?_
          rw [nI_1]
          refine s_Mo_spread_191 ?_
          refine ev_pick [0, 4, 5, 6, 7] rfl ?_
          exact ih (p + 1) _ (by omega) h3 (by rw [mSp, if_neg (show ¬ opn I p from fun h => h.2.elim c96 c106)] at hP; exact hP)
        · skip
          refine s_Mo_spread_109 ?_
          refine s_Mo_spread_110 ?_
          refine s_Mo_spread_114 ?_
          refine s_Mo_spread_116 rfl ?_
          refine s_Mo_spread_117 rfl ?_
          refine s_Mo_spread_119 ?_
          refine c_Mo_spread_120 (t_Mo_get rfl (by omega) (k := 1) rfl (by decide)) hp_1000 rfl (Nat.le_of_ble_eq_true rfl) ?_
          refine s_Mo_spread_123 ?_
          refine ev_pick [0, 1, 3, 4, 5, 6, 7] rfl ?_
          have hop : opn I p := ⟨Or.inl ((nI_ltI (a := p) (b := 8) (by omega) (by decide)).mp c61), Or.inr c106⟩
          obtain ⟨f, e, ef, ee, hfe, he⟩ := hF p (by omega) (by rw [← h3]; exact hop.2)
          rw [← h3] at ef ee
          rw [show gt I p 1 = nI f from ef]
          have e1 : mSw (mHas I p 1) I f (e - f) = mSp1 I p := by rw [mSp1, show gt I p 1 = nI f from ef, show gt I p 2 = nI e from ee, nI_clamp (by omega), nI_clamp (by omega)]
          refine l_spr1 (by omega) he (e - f) f I (by omega) ee rfl ?_
          rw [e1]
          refine s_Mo_spread_188 rfl ?_
          rw [nI_1]
          refine s_Mo_spread_191 ?_
          refine ev_pick [0, 3, 4, 5, 6] rfl ?_
          exact ih (p + 1) _ (by omega) ((mSw_o (by decide) (by decide) _ _ _).trans h3) (by rw [mSp, if_pos hop] at hP; exact hP)
    · skip
      have h8 : 8 ≤ p := Nat.le_of_not_lt (fun h => c61 ((nI_ltI (a := p) (b := 8) (by omega) (by decide)).mpr h))
      refine s_Mo_spread_64 rfl ?_
      refine s_Mo_spread_65 hp_1000 rfl ?_
      refine s_Mo_spread_68 rfl ?_
      refine s_Mo_spread_70 ?_
      refine s_Mo_spread_72 ?_
      rw [sb8 h8]
      refine s_Mo_spread_73 hp_1013 (vp_in_nI (by omega) (by decide)) ?_
      rw [nI_clamp (by omega)]
      refine s_Mo_spread_74 (fun c74 => ?_) (fun c74 => ?_)
      · skip
        refine s_Mo_spread_81 ?_
        refine s_Mo_spread_82 ?_
        refine s_Mo_spread_84 rfl ?_
        refine s_Mo_spread_86 (fun c86 => ?_) (fun c86 => absurd c86 (by decide))
        refine s_Mo_spread_113 ?_
        refine s_Mo_spread_114 ?_
        refine s_Mo_spread_116 rfl ?_
        refine s_Mo_spread_117 rfl ?_
        refine s_Mo_spread_119 ?_
        refine c_Mo_spread_120 (t_Mo_get rfl (by omega) (k := 1) rfl (by decide)) hp_1000 rfl (Nat.le_of_ble_eq_true rfl) ?_
        refine s_Mo_spread_123 ?_
        refine s_Mo_spread_125 rfl ?_
        refine s_Mo_spread_127 (fun c127 => ?_) (fun c127 => absurd c127 (by decide))
        refine s_Mo_spread_188 rfl ?_
        rw [nI_1]
        refine s_Mo_spread_191 ?_
        refine ev_pick [0, 4, 5, 6, 7] rfl ?_
        exact ih (p + 1) _ (by omega) h3 (by rw [mSp, if_neg (show ¬ opn I p from fun h => h.1.elim (fun h => c61 ((nI_ltI (a := p) (b := 8) (by omega) (by decide)).mpr h)) (fun h => h c74))] at hP; exact hP)
      · skip
        refine s_Mo_spread_77 ?_
        refine s_Mo_spread_78 ?_
        refine s_Mo_spread_82 ?_
        refine s_Mo_spread_84 rfl ?_
        refine s_Mo_spread_86 (fun c86 => absurd c86 (by decide)) (fun c86 => ?_)
        refine s_Mo_spread_89 rfl ?_
        refine s_Mo_spread_90 rfl ?_
        refine c_Mo_spread_92 (t_Mo_what rfl (by omega)) hp_1000 rfl (Nat.le_of_ble_eq_true rfl) ?_
        refine s_Mo_spread_95 ?_
        refine s_Mo_spread_96 (fun c96 => ?_) (fun c96 => ?_)
        · skip
          refine s_Mo_spread_109 ?_
          refine s_Mo_spread_110 ?_
          refine s_Mo_spread_114 ?_
          refine s_Mo_spread_116 rfl ?_
          refine s_Mo_spread_117 rfl ?_
          refine s_Mo_spread_119 ?_
          refine c_Mo_spread_120 (t_Mo_get rfl (by omega) (k := 1) rfl (by decide)) hp_1000 rfl (Nat.le_of_ble_eq_true rfl) ?_
          refine s_Mo_spread_123 ?_
          refine ev_pick [0, 1, 3, 4, 5, 6, 7] rfl ?_
          have hop : opn I p := ⟨Or.inr c74, Or.inl c96⟩
          obtain ⟨f, e, ef, ee, hfe, he⟩ := hF p (by omega) (by rw [← h3]; exact hop.2)
          rw [← h3] at ef ee
          rw [show gt I p 1 = nI f from ef]
          have e1 : mSw (mHas I p 1) I f (e - f) = mSp1 I p := by rw [mSp1, show gt I p 1 = nI f from ef, show gt I p 2 = nI e from ee, nI_clamp (by omega), nI_clamp (by omega)]
          refine l_spr1 (by omega) he (e - f) f I (by omega) ee rfl ?_
          rw [e1]
          refine s_Mo_spread_188 rfl ?_
          rw [nI_1]
          refine s_Mo_spread_191 ?_
          refine ev_pick [0, 3, 4, 5, 6] rfl ?_
          exact ih (p + 1) _ (by omega) ((mSw_o (by decide) (by decide) _ _ _).trans h3) (by rw [mSp, if_pos hop] at hP; exact hP)
        · skip
          refine s_Mo_spread_99 rfl ?_
          refine s_Mo_spread_100 rfl ?_
          refine c_Mo_spread_102 (t_Mo_what rfl (by omega)) hp_1000 rfl (Nat.le_of_ble_eq_true rfl) ?_
          refine s_Mo_spread_105 ?_
          refine s_Mo_spread_106 (fun c106 => ?_) (fun c106 => ?_)
          · skip
            refine s_Mo_spread_113 ?_
            refine s_Mo_spread_114 ?_
            refine s_Mo_spread_116 rfl ?_
            refine s_Mo_spread_117 rfl ?_
            refine s_Mo_spread_119 ?_
            refine c_Mo_spread_120 (t_Mo_get rfl (by omega) (k := 1) rfl (by decide)) hp_1000 rfl (Nat.le_of_ble_eq_true rfl) ?_
            refine s_Mo_spread_123 ?_
            refine s_Mo_spread_125 rfl ?_
            refine s_Mo_spread_127 (fun c127 => ?_) (fun c127 => absurd c127 (by decide))
            refine s_Mo_spread_188 rfl ?_
            rw [nI_1]
            refine s_Mo_spread_191 ?_
            refine ev_pick [0, 4, 5, 6, 7] rfl ?_
            exact ih (p + 1) _ (by omega) h3 (by rw [mSp, if_neg (show ¬ opn I p from fun h => h.2.elim c96 c106)] at hP; exact hP)
          · skip
            refine s_Mo_spread_109 ?_
            refine s_Mo_spread_110 ?_
            refine s_Mo_spread_114 ?_
            refine s_Mo_spread_116 rfl ?_
            refine s_Mo_spread_117 rfl ?_
            refine s_Mo_spread_119 ?_
            refine c_Mo_spread_120 (t_Mo_get rfl (by omega) (k := 1) rfl (by decide)) hp_1000 rfl (Nat.le_of_ble_eq_true rfl) ?_
            refine s_Mo_spread_123 ?_
            refine ev_pick [0, 1, 3, 4, 5, 6, 7] rfl ?_
            have hop : opn I p := ⟨Or.inr c74, Or.inr c106⟩
            obtain ⟨f, e, ef, ee, hfe, he⟩ := hF p (by omega) (by rw [← h3]; exact hop.2)
            rw [← h3] at ef ee
            rw [show gt I p 1 = nI f from ef]
            have e1 : mSw (mHas I p 1) I f (e - f) = mSp1 I p := by rw [mSp1, show gt I p 1 = nI f from ef, show gt I p 2 = nI e from ee, nI_clamp (by omega), nI_clamp (by omega)]
            refine l_spr1 (by omega) he (e - f) f I (by omega) ee rfl ?_
            rw [e1]
            refine s_Mo_spread_188 rfl ?_
            rw [nI_1]
            refine s_Mo_spread_191 ?_
            refine ev_pick [0, 3, 4, 5, 6] rfl ?_
            exact ih (p + 1) _ (by omega) ((mSw_o (by decide) (by decide) _ _ _).trans h3) (by rw [mSp, if_pos hop] at hP; exact hP)
set_option maxRecDepth 100000 in
set_option maxHeartbeats 2000000 in
theorem l_spr3 {G : GW} {I : IT} {r : Nat} {E : Nat → LV → List Value → HP → Nat → Nat → Prop} {L : LT} {y b0 : Int32} : ∀ (n j : Nat) (x : Int32), j + n = 48 → ev G M_Mo_spread (rmv 2 0 0) E 247 [(4, .int (nI 48)), (2, .int (mSn I x j n)), (3, .int y), (1, .int b0), (0, .ref 1000)] [] (hp L I r) 0 0 → ev G M_Mo_spread (rmv 2 0 0) E 199 [(4, .int (nI j)), (2, .int x), (3, .int y), (1, .int b0), (0, .ref 1000)] [] (hp L I r) 0 0 := by
  intro n
  induction n with
  | zero =>
    intro j x hj hP
    obtain rfl : j = 48 := by omega
    refine s_Mo_spread_199 rfl ?_
    refine s_Mo_spread_201 ?_
    refine s_Mo_spread_203 (fun _ => ?_) (fun c => absurd (by decide) c)
    exact hP
  | succ n ih =>
    intro j x hj hP
    refine s_Mo_spread_199 rfl ?_
    refine s_Mo_spread_201 ?_
    refine s_Mo_spread_203 (fun c203 => absurd c203 (nle_nI (n := 48) rfl (by omega) (by decide))) (fun c203 => ?_)
    refine s_Mo_spread_206 rfl ?_
    refine s_Mo_spread_207 hp_1000 rfl ?_
    refine s_Mo_spread_210 rfl ?_
    refine s_Mo_spread_212 hp_1012 (vp_in_nI (by omega) (by decide)) ?_
    rw [nI_clamp (by omega)]
    refine s_Mo_spread_213 (fun c213 => ?_) (fun c213 => ?_)
    · skip
      refine s_Mo_spread_222 rfl ?_
      refine s_Mo_spread_223 rfl ?_
      refine s_Mo_spread_224 hp_1000 rfl ?_
      refine s_Mo_spread_227 rfl ?_
      refine s_Mo_spread_229 hp_1013 (vp_in_nI (by omega) (by decide)) ?_
      rw [nI_clamp (by omega)]
      refine s_Mo_spread_230 (fun c230 => ?_) (fun c230 => ?_)
      · skip
        refine s_Mo_spread_238 ?_
        refine s_Mo_spread_239 ?_
        refine s_Mo_spread_240 ?_
        refine s_Mo_spread_241 rfl ?_
        rw [nI_1]
        refine s_Mo_spread_244 ?_
        refine ev_pick [0, 1, 2, 3, 4] rfl ?_
        exact ih (j + 1) _ (by omega) (by rw [mSn, if_pos c213, if_pos c230] at hP; exact hP)
      · skip
        refine s_Mo_spread_233 ?_
        refine s_Mo_spread_235 ?_
        refine s_Mo_spread_239 ?_
        refine s_Mo_spread_240 ?_
        refine s_Mo_spread_241 rfl ?_
        rw [nI_1]
        refine s_Mo_spread_244 ?_
        refine ev_pick [0, 1, 2, 3, 4] rfl ?_
        exact ih (j + 1) _ (by omega) (by rw [mSn, if_pos c213, if_neg c230] at hP; exact hP)
    · skip
      refine s_Mo_spread_216 rfl ?_
      refine s_Mo_spread_217 ?_
      refine s_Mo_spread_218 ?_
      refine s_Mo_spread_219 ?_
      refine s_Mo_spread_223 rfl ?_
      refine s_Mo_spread_224 hp_1000 rfl ?_
      refine s_Mo_spread_227 rfl ?_
      refine s_Mo_spread_229 hp_1013 (vp_in_nI (by omega) (by decide)) ?_
      rw [nI_clamp (by omega)]
      refine s_Mo_spread_230 (fun c230 => ?_) (fun c230 => ?_)
      · skip
        refine s_Mo_spread_238 ?_
        refine s_Mo_spread_239 ?_
        refine s_Mo_spread_240 ?_
        refine s_Mo_spread_241 rfl ?_
        rw [nI_1]
        refine s_Mo_spread_244 ?_
        refine ev_pick [0, 1, 2, 3, 4] rfl ?_
        exact ih (j + 1) _ (by omega) (by rw [mSn, if_neg c213, if_pos c230] at hP; exact hP)
      · skip
        refine s_Mo_spread_233 ?_
        refine s_Mo_spread_235 ?_
        refine s_Mo_spread_239 ?_
        refine s_Mo_spread_240 ?_
        refine s_Mo_spread_241 rfl ?_
        rw [nI_1]
        refine s_Mo_spread_244 ?_
        refine ev_pick [0, 1, 2, 3, 4] rfl ?_
        exact ih (j + 1) _ (by omega) (by rw [mSn, if_neg c213, if_neg c230] at hP; exact hP)
set_option maxRecDepth 100000 in
set_option maxHeartbeats 2000000 in
theorem l_spr4 {G : GW} {r : Nat} {P : Option Value → HP → Prop} {L : LT} {F : Nat → Int32} (hF : okP F) : ∀ (n y : Nat) (I : IT) (b x : Int32), y + n = 50 → I 1003 = F → P (some (.int ((mSr n I b x).2 - (mSr n I b x).2 / 100 * 100))) (hp L (mSr n I b x).1 r) → ev G M_Mo_spread (rmv 2 0 0) (Er M_Mo_spread P 0 0) 34 [(3, .int (nI y)), (2, .int x), (1, .int b), (0, .ref 1000)] [] (hp L I r) 0 0 := by
  intro n
  have last : ∀ (y : Nat) (I : IT) (b x : Int32), P (some (.int (x - x / 100 * 100))) (hp L I r) → ev G M_Mo_spread (rmv 2 0 0) (Er M_Mo_spread P 0 0) 253 [(3, .int (nI y)), (2, .int x), (1, .int b), (0, .ref 1000)] [] (hp L I r) 0 0 := by
    intro y I b x hP
    refine s_Mo_spread_253 rfl ?_
    refine s_Mo_spread_254 ?_
    refine s_Mo_spread_256 (by decide) ?_
    exact s_Mo_spread_257 hP z0
  induction n with
  | zero =>
    intro y I b x hy h3 hP
    obtain rfl : y = 50 := by omega
    refine s_Mo_spread_34 rfl ?_
    refine s_Mo_spread_35 ?_
    refine s_Mo_spread_37 (fun _ => ?_) (fun c => absurd (by decide) c)
    exact last 50 I b x hP
  | succ n ih =>
    intro y I b x hy h3 hP
    refine s_Mo_spread_34 rfl ?_
    refine s_Mo_spread_35 ?_
    refine s_Mo_spread_37 (fun c37 => absurd c37 (nle_nI (n := 50) rfl (by omega) (by decide))) (fun c37 => ?_)
    refine s_Mo_spread_40 rfl ?_
    refine s_Mo_spread_41 rfl ?_
    refine s_Mo_spread_42 (fun c42 => ?_) (fun c42 => ?_)
    · rw [mSr, if_pos c42] at hP
      exact last y I b x hP
    rw [mSr, if_neg c42] at hP
    refine s_Mo_spread_45 rfl ?_
    refine s_Mo_spread_46 ?_
    refine s_Mo_spread_47 ?_
    refine s_Mo_spread_48 ?_
    refine ev_pick [0, 2, 3, 1, 4] rfl ?_
    refine l_spr2 hF 56 0 I rfl h3 ?_
    refine s_Mo_spread_194 ?_
    refine s_Mo_spread_195 ?_
    refine s_Mo_spread_196 ?_
    refine s_Mo_spread_197 ?_
    refine ev_pick [0, 1, 2, 3, 4] rfl ?_
    refine l_spr3 48 0 0 rfl ?_
    refine s_Mo_spread_247 rfl ?_
    rw [nI_1]
    refine s_Mo_spread_250 ?_
    refine ev_pick [0, 2, 3, 4] rfl ?_
    exact ih (y + 1) _ _ _ (by omega) ((mSp_o (by decide) (by decide) _ _ _).trans h3) hP
set_option maxRecDepth 100000 in
theorem t_Mo_spread {G : GW} {L : LT} {I : IT} {r : Nat} (hF : okP (I 1003)) : mt G M_Mo_spread 2 0 0 [.ref 1000] (hp L I r) (dt (some (.int ((mSpr I).2 - (mSpr I).2 / 100 * 100))) (hp L (mSpr I).1 r)) := by
  refine mt_of_ev (by decide) (Nat.le_of_ble_eq_true rfl) ?_
  show ev G M_Mo_spread (rmv 2 0 0) (Er M_Mo_spread _ 0 0) 0 [(0, .ref 1000)] [] (hp L I r) 0 0
  refine s_Mo_spread_0 ?_
  refine s_Mo_spread_1 ?_
  refine ev_pick [0, 1] rfl ?_
  refine l_spr0 48 0 I rfl ?_
  refine s_Mo_spread_28 ?_
  refine s_Mo_spread_29 ?_
  refine s_Mo_spread_30 ?_
  refine s_Mo_spread_31 ?_
  refine s_Mo_spread_32 ?_
  refine s_Mo_spread_33 ?_
  refine ev_pick [0, 1, 2, 3] rfl ?_
  exact l_spr4 hF 50 0 _ (-1) 0 rfl (mSc_o (by decide) (by decide) _ _ _) ⟨rfl, rfl⟩
set_option maxRecDepth 100000 in
theorem t_Mo_reach {G : GW} {L : LT} {I : IT} {r : Nat} (hF : okP (I 1003)) : mt G M_Mo_reach 3 0 0 [.ref 1000] (hp L I r) (dt (some (.int ((mSpr I).2 - (mSpr I).2 / 100 * 100))) (hp L (mSpr I).1 r)) := by
  refine mt_of_ev (by decide) (Nat.le_of_ble_eq_true rfl) ?_
  show ev G M_Mo_reach (rmv 3 0 0) (Er M_Mo_reach _ 0 0) 0 [(0, .ref 1000)] [] (hp L I r) 0 0
  refine s_Mo_reach_0 rfl ?_
  refine c_Mo_reach_1 (t_Mo_spread hF) hp_1000 rfl (Nat.le_of_ble_eq_true rfl) ?_
  exact s_Mo_reach_4 ⟨by first | rfl | (simp [bz, *]; done) | (simp only [← Int32.not_le] at *; simp [bz, *]; done) | (simp only [Int32.not_lt, Int32.not_le] at *; simp [bz, *]; done) | (simp_all [bz]; done) | (simp only [bz_0, bz_n0, ← Int32.not_le] at *; simp_all [bz]; done), by first | rfl | (simp [*]; done) | (simp_all; done)⟩ z0
def mRcs (J : IT) (a : Int32) : Bool × IT := if inz a 0 47 = false then (false, J) else (!decide ((mSpr J).2 - (mSpr J).2 / 100 * 100 < 0) && !decide ((mSpr J).1 1012 a.toNatClampNeg = 0), (mSpr J).1)
set_option maxRecDepth 100000 in
theorem t_Mo_reaches {G : GW} {L : LT} {I : IT} {r : Nat} {a : Int32} (hF : okP (I 1003)) : mt G M_Mo_reaches 3 0 0 [.ref 1000, .int a] (hp L I r) (dt (some (.int (bz (mRcs I a).1))) (hp L (mRcs I a).2 r)) := by
  refine mt_of_ev (by decide) (Nat.le_of_ble_eq_true rfl) ?_
  show ev G M_Mo_reaches (rmv 3 0 0) (Er M_Mo_reaches _ 0 0) 0 [(0, .ref 1000), (1, .int a)] [] (hp L I r) 0 0
  refine s_Mo_reaches_0 rfl ?_
  refine s_Mo_reaches_1 ?_
  refine s_Mo_reaches_2 ?_
  refine c_Mo_reaches_4 (t_Mo_in) (Nat.le_of_ble_eq_true rfl) ?_
  refine s_Mo_reaches_7 (fun c7 => ?_) (fun c7 => ?_)
  · skip
    (first | rw [bz_n0] at c7 | rw [bz_0] at c7 | skip); (try simp only [Bool.not_eq_false', Bool.not_eq_true', decide_eq_true_eq, decide_eq_false_iff_not, Bool.or_eq_true, Bool.or_eq_false_iff, Bool.and_eq_true, Bool.and_eq_false_iff] at c7)
    refine s_Mo_reaches_30 ?_
    exact s_Mo_reaches_31 (by first | exact Or.inl rfl | exact Or.inr rfl | exact bz_or | assumption) ⟨by rw [mRcs, if_pos c7]; rfl, by rw [mRcs, if_pos c7]⟩ z0
  · skip
    (first | rw [bz_n0] at c7 | rw [bz_0] at c7 | skip); (try simp only [Bool.not_eq_false', Bool.not_eq_true', decide_eq_true_eq, decide_eq_false_iff_not, Bool.or_eq_true, Bool.or_eq_false_iff, Bool.and_eq_true, Bool.and_eq_false_iff] at c7)
    refine s_Mo_reaches_10 rfl ?_
    refine c_Mo_reaches_11 (t_Mo_spread hF) hp_1000 rfl (Nat.le_of_ble_eq_true rfl) ?_
    refine s_Mo_reaches_14 (fun c14 => ?_) (fun c14 => ?_)
    · skip
      refine s_Mo_reaches_30 ?_
      exact s_Mo_reaches_31 (by first | exact Or.inl rfl | exact Or.inr rfl | exact bz_or | assumption) ⟨by rw [mRcs, if_neg (by rw [c7]; decide)]; simp [bz, c14], by rw [mRcs, if_neg (by rw [c7]; decide)]⟩ z0
    · skip
      refine s_Mo_reaches_17 rfl ?_
      refine s_Mo_reaches_18 hp_1000 rfl ?_
      refine s_Mo_reaches_21 rfl ?_
      refine s_Mo_reaches_22 hp_1012 (inz_in (n := 47) rfl c7) ?_
      refine s_Mo_reaches_23 (fun c23 => ?_) (fun c23 => ?_)
      · skip
        refine s_Mo_reaches_30 ?_
        exact s_Mo_reaches_31 (by first | exact Or.inl rfl | exact Or.inr rfl | exact bz_or | assumption) ⟨by rw [mRcs, if_neg (by rw [c7]; decide)]; simp [bz, c14, c23], by rw [mRcs, if_neg (by rw [c7]; decide)]⟩ z0
      · skip
        refine s_Mo_reaches_26 ?_
        refine s_Mo_reaches_27 ?_
        exact s_Mo_reaches_31 (by first | exact Or.inl rfl | exact Or.inr rfl | exact bz_or | assumption) ⟨by rw [mRcs, if_neg (by rw [c7]; decide)]; simp [bz, c14, c23], by rw [mRcs, if_neg (by rw [c7]; decide)]⟩ z0
set_option maxRecDepth 100000 in
set_option maxHeartbeats 2000000 in
theorem l_cv1 {G : GW} {I : IT} {r : Nat} {P : Option Value → HP → Prop} {L : LT} {a q : Int32} : ∀ (n j : Nat) (x : Int32), j + n = 102 → ev G M_Mo_conserve (rmv 3 0 0) (Er M_Mo_conserve P 0 0) 60 [(4, .int (nI 102)), (3, .int (cn1 I a q x j n)), (2, .int q), (1, .int a), (0, .ref 1000)] [] (hp L I r) 0 0 → ev G M_Mo_conserve (rmv 3 0 0) (Er M_Mo_conserve P 0 0) 28 [(4, .int (nI j)), (3, .int x), (2, .int q), (1, .int a), (0, .ref 1000)] [] (hp L I r) 0 0 := by
  intro n
  induction n with
  | zero =>
    intro j x hj hP
    obtain rfl : j = 102 := by omega
    refine s_Mo_conserve_28 rfl ?_
    refine s_Mo_conserve_30 ?_
    refine s_Mo_conserve_32 (fun _ => ?_) (fun c => absurd (by decide) c)
    exact hP
  | succ n ih =>
    intro j x hj hP
    refine s_Mo_conserve_28 rfl ?_
    refine s_Mo_conserve_30 ?_
    refine s_Mo_conserve_32 (fun c32 => absurd c32 (nle_nI (n := 102) rfl (by omega) (by decide))) (fun c32 => ?_)
    refine s_Mo_conserve_35 rfl ?_
    refine s_Mo_conserve_36 rfl ?_
    refine s_Mo_conserve_38 rfl ?_
    refine s_Mo_conserve_39 rfl ?_
    refine c_Mo_conserve_40 (t_Mo_owns rfl (by omega)) hp_1000 rfl (Nat.le_of_ble_eq_true rfl) ?_
    refine s_Mo_conserve_43 (fun c43 => ?_) (fun c43 => ?_)
    · skip
      (first | rw [bz_n0] at c43 | rw [bz_0] at c43 | skip); (try simp only [Bool.not_eq_false', Bool.not_eq_true', decide_eq_true_eq, decide_eq_false_iff_not, Bool.or_eq_true, Bool.or_eq_false_iff, Bool.and_eq_true, Bool.and_eq_false_iff] at c43)
      refine s_Mo_conserve_52 rfl ?_
      refine s_Mo_conserve_53 ?_
      refine s_Mo_conserve_54 rfl ?_
      rw [nI_1]
      refine s_Mo_conserve_57 ?_
      refine ev_pick [0, 1, 2, 3, 4] rfl ?_
      exact ih (j + 1) _ (by omega) (by rw [cn1, if_neg (by rw [c43]; decide)] at hP; exact hP)
    · skip
      (first | rw [bz_n0] at c43 | rw [bz_0] at c43 | skip); (try simp only [Bool.not_eq_false', Bool.not_eq_true', decide_eq_true_eq, decide_eq_false_iff_not, Bool.or_eq_true, Bool.or_eq_false_iff, Bool.and_eq_true, Bool.and_eq_false_iff] at c43)
      refine s_Mo_conserve_46 rfl ?_
      refine s_Mo_conserve_47 ?_
      refine s_Mo_conserve_48 ?_
      refine s_Mo_conserve_49 ?_
      refine s_Mo_conserve_53 ?_
      refine s_Mo_conserve_54 rfl ?_
      rw [nI_1]
      refine s_Mo_conserve_57 ?_
      refine ev_pick [0, 1, 2, 3, 4] rfl ?_
      exact ih (j + 1) _ (by omega) (by rw [cn1, if_pos c43] at hP; exact hP)
set_option maxRecDepth 100000 in
set_option maxHeartbeats 2000000 in
theorem l_cv2 {G : GW} {I : IT} {r : Nat} {P : Option Value → HP → Prop} {L : LT} {a q : Int32} : ∀ (n j : Nat) (x : Int32), j + n = 6 → ev G M_Mo_conserve (rmv 3 0 0) (Er M_Mo_conserve P 0 0) 95 [(4, .int (nI 6)), (3, .int (cn2 I a q x j n)), (2, .int q), (1, .int a), (0, .ref 1000)] [] (hp L I r) 0 0 → ev G M_Mo_conserve (rmv 3 0 0) (Er M_Mo_conserve P 0 0) 63 [(4, .int (nI j)), (3, .int x), (2, .int q), (1, .int a), (0, .ref 1000)] [] (hp L I r) 0 0 := by
  intro n
  induction n with
  | zero =>
    intro j x hj hP
    obtain rfl : j = 6 := by omega
    refine s_Mo_conserve_63 rfl ?_
    refine s_Mo_conserve_65 ?_
    refine s_Mo_conserve_67 (fun _ => ?_) (fun c => absurd (by decide) c)
    exact hP
  | succ n ih =>
    intro j x hj hP
    refine s_Mo_conserve_63 rfl ?_
    refine s_Mo_conserve_65 ?_
    refine s_Mo_conserve_67 (fun c67 => absurd c67 (nle_nI (n := 6) rfl (by omega) (by decide))) (fun c67 => ?_)
    refine s_Mo_conserve_70 rfl ?_
    refine s_Mo_conserve_71 rfl ?_
    refine s_Mo_conserve_73 rfl ?_
    refine s_Mo_conserve_74 rfl ?_
    refine c_Mo_conserve_75 (t_Mo_cellOwns rfl (by omega)) hp_1000 rfl (Nat.le_of_ble_eq_true rfl) ?_
    refine s_Mo_conserve_78 (fun c78 => ?_) (fun c78 => ?_)
    · skip
      (first | rw [bz_n0] at c78 | rw [bz_0] at c78 | skip); (try simp only [Bool.not_eq_false', Bool.not_eq_true', decide_eq_true_eq, decide_eq_false_iff_not, Bool.or_eq_true, Bool.or_eq_false_iff, Bool.and_eq_true, Bool.and_eq_false_iff] at c78)
      refine s_Mo_conserve_87 rfl ?_
      refine s_Mo_conserve_88 ?_
      refine s_Mo_conserve_89 rfl ?_
      rw [nI_1]
      refine s_Mo_conserve_92 ?_
      refine ev_pick [0, 1, 2, 3, 4] rfl ?_
      exact ih (j + 1) _ (by omega) (by rw [cn2, if_neg (by rw [c78]; decide)] at hP; exact hP)
    · skip
      (first | rw [bz_n0] at c78 | rw [bz_0] at c78 | skip); (try simp only [Bool.not_eq_false', Bool.not_eq_true', decide_eq_true_eq, decide_eq_false_iff_not, Bool.or_eq_true, Bool.or_eq_false_iff, Bool.and_eq_true, Bool.and_eq_false_iff] at c78)
      refine s_Mo_conserve_81 rfl ?_
      refine s_Mo_conserve_82 ?_
      refine s_Mo_conserve_83 ?_
      refine s_Mo_conserve_84 ?_
      refine s_Mo_conserve_88 ?_
      refine s_Mo_conserve_89 rfl ?_
      rw [nI_1]
      refine s_Mo_conserve_92 ?_
      refine ev_pick [0, 1, 2, 3, 4] rfl ?_
      exact ih (j + 1) _ (by omega) (by rw [cn2, if_pos c78] at hP; exact hP)
set_option maxRecDepth 100000 in
set_option maxHeartbeats 2000000 in
theorem l_cv3 {G : GW} {I : IT} {r : Nat} {P : Option Value → HP → Prop} {L : LT} {a : Int32} : ∀ (n i : Nat), i + n = 4 → (cvr I a i n = true → ev G M_Mo_conserve (rmv 3 0 0) (Er M_Mo_conserve P 0 0) 111 [(1, .int a), (0, .ref 1000)] [] (hp L I r) 0 0) → (cvr I a i n = false → P (some (.int (1 + a))) (hp L I r)) → ev G M_Mo_conserve (rmv 3 0 0) (Er M_Mo_conserve P 0 0) 17 [(2, .int (nI (2 ^ i))), (1, .int a), (0, .ref 1000)] [] (hp L I r) 0 0 := by
  intro n
  induction n with
  | zero =>
    intro i hi h1 h2
    obtain rfl : i = 4 := by omega
    refine s_Mo_conserve_17 rfl ?_
    refine s_Mo_conserve_18 ?_
    refine s_Mo_conserve_20 (fun _ => ?_) (fun c => absurd (by decide) c)
    refine ev_pick [1, 2] rfl ?_
    exact h1 rfl
  | succ n ih =>
    intro i hi h1 h2
    refine s_Mo_conserve_17 rfl ?_
    refine s_Mo_conserve_18 ?_
    have hlt : 2 ^ i < 16 := by rcases (by omega : i = 0 ∨ i = 1 ∨ i = 2 ∨ i = 3) with rfl | rfl | rfl | rfl <;> decide
    refine s_Mo_conserve_20 (fun c20 => absurd c20 (nle_nI (n := 16) rfl hlt (by decide))) (fun c20 => ?_)
    refine s_Mo_conserve_23 ?_
    refine s_Mo_conserve_24 ?_
    refine s_Mo_conserve_25 ?_
    refine s_Mo_conserve_26 ?_
    refine ev_pick [0, 1, 2, 3, 4] rfl ?_
    refine l_cv1 102 0 0 rfl ?_
    refine s_Mo_conserve_60 ?_
    refine s_Mo_conserve_61 ?_
    refine ev_pick [0, 1, 2, 3, 4] rfl ?_
    refine l_cv2 6 0 _ rfl ?_
    refine s_Mo_conserve_95 rfl ?_
    refine s_Mo_conserve_96 ?_
    refine s_Mo_conserve_97 (fun c97 => ?_) (fun c97 => ?_) <;> rw [← cn3] at c97
    · refine s_Mo_conserve_104 ?_
      refine s_Mo_conserve_105 rfl ?_
      refine s_Mo_conserve_106 ?_
      rw [dbl]
      refine s_Mo_conserve_107 ?_
      refine s_Mo_conserve_108 ?_
      refine ev_pick [0, 3, 4] rfl ?_
      exact ih (i + 1) (by omega) (fun h => h1 (by rw [cvr, if_pos c97]; exact h)) (fun h => h2 (by rw [cvr, if_pos c97]; exact h))
    · refine s_Mo_conserve_100 ?_
      refine s_Mo_conserve_101 rfl ?_
      refine s_Mo_conserve_102 ?_
      exact s_Mo_conserve_103 (h2 (by rw [cvr, if_neg c97])) z0
set_option maxRecDepth 100000 in
set_option maxHeartbeats 2000000 in
theorem l_cv4 {G : GW} {I : IT} {r : Nat} {P : Option Value → HP → Prop} {L : LT} {c : Nat} : ∀ (n j : Nat) (x : Int32), j + n = 102 → ev G M_Mo_conserve (rmv 3 0 0) (Er M_Mo_conserve P 0 0) 168 [(3, .int (nI 102)), (2, .int (shc I c x j n)), (1, .int (nI c)), (0, .ref 1000)] [] (hp L I r) 0 0 → ev G M_Mo_conserve (rmv 3 0 0) (Er M_Mo_conserve P 0 0) 129 [(3, .int (nI j)), (2, .int x), (1, .int (nI c)), (0, .ref 1000)] [] (hp L I r) 0 0 := by
  intro n
  induction n with
  | zero =>
    intro j x hj hP
    obtain rfl : j = 102 := by omega
    refine s_Mo_conserve_129 rfl ?_
    refine s_Mo_conserve_130 ?_
    refine s_Mo_conserve_132 (fun _ => ?_) (fun c => absurd (by decide) c)
    exact hP
  | succ n ih =>
    intro j x hj hP
    refine s_Mo_conserve_129 rfl ?_
    refine s_Mo_conserve_130 ?_
    refine s_Mo_conserve_132 (fun c132 => absurd c132 (nle_nI (n := 102) rfl (by omega) (by decide))) (fun c132 => ?_)
    refine s_Mo_conserve_135 rfl ?_
    refine s_Mo_conserve_136 rfl ?_
    refine c_Mo_conserve_137 (t_Mo_what rfl (by omega)) hp_1000 rfl (Nat.le_of_ble_eq_true rfl) ?_
    refine s_Mo_conserve_140 ?_
    refine s_Mo_conserve_141 (fun c141 => ?_) (fun c141 => ?_)
    · skip
      refine s_Mo_conserve_160 rfl ?_
      refine s_Mo_conserve_161 ?_
      refine s_Mo_conserve_162 rfl ?_
      rw [nI_1]
      refine s_Mo_conserve_165 ?_
      refine ev_pick [0, 1, 2, 3] rfl ?_
      exact ih (j + 1) _ (by omega) (by rw [shc, if_neg (fun h => c141 h.1)] at hP; exact hP)
    · skip
      refine s_Mo_conserve_144 rfl ?_
      refine s_Mo_conserve_145 rfl ?_
      refine s_Mo_conserve_146 ?_
      refine c_Mo_conserve_147 (t_Mo_get rfl (by omega) (k := 4) rfl (by decide)) hp_1000 rfl (Nat.le_of_ble_eq_true rfl) ?_
      refine s_Mo_conserve_150 rfl ?_
      refine s_Mo_conserve_151 (fun c151 => ?_) (fun c151 => ?_)
      · skip
        refine s_Mo_conserve_160 rfl ?_
        refine s_Mo_conserve_161 ?_
        refine s_Mo_conserve_162 rfl ?_
        rw [nI_1]
        refine s_Mo_conserve_165 ?_
        refine ev_pick [0, 1, 2, 3] rfl ?_
        exact ih (j + 1) _ (by omega) (by rw [shc, if_neg (fun h => c151 h.2)] at hP; exact hP)
      · skip
        refine s_Mo_conserve_154 rfl ?_
        refine s_Mo_conserve_155 ?_
        refine s_Mo_conserve_156 ?_
        refine s_Mo_conserve_157 ?_
        refine s_Mo_conserve_161 ?_
        refine s_Mo_conserve_162 rfl ?_
        rw [nI_1]
        refine s_Mo_conserve_165 ?_
        refine ev_pick [0, 1, 2, 3] rfl ?_
        exact ih (j + 1) _ (by omega) (by rw [shc, if_pos ⟨c141, c151⟩] at hP; exact hP)
set_option maxRecDepth 100000 in
set_option maxHeartbeats 2000000 in
theorem l_cv5 {G : GW} {I : IT} {r : Nat} {P : Option Value → HP → Prop} {L : LT} : ∀ (n c : Nat), c + n = 6 → P (some (.int (cv2 I c n))) (hp L I r) → ev G M_Mo_conserve (rmv 3 0 0) (Er M_Mo_conserve P 0 0) 119 [(1, .int (nI c)), (0, .ref 1000)] [] (hp L I r) 0 0 := by
  intro n
  induction n with
  | zero =>
    intro c hc hP
    obtain rfl : c = 6 := by omega
    refine s_Mo_conserve_119 rfl ?_
    refine s_Mo_conserve_120 ?_
    refine s_Mo_conserve_122 (fun _ => ?_) (fun c => absurd (by decide) c)
    refine s_Mo_conserve_189 ?_
    exact s_Mo_conserve_190 hP z0
  | succ n ih =>
    intro c hc hP
    refine s_Mo_conserve_119 rfl ?_
    refine s_Mo_conserve_120 ?_
    refine s_Mo_conserve_122 (fun c122 => absurd c122 (nle_nI (n := 6) rfl (by omega) (by decide))) (fun _ => ?_)
    refine s_Mo_conserve_125 ?_
    refine s_Mo_conserve_126 ?_
    refine s_Mo_conserve_127 ?_
    refine s_Mo_conserve_128 ?_
    refine ev_pick [0, 1, 2, 3] rfl ?_
    refine l_cv4 102 0 0 rfl ?_
    refine s_Mo_conserve_168 rfl ?_
    refine s_Mo_conserve_169 rfl ?_
    refine s_Mo_conserve_170 hp_1000 rfl ?_
    refine s_Mo_conserve_173 rfl ?_
    refine s_Mo_conserve_174 hp_1004 (vp_in_nI (by omega) (by decide)) ?_
    rw [nI_clamp (by omega)]
    refine s_Mo_conserve_175 (fun c175 => ?_) (fun c175 => ?_)
    · refine s_Mo_conserve_183 rfl ?_
      rw [nI_1]
      refine s_Mo_conserve_186 ?_
      refine ev_pick [0, 3] rfl ?_
      exact ih (c + 1) (by omega) (by rw [cv2, if_pos c175] at hP; exact hP)
    · refine s_Mo_conserve_178 ?_
      refine s_Mo_conserve_180 rfl ?_
      refine s_Mo_conserve_181 ?_
      exact s_Mo_conserve_182 (by rw [cv2, if_neg c175] at hP; exact hP) z0
set_option maxRecDepth 100000 in
set_option maxHeartbeats 2000000 in
theorem l_cv6 {G : GW} {I : IT} {r : Nat} {P : Option Value → HP → Prop} {L : LT} (hb : ¬ I 1000 0 = 0) : ∀ (n a : Nat), a + n = 48 → P (some (.int (cv1 I a n))) (hp L I r) → ev G M_Mo_conserve (rmv 3 0 0) (Er M_Mo_conserve P 0 0) 2 [(1, .int (nI a)), (0, .ref 1000)] [] (hp L I r) 0 0 := by
  intro n
  induction n with
  | zero =>
    intro a ha hP
    obtain rfl : a = 48 := by omega
    refine s_Mo_conserve_2 rfl ?_
    refine s_Mo_conserve_3 ?_
    refine s_Mo_conserve_5 (fun _ => ?_) (fun c => absurd (by decide) c)
    refine s_Mo_conserve_117 ?_
    refine s_Mo_conserve_118 ?_
    refine ev_pick [0, 1] rfl ?_
    exact l_cv5 6 0 rfl hP
  | succ n ih =>
    intro a ha hP
    refine s_Mo_conserve_2 rfl ?_
    refine s_Mo_conserve_3 ?_
    refine s_Mo_conserve_5 (fun c5 => absurd c5 (nle_nI (n := 48) rfl (by omega) (by decide))) (fun _ => ?_)
    refine s_Mo_conserve_8 rfl ?_
    refine s_Mo_conserve_9 hp_1000 rfl ?_
    refine s_Mo_conserve_12 (fun c => absurd c hb) (fun _ => ?_)
    refine s_Mo_conserve_15 ?_
    refine s_Mo_conserve_16 ?_
    refine ev_pick [0, 1, 2] rfl ?_
    refine l_cv3 4 0 rfl (fun h => ?_) (fun h => by rw [cv1, if_neg (by rw [h]; decide)] at hP; exact hP)
    refine s_Mo_conserve_111 rfl ?_
    rw [nI_1]
    refine s_Mo_conserve_114 ?_
    refine ev_pick [0, 1] rfl ?_
    exact ih (a + 1) (by omega) (by rw [cv1, if_pos h] at hP; exact hP)
set_option maxRecDepth 100000 in
theorem t_Mo_conserve {G : GW} {L : LT} {I : IT} {r : Nat} (hb : ¬ I 1000 0 = 0) : mt G M_Mo_conserve 3 0 0 [.ref 1000] (hp L I r) (dt (some (.int (cv1 I 0 48))) (hp L I r)) := by
  refine mt_of_ev (by decide) (Nat.le_of_ble_eq_true rfl) ?_
  show ev G M_Mo_conserve (rmv 3 0 0) (Er M_Mo_conserve _ 0 0) 0 [(0, .ref 1000)] [] (hp L I r) 0 0
  refine s_Mo_conserve_0 ?_
  refine s_Mo_conserve_1 ?_
  refine ev_pick [0, 1] rfl ?_
  exact l_cv6 hb 48 0 rfl dt_i
set_option maxRecDepth 100000 in
theorem t_Mo_conserve0 {G : GW} {L : LT} {I : IT} {r : Nat} (hb : I 1000 0 = 0) : mt G M_Mo_conserve 3 0 0 [.ref 1000] (hp L I r) (dt (some (.int (cv2 I 0 6))) (hp L I r)) := by
  refine mt_of_ev (by decide) (Nat.le_of_ble_eq_true rfl) ?_
  show ev G M_Mo_conserve (rmv 3 0 0) (Er M_Mo_conserve _ 0 0) 0 [(0, .ref 1000)] [] (hp L I r) 0 0
  refine s_Mo_conserve_0 ?_
  refine s_Mo_conserve_1 ?_
  refine s_Mo_conserve_2 rfl ?_
  refine s_Mo_conserve_3 ?_
  refine s_Mo_conserve_5 (fun c5 => absurd c5 (by decide)) (fun c5 => ?_)
  refine s_Mo_conserve_8 rfl ?_
  refine s_Mo_conserve_9 hp_1000 rfl ?_
  refine s_Mo_conserve_12 (fun c12 => ?_) (fun c12 => absurd c12 (fun h => h hb))
  refine s_Mo_conserve_117 ?_
  refine s_Mo_conserve_118 ?_
  refine ev_pick [0, 1] rfl ?_
  exact l_cv5 6 0 rfl dt_i

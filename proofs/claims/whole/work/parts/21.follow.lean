/-! reach: follow, size, contains -/
theorem upI_b {I : IT} {a j b : Nat} {x : Int32} (h : b ≠ a) : upI I a j x b = I b := va_up_ne _ _ h
theorem upI_s {I : IT} {a j : Nat} {x : Int32} : upI I a j x a j = x := by simp [upI, va_up, upd]
theorem upI_j {I : IT} {a j i : Nat} {x : Int32} (h : i ≠ j) : upI I a j x a i = I a i := by simp [upI, va_up, upd, h]
theorem upI_at {I : IT} {a j i : Nat} {x : Int32} : upI I a j x a i = if i = j then x else I a i := by simp [upI, va_up, upd]
def clr : IT → Nat → Nat → IT
  | I, _, 0 => I
  | I, j, n + 1 => clr (upI (upI I 23 j 0) 24 j 0) (j + 1) n
def rgl (L : LT) : IT → Nat → Nat → IT
  | I, _, 0 => I
  | I, j, n + 1 => rgl L (mkV I (L 5 j)) (j + 1) n
def bfl (L : LT) : IT → Nat → Nat → IT
  | I, _, 0 => I
  | I, j, n + 1 => if I 22 4 ≤ nI j then I else bfl L (mkV I (L 5 (8 + (I 25 j).toNatClampNeg))) (j + 1) n
def flw (L : LT) (I : IT) : IT := bfl L (rgl L (upI (clr I 0 48) 22 4 0) 0 8) 0 48
def ctl (f : Nat → Int32) : Int32 → Nat → Nat → Int32
  | c, _, 0 => c
  | c, j, n + 1 => ctl f (c + (if f j = 0 then 0 else 1)) (j + 1) n
/-- the found words are words -/
def fnd2 (I : IT) : Prop := ∃ s : Nat, s ≤ 48 ∧ I 22 4 = nI s ∧ ∀ i, i < s → ∃ a, a < 48 ∧ I 25 i = nI a
theorem fnd2.one {I : IT} (h : fnd2 I) : fnd I := ⟨h.choose, h.choose_spec.1, h.choose_spec.2.1⟩
theorem mkl_fnd {hr : Bool} : ∀ (n j : Nat) (I : IT), j + n ≤ 48 → fnd2 I → fnd2 (mkl hr I j n)
  | 0, _, _, _, h => h
  | n + 1, j, I, hj, h => by
    rw [mkl]
    refine mkl_fnd n (j + 1) _ (by omega) ?_
    by_cases c : hr = true ∧ I 24 j = 0 ∧ ¬ 48 ≤ I 22 4
    · rw [if_pos c]
      obtain ⟨s, hs, e, hw⟩ := h
      have hlt : s < 48 := by
        rcases Nat.lt_or_ge s 48 with q | q
        · exact q
        · exact absurd (by rw [e, show s = 48 by omega]; decide) c.2.2
      refine ⟨s + 1, by omega, by rw [upI_s, e, nI_1], fun i hi => ?_⟩
      rw [upI_b (by decide), e, nI_clamp (by omega), upI_at]
      by_cases hi2 : i = s
      · rw [if_pos hi2]; exact ⟨j, by omega, rfl⟩
      · rw [if_neg hi2, upI_b (by decide), upI_b (by decide)]
        exact hw i (by omega)
    · rw [if_neg c]
      obtain ⟨s, hs, e, hw⟩ := h
      exact ⟨s, hs, by rw [upI_b (by decide)]; exact e, fun i hi => by rw [upI_b (by decide)]; exact hw i hi⟩
def zo (I : IT) : Prop := ∀ j, j < 48 → I 23 j = 0 ∨ I 23 j = 1
theorem mkl_zo {hr : Bool} : ∀ (n j : Nat) (I : IT), zo I → zo (mkl hr I j n)
  | 0, _, _, h => h
  | n + 1, j, I, h => by
    rw [mkl]
    refine mkl_zo n (j + 1) _ ?_
    have h1 : zo (upI I 23 j 1) := fun i hi => by
      rw [upI_at]
      split
      · exact Or.inr rfl
      · exact h i hi
    split
    · intro i hi
      rw [upI_b (by decide), upI_b (by decide), upI_b (by decide)]
      exact h1 i hi
    · exact h1
theorem vFr_nI (v : Int64) : vFr v = nI (vFr v).toNatClampNeg ∧ (vFr v).toNatClampNeg < 256 := by
  obtain ⟨j, hj, e⟩ := pk_andE (v.toInt32) (m := 255) 8 (by decide)
  have e' : vFr v = nI j := e
  rw [e', nI_clamp (by omega)]; exact ⟨rfl, hj⟩
theorem vEn_nI (v : Int64) : vEn v = nI (vEn v).toNatClampNeg ∧ (vEn v).toNatClampNeg < 256 := by
  obtain ⟨j, hj, e⟩ := pk_andE (((v.toUInt64 >>> ((8 : Int32).toInt64.toUInt64 &&& Int64.toUInt64 63)).toInt64).toInt32) (m := 255) 8 (by decide)
  have e' : vEn v = nI j := e
  rw [e', nI_clamp (by omega)]; exact ⟨rfl, hj⟩
/-- a capability's range is one -/
def rok (v : Int64) : Prop := vCap v = true → (vFr v).toNatClampNeg ≤ (vEn v).toNatClampNeg ∧ (vEn v).toNatClampNeg ≤ 48
theorem mkV_fnd {I : IT} {v : Int64} (hv : rok v) (h : fnd2 I) : fnd2 (mkV I v) := by
  unfold mkV
  split
  · rename_i c
    have := hv c
    exact mkl_fnd _ _ _ (by omega) h
  · exact h
theorem mkV_zo {I : IT} {v : Int64} (h : zo I) : zo (mkV I v) := by
  unfold mkV
  split
  · exact mkl_zo _ _ _ h
  · exact h
theorem clr_zo : ∀ (n j : Nat) (I : IT), (∀ i, i < j → I 23 i = 0) → ∀ i, i < j + n → clr I j n 23 i = 0
  | 0, j, I, h, i, hi => h i hi
  | n + 1, j, I, h, i, hi => by
    rw [clr]
    refine clr_zo n (j + 1) _ (fun k hk => ?_) i (by omega)
    rw [upI_b (by decide), upI_at]
    split
    · rfl
    · exact h k (by omega)
theorem rgl_ok {L : LT} (hL : ∀ p, p < 56 → rok (L 5 p)) : ∀ (n j : Nat) (I : IT), j + n ≤ 8 → fnd2 I → zo I → fnd2 (rgl L I j n) ∧ zo (rgl L I j n)
  | 0, _, _, _, h, z => ⟨h, z⟩
  | n + 1, j, I, hj, h, z => by
    rw [rgl]
    exact rgl_ok hL n (j + 1) _ (by omega) (mkV_fnd (hL j (by omega)) h) (mkV_zo z)
theorem fnd2_at {I : IT} {j : Nat} (hj : j < 2 ^ 31) (h : fnd2 I) (hc : ¬ I 22 4 ≤ nI j) : ∃ a, a < 48 ∧ I 25 j = nI a := by
  obtain ⟨s, hs, e, hw⟩ := h
  refine hw j ?_
  rcases Nat.lt_or_ge j s with q | q
  · exact q
  · exact absurd (by rw [e]; exact nI_le q hj) hc
theorem bfl_ok {L : LT} (hL : ∀ p, p < 56 → rok (L 5 p)) : ∀ (n j : Nat) (I : IT), j + n ≤ 48 → fnd2 I → zo I → zo (bfl L I j n)
  | 0, _, _, _, h, z => z
  | n + 1, j, I, hj, h, z => by
    rw [bfl]
    split
    · exact z
    · rename_i c
      obtain ⟨a, ha, e⟩ := fnd2_at (by omega) h c
      refine bfl_ok hL n (j + 1) _ (by omega) (mkV_fnd (hL _ ?_) h) (mkV_zo z)
      rw [e, nI_clamp (by omega)]; omega
set_option maxRecDepth 100000 in
set_option maxHeartbeats 2000000 in
theorem l_fol1 {G : GW} {r : Nat} {E : Nat → LV → List Value → HP → Nat → Nat → Prop} {L : LT} : ∀ (n j : Nat) (I : IT), j + n = 48 → ev G M_Re_follow (rmv 4 0 0) E 28 [(1, .int (nI 48)), (0, .ref 22)] [] (hp L (clr I j n) r) 0 0 → ev G M_Re_follow (rmv 4 0 0) E 2 [(1, .int (nI j)), (0, .ref 22)] [] (hp L I r) 0 0 := by
  intro n
  induction n with
  | zero =>
    intro j I hj hP
    obtain rfl : j = 48 := by omega
    refine s_Re_follow_2 rfl ?_
    refine s_Re_follow_3 ?_
    refine s_Re_follow_5 (fun _ => ?_) (fun c => absurd (by decide) c)
    exact hP
  | succ n ih =>
    intro j I hj hP
    refine s_Re_follow_2 rfl ?_
    refine s_Re_follow_3 ?_
    refine s_Re_follow_5 (fun c5 => absurd c5 (nle_nI (n := 48) rfl (by omega) (by decide))) (fun c5 => ?_)
    refine s_Re_follow_8 rfl ?_
    refine s_Re_follow_9 hp_22 rfl ?_
    refine s_Re_follow_12 rfl ?_
    refine s_Re_follow_13 ?_
    refine s_Re_follow_14 hp_23 (vp_in_nI (by omega) (by decide)) ?_
    rw [hu_23]
    rw [nI_clamp (by omega), nar0]
    refine s_Re_follow_15 rfl ?_
    refine s_Re_follow_16 hp_22 rfl ?_
    refine s_Re_follow_19 rfl ?_
    refine s_Re_follow_20 ?_
    refine s_Re_follow_21 hp_24 (vp_in_nI (by omega) (by decide)) ?_
    rw [hu_24]
    rw [nI_clamp (by omega), nar0]
    refine s_Re_follow_22 rfl ?_
    rw [nI_1]
    refine s_Re_follow_25 ?_
    refine ev_pick [0, 1] rfl ?_
    exact ih (j + 1) _ (by omega) hP
set_option maxRecDepth 100000 in
set_option maxHeartbeats 2000000 in
theorem l_fol2 {G : GW} {r : Nat} {E : Nat → LV → List Value → HP → Nat → Nat → Prop} {L : LT} (hL : ∀ p, p < 56 → rok (L 5 p)) : ∀ (n j : Nat) (I : IT), j + n = 8 → fnd2 I → ev G M_Re_follow (rmv 4 0 0) E 59 [(1, .int (nI 8)), (0, .ref 22)] [] (hp L (rgl L I j n) r) 0 0 → ev G M_Re_follow (rmv 4 0 0) E 35 [(1, .int (nI j)), (0, .ref 22)] [] (hp L I r) 0 0 := by
  intro n
  induction n with
  | zero =>
    intro j I hj hf hP
    obtain rfl : j = 8 := by omega
    refine s_Re_follow_35 rfl ?_
    refine s_Re_follow_36 ?_
    refine s_Re_follow_38 (fun _ => ?_) (fun c => absurd (by decide) c)
    exact hP
  | succ n ih =>
    intro j I hj hf hP
    refine s_Re_follow_35 rfl ?_
    refine s_Re_follow_36 ?_
    refine s_Re_follow_38 (fun c38 => absurd c38 (nle_nI (n := 8) rfl (by omega) (by decide))) (fun c38 => ?_)
    refine s_Re_follow_41 rfl ?_
    refine s_Re_follow_42 rfl ?_
    refine s_Re_follow_43 hp_22 rfl ?_
    refine s_Re_follow_46 rfl ?_
    refine c_Re_follow_47 (t_St_held rfl (by omega)) hp_4 rfl (Nat.le_of_ble_eq_true rfl) ?_
    refine c_Re_follow_50 (t_Re_mark (vFr_nI _).1 (vEn_nI _).1 (hL _ (by omega)) hf.one) hp_22 rfl (Nat.le_of_ble_eq_true rfl) ?_
    refine s_Re_follow_53 rfl ?_
    rw [nI_1]
    refine s_Re_follow_56 ?_
    refine ev_pick [0, 1] rfl ?_
    exact ih (j + 1) _ (by omega) (mkV_fnd (hL _ (by omega)) hf) hP
set_option maxRecDepth 100000 in
set_option maxHeartbeats 2000000 in
theorem l_fol3 {G : GW} {r : Nat} {L : LT} {P : Option Value → HP → Prop} (hL : ∀ p, p < 56 → rok (L 5 p)) : ∀ (n j : Nat) (I : IT), j + n = 48 → fnd2 I → P none (hp L (bfl L I j n) r) → ev G M_Re_follow (rmv 4 0 0) (Er M_Re_follow P 0 0) 61 [(1, .int (nI j)), (0, .ref 22)] [] (hp L I r) 0 0 := by
  intro n
  induction n with
  | zero =>
    intro j I hj hf hP
    obtain rfl : j = 48 := by omega
    refine s_Re_follow_61 rfl ?_
    refine s_Re_follow_62 rfl ?_
    refine s_Re_follow_63 hp_22 rfl ?_
    refine s_Re_follow_66 (fun _ => ?_) (fun _ => ?_)
    · exact s_Re_follow_101 hP z0
    · refine s_Re_follow_69 rfl ?_
      refine s_Re_follow_70 ?_
      refine s_Re_follow_72 (fun _ => ?_) (fun c => absurd (by decide) c)
      exact s_Re_follow_101 hP z0
  | succ n ih =>
    intro j I hj hf hP
    refine s_Re_follow_61 rfl ?_
    refine s_Re_follow_62 rfl ?_
    refine s_Re_follow_63 hp_22 rfl ?_
    refine s_Re_follow_66 (fun c66 => ?_) (fun c66 => ?_)
    · skip
      exact s_Re_follow_101 (by rw [bfl, if_pos c66] at hP; exact hP) z0
    · skip
      refine s_Re_follow_69 rfl ?_
      refine s_Re_follow_70 ?_
      refine s_Re_follow_72 (fun c72 => absurd c72 (nle_nI (n := 48) rfl (by omega) (by decide))) (fun c72 => ?_)
      obtain ⟨w, hw, ew⟩ := fnd2_at (by omega) hf c66
      have ew2 : (I 25 j).toNatClampNeg = w := by rw [ew, nI_clamp (by omega)]
      refine s_Re_follow_75 rfl ?_
      refine s_Re_follow_76 rfl ?_
      refine s_Re_follow_77 hp_22 rfl ?_
      refine s_Re_follow_80 ?_
      refine s_Re_follow_82 rfl ?_
      refine s_Re_follow_83 hp_22 rfl ?_
      refine s_Re_follow_86 rfl ?_
      refine s_Re_follow_87 hp_25 (vp_in_nI (by omega) (by decide)) ?_
      rw [nI_clamp (by omega), ew]
      refine s_Re_follow_88 ?_
      refine c_Re_follow_89 (t_St_held (show (8 : Int32) + nI w = nI (8 + w) from nI_add 8 w) (by omega)) hp_4 rfl (Nat.le_of_ble_eq_true rfl) ?_
      refine c_Re_follow_92 (t_Re_mark (vFr_nI _).1 (vEn_nI _).1 (hL _ (by omega)) hf.one) hp_22 rfl (Nat.le_of_ble_eq_true rfl) ?_
      refine s_Re_follow_95 rfl ?_
      rw [nI_1]
      refine s_Re_follow_98 ?_
      refine ev_pick [0, 1] rfl ?_
      exact ih (j + 1) _ (by omega) (mkV_fnd (hL _ (by omega)) hf) (by rw [bfl, if_neg c66, ew2] at hP; exact hP)
set_option maxRecDepth 100000 in
theorem t_Re_follow {G : GW} {L : LT} {I : IT} {r : Nat} (hL : ∀ p, p < 56 → rok (L 5 p)) : mt G M_Re_follow 4 0 0 [.ref 22] (hp L I r) (dt (none) (hp L (flw L I) r)) := by
  refine mt_of_ev (by decide) (Nat.le_of_ble_eq_true rfl) ?_
  show ev G M_Re_follow (rmv 4 0 0) (Er M_Re_follow _ 0 0) 0 [(0, .ref 22)] [] (hp L I r) 0 0
  refine s_Re_follow_0 ?_
  refine s_Re_follow_1 ?_
  refine ev_pick [0, 1] rfl ?_
  refine l_fol1 48 0 I rfl ?_
  have F2 : fnd2 (upI (clr I 0 48) 22 4 0) := ⟨0, by decide, upI_s, fun i hi => absurd hi (Nat.not_lt_zero i)⟩
  have Z2 : zo (upI (clr I 0 48) 22 4 0) := fun i hi => Or.inl (by rw [upI_b (by decide)]; exact clr_zo 48 0 I (fun k hk => absurd hk (Nat.not_lt_zero k)) i (by omega))
  refine s_Re_follow_28 rfl ?_
  refine s_Re_follow_29 ?_
  refine s_Re_follow_30 hp_22 (Nat.le_of_ble_eq_true rfl) ?_
  rw [hu_22_4]
  refine s_Re_follow_33 ?_
  refine s_Re_follow_34 ?_
  refine ev_pick [0, 1] rfl ?_
  refine l_fol2 hL 8 0 _ rfl F2 ?_
  refine s_Re_follow_59 ?_
  refine s_Re_follow_60 ?_
  refine ev_pick [0, 1] rfl ?_
  exact l_fol3 hL 48 0 _ rfl (rgl_ok hL 8 0 _ (by decide) F2 Z2).1 dt_i
theorem flw_zo {L : LT} {I : IT} (hL : ∀ p, p < 56 → rok (L 5 p)) : zo (flw L I) := by
  have F2 : fnd2 (upI (clr I 0 48) 22 4 0) := ⟨0, by decide, upI_s, fun i hi => absurd hi (Nat.not_lt_zero i)⟩
  have Z2 : zo (upI (clr I 0 48) 22 4 0) := fun i hi => Or.inl (by rw [upI_b (by decide)]; exact clr_zo 48 0 I (fun k hk => absurd hk (Nat.not_lt_zero k)) i (by omega))
  have h := rgl_ok hL 8 0 _ (by decide) F2 Z2
  exact bfl_ok hL 48 0 _ (by decide) h.1 h.2
set_option maxRecDepth 100000 in
set_option maxHeartbeats 2000000 in
theorem l_size {G : GW} {I : IT} {r : Nat} {L : LT} {P : Option Value → HP → Prop} : ∀ (n j : Nat) (c : Int32), j + n = 48 → P (some (.int (ctl (I 23) c j n))) (hp L I r) → ev G M_Re_size (rmv 5 0 0) (Er M_Re_size P 0 0) 8 [(2, .int (nI j)), (1, .int c), (0, .ref 22)] [] (hp L I r) 0 0 := by
  intro n
  induction n with
  | zero =>
    intro j c hj hP
    obtain rfl : j = 48 := by omega
    refine s_Re_size_8 rfl ?_
    refine s_Re_size_9 ?_
    refine s_Re_size_11 (fun _ => ?_) (fun c => absurd (by decide) c)
    refine s_Re_size_37 rfl ?_
    exact s_Re_size_38 hP z0
  | succ n ih =>
    intro j c hj hP
    refine s_Re_size_8 rfl ?_
    refine s_Re_size_9 ?_
    refine s_Re_size_11 (fun c11 => absurd c11 (nle_nI (n := 48) rfl (by omega) (by decide))) (fun c11 => ?_)
    refine s_Re_size_14 rfl ?_
    refine s_Re_size_15 rfl ?_
    refine s_Re_size_16 hp_22 rfl ?_
    refine s_Re_size_19 rfl ?_
    refine s_Re_size_20 hp_23 (vp_in_nI (by omega) (by decide)) ?_
    rw [nI_clamp (by omega)]
    refine s_Re_size_21 (fun c21 => ?_) (fun c21 => ?_)
    · skip
      refine s_Re_size_28 ?_
      refine s_Re_size_29 ?_
      refine s_Re_size_30 ?_
      refine s_Re_size_31 rfl ?_
      rw [nI_1]
      refine s_Re_size_34 ?_
      refine ev_pick [0, 1, 2] rfl ?_
      exact ih (j + 1) _ (by omega) (by rw [ctl, if_pos c21] at hP; exact hP)
    · skip
      refine s_Re_size_24 ?_
      refine s_Re_size_25 ?_
      refine s_Re_size_29 ?_
      refine s_Re_size_30 ?_
      refine s_Re_size_31 rfl ?_
      rw [nI_1]
      refine s_Re_size_34 ?_
      refine ev_pick [0, 1, 2] rfl ?_
      exact ih (j + 1) _ (by omega) (by rw [ctl, if_neg c21] at hP; exact hP)
set_option maxRecDepth 100000 in
theorem t_Re_size {G : GW} {L : LT} {I : IT} {r : Nat} (hL : ∀ p, p < 56 → rok (L 5 p)) : mt G M_Re_size 5 0 0 [.ref 22] (hp L I r) (dt (some (.int (ctl (flw L I 23) 0 0 48))) (hp L (flw L I) r)) := by
  refine mt_of_ev (by decide) (Nat.le_of_ble_eq_true rfl) ?_
  show ev G M_Re_size (rmv 5 0 0) (Er M_Re_size _ 0 0) 0 [(0, .ref 22)] [] (hp L I r) 0 0
  refine s_Re_size_0 rfl ?_
  refine c_Re_size_1 (t_Re_follow hL) hp_22 rfl (Nat.le_of_ble_eq_true rfl) ?_
  refine s_Re_size_4 ?_
  refine s_Re_size_5 ?_
  refine s_Re_size_6 ?_
  refine s_Re_size_7 ?_
  refine ev_pick [0, 1, 2] rfl ?_
  exact l_size 48 0 0 rfl dt_i
def uRcs (L : LT) (I : IT) (a : Int32) : Int32 × IT := if a < 0 ∨ ¬ a < 48 then (0, I) else (flw L I 23 a.toNatClampNeg, flw L I)
set_option maxRecDepth 100000 in
theorem t_Re_contains {G : GW} {L : LT} {I : IT} {r : Nat} {a : Int32} (hL : ∀ p, p < 56 → rok (L 5 p)) : mt G M_Re_contains 5 0 0 [.ref 22, .int a] (hp L I r) (dt (some (.int (uRcs L I a).1)) (hp L (uRcs L I a).2 r)) := by
  refine mt_of_ev (by decide) (Nat.le_of_ble_eq_true rfl) ?_
  show ev G M_Re_contains (rmv 5 0 0) (Er M_Re_contains _ 0 0) 0 [(0, .ref 22), (1, .int a)] [] (hp L I r) 0 0
  refine s_Re_contains_0 rfl ?_
  refine s_Re_contains_1 (fun c1 => ?_) (fun c1 => ?_)
  · skip
    refine s_Re_contains_10 ?_
    exact s_Re_contains_11 (by first | exact Or.inl rfl | exact Or.inr rfl | exact bz_or | assumption) ⟨by rw [uRcs, if_pos (by first | exact Or.inl c1 | exact Or.inr c7)], by rw [uRcs, if_pos (by first | exact Or.inl c1 | exact Or.inr c7)]⟩ z0
  · skip
    refine s_Re_contains_4 rfl ?_
    refine s_Re_contains_5 ?_
    refine s_Re_contains_7 (fun c7 => ?_) (fun c7 => ?_)
    · skip
      have hv := vin (n := 48) rfl c1 (Int32.not_le.mpr c7)
      have hz : flw L I 23 a.toNatClampNeg = 0 ∨ flw L I 23 a.toNatClampNeg = 1 := flw_zo hL _ (Nat.not_le.mp fun q => hv (Or.inr q))
      refine s_Re_contains_12 rfl ?_
      refine c_Re_contains_13 (t_Re_follow hL) hp_22 rfl (Nat.le_of_ble_eq_true rfl) ?_
      refine s_Re_contains_16 rfl ?_
      refine s_Re_contains_17 hp_22 rfl ?_
      refine s_Re_contains_20 rfl ?_
      refine s_Re_contains_21 hp_23 hv ?_
      exact s_Re_contains_22 (by first | exact Or.inl rfl | exact Or.inr rfl | exact bz_or | assumption) ⟨by rw [uRcs, if_neg (fun h => h.elim c1 (fun h => h c7))], by rw [uRcs, if_neg (fun h => h.elim c1 (fun h => h c7))]⟩ z0
    · skip
      refine s_Re_contains_10 ?_
      exact s_Re_contains_11 (by first | exact Or.inl rfl | exact Or.inr rfl | exact bz_or | assumption) ⟨by rw [uRcs, if_pos (by first | exact Or.inl c1 | exact Or.inr c7)], by rw [uRcs, if_pos (by first | exact Or.inl c1 | exact Or.inr c7)]⟩ z0
set_option maxRecDepth 100000 in
theorem t_Um_reach {G : GW} {L : LT} {I : IT} {r : Nat} (hL : ∀ p, p < 56 → rok (L 5 p)) : mt G M_Um_reach 6 0 0 [.ref 0] (hp L I r) (dt (some (.int (ctl (flw L I 23) 0 0 48))) (hp L (flw L I) r)) := by
  refine mt_of_ev (by decide) (Nat.le_of_ble_eq_true rfl) ?_
  show ev G M_Um_reach (rmv 6 0 0) (Er M_Um_reach _ 0 0) 0 [(0, .ref 0)] [] (hp L I r) 0 0
  refine s_Um_reach_0 rfl ?_
  refine s_Um_reach_1 hp_0 rfl ?_
  refine c_Um_reach_4 (t_Re_size hL) hp_22 rfl (Nat.le_of_ble_eq_true rfl) ?_
  exact s_Um_reach_7 ⟨by first | rfl | (simp [bz, *]; done) | (simp only [← Int32.not_le] at *; simp [bz, *]; done) | (simp only [Int32.not_lt, Int32.not_le] at *; simp [bz, *]; done) | (simp_all [bz]; done) | (simp only [bz_0, bz_n0, ← Int32.not_le] at *; simp_all [bz]; done), by first | rfl | (simp [*]; done) | (simp_all; done)⟩ z0
set_option maxRecDepth 100000 in
theorem t_Um_reaches {G : GW} {L : LT} {I : IT} {r : Nat} {a : Int32} (hL : ∀ p, p < 56 → rok (L 5 p)) : mt G M_Um_reaches 6 0 0 [.ref 0, .int a] (hp L I r) (dt (some (.int (uRcs L I a).1)) (hp L (uRcs L I a).2 r)) := by
  refine mt_of_ev (by decide) (Nat.le_of_ble_eq_true rfl) ?_
  show ev G M_Um_reaches (rmv 6 0 0) (Er M_Um_reaches _ 0 0) 0 [(0, .ref 0), (1, .int a)] [] (hp L I r) 0 0
  have hz : (uRcs L I a).1 = 0 ∨ (uRcs L I a).1 = 1 := by
    unfold uRcs
    split
    · exact Or.inl rfl
    · rename_i h
      have hv := vin (n := 48) rfl (fun q => h (Or.inl q)) (Int32.not_le.mpr (Classical.not_not.mp (fun q => h (Or.inr q))))
      exact flw_zo hL _ (Nat.not_le.mp fun q => hv (Or.inr q))
  refine s_Um_reaches_0 rfl ?_
  refine s_Um_reaches_1 hp_0 rfl ?_
  refine s_Um_reaches_4 rfl ?_
  refine c_Um_reaches_5 (t_Re_contains hL) hp_22 rfl (Nat.le_of_ble_eq_true rfl) ?_
  exact s_Um_reaches_8 (by first | exact Or.inl rfl | exact Or.inr rfl | exact bz_or | assumption) ⟨by first | rfl | (simp [bz, *]; done) | (simp only [← Int32.not_le] at *; simp [bz, *]; done) | (simp only [Int32.not_lt, Int32.not_le] at *; simp [bz, *]; done) | (simp_all [bz]; done) | (simp only [bz_0, bz_n0, ← Int32.not_le] at *; simp_all [bz]; done), by first | rfl | (simp [*]; done) | (simp_all; done)⟩ z0

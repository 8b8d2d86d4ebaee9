/-! owner: the least; reach -/
def oNb (j : Nat) : Int32 := if j < 8 then nI j else if j < 56 then 100 + nI j - 8 else if j < 96 then 200 + 10 * ((nI j - 56) / 8) + ((nI j - 56) - (nI j - 56) / 8 * 8) else 300 + nI j - 96
def cov (v : Int64) (a : Int32) : Bool := vCap v && (decide (vFr v ≤ a) && decide (a < vEn v))
def lst (L : LT) (a q : Int32) : Int32 → Nat → Nat → Int32
  | c, _, 0 => if 6 ≤ c then -1 else 400 + c
  | c, j, n + 1 => if cov (L 5 j) a = true ∧ vHas (L 5 j) q = true then (if vKd (L 5 j) = 1 then oNb j else lst L a q (if vLk (L 5 j) < c then vLk (L 5 j) else c) (j + 1) n) else lst L a q c (j + 1) n
set_option maxRecDepth 100000 in
theorem t_Ow_ownerNumber {G : GW} {L : LT} {I : IT} {r : Nat} {p : Int32} {j : Nat} (ep : p = nI j) (hj : j < 102) : mt G M_Ow_ownerNumber 0 0 0 [.int p] (hp L I r) (dt (some (.int (oNb j))) (hp L I r)) := by
  refine mt_of_ev (by decide) (Nat.le_of_ble_eq_true rfl) ?_
  show ev G M_Ow_ownerNumber (rmv 0 0 0) (Er M_Ow_ownerNumber _ 0 0) 0 [(0, .int p)] [] (hp L I r) 0 0
  subst ep
  refine s_Ow_ownerNumber_0 rfl ?_
  refine s_Ow_ownerNumber_1 ?_
  refine s_Ow_ownerNumber_3 (fun c3 => ?_) (fun c3 => ?_)
  · skip
    refine s_Ow_ownerNumber_8 rfl ?_
    refine s_Ow_ownerNumber_9 ?_
    refine s_Ow_ownerNumber_11 (fun c11 => ?_) (fun c11 => ?_)
    · skip
      refine s_Ow_ownerNumber_22 rfl ?_
      refine s_Ow_ownerNumber_23 ?_
      refine s_Ow_ownerNumber_25 (fun c25 => ?_) (fun c25 => ?_)
      · skip
        refine s_Ow_ownerNumber_50 ?_
        refine s_Ow_ownerNumber_53 rfl ?_
        refine s_Ow_ownerNumber_54 ?_
        refine s_Ow_ownerNumber_55 ?_
        refine s_Ow_ownerNumber_57 ?_
        exact s_Ow_ownerNumber_58 ⟨by simp only [show (8 : Int32) = nI 8 from rfl, show (56 : Int32) = nI 56 from rfl, show (96 : Int32) = nI 96 from rfl, nI_leI (show 8 < 2 ^ 31 by decide) (show j < 2 ^ 31 by omega), nI_leI (show 56 < 2 ^ 31 by decide) (show j < 2 ^ 31 by omega), nI_leI (show 96 < 2 ^ 31 by decide) (show j < 2 ^ 31 by omega)] at *; unfold oNb; first | (rw [if_pos (by omega)]; done) | (rw [if_neg (by omega), if_pos (by omega)]; rfl) | (rw [if_neg (by omega), if_neg (by omega), if_pos (by omega)]; rfl) | (rw [if_neg (by omega), if_neg (by omega), if_neg (by omega)]; rfl), rfl⟩ z0
      · skip
        refine s_Ow_ownerNumber_28 rfl ?_
        refine s_Ow_ownerNumber_29 ?_
        refine s_Ow_ownerNumber_31 ?_
        refine s_Ow_ownerNumber_32 ?_
        refine s_Ow_ownerNumber_33 ?_
        refine s_Ow_ownerNumber_36 ?_
        refine s_Ow_ownerNumber_38 rfl ?_
        refine s_Ow_ownerNumber_39 ?_
        refine s_Ow_ownerNumber_41 (by decide) ?_
        refine s_Ow_ownerNumber_42 ?_
        refine s_Ow_ownerNumber_43 ?_
        refine s_Ow_ownerNumber_44 rfl ?_
        refine s_Ow_ownerNumber_45 ?_
        refine s_Ow_ownerNumber_47 (by decide) ?_
        refine s_Ow_ownerNumber_48 ?_
        exact s_Ow_ownerNumber_49 ⟨by simp only [show (8 : Int32) = nI 8 from rfl, show (56 : Int32) = nI 56 from rfl, show (96 : Int32) = nI 96 from rfl, nI_leI (show 8 < 2 ^ 31 by decide) (show j < 2 ^ 31 by omega), nI_leI (show 56 < 2 ^ 31 by decide) (show j < 2 ^ 31 by omega), nI_leI (show 96 < 2 ^ 31 by decide) (show j < 2 ^ 31 by omega)] at *; unfold oNb; first | (rw [if_pos (by omega)]; done) | (rw [if_neg (by omega), if_pos (by omega)]; rfl) | (rw [if_neg (by omega), if_neg (by omega), if_pos (by omega)]; rfl) | (rw [if_neg (by omega), if_neg (by omega), if_neg (by omega)]; rfl), rfl⟩ z0
    · skip
      refine s_Ow_ownerNumber_14 ?_
      refine s_Ow_ownerNumber_16 rfl ?_
      refine s_Ow_ownerNumber_17 ?_
      refine s_Ow_ownerNumber_18 ?_
      refine s_Ow_ownerNumber_20 ?_
      exact s_Ow_ownerNumber_21 ⟨by simp only [show (8 : Int32) = nI 8 from rfl, show (56 : Int32) = nI 56 from rfl, show (96 : Int32) = nI 96 from rfl, nI_leI (show 8 < 2 ^ 31 by decide) (show j < 2 ^ 31 by omega), nI_leI (show 56 < 2 ^ 31 by decide) (show j < 2 ^ 31 by omega), nI_leI (show 96 < 2 ^ 31 by decide) (show j < 2 ^ 31 by omega)] at *; unfold oNb; first | (rw [if_pos (by omega)]; done) | (rw [if_neg (by omega), if_pos (by omega)]; rfl) | (rw [if_neg (by omega), if_neg (by omega), if_pos (by omega)]; rfl) | (rw [if_neg (by omega), if_neg (by omega), if_neg (by omega)]; rfl), rfl⟩ z0
  · skip
    refine s_Ow_ownerNumber_6 rfl ?_
    exact s_Ow_ownerNumber_7 ⟨by simp only [show (8 : Int32) = nI 8 from rfl, show (56 : Int32) = nI 56 from rfl, show (96 : Int32) = nI 96 from rfl, nI_leI (show 8 < 2 ^ 31 by decide) (show j < 2 ^ 31 by omega), nI_leI (show 56 < 2 ^ 31 by decide) (show j < 2 ^ 31 by omega), nI_leI (show 96 < 2 ^ 31 by decide) (show j < 2 ^ 31 by omega)] at *; unfold oNb; first | (rw [if_pos (by omega)]; done) | (rw [if_neg (by omega), if_pos (by omega)]; rfl) | (rw [if_neg (by omega), if_neg (by omega), if_pos (by omega)]; rfl) | (rw [if_neg (by omega), if_neg (by omega), if_neg (by omega)]; rfl), rfl⟩ z0
set_option maxRecDepth 100000 in
set_option maxHeartbeats 2000000 in
theorem l_least {G : GW} {I : IT} {r : Nat} {L : LT} {P : Option Value → HP → Prop} {a q : Int32} : ∀ (n j : Nat) (c : Int32), j + n = 102 → P (some (.int (lst L a q c j n))) (hp L I r) → ev G M_Ow_least (rmv 3 0 0) (Er M_Ow_least P 0 0) 6 [(4, .int (nI j)), (3, .int c), (0, .ref 18), (1, .int a), (2, .int q)] [] (hp L I r) 0 0 := by
  intro n
  induction n with
  | zero =>
    intro j c hj hP
    obtain rfl : j = 102 := by omega
    refine s_Ow_least_6 rfl ?_
    refine s_Ow_least_8 ?_
    refine s_Ow_least_10 (fun _ => ?_) (fun c => absurd (by decide) c)
    refine s_Ow_least_76 rfl ?_
    refine s_Ow_least_77 ?_
    refine s_Ow_least_79 (fun c79 => ?_) (fun c79 => ?_)
    · refine s_Ow_least_90 ?_
      exact s_Ow_least_91 (by rw [lst, if_pos c79] at hP; exact hP) z0
    · refine s_Ow_least_82 ?_
      refine s_Ow_least_85 rfl ?_
      refine s_Ow_least_86 ?_
      refine s_Ow_least_87 ?_
      exact s_Ow_least_91 (by rw [lst, if_neg c79] at hP; exact hP) z0
  | succ n ih =>
    intro j c hj hP
    refine s_Ow_least_6 rfl ?_
    refine s_Ow_least_8 ?_
    refine s_Ow_least_10 (fun c10 => absurd c10 (nle_nI (n := 102) rfl (by omega) (by decide))) (fun c10 => ?_)
    refine s_Ow_least_13 rfl ?_
    refine s_Ow_least_14 hp_18 rfl ?_
    refine s_Ow_least_17 rfl ?_
    refine c_Ow_least_19 (t_St_held rfl (by omega)) hp_4 rfl (Nat.le_of_ble_eq_true rfl) ?_
    refine s_Ow_least_22 ?_
    refine s_Ow_least_24 rfl ?_
    refine s_Ow_least_26 rfl ?_
    refine c_Ow_least_27 (show mt _ _ _ _ _ _ _ (dt (some (.int (bz (cov (L 5 j) a)))) _) from t_Va_covers) (Nat.le_of_ble_eq_true rfl) ?_
    refine s_Ow_least_30 (fun c30 => ?_) (fun c30 => ?_)
    · skip
      (first | rw [bz_n0] at c30 | rw [bz_0] at c30 | skip); (try simp only [Bool.not_eq_false', Bool.not_eq_true', decide_eq_true_eq, decide_eq_false_iff_not, Bool.or_eq_true, Bool.or_eq_false_iff, Bool.and_eq_true, Bool.and_eq_false_iff] at c30)
      refine s_Ow_least_70 rfl ?_
      rw [nI_1]
      refine s_Ow_least_73 ?_
      refine ev_pick [0, 2, 3, 4, 5] rfl ?_
      exact ih (j + 1) _ (by omega) (by rw [lst, if_neg (fun h => Bool.noConfusion (c30.symm.trans h.1))] at hP; exact hP)
    · skip
      (first | rw [bz_n0] at c30 | rw [bz_0] at c30 | skip); (try simp only [Bool.not_eq_false', Bool.not_eq_true', decide_eq_true_eq, decide_eq_false_iff_not, Bool.or_eq_true, Bool.or_eq_false_iff, Bool.and_eq_true, Bool.and_eq_false_iff] at c30)
      refine s_Ow_least_33 rfl ?_
      refine s_Ow_least_35 rfl ?_
      refine c_Ow_least_36 (show mt _ _ _ _ _ _ _ (dt (some (.int (bz (vHas (L 5 j) q)))) _) from t_Va_hasRight) (Nat.le_of_ble_eq_true rfl) ?_
      refine s_Ow_least_39 (fun c39 => ?_) (fun c39 => ?_)
      · skip
        (first | rw [bz_n0] at c39 | rw [bz_0] at c39 | skip); (try simp only [Bool.not_eq_false', Bool.not_eq_true', decide_eq_true_eq, decide_eq_false_iff_not, Bool.or_eq_true, Bool.or_eq_false_iff, Bool.and_eq_true, Bool.and_eq_false_iff] at c39)
        refine s_Ow_least_45 rfl ?_
        refine c_Ow_least_47 (t_Va_kind) (Nat.le_of_ble_eq_true rfl) ?_
        refine s_Ow_least_50 ?_
        refine s_Ow_least_51 (fun c51 => ?_) (fun c51 => ?_)
        · skip
          refine s_Ow_least_60 rfl ?_
          refine s_Ow_least_61 rfl ?_
          refine c_Ow_least_63 (t_Va_link) (Nat.le_of_ble_eq_true rfl) ?_
          refine c_Ow_least_66 (t_Jm_min) (Nat.le_of_ble_eq_true rfl) ?_
          refine s_Ow_least_69 ?_
          refine s_Ow_least_70 rfl ?_
          rw [nI_1]
          refine s_Ow_least_73 ?_
          refine ev_pick [0, 1, 3, 4, 5] rfl ?_
          exact ih (j + 1) _ (by omega) (by rw [lst, if_pos ⟨c30, c39⟩, if_neg c51] at hP; exact hP)
        · skip
          refine s_Ow_least_54 rfl ?_
          refine c_Ow_least_56 (t_Ow_ownerNumber rfl (by omega)) (Nat.le_of_ble_eq_true rfl) ?_
          exact s_Ow_least_59 (by rw [lst, if_pos ⟨c30, c39⟩, if_pos c51] at hP; exact hP) z0
      · skip
        (first | rw [bz_n0] at c39 | rw [bz_0] at c39 | skip); (try simp only [Bool.not_eq_false', Bool.not_eq_true', decide_eq_true_eq, decide_eq_false_iff_not, Bool.or_eq_true, Bool.or_eq_false_iff, Bool.and_eq_true, Bool.and_eq_false_iff] at c39)
        refine s_Ow_least_42 ?_
        refine s_Ow_least_70 rfl ?_
        rw [nI_1]
        refine s_Ow_least_73 ?_
        refine ev_pick [0, 2, 3, 4, 5] rfl ?_
        exact ih (j + 1) _ (by omega) (by rw [lst, if_neg (fun h => Bool.noConfusion (c39.symm.trans h.2))] at hP; exact hP)
set_option maxRecDepth 100000 in
theorem t_Ow_least {G : GW} {L : LT} {I : IT} {r : Nat} {a q : Int32} : mt G M_Ow_least 3 0 0 [.ref 18, .int a, .int q] (hp L I r) (dt (some (.int (lst L a q 6 0 102))) (hp L I r)) := by
  refine mt_of_ev (by decide) (Nat.le_of_ble_eq_true rfl) ?_
  show ev G M_Ow_least (rmv 3 0 0) (Er M_Ow_least _ 0 0) 0 [(0, .ref 18), (1, .int a), (2, .int q)] [] (hp L I r) 0 0
  refine s_Ow_least_0 ?_
  refine s_Ow_least_2 ?_
  refine s_Ow_least_3 ?_
  refine s_Ow_least_4 ?_
  refine ev_pick [0, 1, 2, 3, 4] rfl ?_
  exact l_least 102 0 6 rfl dt_i
def uOwn (L : LT) (a q : Int32) : Int32 := if a < 0 ∨ 48 ≤ a ∨ (¬ q = 1 ∧ ¬ q = 2 ∧ ¬ q = 4 ∧ ¬ q = 8) then -1 else lst L a q 6 0 102
set_option maxRecDepth 100000 in
theorem t_Um_owner {G : GW} {L : LT} {I : IT} {r : Nat} {a q : Int32} : mt G M_Um_owner 4 0 0 [.ref 0, .int a, .int q] (hp L I r) (dt (some (.int (uOwn L a q))) (hp L I r)) := by
  refine mt_of_ev (by decide) (Nat.le_of_ble_eq_true rfl) ?_
  show ev G M_Um_owner (rmv 4 0 0) (Er M_Um_owner _ 0 0) 0 [(0, .ref 0), (1, .int a), (2, .int q)] [] (hp L I r) 0 0
  refine s_Um_owner_0 rfl ?_
  refine s_Um_owner_1 ?_
  refine s_Um_owner_2 (fun c2 => ?_) (fun c2 => ?_)
  · skip
    refine s_Um_owner_21 ?_
    refine s_Um_owner_22 ?_
    refine s_Um_owner_26 ?_
    refine s_Um_owner_27 rfl ?_
    refine s_Um_owner_28 (fun c28 => ?_) (fun c28 => ?_)
    · skip
      refine s_Um_owner_41 ?_
      exact s_Um_owner_42 ⟨by first | (rw [uOwn, if_pos (Or.inl c28)]; done) | (rw [uOwn, if_pos (Or.inr (Or.inl c34))]; done) | (rw [uOwn, if_pos (Or.inr (Or.inr ⟨c2, c7, c12, c18⟩))]; done) | (rw [uOwn, if_neg (by rintro (h | h | ⟨h1, h2, h3, h4⟩); exact c28 h; exact c34 h; first | exact h1 c2 | exact h2 c7 | exact h3 c12 | exact h4 (Classical.not_not.mp c18) | exact h4 c18)]; done), rfl⟩ z0
    · skip
      refine s_Um_owner_31 rfl ?_
      refine s_Um_owner_32 ?_
      refine s_Um_owner_34 (fun c34 => ?_) (fun c34 => ?_)
      · skip
        refine s_Um_owner_41 ?_
        exact s_Um_owner_42 ⟨by first | (rw [uOwn, if_pos (Or.inl c28)]; done) | (rw [uOwn, if_pos (Or.inr (Or.inl c34))]; done) | (rw [uOwn, if_pos (Or.inr (Or.inr ⟨c2, c7, c12, c18⟩))]; done) | (rw [uOwn, if_neg (by rintro (h | h | ⟨h1, h2, h3, h4⟩); exact c28 h; exact c34 h; first | exact h1 c2 | exact h2 c7 | exact h3 c12 | exact h4 (Classical.not_not.mp c18) | exact h4 c18)]; done), rfl⟩ z0
      · skip
        refine s_Um_owner_37 rfl ?_
        refine s_Um_owner_38 (fun c38 => ?_) (fun c38 => absurd c38 (by decide))
        refine s_Um_owner_43 rfl ?_
        refine s_Um_owner_44 hp_0 rfl ?_
        refine s_Um_owner_47 rfl ?_
        refine s_Um_owner_48 rfl ?_
        refine c_Um_owner_49 (t_Ow_least) hp_18 rfl (Nat.le_of_ble_eq_true rfl) ?_
        exact s_Um_owner_52 ⟨by first | (rw [uOwn, if_pos (Or.inl c28)]; done) | (rw [uOwn, if_pos (Or.inr (Or.inl c34))]; done) | (rw [uOwn, if_pos (Or.inr (Or.inr ⟨c2, c7, c12, c18⟩))]; done) | (rw [uOwn, if_neg (by rintro (h | h | ⟨h1, h2, h3, h4⟩); exact c28 h; exact c34 h; first | exact h1 c2 | exact h2 c7 | exact h3 c12 | exact h4 (Classical.not_not.mp c18) | exact h4 c18)]; done), rfl⟩ z0
  · skip
    refine s_Um_owner_5 rfl ?_
    refine s_Um_owner_6 ?_
    refine s_Um_owner_7 (fun c7 => ?_) (fun c7 => ?_)
    · skip
      refine s_Um_owner_21 ?_
      refine s_Um_owner_22 ?_
      refine s_Um_owner_26 ?_
      refine s_Um_owner_27 rfl ?_
      refine s_Um_owner_28 (fun c28 => ?_) (fun c28 => ?_)
      · skip
        refine s_Um_owner_41 ?_
        exact s_Um_owner_42 ⟨by first | (rw [uOwn, if_pos (Or.inl c28)]; done) | (rw [uOwn, if_pos (Or.inr (Or.inl c34))]; done) | (rw [uOwn, if_pos (Or.inr (Or.inr ⟨c2, c7, c12, c18⟩))]; done) | (rw [uOwn, if_neg (by rintro (h | h | ⟨h1, h2, h3, h4⟩); exact c28 h; exact c34 h; first | exact h1 c2 | exact h2 c7 | exact h3 c12 | exact h4 (Classical.not_not.mp c18) | exact h4 c18)]; done), rfl⟩ z0
      · skip
        refine s_Um_owner_31 rfl ?_
        refine s_Um_owner_32 ?_
        refine s_Um_owner_34 (fun c34 => ?_) (fun c34 => ?_)
        · skip
          refine s_Um_owner_41 ?_
          exact s_Um_owner_42 ⟨by first | (rw [uOwn, if_pos (Or.inl c28)]; done) | (rw [uOwn, if_pos (Or.inr (Or.inl c34))]; done) | (rw [uOwn, if_pos (Or.inr (Or.inr ⟨c2, c7, c12, c18⟩))]; done) | (rw [uOwn, if_neg (by rintro (h | h | ⟨h1, h2, h3, h4⟩); exact c28 h; exact c34 h; first | exact h1 c2 | exact h2 c7 | exact h3 c12 | exact h4 (Classical.not_not.mp c18) | exact h4 c18)]; done), rfl⟩ z0
        · skip
          refine s_Um_owner_37 rfl ?_
          refine s_Um_owner_38 (fun c38 => ?_) (fun c38 => absurd c38 (by decide))
          refine s_Um_owner_43 rfl ?_
          refine s_Um_owner_44 hp_0 rfl ?_
          refine s_Um_owner_47 rfl ?_
          refine s_Um_owner_48 rfl ?_
          refine c_Um_owner_49 (t_Ow_least) hp_18 rfl (Nat.le_of_ble_eq_true rfl) ?_
          exact s_Um_owner_52 ⟨by first | (rw [uOwn, if_pos (Or.inl c28)]; done) | (rw [uOwn, if_pos (Or.inr (Or.inl c34))]; done) | (rw [uOwn, if_pos (Or.inr (Or.inr ⟨c2, c7, c12, c18⟩))]; done) | (rw [uOwn, if_neg (by rintro (h | h | ⟨h1, h2, h3, h4⟩); exact c28 h; exact c34 h; first | exact h1 c2 | exact h2 c7 | exact h3 c12 | exact h4 (Classical.not_not.mp c18) | exact h4 c18)]; done), rfl⟩ z0
    · skip
      refine s_Um_owner_10 rfl ?_
      refine s_Um_owner_11 ?_
      refine s_Um_owner_12 (fun c12 => ?_) (fun c12 => ?_)
      · skip
        refine s_Um_owner_21 ?_
        refine s_Um_owner_22 ?_
        refine s_Um_owner_26 ?_
        refine s_Um_owner_27 rfl ?_
        refine s_Um_owner_28 (fun c28 => ?_) (fun c28 => ?_)
        · skip
          refine s_Um_owner_41 ?_
          exact s_Um_owner_42 ⟨by first | (rw [uOwn, if_pos (Or.inl c28)]; done) | (rw [uOwn, if_pos (Or.inr (Or.inl c34))]; done) | (rw [uOwn, if_pos (Or.inr (Or.inr ⟨c2, c7, c12, c18⟩))]; done) | (rw [uOwn, if_neg (by rintro (h | h | ⟨h1, h2, h3, h4⟩); exact c28 h; exact c34 h; first | exact h1 c2 | exact h2 c7 | exact h3 c12 | exact h4 (Classical.not_not.mp c18) | exact h4 c18)]; done), rfl⟩ z0
        · skip
          refine s_Um_owner_31 rfl ?_
          refine s_Um_owner_32 ?_
          refine s_Um_owner_34 (fun c34 => ?_) (fun c34 => ?_)
          · skip
            refine s_Um_owner_41 ?_
            exact s_Um_owner_42 ⟨by first | (rw [uOwn, if_pos (Or.inl c28)]; done) | (rw [uOwn, if_pos (Or.inr (Or.inl c34))]; done) | (rw [uOwn, if_pos (Or.inr (Or.inr ⟨c2, c7, c12, c18⟩))]; done) | (rw [uOwn, if_neg (by rintro (h | h | ⟨h1, h2, h3, h4⟩); exact c28 h; exact c34 h; first | exact h1 c2 | exact h2 c7 | exact h3 c12 | exact h4 (Classical.not_not.mp c18) | exact h4 c18)]; done), rfl⟩ z0
          · skip
            refine s_Um_owner_37 rfl ?_
            refine s_Um_owner_38 (fun c38 => ?_) (fun c38 => absurd c38 (by decide))
            refine s_Um_owner_43 rfl ?_
            refine s_Um_owner_44 hp_0 rfl ?_
            refine s_Um_owner_47 rfl ?_
            refine s_Um_owner_48 rfl ?_
            refine c_Um_owner_49 (t_Ow_least) hp_18 rfl (Nat.le_of_ble_eq_true rfl) ?_
            exact s_Um_owner_52 ⟨by first | (rw [uOwn, if_pos (Or.inl c28)]; done) | (rw [uOwn, if_pos (Or.inr (Or.inl c34))]; done) | (rw [uOwn, if_pos (Or.inr (Or.inr ⟨c2, c7, c12, c18⟩))]; done) | (rw [uOwn, if_neg (by rintro (h | h | ⟨h1, h2, h3, h4⟩); exact c28 h; exact c34 h; first | exact h1 c2 | exact h2 c7 | exact h3 c12 | exact h4 (Classical.not_not.mp c18) | exact h4 c18)]; done), rfl⟩ z0
      · skip
        refine s_Um_owner_15 rfl ?_
        refine s_Um_owner_16 ?_
        refine s_Um_owner_18 (fun c18 => ?_) (fun c18 => ?_)
        · skip
          refine s_Um_owner_25 ?_
          refine s_Um_owner_26 ?_
          refine s_Um_owner_27 rfl ?_
          refine s_Um_owner_28 (fun c28 => ?_) (fun c28 => ?_)
          · skip
            refine s_Um_owner_41 ?_
            exact s_Um_owner_42 ⟨by first | (rw [uOwn, if_pos (Or.inl c28)]; done) | (rw [uOwn, if_pos (Or.inr (Or.inl c34))]; done) | (rw [uOwn, if_pos (Or.inr (Or.inr ⟨c2, c7, c12, c18⟩))]; done) | (rw [uOwn, if_neg (by rintro (h | h | ⟨h1, h2, h3, h4⟩); exact c28 h; exact c34 h; first | exact h1 c2 | exact h2 c7 | exact h3 c12 | exact h4 (Classical.not_not.mp c18) | exact h4 c18)]; done), rfl⟩ z0
          · skip
            refine s_Um_owner_31 rfl ?_
            refine s_Um_owner_32 ?_
            refine s_Um_owner_34 (fun c34 => ?_) (fun c34 => ?_)
            · skip
              refine s_Um_owner_41 ?_
              exact s_Um_owner_42 ⟨by first | (rw [uOwn, if_pos (Or.inl c28)]; done) | (rw [uOwn, if_pos (Or.inr (Or.inl c34))]; done) | (rw [uOwn, if_pos (Or.inr (Or.inr ⟨c2, c7, c12, c18⟩))]; done) | (rw [uOwn, if_neg (by rintro (h | h | ⟨h1, h2, h3, h4⟩); exact c28 h; exact c34 h; first | exact h1 c2 | exact h2 c7 | exact h3 c12 | exact h4 (Classical.not_not.mp c18) | exact h4 c18)]; done), rfl⟩ z0
            · skip
              refine s_Um_owner_37 rfl ?_
              refine s_Um_owner_38 (fun c38 => absurd c38 (by decide)) (fun c38 => ?_)
              refine s_Um_owner_41 ?_
              exact s_Um_owner_42 ⟨by first | (rw [uOwn, if_pos (Or.inl c28)]; done) | (rw [uOwn, if_pos (Or.inr (Or.inl c34))]; done) | (rw [uOwn, if_pos (Or.inr (Or.inr ⟨c2, c7, c12, c18⟩))]; done) | (rw [uOwn, if_neg (by rintro (h | h | ⟨h1, h2, h3, h4⟩); exact c28 h; exact c34 h; first | exact h1 c2 | exact h2 c7 | exact h3 c12 | exact h4 (Classical.not_not.mp c18) | exact h4 c18)]; done), rfl⟩ z0
        · skip
          refine s_Um_owner_21 ?_
          refine s_Um_owner_22 ?_
          refine s_Um_owner_26 ?_
          refine s_Um_owner_27 rfl ?_
          refine s_Um_owner_28 (fun c28 => ?_) (fun c28 => ?_)
          · skip
            refine s_Um_owner_41 ?_
            exact s_Um_owner_42 ⟨by first | (rw [uOwn, if_pos (Or.inl c28)]; done) | (rw [uOwn, if_pos (Or.inr (Or.inl c34))]; done) | (rw [uOwn, if_pos (Or.inr (Or.inr ⟨c2, c7, c12, c18⟩))]; done) | (rw [uOwn, if_neg (by rintro (h | h | ⟨h1, h2, h3, h4⟩); exact c28 h; exact c34 h; first | exact h1 c2 | exact h2 c7 | exact h3 c12 | exact h4 (Classical.not_not.mp c18) | exact h4 c18)]; done), rfl⟩ z0
          · skip
            refine s_Um_owner_31 rfl ?_
            refine s_Um_owner_32 ?_
            refine s_Um_owner_34 (fun c34 => ?_) (fun c34 => ?_)
            · skip
              refine s_Um_owner_41 ?_
              exact s_Um_owner_42 ⟨by first | (rw [uOwn, if_pos (Or.inl c28)]; done) | (rw [uOwn, if_pos (Or.inr (Or.inl c34))]; done) | (rw [uOwn, if_pos (Or.inr (Or.inr ⟨c2, c7, c12, c18⟩))]; done) | (rw [uOwn, if_neg (by rintro (h | h | ⟨h1, h2, h3, h4⟩); exact c28 h; exact c34 h; first | exact h1 c2 | exact h2 c7 | exact h3 c12 | exact h4 (Classical.not_not.mp c18) | exact h4 c18)]; done), rfl⟩ z0
            · skip
              refine s_Um_owner_37 rfl ?_
              refine s_Um_owner_38 (fun c38 => ?_) (fun c38 => absurd c38 (by decide))
              refine s_Um_owner_43 rfl ?_
              refine s_Um_owner_44 hp_0 rfl ?_
              refine s_Um_owner_47 rfl ?_
              refine s_Um_owner_48 rfl ?_
              refine c_Um_owner_49 (t_Ow_least) hp_18 rfl (Nat.le_of_ble_eq_true rfl) ?_
              exact s_Um_owner_52 ⟨by first | (rw [uOwn, if_pos (Or.inl c28)]; done) | (rw [uOwn, if_pos (Or.inr (Or.inl c34))]; done) | (rw [uOwn, if_pos (Or.inr (Or.inr ⟨c2, c7, c12, c18⟩))]; done) | (rw [uOwn, if_neg (by rintro (h | h | ⟨h1, h2, h3, h4⟩); exact c28 h; exact c34 h; first | exact h1 c2 | exact h2 c7 | exact h3 c12 | exact h4 (Classical.not_not.mp c18) | exact h4 c18)]; done), rfl⟩ z0
def bst (f : Nat → Int32) (j : Nat) : Nat → Int32 := upd f j 1
def mkl (hr : Bool) : IT → Nat → Nat → IT
  | I, _, 0 => I
  | I, j, n + 1 =>
    mkl hr (if hr = true ∧ I 24 j = 0 ∧ ¬ 48 ≤ I 22 4 then upI (upI (upI (upI I 23 j 1) 24 j 1) 25 (I 22 4).toNatClampNeg (nI j)) 22 4 (I 22 4 + 1) else upI I 23 j 1) (j + 1) n
def mkV (I : IT) (v : Int64) : IT := if vCap v = true then mkl (vHas v 1) I (vFr v).toNatClampNeg ((vEn v).toNatClampNeg - (vFr v).toNatClampNeg) else I
/-- the found words' number is within its bounds -/
def fnd (I : IT) : Prop := ∃ s : Nat, s ≤ 48 ∧ I 22 4 = nI s
theorem fnd_in {I : IT} (h : fnd I) (hc : ¬ 48 ≤ I 22 4) : vp_in (I 22 4) 48 := by
  obtain ⟨s, hs, e⟩ := h
  rw [e] at hc ⊢
  refine vp_in_nI ?_ (by decide)
  rcases Nat.lt_or_ge s 48 with q | q
  · exact q
  · exact absurd (by rw [show s = 48 by omega]; decide) hc
theorem fnd_up {I : IT} (h : fnd I) (hc : ¬ 48 ≤ I 22 4) {J : IT} (hJ : J 22 4 = I 22 4 + 1) : fnd J := by
  obtain ⟨s, hs, e⟩ := h
  refine ⟨s + 1, ?_, by rw [hJ, e, nI_1]⟩
  rw [e] at hc
  rcases Nat.lt_or_ge s 48 with q | q
  · omega
  · exact absurd (by rw [show s = 48 by omega]; decide) hc
theorem nar1 : vp_nar .boolean 1 = 1 := by decide
theorem nar0 : vp_nar .boolean 0 = 0 := by decide
set_option maxRecDepth 100000 in
set_option maxHeartbeats 2000000 in
theorem l_mark {G : GW} {r : Nat} {L : LT} {P : Option Value → HP → Prop} {v : Int64} {e : Nat} (ee : vEn v = nI e) (he : e ≤ 48) : ∀ (n j : Nat) (I : IT), j + n = e → fnd I → P none (hp L (mkl (vHas v 1) I j n) r) → ev G M_Re_mark (rmv 3 0 0) (Er M_Re_mark P 0 0) 13 [(3, .int (nI j)), (0, .ref 22), (1, .long v)] [] (hp L I r) 0 0 := by
  intro n
  induction n with
  | zero =>
    intro j I hj hf hP
    obtain rfl : j = e := by omega
    refine s_Re_mark_13 rfl ?_
    refine s_Re_mark_14 rfl ?_
    refine c_Re_mark_15 t_Va_end (Nat.le_of_ble_eq_true rfl) ?_
    refine s_Re_mark_18 (fun _ => ?_) (fun c => absurd (by rw [ee]; exact nI_le (Nat.le_refl j) (by omega)) c)
    exact s_Re_mark_93 hP z0
  | succ n ih =>
    intro j I hj hf hP
    refine s_Re_mark_13 rfl ?_
    refine s_Re_mark_14 rfl ?_
    refine c_Re_mark_15 (t_Va_end) (Nat.le_of_ble_eq_true rfl) ?_
    refine s_Re_mark_18 (fun c18 => absurd c18 (by rw [ee]; exact nI_ge (by omega) (by omega))) (fun c18 => ?_)
    refine s_Re_mark_21 rfl ?_
    refine s_Re_mark_22 ?_
    refine s_Re_mark_24 (fun c24 => absurd c24 (nle_nI (n := 48) rfl (by omega) (by decide))) (fun c24 => ?_)
    refine s_Re_mark_27 rfl ?_
    refine s_Re_mark_28 hp_22 rfl ?_
    refine s_Re_mark_31 rfl ?_
    refine s_Re_mark_32 ?_
    refine s_Re_mark_33 hp_23 (vp_in_nI (by omega) (by decide)) ?_
    rw [hu_23]
    rw [nI_clamp (by omega), nar1]
    refine s_Re_mark_34 rfl ?_
    refine s_Re_mark_35 ?_
    refine c_Re_mark_36 (show mt _ _ _ _ _ _ _ (dt (some (.int (bz (vHas v 1)))) _) from t_Va_hasRight) (Nat.le_of_ble_eq_true rfl) ?_
    refine s_Re_mark_39 (fun c39 => ?_) (fun c39 => ?_)
    · skip
      (first | rw [bz_n0] at c39 | rw [bz_0] at c39 | skip); (try simp only [Bool.not_eq_false', Bool.not_eq_true', decide_eq_true_eq, decide_eq_false_iff_not, Bool.or_eq_true, Bool.or_eq_false_iff, Bool.and_eq_true, Bool.and_eq_false_iff] at c39)
      refine s_Re_mark_87 rfl ?_
      rw [nI_1]
      refine s_Re_mark_90 ?_
      refine ev_pick [0, 1, 2] rfl ?_
      exact ih (j + 1) _ (by omega) hf (by rw [mkl, if_neg (fun h => Bool.noConfusion (c39.symm.trans h.1))] at hP; exact hP)
    · skip
      (first | rw [bz_n0] at c39 | rw [bz_0] at c39 | skip); (try simp only [Bool.not_eq_false', Bool.not_eq_true', decide_eq_true_eq, decide_eq_false_iff_not, Bool.or_eq_true, Bool.or_eq_false_iff, Bool.and_eq_true, Bool.and_eq_false_iff] at c39)
      refine s_Re_mark_42 rfl ?_
      refine s_Re_mark_43 hp_22 rfl ?_
      refine s_Re_mark_46 rfl ?_
      refine s_Re_mark_47 hp_24 (vp_in_nI (by omega) (by decide)) ?_
      rw [nI_clamp (by omega)]
      refine s_Re_mark_48 (fun c48 => ?_) (fun c48 => ?_)
      · skip
        refine s_Re_mark_87 rfl ?_
        rw [nI_1]
        refine s_Re_mark_90 ?_
        refine ev_pick [0, 1, 2] rfl ?_
        exact ih (j + 1) _ (by omega) hf (by rw [mkl, if_neg (fun h => c48 h.2.1)] at hP; exact hP)
      · skip
        refine s_Re_mark_51 rfl ?_
        refine s_Re_mark_52 hp_22 rfl ?_
        refine s_Re_mark_55 ?_
        refine s_Re_mark_57 (fun c57 => ?_) (fun c57 => ?_)
        · skip
          refine s_Re_mark_87 rfl ?_
          rw [nI_1]
          refine s_Re_mark_90 ?_
          refine ev_pick [0, 1, 2] rfl ?_
          exact ih (j + 1) _ (by omega) hf (by rw [mkl, if_neg (fun h => h.2.2 c57)] at hP; exact hP)
        · skip
          refine s_Re_mark_60 rfl ?_
          refine s_Re_mark_61 hp_22 rfl ?_
          refine s_Re_mark_64 rfl ?_
          refine s_Re_mark_65 ?_
          refine s_Re_mark_66 hp_24 (vp_in_nI (by omega) (by decide)) ?_
          rw [hu_24]
          rw [nI_clamp (by omega), nar1]
          refine s_Re_mark_67 rfl ?_
          refine s_Re_mark_68 hp_22 rfl ?_
          refine s_Re_mark_71 rfl ?_
          refine s_Re_mark_72 hp_22 rfl ?_
          refine s_Re_mark_75 rfl ?_
          refine s_Re_mark_76 hp_25 (fnd_in hf c57) ?_
          rw [hu_25]
          refine s_Re_mark_77 rfl ?_
          refine s_Re_mark_78 rfl ?_
          refine s_Re_mark_79 hp_22 rfl ?_
          refine s_Re_mark_82 ?_
          refine s_Re_mark_83 ?_
          refine s_Re_mark_84 hp_22 (Nat.le_of_ble_eq_true rfl) ?_
          rw [hu_22_4]
          refine s_Re_mark_87 rfl ?_
          rw [nI_1]
          refine s_Re_mark_90 ?_
          refine ev_pick [0, 1, 2] rfl ?_
          exact ih (j + 1) _ (by omega) (fnd_up hf c57 rfl) (by rw [mkl, if_pos ⟨c39, c48, c57⟩] at hP; exact hP)
set_option maxRecDepth 100000 in
theorem t_Re_mark {G : GW} {L : LT} {I : IT} {r : Nat} {v : Int64} {f e : Nat} (ef : vFr v = nI f) (ee : vEn v = nI e) (hfe : vCap v = true → f ≤ e ∧ e ≤ 48) (hf : fnd I) : mt G M_Re_mark 3 0 0 [.ref 22, .long v] (hp L I r) (dt (none) (hp L (mkV I v) r)) := by
  refine mt_of_ev (by decide) (Nat.le_of_ble_eq_true rfl) ?_
  show ev G M_Re_mark (rmv 3 0 0) (Er M_Re_mark _ 0 0) 0 [(0, .ref 22), (1, .long v)] [] (hp L I r) 0 0
  refine s_Re_mark_0 rfl ?_
  refine c_Re_mark_1 (show mt _ _ _ _ _ _ _ (dt (some (.int (bz (vCap v)))) _) from t_Va_isCapability) (Nat.le_of_ble_eq_true rfl) ?_
  refine s_Re_mark_4 (fun c4 => ?_) (fun c4 => ?_)
  · skip
    (first | rw [bz_n0] at c4 | rw [bz_0] at c4 | skip); (try simp only [Bool.not_eq_false', Bool.not_eq_true', decide_eq_true_eq, decide_eq_false_iff_not, Bool.or_eq_true, Bool.or_eq_false_iff, Bool.and_eq_true, Bool.and_eq_false_iff] at c4)
    refine s_Re_mark_8 rfl ?_
    refine c_Re_mark_9 (t_Va_from) (Nat.le_of_ble_eq_true rfl) ?_
    rw [ef]
    refine s_Re_mark_12 ?_
    refine ev_pick [0, 1, 2] rfl ?_
    have hx := hfe c4
    exact l_mark ee hx.2 (e - f) f I (by omega) hf ⟨rfl, by rw [mkV, if_pos c4, ef, ee, nI_clamp (by omega), nI_clamp (by omega)]⟩
  · skip
    (first | rw [bz_n0] at c4 | rw [bz_0] at c4 | skip); (try simp only [Bool.not_eq_false', Bool.not_eq_true', decide_eq_true_eq, decide_eq_false_iff_not, Bool.or_eq_true, Bool.or_eq_false_iff, Bool.and_eq_true, Bool.and_eq_false_iff] at c4)
    exact s_Re_mark_7 ⟨rfl, by rw [mkV, if_neg (by rw [c4]; decide)]⟩ z0

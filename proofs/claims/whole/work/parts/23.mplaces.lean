/-! the reference: its places -/
def gt (J : IT) (p j : Nat) : Int32 := J 1003 (5 * p + j)
def mPut (J : IT) (p : Nat) (w f e q c : Int32) : IT := upI (upI (upI (upI (upI J 1003 (5 * p) w) 1003 (5 * p + 1) f) 1003 (5 * p + 2) e) 1003 (5 * p + 3) q) 1003 (5 * p + 4) c
def mClr (J : IT) (p : Nat) : IT := mPut J p 0 0 0 0 0
def mCpy (J : IT) (t f : Nat) : IT := mPut J t (gt J f 0) (gt J f 1) (gt J f 2) (gt J f 3) (gt J f 4)
def mShf (J : IT) (f t : Nat) : IT := mClr (mCpy J t f) f
theorem mPut_o {J : IT} {p : Nat} {w f e q c : Int32} {x : Nat} (h : x ≠ 1003) : mPut J p w f e q c x = J x := by
  unfold mPut; rw [upI_b h, upI_b h, upI_b h, upI_b h, upI_b h]
theorem gt_put {J : IT} {p : Nat} {w f e q c : Int32} {x j : Nat} (hj : j < 5) : gt (mPut J p w f e q c) x j = if x = p then (if j = 0 then w else if j = 1 then f else if j = 2 then e else if j = 3 then q else c) else gt J x j := by
  unfold gt mPut
  rw [upI_at, upI_at, upI_at, upI_at, upI_at]
  by_cases h : x = p
  · subst h
    rw [if_pos rfl]
    rcases (by omega : j = 0 ∨ j = 1 ∨ j = 2 ∨ j = 3 ∨ j = 4) with rfl | rfl | rfl | rfl | rfl
    · rw [if_neg (by omega), if_neg (by omega), if_neg (by omega), if_neg (by omega), if_pos (by omega)]; rfl
    · rw [if_neg (by omega), if_neg (by omega), if_neg (by omega), if_pos rfl]; rfl
    · rw [if_neg (by omega), if_neg (by omega), if_pos rfl]; rfl
    · rw [if_neg (by omega), if_pos rfl]; rfl
    · rw [if_pos rfl]; rfl
  · rw [if_neg h, if_neg (by omega), if_neg (by omega), if_neg (by omega), if_neg (by omega), if_neg (by omega)]
theorem gt_ne {J : IT} {p : Nat} {w f e q c : Int32} {x j : Nat} (hj : j < 5) (h : x ≠ p) : gt (mPut J p w f e q c) x j = gt J x j := by rw [gt_put hj, if_neg h]
def mAsg (J : IT) (t f : Nat) : IT :=
  if gt J f 0 = 1 ∨ gt J f 0 = 3 then mShf J f t
  else if gt J f 0 = 2 then upI (mCpy J t f) 1004 (gt J f 4).toNatClampNeg (J 1004 (gt J f 4).toNatClampNeg + 1) else mCpy J t f
theorem mul5 (j : Nat) : (5 : Int32) * nI j = nI (5 * j) := by rw [show (5 : Int32) = nI 5 from rfl, pk_mul]
def inz (v l h : Int32) : Bool := !decide (v < l) && !decide (h < v)
theorem dec1 {x : Int32} : x + (-1) = x - 1 := (Int32.sub_eq_add_neg x 1).symm
def lwl (f : Nat → Int32) : Int32 → Nat → Int32
  | c, 0 => c
  | c, i + 1 => lwl f (if f i = 0 then nI i else c) i
theorem lwl_fz (f : Nat → Int32) : lwl f (-1) 6 = fz f 0 6 := rfl
set_option maxRecDepth 100000 in
theorem t_Mo_in {G : GW} {L : LT} {I : IT} {r : Nat} {v l h : Int32} : mt G M_Mo_in 0 0 0 [.int v, .int l, .int h] (hp L I r) (dt (some (.int (bz (inz v l h)))) (hp L I r)) := by
  refine mt_of_ev (by decide) (Nat.le_of_ble_eq_true rfl) ?_
  show ev G M_Mo_in (rmv 0 0 0) (Er M_Mo_in _ 0 0) 0 [(0, .int v), (1, .int l), (2, .int h)] [] (hp L I r) 0 0
  refine s_Mo_in_0 rfl ?_
  refine s_Mo_in_1 rfl ?_
  refine s_Mo_in_2 (fun c2 => ?_) (fun c2 => ?_)
  · skip
    refine s_Mo_in_14 ?_
    exact s_Mo_in_15 (by first | exact Or.inl rfl | exact Or.inr rfl | exact bz_or | assumption) ⟨by simp [bz, inz, c2], rfl⟩ z0
  · skip
    refine s_Mo_in_5 rfl ?_
    refine s_Mo_in_6 rfl ?_
    refine s_Mo_in_7 (fun c7 => ?_) (fun c7 => ?_)
    · skip
      refine s_Mo_in_14 ?_
      exact s_Mo_in_15 (by first | exact Or.inl rfl | exact Or.inr rfl | exact bz_or | assumption) ⟨by simp [bz, inz, c2, c7], rfl⟩ z0
    · skip
      refine s_Mo_in_10 ?_
      refine s_Mo_in_11 ?_
      exact s_Mo_in_15 (by first | exact Or.inl rfl | exact Or.inr rfl | exact bz_or | assumption) ⟨by simp [bz, inz, c2, c7], rfl⟩ z0
set_option maxRecDepth 100000 in
theorem t_Mo_get {G : GW} {L : LT} {I : IT} {r : Nat} {p : Int32} {j : Nat} (ep : p = nI j) (hj : j < 102) {z : Int32} {k : Nat} (ez : z = nI k) (hk : k < 5) : mt G M_Mo_get 0 0 0 [.ref 1000, .int p, .int z] (hp L I r) (dt (some (.int (gt I j k))) (hp L I r)) := by
  refine mt_of_ev (by decide) (Nat.le_of_ble_eq_true rfl) ?_
  show ev G M_Mo_get (rmv 0 0 0) (Er M_Mo_get _ 0 0) 0 [(0, .ref 1000), (1, .int p), (2, .int z)] [] (hp L I r) 0 0
  subst ep; subst ez
  refine s_Mo_get_0 rfl ?_
  refine s_Mo_get_1 hp_1000 rfl ?_
  refine s_Mo_get_4 ?_
  refine s_Mo_get_5 rfl ?_
  refine s_Mo_get_6 ?_
  rw [mul5]
  refine s_Mo_get_7 rfl ?_
  refine s_Mo_get_8 ?_
  rw [nI_add]
  refine s_Mo_get_9 hp_1003 (vp_in_nI (by omega) (by decide)) ?_
  rw [nI_clamp (by omega)]
  exact s_Mo_get_10 ⟨rfl, rfl⟩ z0
set_option maxRecDepth 100000 in
theorem t_Mo_what {G : GW} {L : LT} {I : IT} {r : Nat} {p : Int32} {j : Nat} (ep : p = nI j) (hj : j < 102) : mt G M_Mo_what 0 0 0 [.ref 1000, .int p] (hp L I r) (dt (some (.int (gt I j 0))) (hp L I r)) := by
  refine mt_of_ev (by decide) (Nat.le_of_ble_eq_true rfl) ?_
  show ev G M_Mo_what (rmv 0 0 0) (Er M_Mo_what _ 0 0) 0 [(0, .ref 1000), (1, .int p)] [] (hp L I r) 0 0
  subst ep
  refine s_Mo_what_0 rfl ?_
  refine s_Mo_what_1 hp_1000 rfl ?_
  refine s_Mo_what_4 ?_
  refine s_Mo_what_5 rfl ?_
  refine s_Mo_what_6 ?_
  rw [mul5]
  refine s_Mo_what_7 hp_1003 (vp_in_nI (by omega) (by decide)) ?_
  rw [nI_clamp (by omega)]
  exact s_Mo_what_8 ⟨rfl, rfl⟩ z0
set_option maxRecDepth 100000 in
theorem t_Mo_put {G : GW} {L : LT} {I : IT} {r : Nat} {p : Int32} {j : Nat} (ep : p = nI j) (hj : j < 102) {w f e q c : Int32} : mt G M_Mo_put 0 0 0 [.ref 1000, .int p, .int w, .int f, .int e, .int q, .int c] (hp L I r) (dt (none) (hp L (mPut I j w f e q c) r)) := by
  refine mt_of_ev (by decide) (Nat.le_of_ble_eq_true rfl) ?_
  show ev G M_Mo_put (rmv 0 0 0) (Er M_Mo_put _ 0 0) 0 [(0, .ref 1000), (1, .int p), (2, .int w), (3, .int f), (4, .int e), (5, .int q), (6, .int c)] [] (hp L I r) 0 0
  subst ep
  refine s_Mo_put_0 rfl ?_
  refine s_Mo_put_1 hp_1000 rfl ?_
  refine s_Mo_put_4 ?_
  refine s_Mo_put_5 rfl ?_
  refine s_Mo_put_6 ?_
  rw [mul5]
  refine s_Mo_put_7 rfl ?_
  refine s_Mo_put_8 hp_1003 (vp_in_nI (by omega) (by decide)) ?_
  rw [hu_1003]
  rw [nI_clamp (by omega)]
  refine s_Mo_put_9 rfl ?_
  refine s_Mo_put_10 hp_1000 rfl ?_
  refine s_Mo_put_13 ?_
  refine s_Mo_put_14 rfl ?_
  refine s_Mo_put_15 ?_
  rw [mul5]
  refine s_Mo_put_16 ?_
  refine s_Mo_put_17 ?_
  refine ev_topi (nI_add _ 1) ?_
  refine s_Mo_put_18 rfl ?_
  refine s_Mo_put_19 hp_1003 (vp_in_nI (by omega) (by decide)) ?_
  rw [hu_1003]
  rw [nI_clamp (by omega)]
  refine s_Mo_put_20 rfl ?_
  refine s_Mo_put_21 hp_1000 rfl ?_
  refine s_Mo_put_24 ?_
  refine s_Mo_put_25 rfl ?_
  refine s_Mo_put_26 ?_
  rw [mul5]
  refine s_Mo_put_27 ?_
  refine s_Mo_put_28 ?_
  refine ev_topi (nI_add _ 2) ?_
  refine s_Mo_put_29 rfl ?_
  refine s_Mo_put_31 hp_1003 (vp_in_nI (by omega) (by decide)) ?_
  rw [hu_1003]
  rw [nI_clamp (by omega)]
  refine s_Mo_put_32 rfl ?_
  refine s_Mo_put_33 hp_1000 rfl ?_
  refine s_Mo_put_36 ?_
  refine s_Mo_put_37 rfl ?_
  refine s_Mo_put_38 ?_
  rw [mul5]
  refine s_Mo_put_39 ?_
  refine s_Mo_put_40 ?_
  refine ev_topi (nI_add _ 3) ?_
  refine s_Mo_put_41 rfl ?_
  refine s_Mo_put_43 hp_1003 (vp_in_nI (by omega) (by decide)) ?_
  rw [hu_1003]
  rw [nI_clamp (by omega)]
  refine s_Mo_put_44 rfl ?_
  refine s_Mo_put_45 hp_1000 rfl ?_
  refine s_Mo_put_48 ?_
  refine s_Mo_put_49 rfl ?_
  refine s_Mo_put_50 ?_
  rw [mul5]
  refine s_Mo_put_51 ?_
  refine s_Mo_put_52 ?_
  refine ev_topi (nI_add _ 4) ?_
  refine s_Mo_put_53 rfl ?_
  refine s_Mo_put_55 hp_1003 (vp_in_nI (by omega) (by decide)) ?_
  rw [hu_1003]
  rw [nI_clamp (by omega)]
  exact s_Mo_put_56 ⟨rfl, rfl⟩ z0
set_option maxRecDepth 100000 in
theorem t_Mo_clear {G : GW} {L : LT} {I : IT} {r : Nat} {p : Int32} {j : Nat} (ep : p = nI j) (hj : j < 102) : mt G M_Mo_clear 1 0 0 [.ref 1000, .int p] (hp L I r) (dt (none) (hp L (mClr I j) r)) := by
  refine mt_of_ev (by decide) (Nat.le_of_ble_eq_true rfl) ?_
  show ev G M_Mo_clear (rmv 1 0 0) (Er M_Mo_clear _ 0 0) 0 [(0, .ref 1000), (1, .int p)] [] (hp L I r) 0 0
  refine s_Mo_clear_0 rfl ?_
  refine s_Mo_clear_1 rfl ?_
  refine s_Mo_clear_2 ?_
  refine s_Mo_clear_3 ?_
  refine s_Mo_clear_4 ?_
  refine s_Mo_clear_5 ?_
  refine s_Mo_clear_6 ?_
  refine c_Mo_clear_7 (t_Mo_put ep hj) hp_1000 rfl (Nat.le_of_ble_eq_true rfl) ?_
  exact s_Mo_clear_10 ⟨by first | rfl | (simp [bz, *]; done) | (simp only [← Int32.not_le] at *; simp [bz, *]; done) | (simp only [Int32.not_lt, Int32.not_le] at *; simp [bz, *]; done) | (simp_all [bz]; done) | (simp only [bz_0, bz_n0, ← Int32.not_le] at *; simp_all [bz]; done), by first | rfl | (simp [*]; done) | (simp_all; done)⟩ z0
set_option maxRecDepth 100000 in
theorem t_Mo_shift {G : GW} {L : LT} {I : IT} {r : Nat} {p q : Int32} {f t : Nat} (ep : p = nI f) (hf : f < 102) (eq : q = nI t) (ht : t < 102) : mt G M_Mo_shift 2 0 0 [.ref 1000, .int p, .int q] (hp L I r) (dt (none) (hp L (mShf I f t) r)) := by
  refine mt_of_ev (by decide) (Nat.le_of_ble_eq_true rfl) ?_
  show ev G M_Mo_shift (rmv 2 0 0) (Er M_Mo_shift _ 0 0) 0 [(0, .ref 1000), (1, .int p), (2, .int q)] [] (hp L I r) 0 0
  refine s_Mo_shift_0 rfl ?_
  refine s_Mo_shift_1 rfl ?_
  refine s_Mo_shift_2 rfl ?_
  refine s_Mo_shift_3 rfl ?_
  refine c_Mo_shift_4 (t_Mo_what ep hf) hp_1000 rfl (Nat.le_of_ble_eq_true rfl) ?_
  refine s_Mo_shift_7 rfl ?_
  refine s_Mo_shift_8 rfl ?_
  refine s_Mo_shift_9 ?_
  refine c_Mo_shift_10 (t_Mo_get ep hf (k := 1) rfl (by decide)) hp_1000 rfl (Nat.le_of_ble_eq_true rfl) ?_
  refine s_Mo_shift_13 rfl ?_
  refine s_Mo_shift_14 rfl ?_
  refine s_Mo_shift_15 ?_
  refine c_Mo_shift_16 (t_Mo_get ep hf (k := 2) rfl (by decide)) hp_1000 rfl (Nat.le_of_ble_eq_true rfl) ?_
  refine s_Mo_shift_19 rfl ?_
  refine s_Mo_shift_20 rfl ?_
  refine s_Mo_shift_21 ?_
  refine c_Mo_shift_22 (t_Mo_get ep hf (k := 3) rfl (by decide)) hp_1000 rfl (Nat.le_of_ble_eq_true rfl) ?_
  refine s_Mo_shift_25 rfl ?_
  refine s_Mo_shift_26 rfl ?_
  refine s_Mo_shift_27 ?_
  refine c_Mo_shift_28 (t_Mo_get ep hf (k := 4) rfl (by decide)) hp_1000 rfl (Nat.le_of_ble_eq_true rfl) ?_
  refine c_Mo_shift_31 (t_Mo_put eq ht) hp_1000 rfl (Nat.le_of_ble_eq_true rfl) ?_
  refine s_Mo_shift_34 rfl ?_
  refine s_Mo_shift_35 rfl ?_
  refine c_Mo_shift_36 (t_Mo_clear ep hf) hp_1000 rfl (Nat.le_of_ble_eq_true rfl) ?_
  exact s_Mo_shift_39 ⟨by first | rfl | (simp [bz, *]; done) | (simp only [← Int32.not_le] at *; simp [bz, *]; done) | (simp only [Int32.not_lt, Int32.not_le] at *; simp [bz, *]; done) | (simp_all [bz]; done) | (simp only [bz_0, bz_n0, ← Int32.not_le] at *; simp_all [bz]; done), by first | rfl | (simp [*]; done) | (simp_all; done)⟩ z0
set_option maxRecDepth 100000 in
theorem t_Mo_assign {G : GW} {L : LT} {I : IT} {r : Nat} {p q : Int32} {f t : Nat} (ep : p = nI t) (ht : t < 102) (eq : q = nI f) (hf : f < 102) (hne : f ≠ t) (hk : gt I f 0 = 2 → vp_in (gt I f 4) 6) : mt G M_Mo_assign 3 0 0 [.ref 1000, .int p, .int q] (hp L I r) (dt (none) (hp L (mAsg I t f) r)) := by
  refine mt_of_ev (by decide) (Nat.le_of_ble_eq_true rfl) ?_
  show ev G M_Mo_assign (rmv 3 0 0) (Er M_Mo_assign _ 0 0) 0 [(0, .ref 1000), (1, .int p), (2, .int q)] [] (hp L I r) 0 0
  refine s_Mo_assign_0 rfl ?_
  refine s_Mo_assign_1 rfl ?_
  refine c_Mo_assign_2 (t_Mo_what eq hf) hp_1000 rfl (Nat.le_of_ble_eq_true rfl) ?_
  refine s_Mo_assign_5 ?_
  refine s_Mo_assign_6 (fun c6 => ?_) (fun c6 => ?_)
  · skip
    refine s_Mo_assign_18 rfl ?_
    refine s_Mo_assign_19 rfl ?_
    refine s_Mo_assign_20 rfl ?_
    refine c_Mo_assign_21 (t_Mo_shift eq hf ep ht) hp_1000 rfl (Nat.le_of_ble_eq_true rfl) ?_
    refine s_Mo_assign_24 ?_
    exact s_Mo_assign_94 ⟨rfl, by rw [mAsg, if_pos (Or.inl c6)]⟩ z0
  · skip
    refine s_Mo_assign_9 rfl ?_
    refine s_Mo_assign_10 rfl ?_
    refine c_Mo_assign_11 (t_Mo_what eq hf) hp_1000 rfl (Nat.le_of_ble_eq_true rfl) ?_
    refine s_Mo_assign_14 ?_
    refine s_Mo_assign_15 (fun c15 => ?_) (fun c15 => ?_)
    · skip
      refine s_Mo_assign_27 rfl ?_
      refine s_Mo_assign_28 rfl ?_
      refine s_Mo_assign_29 rfl ?_
      refine s_Mo_assign_30 rfl ?_
      refine c_Mo_assign_31 (t_Mo_what eq hf) hp_1000 rfl (Nat.le_of_ble_eq_true rfl) ?_
      refine s_Mo_assign_34 rfl ?_
      refine s_Mo_assign_35 rfl ?_
      refine s_Mo_assign_36 ?_
      refine c_Mo_assign_37 (t_Mo_get eq hf (k := 1) rfl (by decide)) hp_1000 rfl (Nat.le_of_ble_eq_true rfl) ?_
      refine s_Mo_assign_40 rfl ?_
      refine s_Mo_assign_41 rfl ?_
      refine s_Mo_assign_42 ?_
      refine c_Mo_assign_43 (t_Mo_get eq hf (k := 2) rfl (by decide)) hp_1000 rfl (Nat.le_of_ble_eq_true rfl) ?_
      refine s_Mo_assign_46 rfl ?_
      refine s_Mo_assign_47 rfl ?_
      refine s_Mo_assign_48 ?_
      refine c_Mo_assign_49 (t_Mo_get eq hf (k := 3) rfl (by decide)) hp_1000 rfl (Nat.le_of_ble_eq_true rfl) ?_
      refine s_Mo_assign_52 rfl ?_
      refine s_Mo_assign_53 rfl ?_
      refine s_Mo_assign_54 ?_
      refine c_Mo_assign_55 (t_Mo_get eq hf (k := 4) rfl (by decide)) hp_1000 rfl (Nat.le_of_ble_eq_true rfl) ?_
      refine c_Mo_assign_58 (t_Mo_put ep ht) hp_1000 rfl (Nat.le_of_ble_eq_true rfl) ?_
      refine s_Mo_assign_61 rfl ?_
      refine s_Mo_assign_62 rfl ?_
      refine c_Mo_assign_63 (t_Mo_what eq hf) hp_1000 rfl (Nat.le_of_ble_eq_true rfl) ?_
      refine ev_topi (show _ = gt I f 0 from gt_ne (by decide) hne) ?_
      refine s_Mo_assign_66 ?_
      refine s_Mo_assign_67 (fun c67 => ?_) (fun c67 => ?_)
      · skip
        exact s_Mo_assign_94 ⟨rfl, by rw [mAsg, if_neg (fun h => h.elim c6 c15), if_neg c67]; rfl⟩ z0
      · skip
        refine s_Mo_assign_70 rfl ?_
        refine s_Mo_assign_71 hp_1000 rfl ?_
        refine s_Mo_assign_74 rfl ?_
        refine s_Mo_assign_75 rfl ?_
        refine s_Mo_assign_76 ?_
        refine c_Mo_assign_77 (t_Mo_get eq hf (k := 4) rfl (by decide)) hp_1000 rfl (Nat.le_of_ble_eq_true rfl) ?_
        refine ev_topi (show _ = gt I f 4 from gt_ne (by decide) hne) ?_
        refine s_Mo_assign_80 rfl ?_
        refine s_Mo_assign_81 hp_1000 rfl ?_
        refine s_Mo_assign_84 rfl ?_
        refine s_Mo_assign_85 rfl ?_
        refine s_Mo_assign_86 ?_
        refine c_Mo_assign_87 (t_Mo_get eq hf (k := 4) rfl (by decide)) hp_1000 rfl (Nat.le_of_ble_eq_true rfl) ?_
        refine ev_topi (show _ = gt I f 4 from gt_ne (by decide) hne) ?_
        refine s_Mo_assign_90 hp_1004 (hk c67) ?_
        refine s_Mo_assign_91 ?_
        refine s_Mo_assign_92 ?_
        refine s_Mo_assign_93 hp_1004 (hk c67) ?_
        rw [hu_1004]
        exact s_Mo_assign_94 ⟨rfl, by rw [mAsg, if_neg (fun h => h.elim c6 c15), if_pos c67]; rfl⟩ z0
    · skip
      refine s_Mo_assign_18 rfl ?_
      refine s_Mo_assign_19 rfl ?_
      refine s_Mo_assign_20 rfl ?_
      refine c_Mo_assign_21 (t_Mo_shift eq hf ep ht) hp_1000 rfl (Nat.le_of_ble_eq_true rfl) ?_
      refine s_Mo_assign_24 ?_
      exact s_Mo_assign_94 ⟨rfl, by rw [mAsg, if_pos (Or.inr c15)]⟩ z0
set_option maxRecDepth 100000 in
theorem t_Mo_isNumber {G : GW} {L : LT} {I : IT} {r : Nat} {p : Int32} {j : Nat} (ep : p = nI j) (hj : j < 102) : mt G M_Mo_isNumber 1 0 0 [.ref 1000, .int p] (hp L I r) (dt (some (.int (bz (decide (gt I j 0 = 0))))) (hp L I r)) := by
  refine mt_of_ev (by decide) (Nat.le_of_ble_eq_true rfl) ?_
  show ev G M_Mo_isNumber (rmv 1 0 0) (Er M_Mo_isNumber _ 0 0) 0 [(0, .ref 1000), (1, .int p)] [] (hp L I r) 0 0
  refine s_Mo_isNumber_0 rfl ?_
  refine s_Mo_isNumber_1 rfl ?_
  refine c_Mo_isNumber_2 (t_Mo_what ep hj) hp_1000 rfl (Nat.le_of_ble_eq_true rfl) ?_
  refine s_Mo_isNumber_5 (fun c5 => ?_) (fun c5 => ?_)
  · skip
    refine s_Mo_isNumber_12 ?_
    exact s_Mo_isNumber_13 (by first | exact Or.inl rfl | exact Or.inr rfl | exact bz_or | assumption) ⟨by first | rfl | (simp [bz, *]; done) | (simp only [← Int32.not_le] at *; simp [bz, *]; done) | (simp only [Int32.not_lt, Int32.not_le] at *; simp [bz, *]; done) | (simp_all [bz]; done) | (simp only [bz_0, bz_n0, ← Int32.not_le] at *; simp_all [bz]; done), by first | rfl | (simp [*]; done) | (simp_all; done)⟩ z0
  · skip
    refine s_Mo_isNumber_8 ?_
    refine s_Mo_isNumber_9 ?_
    exact s_Mo_isNumber_13 (by first | exact Or.inl rfl | exact Or.inr rfl | exact bz_or | assumption) ⟨by first | rfl | (simp [bz, *]; done) | (simp only [← Int32.not_le] at *; simp [bz, *]; done) | (simp only [Int32.not_lt, Int32.not_le] at *; simp [bz, *]; done) | (simp_all [bz]; done) | (simp only [bz_0, bz_n0, ← Int32.not_le] at *; simp_all [bz]; done), by first | rfl | (simp [*]; done) | (simp_all; done)⟩ z0
set_option maxRecDepth 100000 in
theorem t_Mo_has {G : GW} {L : LT} {I : IT} {r : Nat} {p : Int32} {j : Nat} (ep : p = nI j) (hj : j < 102) {q : Int32} : mt G M_Mo_has 1 0 0 [.ref 1000, .int p, .int q] (hp L I r) (dt (some (.int (bz (!decide (gt I j 3 &&& q = 0))))) (hp L I r)) := by
  refine mt_of_ev (by decide) (Nat.le_of_ble_eq_true rfl) ?_
  show ev G M_Mo_has (rmv 1 0 0) (Er M_Mo_has _ 0 0) 0 [(0, .ref 1000), (1, .int p), (2, .int q)] [] (hp L I r) 0 0
  refine s_Mo_has_0 rfl ?_
  refine s_Mo_has_1 rfl ?_
  refine s_Mo_has_2 ?_
  refine c_Mo_has_3 (t_Mo_get ep hj (k := 3) rfl (by decide)) hp_1000 rfl (Nat.le_of_ble_eq_true rfl) ?_
  refine s_Mo_has_6 rfl ?_
  refine s_Mo_has_7 ?_
  refine s_Mo_has_8 (fun c8 => ?_) (fun c8 => ?_)
  · skip
    refine s_Mo_has_15 ?_
    exact s_Mo_has_16 (by first | exact Or.inl rfl | exact Or.inr rfl | exact bz_or | assumption) ⟨by first | rfl | (simp [bz, *]; done) | (simp only [← Int32.not_le] at *; simp [bz, *]; done) | (simp only [Int32.not_lt, Int32.not_le] at *; simp [bz, *]; done) | (simp_all [bz]; done) | (simp only [bz_0, bz_n0, ← Int32.not_le] at *; simp_all [bz]; done), by first | rfl | (simp [*]; done) | (simp_all; done)⟩ z0
  · skip
    refine s_Mo_has_11 ?_
    refine s_Mo_has_12 ?_
    exact s_Mo_has_16 (by first | exact Or.inl rfl | exact Or.inr rfl | exact bz_or | assumption) ⟨by first | rfl | (simp [bz, *]; done) | (simp only [← Int32.not_le] at *; simp [bz, *]; done) | (simp only [Int32.not_lt, Int32.not_le] at *; simp [bz, *]; done) | (simp_all [bz]; done) | (simp only [bz_0, bz_n0, ← Int32.not_le] at *; simp_all [bz]; done), by first | rfl | (simp [*]; done) | (simp_all; done)⟩ z0
set_option maxRecDepth 100000 in
theorem t_Mo_length {G : GW} {L : LT} {I : IT} {r : Nat} {p : Int32} {j : Nat} (ep : p = nI j) (hj : j < 102) : mt G M_Mo_length 1 0 0 [.ref 1000, .int p] (hp L I r) (dt (some (.int (gt I j 2 - gt I j 1))) (hp L I r)) := by
  refine mt_of_ev (by decide) (Nat.le_of_ble_eq_true rfl) ?_
  show ev G M_Mo_length (rmv 1 0 0) (Er M_Mo_length _ 0 0) 0 [(0, .ref 1000), (1, .int p)] [] (hp L I r) 0 0
  refine s_Mo_length_0 rfl ?_
  refine s_Mo_length_1 rfl ?_
  refine s_Mo_length_2 ?_
  refine c_Mo_length_3 (t_Mo_get ep hj (k := 2) rfl (by decide)) hp_1000 rfl (Nat.le_of_ble_eq_true rfl) ?_
  refine s_Mo_length_6 rfl ?_
  refine s_Mo_length_7 rfl ?_
  refine s_Mo_length_8 ?_
  refine c_Mo_length_9 (t_Mo_get ep hj (k := 1) rfl (by decide)) hp_1000 rfl (Nat.le_of_ble_eq_true rfl) ?_
  refine s_Mo_length_12 ?_
  exact s_Mo_length_13 ⟨by first | rfl | (simp [bz, *]; done) | (simp only [← Int32.not_le] at *; simp [bz, *]; done) | (simp only [Int32.not_lt, Int32.not_le] at *; simp [bz, *]; done) | (simp_all [bz]; done) | (simp only [bz_0, bz_n0, ← Int32.not_le] at *; simp_all [bz]; done), by first | rfl | (simp [*]; done) | (simp_all; done)⟩ z0
set_option maxRecDepth 100000 in
set_option maxHeartbeats 2000000 in
theorem l_Mo_lowestCell {G : GW} {I : IT} {r : Nat} {L : LT} {P : Option Value → HP → Prop} : ∀ (n : Nat) (c : Int32), n ≤ 6 → P (some (.int (lwl (I 1004) c n))) (hp L I r) → ev G M_Mo_lowestCell (rmv 0 0 0) (Er M_Mo_lowestCell P 0 0) 4 [(2, .int (nI n - 1)), (1, .int c), (0, .ref 1000)] [] (hp L I r) 0 0 := by
  intro n
  induction n with
  | zero =>
    intro c hn hP
    refine s_Mo_lowestCell_4 rfl ?_
    refine s_Mo_lowestCell_5 (fun _ => ?_) (fun c => absurd (by decide) c)
    refine s_Mo_lowestCell_29 rfl ?_
    exact s_Mo_lowestCell_30 hP z0
  | succ n ih =>
    intro c hn hP
    rw [nI_pred]
    refine s_Mo_lowestCell_4 rfl ?_
    refine s_Mo_lowestCell_5 (fun c5 => absurd c5 (nI_pos (by omega))) (fun c5 => ?_)
    refine s_Mo_lowestCell_8 rfl ?_
    refine s_Mo_lowestCell_9 hp_1000 rfl ?_
    refine s_Mo_lowestCell_12 rfl ?_
    refine s_Mo_lowestCell_13 hp_1004 (vp_in_nI (by omega) (by decide)) ?_
    rw [nI_clamp (by omega)]
    refine s_Mo_lowestCell_14 (fun c14 => ?_) (fun c14 => ?_)
    · skip
      refine s_Mo_lowestCell_21 rfl ?_
      refine s_Mo_lowestCell_22 ?_
      refine s_Mo_lowestCell_23 rfl ?_
      rw [dec1]
      refine s_Mo_lowestCell_26 ?_
      refine ev_pick [0, 1, 2] rfl ?_
      exact ih _ (by omega) (by rw [lwl, if_neg c14] at hP; exact hP)
    · skip
      refine s_Mo_lowestCell_17 rfl ?_
      refine s_Mo_lowestCell_18 ?_
      refine s_Mo_lowestCell_22 ?_
      refine s_Mo_lowestCell_23 rfl ?_
      rw [dec1]
      refine s_Mo_lowestCell_26 ?_
      refine ev_pick [0, 1, 2] rfl ?_
      exact ih _ (by omega) (by rw [lwl, if_pos c14] at hP; exact hP)
set_option maxRecDepth 100000 in
theorem t_Mo_lowestCell {G : GW} {L : LT} {I : IT} {r : Nat}  : mt G M_Mo_lowestCell 0 0 0 [.ref 1000] (hp L I r) (dt (some (.int (fz (I 1004) 0 6))) (hp L I r)) := by
  refine mt_of_ev (by decide) (Nat.le_of_ble_eq_true rfl) ?_
  show ev G M_Mo_lowestCell (rmv 0 0 0) (Er M_Mo_lowestCell _ 0 0) 0 [(0, .ref 1000)] [] (hp L I r) 0 0
  refine s_Mo_lowestCell_0 ?_
  refine s_Mo_lowestCell_1 ?_
  refine s_Mo_lowestCell_2 ?_
  refine s_Mo_lowestCell_3 ?_
  refine ev_pick [0, 1, 2] rfl ?_
  exact l_Mo_lowestCell 6 (-1) (Nat.le_refl 6) dt_i
set_option maxRecDepth 100000 in
set_option maxHeartbeats 2000000 in
theorem l_Mo_lowestGate {G : GW} {I : IT} {r : Nat} {L : LT} {P : Option Value → HP → Prop} : ∀ (n : Nat) (c : Int32), n ≤ 6 → P (some (.int (lwl (I 1007) c n))) (hp L I r) → ev G M_Mo_lowestGate (rmv 0 0 0) (Er M_Mo_lowestGate P 0 0) 4 [(2, .int (nI n - 1)), (1, .int c), (0, .ref 1000)] [] (hp L I r) 0 0 := by
  intro n
  induction n with
  | zero =>
    intro c hn hP
    refine s_Mo_lowestGate_4 rfl ?_
    refine s_Mo_lowestGate_5 (fun _ => ?_) (fun c => absurd (by decide) c)
    refine s_Mo_lowestGate_29 rfl ?_
    exact s_Mo_lowestGate_30 hP z0
  | succ n ih =>
    intro c hn hP
    rw [nI_pred]
    refine s_Mo_lowestGate_4 rfl ?_
    refine s_Mo_lowestGate_5 (fun c5 => absurd c5 (nI_pos (by omega))) (fun c5 => ?_)
    refine s_Mo_lowestGate_8 rfl ?_
    refine s_Mo_lowestGate_9 hp_1000 rfl ?_
    refine s_Mo_lowestGate_12 rfl ?_
    refine s_Mo_lowestGate_13 hp_1007 (vp_in_nI (by omega) (by decide)) ?_
    rw [nI_clamp (by omega)]
    refine s_Mo_lowestGate_14 (fun c14 => ?_) (fun c14 => ?_)
    · skip
      refine s_Mo_lowestGate_21 rfl ?_
      refine s_Mo_lowestGate_22 ?_
      refine s_Mo_lowestGate_23 rfl ?_
      rw [dec1]
      refine s_Mo_lowestGate_26 ?_
      refine ev_pick [0, 1, 2] rfl ?_
      exact ih _ (by omega) (by rw [lwl, if_neg c14] at hP; exact hP)
    · skip
      refine s_Mo_lowestGate_17 rfl ?_
      refine s_Mo_lowestGate_18 ?_
      refine s_Mo_lowestGate_22 ?_
      refine s_Mo_lowestGate_23 rfl ?_
      rw [dec1]
      refine s_Mo_lowestGate_26 ?_
      refine ev_pick [0, 1, 2] rfl ?_
      exact ih _ (by omega) (by rw [lwl, if_pos c14] at hP; exact hP)
set_option maxRecDepth 100000 in
theorem t_Mo_lowestGate {G : GW} {L : LT} {I : IT} {r : Nat}  : mt G M_Mo_lowestGate 0 0 0 [.ref 1000] (hp L I r) (dt (some (.int (fz (I 1007) 0 6))) (hp L I r)) := by
  refine mt_of_ev (by decide) (Nat.le_of_ble_eq_true rfl) ?_
  show ev G M_Mo_lowestGate (rmv 0 0 0) (Er M_Mo_lowestGate _ 0 0) 0 [(0, .ref 1000)] [] (hp L I r) 0 0
  refine s_Mo_lowestGate_0 ?_
  refine s_Mo_lowestGate_1 ?_
  refine s_Mo_lowestGate_2 ?_
  refine s_Mo_lowestGate_3 ?_
  refine ev_pick [0, 1, 2] rfl ?_
  exact l_Mo_lowestGate 6 (-1) (Nat.le_refl 6) dt_i

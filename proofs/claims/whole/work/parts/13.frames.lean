/-! frames: notes, opening, closing -/
def lnt (I : IT) (g : Nat) (k : Int32) (q : Nat) : Bool := !decide (k < nI q) && decide ((I 10 g >>> ((nI q - 1) &&& 31)) &&& 1 = 1)
def wNl (I : IT) (g : Nat) (k : Int32) (dp : Nat) : LT → Nat → Nat → LT
  | L, _, 0 => L
  | L, q, n + 1 => wNl I g k dp (upL L 6 (7 * dp + q) (if lnt I g k q = true then L 5 q else 0)) (q + 1) n
def wNo (L : LT) (I : IT) (g : Nat) (k : Int32) (dp : Nat) : LT := wNl I g k dp (upL L 6 (7 * dp) (L 5 (96 + g))) 1 6
def oFl (dp : Nat) (k : Int32) : LT → Nat → Nat → LT
  | L, _, 0 => L
  | L, q, n + 1 => oFl dp k (if q = 0 ∨ k < nI q then upL (upL L 5 (56 + 8 * dp + q) (L 5 q)) 5 q 0 else L) (q + 1) n
def cFl (f : Nat) : LT → Nat → Nat → LT
  | L, _, 0 => L
  | L, q, n + 1 => cFl f (upL (upL L 5 q (L 5 (56 + 8 * f + q))) 5 (56 + 8 * f + q) 0) (q + 1) n
def okr (L : LT) (f q : Nat) : Bool := if vKd (L 6 (7 * f + q)) = 0 then decide (vKd (L 5 q) = 0) else decide (L 5 q = L 6 (7 * f + q))
def cCl (L : LT) (f : Nat) : Bool → Nat → Nat → Bool
  | b, _, 0 => b
  | b, q, n + 1 => cCl L f (b && okr L f q) (q + 1) n
theorem kpl (f q : Nat) : (56 : Int32) + nI f * 8 + nI q = nI (56 + 8 * f + q) := by
  rw [show (8 : Int32) = nI 8 from rfl, pk_mul, show (56 : Int32) = nI 56 from rfl, nI_add, nI_add, Nat.mul_comm f 8]
theorem mul7 (f : Nat) : nI f * 7 = nI (7 * f) := by rw [show (7 : Int32) = nI 7 from rfl, pk_mul, Nat.mul_comm]
theorem ev_pick {G : GW} {M : MW} {R : Room} {E : Nat → LV → List Value → HP → Nat → Nat → Prop} {pc : Nat} {lv lv' : LV} {st : List Value} {h : HP} {cells slots : Nat} (ks : List Nat) (hk : lv_pick lv ks = lv') (k : ev G M R E pc lv' st h cells slots) : ev G M R E pc lv st h cells slots := by
  have hsub : ∀ q ∈ lv', q ∈ lv := by
    intro q hq
    rw [← hk] at hq
    obtain ⟨j, -, hj⟩ := List.mem_filterMap.mp hq
    exact List.mem_of_getElem? hj
  intro p e s m args below meth c Q A ads0 C hE ads H locs ls X
  refine k p e s m args below meth c Q A ads0 C hE ads H locs ls ⟨X.1, ⟨⟨X.2.1.1.1, X.2.1.1.2.1, fun q hq => ?_⟩, fun q hq => X.2.1.2 q (hsub q hq)⟩, X.2.2⟩
  obtain ⟨z, hz, rfl⟩ := List.mem_map.mp hq
  exact X.2.1.1.2.2 _ (List.mem_map.mpr ⟨z, hsub z hz, rfl⟩)
theorem lcmp0 {x y : Int64} : lg_cmp x y = 0 ↔ x = y := lg_cmp_eq x y
set_option maxRecDepth 100000 in
theorem l_writeNotes {G : GW} {I : IT} {r : Nat} {P : Option Value → HP → Prop} {g dp : Nat} {k : Int32} (hg : g < 6) (hd : dp < 5) : ∀ (n q : Nat) (L : LT), q + n = 7 → 1 ≤ q → P none (hp (wNl I g k dp L q n) I r) → ev G M_St_writeNotes (rmv 1 0 0) (Er M_St_writeNotes P 0 0) 25 [(4, .int (nI q)), (3, .int (nI (7 * dp))), (0, .ref 4), (1, .int (nI g)), (2, .int k)] [] (hp L I r) 0 0 := by
  intro n
  induction n with
  | zero =>
    intro q L hq h1 hP
    have c29 : (6 : Int32) < nI q := by rw [show q = 7 by omega]; decide
    refine s_St_writeNotes_25 rfl ?_
    refine s_St_writeNotes_27 ?_
    refine s_St_writeNotes_29 (fun _ => ?_) (fun c => absurd c29 c)
    exact s_St_writeNotes_92 hP z0
  | succ n ih =>
    intro q L hq h1 hP
    have n29 : ¬ (6 : Int32) < nI q := by rw [show (6 : Int32) = nI 6 from rfl, nI_ltI (by decide) (by omega)]; omega
    have hix : nI (7 * dp) + nI q = nI (7 * dp + q) := nI_add _ _
    refine s_St_writeNotes_25 rfl ?_
    refine s_St_writeNotes_27 ?_
    refine s_St_writeNotes_29 (fun c29 => absurd c29 (n29)) (fun c29 => ?_)
    refine s_St_writeNotes_32 rfl ?_
    refine s_St_writeNotes_34 rfl ?_
    refine s_St_writeNotes_35 (fun c35 => ?_) (fun c35 => ?_)
    · skip
      refine s_St_writeNotes_59 ?_
      refine s_St_writeNotes_60 ?_
      refine s_St_writeNotes_62 rfl ?_
      refine s_St_writeNotes_63 hp_4 rfl ?_
      refine s_St_writeNotes_66 rfl ?_
      refine s_St_writeNotes_67 rfl ?_
      refine s_St_writeNotes_69 ?_
      rw [hix]
      refine s_St_writeNotes_70 rfl ?_
      refine s_St_writeNotes_72 (fun c72 => ?_) (fun c72 => absurd c72 (by decide))
      refine s_St_writeNotes_84 ?_
      refine s_St_writeNotes_85 hp_6 (vp_in_nI (by omega) (by decide)) ?_
      rw [hu_6]
      rw [nI_clamp (by omega)]
      refine s_St_writeNotes_86 rfl ?_
      rw [nI_1]
      refine s_St_writeNotes_89 ?_
      refine ev_pick [0, 2, 3, 4, 5] rfl ?_
      exact ih (q + 1) _ (by omega) (by omega) (by rw [wNl] at hP; simpa [lnt, upL, c35] using hP)
    · skip
      refine s_St_writeNotes_38 rfl ?_
      refine s_St_writeNotes_39 hp_4 rfl ?_
      refine s_St_writeNotes_42 rfl ?_
      refine s_St_writeNotes_43 hp_10 (vp_in_nI hg (by decide)) ?_
      rw [nI_clamp (by omega)]
      refine s_St_writeNotes_44 rfl ?_
      refine s_St_writeNotes_46 ?_
      refine s_St_writeNotes_47 ?_
      refine s_St_writeNotes_48 ?_
      refine s_St_writeNotes_49 ?_
      refine s_St_writeNotes_50 ?_
      refine s_St_writeNotes_51 ?_
      refine s_St_writeNotes_52 (fun c52 => ?_) (fun c52 => ?_)
      · skip
        refine s_St_writeNotes_59 ?_
        refine s_St_writeNotes_60 ?_
        refine s_St_writeNotes_62 rfl ?_
        refine s_St_writeNotes_63 hp_4 rfl ?_
        refine s_St_writeNotes_66 rfl ?_
        refine s_St_writeNotes_67 rfl ?_
        refine s_St_writeNotes_69 ?_
        rw [hix]
        refine s_St_writeNotes_70 rfl ?_
        refine s_St_writeNotes_72 (fun c72 => ?_) (fun c72 => absurd c72 (by decide))
        refine s_St_writeNotes_84 ?_
        refine s_St_writeNotes_85 hp_6 (vp_in_nI (by omega) (by decide)) ?_
        rw [hu_6]
        rw [nI_clamp (by omega)]
        refine s_St_writeNotes_86 rfl ?_
        rw [nI_1]
        refine s_St_writeNotes_89 ?_
        refine ev_pick [0, 2, 3, 4, 5] rfl ?_
        exact ih (q + 1) _ (by omega) (by omega) (by rw [wNl] at hP; simpa [lnt, upL, c35, c52] using hP)
      · skip
        refine s_St_writeNotes_55 ?_
        refine s_St_writeNotes_56 ?_
        refine s_St_writeNotes_60 ?_
        refine s_St_writeNotes_62 rfl ?_
        refine s_St_writeNotes_63 hp_4 rfl ?_
        refine s_St_writeNotes_66 rfl ?_
        refine s_St_writeNotes_67 rfl ?_
        refine s_St_writeNotes_69 ?_
        rw [hix]
        refine s_St_writeNotes_70 rfl ?_
        refine s_St_writeNotes_72 (fun c72 => absurd c72 (by decide)) (fun c72 => ?_)
        refine s_St_writeNotes_75 rfl ?_
        refine s_St_writeNotes_76 rfl ?_
        refine c_St_writeNotes_78 (t_St_held rfl (by omega)) hp_4 rfl (Nat.le_of_ble_eq_true rfl) ?_
        refine s_St_writeNotes_81 ?_
        refine s_St_writeNotes_85 hp_6 (vp_in_nI (by omega) (by decide)) ?_
        rw [hu_6]
        rw [nI_clamp (by omega)]
        refine s_St_writeNotes_86 rfl ?_
        rw [nI_1]
        refine s_St_writeNotes_89 ?_
        refine ev_pick [0, 2, 3, 4, 5] rfl ?_
        exact ih (q + 1) _ (by omega) (by omega) (by rw [wNl] at hP; simpa [lnt, upL, c35, c52] using hP)
set_option maxRecDepth 100000 in
theorem t_St_writeNotes {G : GW} {L : LT} {I : IT} {r : Nat} {p k : Int32} {g dp : Nat} (ep : p = nI g) (hg : g < 6) (ed : I 4 10 = nI dp) (hd : dp < 5) : mt G M_St_writeNotes 1 0 0 [.ref 4, .int p, .int k] (hp L I r) (dt (none) (hp (wNo L I g k dp) I r)) := by
  refine mt_of_ev (by decide) (Nat.le_of_ble_eq_true rfl) ?_
  show ev G M_St_writeNotes (rmv 1 0 0) (Er M_St_writeNotes _ 0 0) 0 [(0, .ref 4), (1, .int p), (2, .int k)] [] (hp L I r) 0 0
  subst ep
  refine s_St_writeNotes_0 rfl ?_
  refine s_St_writeNotes_1 hp_4 rfl ?_
  refine s_St_writeNotes_4 ?_
  refine s_St_writeNotes_6 ?_
  rw [ed, mul7]
  refine s_St_writeNotes_7 ?_
  refine s_St_writeNotes_8 rfl ?_
  refine s_St_writeNotes_9 hp_4 rfl ?_
  refine s_St_writeNotes_12 rfl ?_
  refine s_St_writeNotes_13 rfl ?_
  refine s_St_writeNotes_14 ?_
  refine s_St_writeNotes_16 rfl ?_
  refine s_St_writeNotes_17 ?_
  refine c_St_writeNotes_18 (t_St_held (show (96 : Int32) + nI g = nI (96 + g) from nI_add 96 g) (by omega)) hp_4 rfl (Nat.le_of_ble_eq_true rfl) ?_
  refine s_St_writeNotes_21 hp_6 (vp_in_nI (by omega) (by decide)) ?_
  rw [hu_6]
  rw [nI_clamp (by omega)]
  refine s_St_writeNotes_22 ?_
  refine s_St_writeNotes_23 ?_
  refine ev_pick [0, 1, 2, 3, 4] rfl ?_
  exact l_writeNotes hg hd 6 1 _ rfl (Nat.le_refl 1) dt_i
theorem ev_topi {G : GW} {M : MW} {R : Room} {E : Nat → LV → List Value → HP → Nat → Nat → Prop} {pc : Nat} {lv : LV} {rest : List Value} {h : HP} {cells slots : Nat} {x y : Int32} (e : x = y) (k : ev G M R E pc lv (.int y :: rest) h cells slots) : ev G M R E pc lv (.int x :: rest) h cells slots := e ▸ k
def oFI (I : IT) (g : Nat) (k ob : Int32) (dp : Nat) : IT := upI (upI (upI (upI I 11 dp ob) 12 dp (I 4 11)) 13 dp (nI g)) 14 dp k
def oFM (L : LT) (I : IT) (g : Nat) (k ob : Int32) (dp : Nat) : LT := oFl dp k (wNo L (oFI I g k ob dp) g k dp) 0 8
def oFL (L : LT) (I : IT) (g : Nat) (k ob : Int32) (dp : Nat) : LT := upL (upL (oFM L I g k ob dp) 5 7 (oFM L I g k ob dp 5 (96 + g))) 5 (96 + g) 0
def oFJ (I : IT) (g : Nat) (k ob : Int32) (dp : Nat) : IT := upI (upI (upI (upI (oFI I g k ob dp) 8 g 2) 4 11 (I 9 g)) 4 12 0) 4 10 (I 4 10 + 1)
def cFJ (I : IT) (f g : Nat) : IT := upI (upI (upI (upI I 8 g 1) 4 11 (I 12 f)) 4 12 (I 11 f)) 4 10 (nI f)
def cFL (L : LT) (f g k : Nat) : LT := upL (cFl f (upL (upL L 5 (96 + g) (L 5 7)) 5 7 0) (k + 1) (7 - k)) 5 (56 + 8 * f) 0
set_option maxRecDepth 100000 in
theorem l_openFrame {G : GW} {I : IT} {r : Nat}  {E : Nat → LV → List Value → HP → Nat → Nat → Prop} {g dp : Nat} {k ob : Int32} (ed : I 4 10 = nI dp) (hd : dp < 5) : ∀ (n q : Nat) (L : LT), q + n = 8 → ev G M_St_openFrame (rmv 2 0 0) E 107 [(4, .int (nI 8)), (0, .ref 4), (1, .int (nI g)), (2, .int k), (3, .int ob)] [] (hp (oFl dp k L q n) I r) 0 0 → ev G M_St_openFrame (rmv 2 0 0) E 68 [(4, .int (nI q)), (0, .ref 4), (1, .int (nI g)), (2, .int k), (3, .int ob)] [] (hp L I r) 0 0 := by
  intro n
  induction n with
  | zero =>
    intro q L hq hP
    obtain rfl : q = 8 := by omega
    refine s_St_openFrame_68 rfl ?_
    refine s_St_openFrame_70 ?_
    refine s_St_openFrame_72 (fun _ => ?_) (fun c => absurd (by decide) c)
    exact hP
  | succ n ih =>
    intro q L hq hP
    refine s_St_openFrame_68 rfl ?_
    refine s_St_openFrame_70 ?_
    refine s_St_openFrame_72 (fun c72 => absurd c72 (nle_nI (n := 8) rfl (by omega) (by decide))) (fun c72 => ?_)
    refine s_St_openFrame_75 rfl ?_
    refine s_St_openFrame_77 (fun c77 => ?_) (fun c77 => ?_)
    · skip
      refine s_St_openFrame_86 rfl ?_
      refine s_St_openFrame_87 rfl ?_
      refine s_St_openFrame_88 hp_4 rfl ?_
      refine ev_topi ed ?_
      refine s_St_openFrame_91 rfl ?_
      refine c_St_openFrame_93 (t_St_keptPlace) (Nat.le_of_ble_eq_true rfl) ?_
      refine ev_topi (kpl dp q) ?_
      refine s_St_openFrame_96 rfl ?_
      refine c_St_openFrame_98 (t_St_carry rfl (by omega) rfl (by omega)) hp_4 rfl (Nat.le_of_ble_eq_true rfl) ?_
      refine s_St_openFrame_101 rfl ?_
      rw [nI_1]
      refine s_St_openFrame_104 ?_
      refine ev_pick [0, 1, 2, 3, 4] rfl ?_
      first | exact ih (q + 1) _ (by omega) (by rw [oFl, if_pos (Or.inl ((nI_eq (a := q) (b := 0) (by omega) (by decide)).mp (c77.trans nI_0.symm)))] at hP; exact hP) | exact ih (q + 1) _ (by omega) (by rw [oFl, if_pos (Or.inr (Int32.not_le.mp c83))] at hP; exact hP) | exact ih (q + 1) _ (by omega) (by rw [oFl, if_neg (fun h => h.elim (fun e => c77 (by rw [e]; rfl)) (fun e => absurd c83 (Int32.not_le.mpr e)))] at hP; exact hP)
    · skip
      refine s_St_openFrame_80 rfl ?_
      refine s_St_openFrame_82 rfl ?_
      refine s_St_openFrame_83 (fun c83 => ?_) (fun c83 => ?_)
      · skip
        refine s_St_openFrame_101 rfl ?_
        rw [nI_1]
        refine s_St_openFrame_104 ?_
        refine ev_pick [0, 1, 2, 3, 4] rfl ?_
        first | exact ih (q + 1) _ (by omega) (by rw [oFl, if_pos (Or.inl ((nI_eq (a := q) (b := 0) (by omega) (by decide)).mp (c77.trans nI_0.symm)))] at hP; exact hP) | exact ih (q + 1) _ (by omega) (by rw [oFl, if_pos (Or.inr (Int32.not_le.mp c83))] at hP; exact hP) | exact ih (q + 1) _ (by omega) (by rw [oFl, if_neg (fun h => h.elim (fun e => c77 (by rw [e]; rfl)) (fun e => absurd c83 (Int32.not_le.mpr e)))] at hP; exact hP)
      · skip
        refine s_St_openFrame_86 rfl ?_
        refine s_St_openFrame_87 rfl ?_
        refine s_St_openFrame_88 hp_4 rfl ?_
        refine ev_topi ed ?_
        refine s_St_openFrame_91 rfl ?_
        refine c_St_openFrame_93 (t_St_keptPlace) (Nat.le_of_ble_eq_true rfl) ?_
        refine ev_topi (kpl dp q) ?_
        refine s_St_openFrame_96 rfl ?_
        refine c_St_openFrame_98 (t_St_carry rfl (by omega) rfl (by omega)) hp_4 rfl (Nat.le_of_ble_eq_true rfl) ?_
        refine s_St_openFrame_101 rfl ?_
        rw [nI_1]
        refine s_St_openFrame_104 ?_
        refine ev_pick [0, 1, 2, 3, 4] rfl ?_
        first | exact ih (q + 1) _ (by omega) (by rw [oFl, if_pos (Or.inl ((nI_eq (a := q) (b := 0) (by omega) (by decide)).mp (c77.trans nI_0.symm)))] at hP; exact hP) | exact ih (q + 1) _ (by omega) (by rw [oFl, if_pos (Or.inr (Int32.not_le.mp c83))] at hP; exact hP) | exact ih (q + 1) _ (by omega) (by rw [oFl, if_neg (fun h => h.elim (fun e => c77 (by rw [e]; rfl)) (fun e => absurd c83 (Int32.not_le.mpr e)))] at hP; exact hP)
set_option maxRecDepth 100000 in
theorem t_St_openFrame {G : GW} {L : LT} {I : IT} {r : Nat} {p k ob : Int32} {g dp : Nat} (ep : p = nI g) (hg : g < 6) (e8 : I 8 g = 1) (ed : I 4 10 = nI dp) (hd : dp < 5) : mt G M_St_openFrame 2 0 0 [.ref 4, .int p, .int k, .int ob] (hp L I r) (dt (none) (hp (oFL L I g k ob dp) (oFJ I g k ob dp) r)) := by
  refine mt_of_ev (by decide) (Nat.le_of_ble_eq_true rfl) ?_
  show ev G M_St_openFrame (rmv 2 0 0) (Er M_St_openFrame _ 0 0) 0 [(0, .ref 4), (1, .int p), (2, .int k), (3, .int ob)] [] (hp L I r) 0 0
  subst ep
  refine s_St_openFrame_0 rfl ?_
  refine s_St_openFrame_1 rfl ?_
  refine c_St_openFrame_2 (t_St_canOpen rfl hg) hp_4 rfl (Nat.le_of_ble_eq_true rfl) ?_
  refine s_St_openFrame_5 (fun c5 => absurd c5 (by rw [bz_n0, e8, ed, decide_eq_true (lt_nI (n := 5) rfl hd (by decide))]; rfl)) (fun c5 => ?_)
  refine s_St_openFrame_8 rfl ?_
  refine s_St_openFrame_9 hp_4 rfl ?_
  refine s_St_openFrame_12 (fun c12 => ?_) (fun c12 => absurd c12 (fun q => q (by rw [ed]; exact nI_pos' (by omega))))
  refine s_St_openFrame_16 rfl ?_
  refine s_St_openFrame_17 hp_4 rfl ?_
  refine s_St_openFrame_20 rfl ?_
  refine s_St_openFrame_21 hp_4 rfl ?_
  refine ev_topi ed ?_
  refine s_St_openFrame_24 rfl ?_
  refine s_St_openFrame_25 hp_11 (vp_in_nI hd (by decide)) ?_
  rw [hu_11]
  rw [nI_clamp (by omega)]
  refine s_St_openFrame_26 rfl ?_
  refine s_St_openFrame_27 hp_4 rfl ?_
  refine s_St_openFrame_30 rfl ?_
  refine s_St_openFrame_31 hp_4 rfl ?_
  refine ev_topi ed ?_
  refine s_St_openFrame_34 rfl ?_
  refine s_St_openFrame_35 hp_4 rfl ?_
  refine s_St_openFrame_38 hp_12 (vp_in_nI hd (by decide)) ?_
  rw [hu_12]
  rw [nI_clamp (by omega)]
  refine s_St_openFrame_39 rfl ?_
  refine s_St_openFrame_40 hp_4 rfl ?_
  refine s_St_openFrame_43 rfl ?_
  refine s_St_openFrame_44 hp_4 rfl ?_
  refine ev_topi ed ?_
  refine s_St_openFrame_47 rfl ?_
  refine s_St_openFrame_48 hp_13 (vp_in_nI hd (by decide)) ?_
  rw [hu_13]
  rw [nI_clamp (by omega)]
  refine s_St_openFrame_49 rfl ?_
  refine s_St_openFrame_50 hp_4 rfl ?_
  refine s_St_openFrame_53 rfl ?_
  refine s_St_openFrame_54 hp_4 rfl ?_
  refine ev_topi ed ?_
  refine s_St_openFrame_57 rfl ?_
  refine s_St_openFrame_58 hp_14 (vp_in_nI hd (by decide)) ?_
  rw [hu_14]
  rw [nI_clamp (by omega)]
  refine s_St_openFrame_59 rfl ?_
  refine s_St_openFrame_60 rfl ?_
  refine s_St_openFrame_61 rfl ?_
  refine c_St_openFrame_62 (t_St_writeNotes rfl hg ed hd) hp_4 rfl (Nat.le_of_ble_eq_true rfl) ?_
  refine s_St_openFrame_65 ?_
  refine s_St_openFrame_66 ?_
  refine ev_pick [0, 1, 2, 3, 4] rfl ?_
  refine l_openFrame (I := oFI I g k ob dp) ed hd 8 0 _ rfl ?_
  refine s_St_openFrame_107 rfl ?_
  refine s_St_openFrame_108 ?_
  refine s_St_openFrame_110 ?_
  refine s_St_openFrame_112 rfl ?_
  refine s_St_openFrame_113 ?_
  refine c_St_openFrame_114 (t_St_carry (t := 7) rfl (by omega) (show (96 : Int32) + nI g = nI (96 + g) from nI_add 96 g) (by omega)) hp_4 rfl (Nat.le_of_ble_eq_true rfl) ?_
  refine s_St_openFrame_117 rfl ?_
  refine s_St_openFrame_118 hp_4 rfl ?_
  refine s_St_openFrame_121 rfl ?_
  refine s_St_openFrame_122 ?_
  refine s_St_openFrame_123 hp_8 (vp_in_nI hg (by decide)) ?_
  rw [hu_8]
  rw [nI_clamp (by omega)]
  refine s_St_openFrame_124 rfl ?_
  refine s_St_openFrame_125 rfl ?_
  refine s_St_openFrame_126 hp_4 rfl ?_
  refine s_St_openFrame_129 rfl ?_
  refine s_St_openFrame_130 hp_9 (vp_in_nI hg (by decide)) ?_
  rw [nI_clamp (by omega)]
  refine s_St_openFrame_131 hp_4 (Nat.le_of_ble_eq_true rfl) ?_
  rw [hu_4_11]
  refine s_St_openFrame_134 rfl ?_
  refine s_St_openFrame_135 ?_
  refine s_St_openFrame_136 hp_4 (Nat.le_of_ble_eq_true rfl) ?_
  rw [hu_4_12]
  refine s_St_openFrame_139 rfl ?_
  refine s_St_openFrame_140 rfl ?_
  refine s_St_openFrame_141 hp_4 rfl ?_
  refine s_St_openFrame_144 ?_
  refine s_St_openFrame_145 ?_
  refine s_St_openFrame_146 hp_4 (Nat.le_of_ble_eq_true rfl) ?_
  rw [hu_4_10]
  exact s_St_openFrame_149 ⟨rfl, rfl⟩ z0
set_option maxRecDepth 100000 in
theorem l_canClose {G : GW} {I : IT} {r : Nat} {P : Option Value → HP → Prop} {L : LT} {f : Nat} (hf : f < 5) : ∀ (n q : Nat) (b : Bool), q + n = 7 → 1 ≤ q → P (some (.int (bz (cCl L f b q n)))) (hp L I r) → ev G M_St_canCloseFrame (rmv 2 0 0) (Er M_St_canCloseFrame P 0 0) 63 [(3, .int (nI q)), (2, .int (bz b)), (1, .int (nI (7 * f))), (0, .ref 4)] [] (hp L I r) 0 0 := by
  intro n
  induction n with
  | zero =>
    intro q b hq h1 hP
    have c29 : (6 : Int32) < nI q := by rw [show q = 7 by omega]; decide
    refine s_St_canCloseFrame_63 rfl ?_
    refine s_St_canCloseFrame_64 ?_
    refine s_St_canCloseFrame_66 (fun _ => ?_) (fun c => absurd c29 c)
    refine s_St_canCloseFrame_128 rfl ?_
    exact s_St_canCloseFrame_129 bz_or hP z0
  | succ n ih =>
    intro q b hq h1 hP
    have n29 : ¬ (6 : Int32) < nI q := by rw [show (6 : Int32) = nI 6 from rfl, nI_ltI (by decide) (by omega)]; omega
    have hix : nI (7 * f) + nI q = nI (7 * f + q) := nI_add _ _
    refine s_St_canCloseFrame_63 rfl ?_
    refine s_St_canCloseFrame_64 ?_
    refine s_St_canCloseFrame_66 (fun c66 => absurd c66 (n29)) (fun c66 => ?_)
    refine s_St_canCloseFrame_69 rfl ?_
    refine s_St_canCloseFrame_70 hp_4 rfl ?_
    refine s_St_canCloseFrame_73 rfl ?_
    refine s_St_canCloseFrame_74 rfl ?_
    refine s_St_canCloseFrame_75 ?_
    rw [hix]
    refine s_St_canCloseFrame_76 hp_6 (vp_in_nI (by omega) (by decide)) ?_
    rw [nI_clamp (by omega)]
    refine s_St_canCloseFrame_77 ?_
    refine s_St_canCloseFrame_79 rfl ?_
    refine s_St_canCloseFrame_80 (fun c80 => ?_) (fun c80 => ?_)
    · skip
      (first | rw [bz_n0] at c80 | rw [bz_0] at c80 | skip); (try simp only [Bool.not_eq_false', Bool.not_eq_true', decide_eq_true_eq, decide_eq_false_iff_not, Bool.or_eq_true, Bool.or_eq_false_iff, Bool.and_eq_true, Bool.and_eq_false_iff] at c80)
      refine s_St_canCloseFrame_120 ?_
      refine s_St_canCloseFrame_121 ?_
      refine s_St_canCloseFrame_122 rfl ?_
      rw [nI_1]
      refine s_St_canCloseFrame_125 ?_
      refine ev_pick [0, 1, 3, 4] rfl ?_
      first | exact ih (q + 1) true (by omega) (by omega) (by rw [cCl] at hP; simpa [okr, lcmp0, c80] using hP) | exact ih (q + 1) false (by omega) (by omega) (by rw [cCl] at hP; simpa [okr, lcmp0, c80] using hP) | exact ih (q + 1) false (by omega) (by omega) (by rw [cCl] at hP; rw [lcmp0] at c113; simpa [okr, c80] using hP) | exact ih (q + 1) true (by omega) (by omega) (by rw [cCl] at hP; rw [lcmp0] at c113; simpa [okr, c80] using hP)
    · skip
      (first | rw [bz_n0] at c80 | rw [bz_0] at c80 | skip); (try simp only [Bool.not_eq_false', Bool.not_eq_true', decide_eq_true_eq, decide_eq_false_iff_not, Bool.or_eq_true, Bool.or_eq_false_iff, Bool.and_eq_true, Bool.and_eq_false_iff] at c80)
      refine s_St_canCloseFrame_83 rfl ?_
      refine c_St_canCloseFrame_85 (t_Va_isNumber) (Nat.le_of_ble_eq_true rfl) ?_
      refine s_St_canCloseFrame_88 (fun c88 => ?_) (fun c88 => ?_)
      · skip
        (first | rw [bz_n0] at c88 | rw [bz_0] at c88 | skip); (try simp only [Bool.not_eq_false', Bool.not_eq_true', decide_eq_true_eq, decide_eq_false_iff_not, Bool.or_eq_true, Bool.or_eq_false_iff, Bool.and_eq_true, Bool.and_eq_false_iff] at c88)
        refine s_St_canCloseFrame_105 rfl ?_
        refine s_St_canCloseFrame_106 rfl ?_
        refine c_St_canCloseFrame_107 (t_St_held rfl (by omega)) hp_4 rfl (Nat.le_of_ble_eq_true rfl) ?_
        refine s_St_canCloseFrame_110 rfl ?_
        refine s_St_canCloseFrame_112 ?_
        skip
        refine s_St_canCloseFrame_113 (fun c113 => ?_) (fun c113 => ?_)
        · skip
          refine s_St_canCloseFrame_120 ?_
          refine s_St_canCloseFrame_121 ?_
          refine s_St_canCloseFrame_122 rfl ?_
          rw [nI_1]
          refine s_St_canCloseFrame_125 ?_
          refine ev_pick [0, 1, 3, 4] rfl ?_
          first | exact ih (q + 1) true (by omega) (by omega) (by rw [cCl] at hP; simpa [okr, lcmp0, c80, c88, c113] using hP) | exact ih (q + 1) false (by omega) (by omega) (by rw [cCl] at hP; simpa [okr, lcmp0, c80, c88, c113] using hP) | exact ih (q + 1) false (by omega) (by omega) (by rw [cCl] at hP; rw [lcmp0] at c113; simpa [okr, c80, c88, c113] using hP) | exact ih (q + 1) true (by omega) (by omega) (by rw [cCl] at hP; rw [lcmp0] at c113; simpa [okr, c80, c88, c113] using hP)
        · skip
          refine s_St_canCloseFrame_116 ?_
          refine s_St_canCloseFrame_117 ?_
          refine s_St_canCloseFrame_121 ?_
          refine s_St_canCloseFrame_122 rfl ?_
          rw [nI_1]
          refine s_St_canCloseFrame_125 ?_
          refine ev_pick [0, 1, 3, 4] rfl ?_
          first | exact ih (q + 1) true (by omega) (by omega) (by rw [cCl] at hP; simpa [okr, lcmp0, c80, c88, c113] using hP) | exact ih (q + 1) false (by omega) (by omega) (by rw [cCl] at hP; simpa [okr, lcmp0, c80, c88, c113] using hP) | exact ih (q + 1) false (by omega) (by omega) (by rw [cCl] at hP; rw [lcmp0] at c113; simpa [okr, c80, c88, c113] using hP) | exact ih (q + 1) true (by omega) (by omega) (by rw [cCl] at hP; rw [lcmp0] at c113; simpa [okr, c80, c88, c113] using hP)
      · skip
        (first | rw [bz_n0] at c88 | rw [bz_0] at c88 | skip); (try simp only [Bool.not_eq_false', Bool.not_eq_true', decide_eq_true_eq, decide_eq_false_iff_not, Bool.or_eq_true, Bool.or_eq_false_iff, Bool.and_eq_true, Bool.and_eq_false_iff] at c88)
        refine s_St_canCloseFrame_91 rfl ?_
        refine s_St_canCloseFrame_92 rfl ?_
        refine c_St_canCloseFrame_93 (t_St_held rfl (by omega)) hp_4 rfl (Nat.le_of_ble_eq_true rfl) ?_
        refine c_St_canCloseFrame_96 (t_Va_isNumber) (Nat.le_of_ble_eq_true rfl) ?_
        refine s_St_canCloseFrame_99 (fun c99 => ?_) (fun c99 => ?_)
        · skip
          (first | rw [bz_n0] at c99 | rw [bz_0] at c99 | skip); (try simp only [Bool.not_eq_false', Bool.not_eq_true', decide_eq_true_eq, decide_eq_false_iff_not, Bool.or_eq_true, Bool.or_eq_false_iff, Bool.and_eq_true, Bool.and_eq_false_iff] at c99)
          refine s_St_canCloseFrame_120 ?_
          refine s_St_canCloseFrame_121 ?_
          refine s_St_canCloseFrame_122 rfl ?_
          rw [nI_1]
          refine s_St_canCloseFrame_125 ?_
          refine ev_pick [0, 1, 3, 4] rfl ?_
          first | exact ih (q + 1) true (by omega) (by omega) (by rw [cCl] at hP; simpa [okr, lcmp0, c80, c88, c99] using hP) | exact ih (q + 1) false (by omega) (by omega) (by rw [cCl] at hP; simpa [okr, lcmp0, c80, c88, c99] using hP) | exact ih (q + 1) false (by omega) (by omega) (by rw [cCl] at hP; rw [lcmp0] at c113; simpa [okr, c80, c88, c99] using hP) | exact ih (q + 1) true (by omega) (by omega) (by rw [cCl] at hP; rw [lcmp0] at c113; simpa [okr, c80, c88, c99] using hP)
        · skip
          (first | rw [bz_n0] at c99 | rw [bz_0] at c99 | skip); (try simp only [Bool.not_eq_false', Bool.not_eq_true', decide_eq_true_eq, decide_eq_false_iff_not, Bool.or_eq_true, Bool.or_eq_false_iff, Bool.and_eq_true, Bool.and_eq_false_iff] at c99)
          refine s_St_canCloseFrame_102 ?_
          refine s_St_canCloseFrame_116 ?_
          refine s_St_canCloseFrame_117 ?_
          refine s_St_canCloseFrame_121 ?_
          refine s_St_canCloseFrame_122 rfl ?_
          rw [nI_1]
          refine s_St_canCloseFrame_125 ?_
          refine ev_pick [0, 1, 3, 4] rfl ?_
          first | exact ih (q + 1) true (by omega) (by omega) (by rw [cCl] at hP; simpa [okr, lcmp0, c80, c88, c99] using hP) | exact ih (q + 1) false (by omega) (by omega) (by rw [cCl] at hP; simpa [okr, lcmp0, c80, c88, c99] using hP) | exact ih (q + 1) false (by omega) (by omega) (by rw [cCl] at hP; rw [lcmp0] at c113; simpa [okr, c80, c88, c99] using hP) | exact ih (q + 1) true (by omega) (by omega) (by rw [cCl] at hP; rw [lcmp0] at c113; simpa [okr, c80, c88, c99] using hP)
set_option maxRecDepth 100000 in
theorem t_St_canCloseFrame {G : GW} {L : LT} {I : IT} {r : Nat} {f : Nat} (ed : I 4 10 = nI (f + 1)) (hf : f < 5) : mt G M_St_canCloseFrame 2 0 0 [.ref 4] (hp L I r) (dt (some (.int (bz (cCl L f (decide (vKd (L 5 0) = 0) && decide (L 5 7 = L 6 (7 * f))) 1 6)))) (hp L I r)) := by
  refine mt_of_ev (by decide) (Nat.le_of_ble_eq_true rfl) ?_
  show ev G M_St_canCloseFrame (rmv 2 0 0) (Er M_St_canCloseFrame _ 0 0) 0 [(0, .ref 4)] [] (hp L I r) 0 0
  refine s_St_canCloseFrame_0 rfl ?_
  refine s_St_canCloseFrame_1 hp_4 rfl ?_
  refine s_St_canCloseFrame_4 ?_
  refine s_St_canCloseFrame_5 (fun c5 => absurd c5 (by rw [ed, show (1 : Int32) = nI 1 from rfl, nI_ltI (by omega) (by decide)]; omega)) (fun c5 => ?_)
  refine s_St_canCloseFrame_8 rfl ?_
  refine s_St_canCloseFrame_9 hp_4 rfl ?_
  refine s_St_canCloseFrame_12 ?_
  refine s_St_canCloseFrame_13 (fun c13 => ?_) (fun c13 => absurd c13 (fun q => q (by rw [ed, show (5 : Int32) = nI 5 from rfl, nI_leI (by omega) (by decide)]; omega)))
  refine s_St_canCloseFrame_18 rfl ?_
  refine s_St_canCloseFrame_19 hp_4 rfl ?_
  refine ev_topi ed ?_
  refine s_St_canCloseFrame_22 ?_
  refine s_St_canCloseFrame_23 ?_
  rw [nI_pred]
  refine s_St_canCloseFrame_24 ?_
  refine s_St_canCloseFrame_26 ?_
  rw [mul7]
  refine s_St_canCloseFrame_27 ?_
  refine s_St_canCloseFrame_28 rfl ?_
  refine s_St_canCloseFrame_29 ?_
  refine c_St_canCloseFrame_30 (t_St_held (j := 0) rfl (by omega)) hp_4 rfl (Nat.le_of_ble_eq_true rfl) ?_
  refine c_St_canCloseFrame_33 (t_Va_isNumber) (Nat.le_of_ble_eq_true rfl) ?_
  refine s_St_canCloseFrame_36 (fun c36 => ?_) (fun c36 => ?_)
  · skip
    (first | rw [bz_n0] at c36 | rw [bz_0] at c36 | skip); (try simp only [Bool.not_eq_false', Bool.not_eq_true', decide_eq_true_eq, decide_eq_false_iff_not, Bool.or_eq_true, Bool.or_eq_false_iff, Bool.and_eq_true, Bool.and_eq_false_iff] at c36)
    refine s_St_canCloseFrame_59 ?_
    refine s_St_canCloseFrame_60 ?_
    refine s_St_canCloseFrame_61 ?_
    refine s_St_canCloseFrame_62 ?_
    refine ev_pick [0, 1, 2, 3] rfl ?_
    first | exact l_canClose hf 6 1 true rfl (Nat.le_refl 1) ⟨by (try rw [lcmp0] at c52); simp [c36], rfl⟩ | exact l_canClose hf 6 1 false rfl (Nat.le_refl 1) ⟨by (try rw [lcmp0] at c52); simp [c36], rfl⟩
  · skip
    (first | rw [bz_n0] at c36 | rw [bz_0] at c36 | skip); (try simp only [Bool.not_eq_false', Bool.not_eq_true', decide_eq_true_eq, decide_eq_false_iff_not, Bool.or_eq_true, Bool.or_eq_false_iff, Bool.and_eq_true, Bool.and_eq_false_iff] at c36)
    refine s_St_canCloseFrame_39 rfl ?_
    refine s_St_canCloseFrame_40 ?_
    refine c_St_canCloseFrame_42 (t_St_held (j := 7) rfl (by omega)) hp_4 rfl (Nat.le_of_ble_eq_true rfl) ?_
    refine s_St_canCloseFrame_45 rfl ?_
    refine s_St_canCloseFrame_46 hp_4 rfl ?_
    refine s_St_canCloseFrame_49 rfl ?_
    refine s_St_canCloseFrame_50 hp_6 (vp_in_nI (by omega) (by decide)) ?_
    rw [nI_clamp (by omega)]
    refine s_St_canCloseFrame_51 ?_
    refine s_St_canCloseFrame_52 (fun c52 => ?_) (fun c52 => ?_)
    · skip
      refine s_St_canCloseFrame_59 ?_
      refine s_St_canCloseFrame_60 ?_
      refine s_St_canCloseFrame_61 ?_
      refine s_St_canCloseFrame_62 ?_
      refine ev_pick [0, 1, 2, 3] rfl ?_
      first | exact l_canClose hf 6 1 true rfl (Nat.le_refl 1) ⟨by (try rw [lcmp0] at c52); simp [c36, c52], rfl⟩ | exact l_canClose hf 6 1 false rfl (Nat.le_refl 1) ⟨by (try rw [lcmp0] at c52); simp [c36, c52], rfl⟩
    · skip
      refine s_St_canCloseFrame_55 ?_
      refine s_St_canCloseFrame_56 ?_
      refine s_St_canCloseFrame_60 ?_
      refine s_St_canCloseFrame_61 ?_
      refine s_St_canCloseFrame_62 ?_
      refine ev_pick [0, 1, 2, 3] rfl ?_
      first | exact l_canClose hf 6 1 true rfl (Nat.le_refl 1) ⟨by (try rw [lcmp0] at c52); simp [c36, c52], rfl⟩ | exact l_canClose hf 6 1 false rfl (Nat.le_refl 1) ⟨by (try rw [lcmp0] at c52); simp [c36, c52], rfl⟩
set_option maxRecDepth 100000 in
theorem t_St_canCloseFrame0 {G : GW} {L : LT} {I : IT} {r : Nat} (ed : I 4 10 = 0) : mt G M_St_canCloseFrame 2 0 0 [.ref 4] (hp L I r) (dt (some (.int 0)) (hp L I r)) := by
  refine mt_of_ev (by decide) (Nat.le_of_ble_eq_true rfl) ?_
  show ev G M_St_canCloseFrame (rmv 2 0 0) (Er M_St_canCloseFrame _ 0 0) 0 [(0, .ref 4)] [] (hp L I r) 0 0
  refine s_St_canCloseFrame_0 rfl ?_
  refine s_St_canCloseFrame_1 hp_4 rfl ?_
  refine s_St_canCloseFrame_4 ?_
  refine s_St_canCloseFrame_5 (fun c5 => ?_) (fun c5 => absurd c5 (fun q => q (by rw [ed]; decide)))
  refine s_St_canCloseFrame_16 ?_
  exact s_St_canCloseFrame_17 (by first | exact Or.inl rfl | exact Or.inr rfl | exact bz_or | assumption) ⟨by first | rfl | (simp [bz, *]; done) | (simp only [← Int32.not_le] at *; simp [bz, *]; done) | (simp only [Int32.not_lt, Int32.not_le] at *; simp [bz, *]; done) | (simp_all [bz]; done) | (simp only [bz_0, bz_n0, ← Int32.not_le] at *; simp_all [bz]; done), by first | rfl | (simp [*]; done) | (simp_all; done)⟩ z0
set_option maxRecDepth 100000 in
theorem l_closeFrame {G : GW} {I : IT} {r : Nat}  {E : Nat → LV → List Value → HP → Nat → Nat → Prop} {f g : Nat} (hf : f < 5) : ∀ (n q : Nat) (L : LT), q + n = 8 → ev G M_St_closeFrame (rmv 2 0 0) E 83 [(3, .int (nI 8)), (2, .int (nI g)), (1, .int (nI f)), (0, .ref 4)] [] (hp (cFl f L q n) I r) 0 0 → ev G M_St_closeFrame (rmv 2 0 0) E 61 [(3, .int (nI q)), (2, .int (nI g)), (1, .int (nI f)), (0, .ref 4)] [] (hp L I r) 0 0 := by
  intro n
  induction n with
  | zero =>
    intro q L hq hP
    obtain rfl : q = 8 := by omega
    refine s_St_closeFrame_61 rfl ?_
    refine s_St_closeFrame_62 ?_
    refine s_St_closeFrame_64 (fun _ => ?_) (fun c => absurd (by decide) c)
    exact hP
  | succ n ih =>
    intro q L hq hP
    refine s_St_closeFrame_61 rfl ?_
    refine s_St_closeFrame_62 ?_
    refine s_St_closeFrame_64 (fun c64 => absurd c64 (nle_nI (n := 8) rfl (by omega) (by decide))) (fun c64 => ?_)
    refine s_St_closeFrame_67 rfl ?_
    refine s_St_closeFrame_68 rfl ?_
    refine s_St_closeFrame_69 rfl ?_
    refine s_St_closeFrame_70 rfl ?_
    refine c_St_closeFrame_71 (t_St_keptPlace) (Nat.le_of_ble_eq_true rfl) ?_
    refine ev_topi (kpl f q) ?_
    refine c_St_closeFrame_74 (t_St_carry rfl (by omega) rfl (by omega)) hp_4 rfl (Nat.le_of_ble_eq_true rfl) ?_
    refine s_St_closeFrame_77 rfl ?_
    rw [nI_1]
    refine s_St_closeFrame_80 ?_
    refine ev_pick [0, 1, 2, 3] rfl ?_
    exact ih (q + 1) _ (by omega) (by rw [cFl] at hP; exact hP)
set_option maxRecDepth 100000 in
theorem t_St_closeFrame {G : GW} {L : LT} {I : IT} {r : Nat} {f g k : Nat} (ed : I 4 10 = nI (f + 1)) (hf : f < 5) (eg : I 13 f = nI g) (hg : g < 6) (ek : I 14 f = nI k) (hk : k ≤ 6) : mt G M_St_closeFrame 2 0 0 [.ref 4] (hp L I r) (dt (none) (hp (cFL L f g k) (cFJ I f g) r)) := by
  refine mt_of_ev (by decide) (Nat.le_of_ble_eq_true rfl) ?_
  show ev G M_St_closeFrame (rmv 2 0 0) (Er M_St_closeFrame _ 0 0) 0 [(0, .ref 4)] [] (hp L I r) 0 0
  refine s_St_closeFrame_0 rfl ?_
  refine s_St_closeFrame_1 hp_4 rfl ?_
  refine ev_topi ed ?_
  refine s_St_closeFrame_4 ?_
  refine s_St_closeFrame_5 ?_
  rw [nI_pred]
  refine s_St_closeFrame_6 ?_
  refine s_St_closeFrame_7 rfl ?_
  refine s_St_closeFrame_8 (fun c8 => absurd c8 (nI_pos (by omega))) (fun c8 => ?_)
  refine s_St_closeFrame_11 rfl ?_
  refine s_St_closeFrame_12 ?_
  refine s_St_closeFrame_13 (fun c13 => ?_) (fun c13 => absurd c13 (nn_lt (lt_nI (n := 5) rfl hf (by decide))))
  refine s_St_closeFrame_17 rfl ?_
  refine s_St_closeFrame_18 hp_4 rfl ?_
  refine s_St_closeFrame_21 rfl ?_
  refine s_St_closeFrame_22 hp_13 (vp_in_nI hf (by decide)) ?_
  rw [nI_clamp (by omega), eg]
  refine s_St_closeFrame_23 ?_
  refine s_St_closeFrame_24 rfl ?_
  refine s_St_closeFrame_25 (fun c25 => absurd c25 (nI_pos (by omega))) (fun c25 => ?_)
  refine s_St_closeFrame_28 rfl ?_
  refine s_St_closeFrame_29 ?_
  refine s_St_closeFrame_31 (fun c31 => ?_) (fun c31 => absurd c31 (nn_lt (lt_nI (n := 6) rfl hg (by decide))))
  refine s_St_closeFrame_35 rfl ?_
  refine s_St_closeFrame_36 ?_
  refine s_St_closeFrame_38 rfl ?_
  refine s_St_closeFrame_39 ?_
  refine s_St_closeFrame_40 ?_
  refine c_St_closeFrame_42 (t_St_carry (show (96 : Int32) + nI g = nI (96 + g) from nI_add 96 g) (by omega) (f := 7) rfl (by omega)) hp_4 rfl (Nat.le_of_ble_eq_true rfl) ?_
  refine s_St_closeFrame_45 rfl ?_
  refine s_St_closeFrame_46 hp_4 rfl ?_
  refine s_St_closeFrame_49 rfl ?_
  refine s_St_closeFrame_50 ?_
  refine s_St_closeFrame_51 hp_8 (vp_in_nI hg (by decide)) ?_
  rw [hu_8]
  rw [nI_clamp (by omega)]
  refine s_St_closeFrame_52 rfl ?_
  refine s_St_closeFrame_53 hp_4 rfl ?_
  refine s_St_closeFrame_56 rfl ?_
  refine s_St_closeFrame_57 hp_14 (vp_in_nI hf (by decide)) ?_
  refine ev_topi (show _ = nI k by rw [nI_clamp (by omega)]; exact ek) ?_
  refine s_St_closeFrame_58 ?_
  refine s_St_closeFrame_59 ?_
  rw [nI_1]
  refine s_St_closeFrame_60 ?_
  refine ev_pick [0, 1, 2, 3] rfl ?_
  refine l_closeFrame hf (7 - k) (k + 1) _ (by omega) ?_
  refine s_St_closeFrame_83 rfl ?_
  refine s_St_closeFrame_84 rfl ?_
  refine s_St_closeFrame_85 ?_
  refine c_St_closeFrame_86 (t_St_keptPlace) (Nat.le_of_ble_eq_true rfl) ?_
  refine ev_topi (kpl f 0) ?_
  refine s_St_closeFrame_89 ?_
  refine c_St_closeFrame_90 (t_St_put rfl (by omega)) hp_4 rfl (Nat.le_of_ble_eq_true rfl) ?_
  refine s_St_closeFrame_93 rfl ?_
  refine s_St_closeFrame_94 rfl ?_
  refine s_St_closeFrame_95 hp_4 rfl ?_
  refine s_St_closeFrame_98 rfl ?_
  refine s_St_closeFrame_99 hp_12 (vp_in_nI hf (by decide)) ?_
  rw [nI_clamp (by omega)]
  refine s_St_closeFrame_100 hp_4 (Nat.le_of_ble_eq_true rfl) ?_
  rw [hu_4_11]
  refine s_St_closeFrame_103 rfl ?_
  refine s_St_closeFrame_104 rfl ?_
  refine s_St_closeFrame_105 hp_4 rfl ?_
  refine s_St_closeFrame_108 rfl ?_
  refine s_St_closeFrame_109 hp_11 (vp_in_nI hf (by decide)) ?_
  rw [nI_clamp (by omega)]
  refine s_St_closeFrame_110 hp_4 (Nat.le_of_ble_eq_true rfl) ?_
  rw [hu_4_12]
  refine s_St_closeFrame_113 rfl ?_
  refine s_St_closeFrame_114 rfl ?_
  refine s_St_closeFrame_115 hp_4 (Nat.le_of_ble_eq_true rfl) ?_
  rw [hu_4_10]
  exact s_St_closeFrame_118 ⟨rfl, rfl⟩ z0

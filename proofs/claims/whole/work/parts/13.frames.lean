/-! frames: notes, opening, closing -/
def lnt (I : IT) (g : Nat) (k : Int32) (q : Nat) : Bool := !decide (k < nI q) && decide ((I 10 g >>> ((nI q - 1) &&& 31)) &&& 1 = 1)
def wNl (I : IT) (g : Nat) (k : Int32) (dp : Nat) : LT → Nat → Nat → LT
  | L, _, 0 => L
  | L, q, n + 1 => wNl I g k dp (upL L 6 (7 * dp + q) (if lnt I g k q = true then L 5 q else 0)) (q + 1) n
def wNo (L : LT) (I : IT) (g : Nat) (k : Int32) (dp : Nat) : LT := wNl I g k dp (upL L 6 (7 * dp) (L 5 (96 + g))) 1 6
def oFl (dp : Nat) (k : Int32) : LT → Nat → Nat → LT
  | L, _, 0 => L
  | L, q, n + 1 => oFl dp k (if q = 0 ∨ k < nI q then upL (upL L 5 (56 + 8 * dp + q) (L 5 q)) 5 q 0 else L) (q + 1) n
def cFl (f : Nat) : LT → Nat → Nat → LT
  | L, _, 0 => L
  | L, q, n + 1 => cFl f (upL (upL L 5 q (L 5 (56 + 8 * f + q))) 5 (56 + 8 * f + q) 0) (q + 1) n
def okr (L : LT) (f q : Nat) : Bool := if vKd (L 6 (7 * f + q)) = 0 then decide (vKd (L 5 q) = 0) else decide (L 5 q = L 6 (7 * f + q))
def cCl (L : LT) (f : Nat) : Bool → Nat → Nat → Bool
  | b, _, 0 => b
  | b, q, n + 1 => cCl L f (b && okr L f q) (q + 1) n
theorem kpl (f q : Nat) : (56 : Int32) + nI f * 8 + nI q = nI (56 + 8 * f + q) := by
  rw [show (8 : Int32) = nI 8 from rfl, pk_mul, show (56 : Int32) = nI 56 from rfl, nI_add, nI_add, Nat.mul_comm f 8]
theorem mul7 (f : Nat) : nI f * 7 = nI (7 * f) := by rw [show (7 : Int32) = nI 7 from rfl, pk_mul, Nat.mul_comm]
theorem ev_pick {G : GW} {M : MW} {R : Room} {E : Nat → LV → List Value → HP → Nat → Nat → Prop} {pc : Nat} {lv lv' : LV} {st : List Value} {h : HP} {cells slots : Nat} (ks : List Nat) (hk : lv_pick lv ks = lv') (k : ev G M R E pc lv' st h cells slots) : ev G M R E pc lv st h cells slots := by
  have hsub : ∀ q ∈ lv', q ∈ lv := by
    intro q hq
    rw [← hk] at hq
    obtain ⟨j, -, hj⟩ := List.mem_filterMap.mp hq
    exact List.mem_of_getElem? hj
  intro p e s m args below meth c Q A ads0 C hE ads H locs ls X
  refine k p e s m args below meth c Q A ads0 C hE ads H locs ls ⟨X.1, ⟨⟨X.2.1.1.1, X.2.1.1.2.1, fun q hq => ?_⟩, fun q hq => X.2.1.2 q (hsub q hq)⟩, X.2.2⟩
  obtain ⟨z, hz, rfl⟩ := List.mem_map.mp hq
  exact X.2.1.1.2.2 _ (List.mem_map.mpr ⟨z, hsub z hz, rfl⟩)
theorem lcmp0 {x y : Int64} : lg_cmp x y = 0 ↔ x = y := lg_cmp_eq x y
set_option maxRecDepth 100000 in
theorem l_writeNotes {G : GW} {I : IT} {r : Nat} {P : Option Value → HP → Prop} {g dp : Nat} {k : Int32} (hg : g < 6) (hd : dp < 5) : ∀ (n q : Nat) (L : LT), q + n = 7 → 1 ≤ q → P none (hp (wNl I g k dp L q n) I r) → ev G M_St_writeNotes (rmv 1 0 0) (Er M_St_writeNotes P 0 0) 25 [(4, .int (nI q)), (3, .int (nI (7 * dp))), (0, .ref 4), (1, .int (nI g)), (2, .int k)] [] (hp L I r) 0 0 := by
  intro n
  induction n with
  | zero =>
    intro q L hq h1 hP
    have c29 : (6 : Int32) < nI q := by rw [show q = 7 by omega]; decide
    refine s_St_writeNotes_25 rfl ?_
    refine s_St_writeNotes_27 ?_
    refine s_St_writeNotes_29 (fun _ => ?_) (fun c => absurd c29 c)
    exact s_St_writeNotes_92 hP z0
  | succ n ih =>
    intro q L hq h1 hP
    have n29 : ¬ (6 : Int32) < nI q := by rw [show (6 : Int32) = nI 6 from rfl, nI_ltI (by decide) (by omega)]; omega
    have hix : nI (7 * dp) + nI q = nI (7 * dp + q) := nI_add _ _
    refine s_St_writeNotes_25 rfl ?_
    refine s_St_writeNotes_27 ?_
    refine s_St_writeNotes_29 (fun c29 => absurd c29 (n29)) (fun c29 => ?_)
    refine s_St_writeNotes_32 rfl ?_
    refine s_St_writeNotes_34 rfl ?_
    refine s_St_writeNotes_35 (fun c35 => ?_) (fun c35 => ?_)
    · skip
      refine s_St_writeNotes_59 ?_
      refine s_St_writeNotes_60 ?_
      refine s_St_writeNotes_62 rfl ?_
      refine s_St_writeNotes_63 hp_4 rfl ?_
      refine s_St_writeNotes_66 rfl ?_
      refine s_St_writeNotes_67 rfl ?_
      refine s_St_writeNotes_69 ?_
      rw [hix]
      refine s_St_writeNotes_70 rfl ?_
      refine s_St_writeNotes_72 (fun c72 => ?_) (fun c72 => absurd c72 (by decide))
      refine s_St_writeNotes_84 ?_
      refine s_St_writeNotes_85 hp_6 (vp_in_nI (by omega) (by decide)) ?_
      rw [hu_6]
      rw [nI_clamp (by omega)]
      refine s_St_writeNotes_86 rfl ?_
      rw [nI_1]
      refine s_St_writeNotes_89 ?_
      refine ev_pick [0, 2, 3, 4, 5] rfl ?_
      exact ih (q + 1) _ (by omega) (by omega) (by rw [wNl] at hP; simpa [lnt, upL, c35] using hP)
    · skip
      refine s_St_writeNotes_38 rfl ?_
      refine s_St_writeNotes_39 hp_4 rfl ?_
      refine s_St_writeNotes_42 rfl ?_
      refine s_St_writeNotes_43 hp_10 (vp_in_nI hg (by decide)) ?_
      rw [nI_clamp (by omega)]
      refine s_St_writeNotes_44 rfl ?_
      refine s_St_writeNotes_46 ?_
      refine s_St_writeNotes_47 ?_
      refine s_St_writeNotes_48 ?_
      refine s_St_writeNotes_49 ?_
      refine s_St_writeNotes_50 ?_
      refine s_St_writeNotes_51 ?_
      refine s_St_writeNotes_52 (fun c52 => ?_) (fun c52 => ?_)
      · skip
        refine s_St_writeNotes_59 ?_
        refine s_St_writeNotes_60 ?_
        refine s_St_writeNotes_62 rfl ?_
        refine s_St_writeNotes_63 hp_4 rfl ?_
        refine s_St_writeNotes_66 rfl ?_
        refine s_St_writeNotes_67 rfl ?_
        refine s_St_writeNotes_69 ?_
        rw [hix]
        refine s_St_writeNotes_70 rfl ?_
        refine s_St_writeNotes_72 (fun c72 => ?_) (fun c72 => absurd c72 (by decide))
        refine s_St_writeNotes_84 ?_
        refine s_St_writeNotes_85 hp_6 (vp_in_nI (by omega) (by decide)) ?_
        rw [hu_6]
        rw [nI_clamp (by omega)]
        refine s_St_writeNotes_86 rfl ?_
        rw [nI_1]
        refine s_St_writeNotes_89 ?_
        refine ev_pick [0, 2, 3, 4, 5] rfl ?_
        exact ih (q + 1) _ (by omega) (by omega) (by rw [wNl] at hP; simpa [lnt, upL, c35, c52] using hP)
      · skip
        refine s_St_writeNotes_55 ?_
        refine s_St_writeNotes_56 ?_
        refine s_St_writeNotes_60 ?_
        refine s_St_writeNotes_62 rfl ?_
        refine s_St_writeNotes_63 hp_4 rfl ?_
        refine s_St_writeNotes_66 rfl ?_
        refine s_St_writeNotes_67 rfl ?_
        refine s_St_writeNotes_69 ?_
        rw [hix]
        refine s_St_writeNotes_70 rfl ?_
        refine s_St_writeNotes_72 (fun c72 => absurd c72 (by decide)) (fun c72 => ?_)
        refine s_St_writeNotes_75 rfl ?_
        refine s_St_writeNotes_76 rfl ?_
        refine c_St_writeNotes_78 (t_St_held rfl (by omega)) hp_4 rfl (Nat.le_of_ble_eq_true rfl) ?_
        refine s_St_writeNotes_81 ?_
        refine s_St_writeNotes_85 hp_6 (vp_in_nI (by omega) (by decide)) ?_
        rw [hu_6]
        rw [nI_clamp (by omega)]
        refine s_St_writeNotes_86 rfl ?_
        rw [nI_1]
        refine s_St_writeNotes_89 ?_
        refine ev_pick [0, 2, 3, 4, 5] rfl ?_
        exact ih (q + 1) _ (by omega) (by omega) (by rw [wNl] at hP; simpa [lnt, upL, c35, c52] using hP)
set_option maxRecDepth 100000 in
theorem t_St_writeNotes {G : GW} {L : LT} {I : IT} {r : Nat} {p k : Int32} {g dp : Nat} (ep : p = nI g) (hg : g < 6) (ed : I 4 10 = nI dp) (hd : dp < 5) : mt G M_St_writeNotes 1 0 0 [.ref 4, .int p, .int k] (hp L I r) (dt (none) (hp (wNo L I g k dp) I r)) := by
  refine mt_of_ev (by decide) (Nat.le_of_ble_eq_true rfl) ?_
  show ev G M_St_writeNotes (rmv 1 0 0) (Er M_St_writeNotes _ 0 0) 0 [(0, .ref 4), (1, .int p), (2, .int k)] [] (hp L I r) 0 0
  subst ep
  refine s_St_writeNotes_0 rfl ?_
  refine s_St_writeNotes_1 hp_4 rfl ?_
  refine s_St_writeNotes_4 ?_
  refine s_St_writeNotes_6 ?_
  rw [ed, mul7]
  refine s_St_writeNotes_7 ?_
  refine s_St_writeNotes_8 rfl ?_
  refine s_St_writeNotes_9 hp_4 rfl ?_
  refine s_St_writeNotes_12 rfl ?_
  refine s_St_writeNotes_13 rfl ?_
  refine s_St_writeNotes_14 ?_
  refine s_St_writeNotes_16 rfl ?_
  refine s_St_writeNotes_17 ?_
  refine c_St_writeNotes_18 (t_St_held (show (96 : Int32) + nI g = nI (96 + g) from nI_add 96 g) (by omega)) hp_4 rfl (Nat.le_of_ble_eq_true rfl) ?_
  refine s_St_writeNotes_21 hp_6 (vp_in_nI (by omega) (by decide)) ?_
  rw [hu_6]
  rw [nI_clamp (by omega)]
  refine s_St_writeNotes_22 ?_
  refine s_St_writeNotes_23 ?_
  refine ev_pick [0, 1, 2, 3, 4] rfl ?_
  exact l_writeNotes hg hd 6 1 _ rfl (Nat.le_refl 1) dt_i

/-! conserve -/
abbrev iu (x y : Int32) : Int32 := (x.toUInt32 >>> (y.toUInt32 &&& Int32.toUInt32 31)).toInt32
def bt1 (x : Int32) : Int32 := x - (iu x 1 &&& 1431655765)
def bt2 (x : Int32) : Int32 := (x &&& 858993459) + (iu x 2 &&& 858993459)
def bt3 (x : Int32) : Int32 := (x + iu x 4) &&& 252645135
def bt4 (x : Int32) : Int32 := x + iu x 8
def bt5 (x : Int32) : Int32 := x + iu x 16
def btC (x : Int32) : Int32 := bt5 (bt4 (bt3 (bt2 (bt1 x)))) &&& 63
def txi (q : Int32) (a : Nat) : IT → Nat → Nat → IT
  | I, _, 0 => I
  | I, b, n + 1 => txi q a (upI I 19 (a * 4 + b) (I 19 (a * 4 + b) + ((q >>> (nI b &&& 31)) &&& 1))) (b + 1) n
def txo (q : Int32) : IT → Nat → Nat → IT
  | I, _, 0 => I
  | I, a, n + 1 => txo q (txi q a I 0 4) (a + 1) n
def tsh (c : Nat) : IT → Nat → Nat → IT
  | I, _, 0 => I
  | I, a, n + 1 => tsh c (upI I 20 a (I 20 a ||| (1 <<< (nI c &&& 31)))) (a + 1) n
def tlX (I : IT) (v : Int64) : IT := txo (vRi v) I (vFr v).toNatClampNeg ((vEn v).toNatClampNeg - (vFr v).toNatClampNeg)
def tlS (I : IT) (v : Int64) : IT := tsh (lk v) (upI I 21 (lk v) (I 21 (lk v) + 1)) (vFr v).toNatClampNeg ((vEn v).toNatClampNeg - (vFr v).toNatClampNeg)
def tl1 (I : IT) (v : Int64) : IT := if vKd v = 1 then tlX I v else if vKd v = 2 then tlS I v else I
def tal (L : LT) : IT → Nat → Nat → IT
  | I, _, 0 => I
  | I, j, n + 1 => tal L (tl1 I (L 5 j)) (j + 1) n
def tl0 (I : IT) : IT := va_up (va_up (va_up I 19 (fil (I 19) 192 0)) 20 (fil (I 20) 48 0)) 21 (fil (I 21) 6 0)
def tlA (L : LT) (I : IT) : IT := tal L (tl0 I) 0 102
def hoe (I : IT) (a : Nat) : Bool → Nat → Nat → Bool
  | b, _, 0 => b
  | b, q, n + 1 => hoe I a (b && decide (I 19 (a * 4 + q) + (if (1 : Int32) <<< (nI q &&& 31) = 1 then btC (I 20 a) else 0) = 1)) (q + 1) n
def fw2 (I : IT) : Nat → Nat → Int32
  | _, 0 => 0
  | c, n + 1 => if I 7 c = I 21 c then fw2 I (c + 1) n else 100 + nI c
def fw1 (I : IT) : Nat → Nat → Int32
  | _, 0 => fw2 I 0 6
  | a, n + 1 => if hoe I a true 0 4 = true then fw1 I (a + 1) n else 1 + nI a
theorem mul4 (a b : Nat) : nI a * 4 + nI b = nI (a * 4 + b) := by rw [show (4 : Int32) = nI 4 from rfl, pk_mul, nI_add]
/-- a value's range and cell are such -/
def rk2 (v : Int64) : Prop := rok v ∧ (vKd v = 2 → lk v < 6)
theorem txi_o {q : Int32} {a c : Nat} (hc : c ≠ 19) : ∀ (n b : Nat) (I : IT), txi q a I b n c = I c
  | 0, _, _ => rfl
  | n + 1, b, I => by rw [txi, txi_o hc n (b + 1), upI_b hc]
theorem txo_o {q : Int32} {c : Nat} (hc : c ≠ 19) : ∀ (n a : Nat) (I : IT), txo q I a n c = I c
  | 0, _, _ => rfl
  | n + 1, a, I => by rw [txo, txo_o hc n (a + 1), txi_o hc]
theorem tsh_o {d c : Nat} (hc : c ≠ 20) : ∀ (n a : Nat) (I : IT), tsh d I a n c = I c
  | 0, _, _ => rfl
  | n + 1, a, I => by rw [tsh, tsh_o hc n (a + 1), upI_b hc]
theorem tal_o {L : LT} {c : Nat} (h1 : c ≠ 19) (h2 : c ≠ 20) (h3 : c ≠ 21) : ∀ (n j : Nat) (I : IT), tal L I j n c = I c
  | 0, _, _ => rfl
  | n + 1, j, I => by
    rw [tal, tal_o h1 h2 h3 n (j + 1)]
    unfold tl1 tlX tlS
    split
    · exact txo_o h1 _ _ _
    · split
      · rw [tsh_o h2, upI_b h3]
      · rfl
theorem tlA_o {L : LT} {I : IT} {c : Nat} (h1 : c ≠ 19) (h2 : c ≠ 20) (h3 : c ≠ 21) : tlA L I c = I c := by
  unfold tlA tl0
  rw [tal_o h1 h2 h3, va_up_ne _ _ h3, va_up_ne _ _ h2, va_up_ne _ _ h1]
set_option maxRecDepth 100000 in
theorem t_Ji_bitCount {G : GW} {L : LT} {I : IT} {r : Nat} {x : Int32} : mt G M_Ji_bitCount 0 0 0 [.int x] (hp L I r) (dt (some (.int (btC x))) (hp L I r)) := by
  refine mt_of_ev (by decide) (Nat.le_of_ble_eq_true rfl) ?_
  show ev G M_Ji_bitCount (rmv 0 0 0) (Er M_Ji_bitCount _ 0 0) 0 [(0, .int x)] [] (hp L I r) 0 0
  refine s_Ji_bitCount_0 rfl ?_
  refine s_Ji_bitCount_1 rfl ?_
  refine s_Ji_bitCount_2 ?_
  refine s_Ji_bitCount_3 ?_
  refine s_Ji_bitCount_4 ?_
  refine s_Ji_bitCount_7 ?_
  refine s_Ji_bitCount_8 ?_
  refine s_Ji_bitCount_9 ?_
  refine s_Ji_bitCount_10 rfl ?_
  refine s_Ji_bitCount_11 ?_
  refine s_Ji_bitCount_14 ?_
  refine s_Ji_bitCount_15 rfl ?_
  refine s_Ji_bitCount_16 ?_
  refine s_Ji_bitCount_17 ?_
  refine s_Ji_bitCount_18 ?_
  refine s_Ji_bitCount_21 ?_
  refine s_Ji_bitCount_22 ?_
  refine s_Ji_bitCount_23 ?_
  refine s_Ji_bitCount_24 rfl ?_
  refine s_Ji_bitCount_25 rfl ?_
  refine s_Ji_bitCount_26 ?_
  refine s_Ji_bitCount_27 ?_
  refine s_Ji_bitCount_28 ?_
  refine s_Ji_bitCount_29 ?_
  refine s_Ji_bitCount_32 ?_
  refine s_Ji_bitCount_33 ?_
  refine s_Ji_bitCount_34 rfl ?_
  refine s_Ji_bitCount_35 rfl ?_
  refine s_Ji_bitCount_36 ?_
  refine s_Ji_bitCount_38 ?_
  refine s_Ji_bitCount_39 ?_
  refine s_Ji_bitCount_40 ?_
  refine s_Ji_bitCount_41 rfl ?_
  refine s_Ji_bitCount_42 rfl ?_
  refine s_Ji_bitCount_43 ?_
  refine s_Ji_bitCount_45 ?_
  refine s_Ji_bitCount_46 ?_
  refine s_Ji_bitCount_47 ?_
  refine s_Ji_bitCount_48 rfl ?_
  refine s_Ji_bitCount_49 ?_
  refine s_Ji_bitCount_51 ?_
  exact s_Ji_bitCount_52 ⟨by first | rfl | (simp [bz, *]; done) | (simp only [← Int32.not_le] at *; simp [bz, *]; done) | (simp only [Int32.not_lt, Int32.not_le] at *; simp [bz, *]; done) | (simp_all [bz]; done) | (simp only [bz_0, bz_n0, ← Int32.not_le] at *; simp_all [bz]; done), by first | rfl | (simp [*]; done) | (simp_all; done)⟩ z0
set_option maxRecDepth 100000 in
set_option maxHeartbeats 2000000 in
theorem l_tx1 {G : GW} {r : Nat} {E : Nat → LV → List Value → HP → Nat → Nat → Prop} {L : LT} {v : Int64} {a : Nat} (ha : a < 48) : ∀ (n b : Nat) (I : IT), b + n = 4 → ev G M_Ow_tallyExclusive (rmv 1 0 0) E 57 [(4, .int (nI 4)), (3, .int (nI a)), (0, .ref 18), (1, .long v)] [] (hp L (txi (vRi v) a I b n) r) 0 0 → ev G M_Ow_tallyExclusive (rmv 1 0 0) E 22 [(4, .int (nI b)), (3, .int (nI a)), (0, .ref 18), (1, .long v)] [] (hp L I r) 0 0 := by
  intro n
  induction n with
  | zero =>
    intro b I hb hP
    obtain rfl : b = 4 := by omega
    refine s_Ow_tallyExclusive_22 rfl ?_
    refine s_Ow_tallyExclusive_24 ?_
    refine s_Ow_tallyExclusive_25 (fun _ => ?_) (fun c => absurd (by decide) c)
    exact hP
  | succ n ih =>
    intro b I hb hP
    refine s_Ow_tallyExclusive_22 rfl ?_
    refine s_Ow_tallyExclusive_24 ?_
    refine s_Ow_tallyExclusive_25 (fun c25 => absurd c25 (nle_nI (n := 4) rfl (by omega) (by decide))) (fun c25 => ?_)
    refine s_Ow_tallyExclusive_28 rfl ?_
    refine s_Ow_tallyExclusive_29 hp_18 rfl ?_
    refine s_Ow_tallyExclusive_32 rfl ?_
    refine s_Ow_tallyExclusive_33 ?_
    refine s_Ow_tallyExclusive_34 ?_
    refine s_Ow_tallyExclusive_35 rfl ?_
    refine s_Ow_tallyExclusive_37 ?_
    rw [mul4]
    refine s_Ow_tallyExclusive_38 rfl rfl ?_
    refine s_Ow_tallyExclusive_39 hp_19 (vp_in_nI (by omega) (by decide)) ?_
    rw [nI_clamp (by omega)]
    refine s_Ow_tallyExclusive_40 rfl ?_
    refine c_Ow_tallyExclusive_41 (t_Va_rights) (Nat.le_of_ble_eq_true rfl) ?_
    refine s_Ow_tallyExclusive_44 rfl ?_
    refine s_Ow_tallyExclusive_46 ?_
    refine s_Ow_tallyExclusive_47 ?_
    refine s_Ow_tallyExclusive_48 ?_
    refine s_Ow_tallyExclusive_49 ?_
    refine s_Ow_tallyExclusive_50 hp_19 (vp_in_nI (by omega) (by decide)) ?_
    rw [hu_19]
    rw [nI_clamp (by omega)]
    refine s_Ow_tallyExclusive_51 rfl ?_
    rw [nI_1]
    refine s_Ow_tallyExclusive_54 ?_
    refine ev_pick [0, 1, 2, 3] rfl ?_
    exact ih (b + 1) _ (by omega) hP
set_option maxRecDepth 100000 in
set_option maxHeartbeats 2000000 in
theorem l_tx2 {G : GW} {r : Nat} {L : LT} {P : Option Value → HP → Prop} {v : Int64} {e : Nat} (ee : vEn v = nI e) (he : e ≤ 48) : ∀ (n a : Nat) (I : IT), a + n = e → P none (hp L (txo (vRi v) I a n) r) → ev G M_Ow_tallyExclusive (rmv 1 0 0) (Er M_Ow_tallyExclusive P 0 0) 5 [(3, .int (nI a)), (0, .ref 18), (1, .long v)] [] (hp L I r) 0 0 := by
  intro n
  induction n with
  | zero =>
    intro a I ha hP
    obtain rfl : a = e := by omega
    refine s_Ow_tallyExclusive_5 rfl ?_
    refine s_Ow_tallyExclusive_6 rfl ?_
    refine c_Ow_tallyExclusive_7 t_Va_end (Nat.le_of_ble_eq_true rfl) ?_
    refine s_Ow_tallyExclusive_10 (fun _ => ?_) (fun c => absurd (by rw [ee]; exact nI_le (Nat.le_refl a) (by omega)) c)
    exact s_Ow_tallyExclusive_63 hP z0
  | succ n ih =>
    intro a I ha hP
    refine s_Ow_tallyExclusive_5 rfl ?_
    refine s_Ow_tallyExclusive_6 rfl ?_
    refine c_Ow_tallyExclusive_7 (t_Va_end) (Nat.le_of_ble_eq_true rfl) ?_
    refine s_Ow_tallyExclusive_10 (fun c10 => absurd c10 (by rw [ee]; exact nI_ge (by omega) (by omega))) (fun c10 => ?_)
    refine s_Ow_tallyExclusive_13 rfl ?_
    refine s_Ow_tallyExclusive_14 ?_
    refine s_Ow_tallyExclusive_16 (fun c16 => absurd c16 (nle_nI (n := 48) rfl (by omega) (by decide))) (fun c16 => ?_)
    refine s_Ow_tallyExclusive_19 ?_
    refine s_Ow_tallyExclusive_20 ?_
    refine ev_pick [0, 1, 2, 3] rfl ?_
    refine l_tx1 (by omega) 4 0 I rfl ?_
    refine s_Ow_tallyExclusive_57 rfl ?_
    rw [nI_1]
    refine s_Ow_tallyExclusive_60 ?_
    refine ev_pick [0, 2, 3] rfl ?_
    exact ih (a + 1) _ (by omega) hP
set_option maxRecDepth 100000 in
theorem t_Ow_tallyExclusive {G : GW} {L : LT} {I : IT} {r : Nat} {v : Int64} (hv : rok v) (hc : vCap v = true) : mt G M_Ow_tallyExclusive 1 0 0 [.ref 18, .long v] (hp L I r) (dt (none) (hp L (tlX I v) r)) := by
  refine mt_of_ev (by decide) (Nat.le_of_ble_eq_true rfl) ?_
  show ev G M_Ow_tallyExclusive (rmv 1 0 0) (Er M_Ow_tallyExclusive _ 0 0) 0 [(0, .ref 18), (1, .long v)] [] (hp L I r) 0 0
  refine s_Ow_tallyExclusive_0 rfl ?_
  refine c_Ow_tallyExclusive_1 (t_Va_from) (Nat.le_of_ble_eq_true rfl) ?_
  rw [(vFr_nI v).1]
  refine s_Ow_tallyExclusive_4 ?_
  refine ev_pick [0, 1, 2] rfl ?_
  exact l_tx2 (vEn_nI v).1 (hv hc).2 _ _ I (by have := hv hc; omega) ⟨rfl, rfl⟩
set_option maxRecDepth 100000 in
set_option maxHeartbeats 2000000 in
theorem l_ts {G : GW} {r : Nat} {L : LT} {P : Option Value → HP → Prop} {v : Int64} {e c : Nat} (ee : vEn v = nI e) (he : e ≤ 48) : ∀ (n a : Nat) (I : IT), a + n = e → P none (hp L (tsh c I a n) r) → ev G M_Ow_tallyShared (rmv 1 0 0) (Er M_Ow_tallyShared P 0 0) 28 [(4, .int (nI a)), (3, .int (nI c)), (0, .ref 18), (1, .long v)] [] (hp L I r) 0 0 := by
  intro n
  induction n with
  | zero =>
    intro a I ha hP
    obtain rfl : a = e := by omega
    refine s_Ow_tallyShared_28 rfl ?_
    refine s_Ow_tallyShared_30 rfl ?_
    refine c_Ow_tallyShared_31 t_Va_end (Nat.le_of_ble_eq_true rfl) ?_
    refine s_Ow_tallyShared_34 (fun _ => ?_) (fun c => absurd (by rw [ee]; exact nI_le (Nat.le_refl a) (by omega)) c)
    exact s_Ow_tallyShared_63 hP z0
  | succ n ih =>
    intro a I ha hP
    refine s_Ow_tallyShared_28 rfl ?_
    refine s_Ow_tallyShared_30 rfl ?_
    refine c_Ow_tallyShared_31 (t_Va_end) (Nat.le_of_ble_eq_true rfl) ?_
    refine s_Ow_tallyShared_34 (fun c34 => absurd c34 (by rw [ee]; exact nI_ge (by omega) (by omega))) (fun c34 => ?_)
    refine s_Ow_tallyShared_37 rfl ?_
    refine s_Ow_tallyShared_39 ?_
    refine s_Ow_tallyShared_41 (fun c41 => absurd c41 (nle_nI (n := 48) rfl (by omega) (by decide))) (fun c41 => ?_)
    refine s_Ow_tallyShared_44 rfl ?_
    refine s_Ow_tallyShared_45 hp_18 rfl ?_
    refine s_Ow_tallyShared_48 rfl ?_
    refine s_Ow_tallyShared_50 rfl rfl ?_
    refine s_Ow_tallyShared_51 hp_20 (vp_in_nI (by omega) (by decide)) ?_
    rw [nI_clamp (by omega)]
    refine s_Ow_tallyShared_52 ?_
    refine s_Ow_tallyShared_53 rfl ?_
    refine s_Ow_tallyShared_54 ?_
    refine s_Ow_tallyShared_55 ?_
    refine s_Ow_tallyShared_56 hp_20 (vp_in_nI (by omega) (by decide)) ?_
    rw [hu_20]
    rw [nI_clamp (by omega)]
    refine s_Ow_tallyShared_57 rfl ?_
    rw [nI_1]
    refine s_Ow_tallyShared_60 ?_
    refine ev_pick [0, 1, 2, 3] rfl ?_
    exact ih (a + 1) _ (by omega) hP
set_option maxRecDepth 100000 in
theorem t_Ow_tallyShared {G : GW} {L : LT} {I : IT} {r : Nat} {v : Int64} (hv : rok v) (hc : vCap v = true) (hk : lk v < 6) : mt G M_Ow_tallyShared 1 0 0 [.ref 18, .long v] (hp L I r) (dt (none) (hp L (tlS I v) r)) := by
  refine mt_of_ev (by decide) (Nat.le_of_ble_eq_true rfl) ?_
  show ev G M_Ow_tallyShared (rmv 1 0 0) (Er M_Ow_tallyShared _ 0 0) 0 [(0, .ref 18), (1, .long v)] [] (hp L I r) 0 0
  refine s_Ow_tallyShared_0 rfl ?_
  refine c_Ow_tallyShared_1 (t_Va_link) (Nat.le_of_ble_eq_true rfl) ?_
  rw [vLk_nI v]
  refine s_Ow_tallyShared_4 ?_
  refine s_Ow_tallyShared_5 rfl ?_
  refine s_Ow_tallyShared_6 ?_
  refine s_Ow_tallyShared_8 (fun c8 => ?_) (fun c8 => absurd c8 (nn_lt (lt_nI (n := 6) rfl hk (by decide))))
  refine s_Ow_tallyShared_12 rfl ?_
  refine s_Ow_tallyShared_13 hp_18 rfl ?_
  refine s_Ow_tallyShared_16 rfl ?_
  refine s_Ow_tallyShared_17 rfl rfl ?_
  refine s_Ow_tallyShared_18 hp_21 (vp_in_nI hk (by decide)) ?_
  rw [nI_clamp (by omega)]
  refine s_Ow_tallyShared_19 ?_
  refine s_Ow_tallyShared_20 ?_
  refine s_Ow_tallyShared_21 hp_21 (vp_in_nI hk (by decide)) ?_
  rw [hu_21]
  rw [nI_clamp (by omega)]
  refine s_Ow_tallyShared_22 rfl ?_
  refine c_Ow_tallyShared_23 (t_Va_from) (Nat.le_of_ble_eq_true rfl) ?_
  rw [(vFr_nI v).1]
  refine s_Ow_tallyShared_26 ?_
  refine ev_pick [0, 1, 2, 3] rfl ?_
  exact l_ts (vEn_nI v).1 (hv hc).2 _ _ _ (by have := hv hc; omega) ⟨rfl, rfl⟩
set_option maxRecDepth 100000 in
set_option maxHeartbeats 2000000 in
theorem l_tal {G : GW} {r : Nat} {L : LT} {P : Option Value → HP → Prop} (hL : ∀ p, p < 102 → rk2 (L 5 p)) : ∀ (n j : Nat) (I : IT), j + n = 102 → P none (hp L (tal L I j n) r) → ev G M_Ow_tallyAll (rmv 2 0 0) (Er M_Ow_tallyAll P 0 0) 26 [(1, .int (nI j)), (0, .ref 18)] [] (hp L I r) 0 0 := by
  intro n
  induction n with
  | zero =>
    intro j I hj hP
    obtain rfl : j = 102 := by omega
    refine s_Ow_tallyAll_26 rfl ?_
    refine s_Ow_tallyAll_27 ?_
    refine s_Ow_tallyAll_29 (fun _ => ?_) (fun c => absurd (by decide) c)
    exact s_Ow_tallyAll_76 hP z0
  | succ n ih =>
    intro j I hj hP
    have hv := hL j (by omega)
    refine s_Ow_tallyAll_26 rfl ?_
    refine s_Ow_tallyAll_27 ?_
    refine s_Ow_tallyAll_29 (fun c29 => absurd c29 (nle_nI (n := 102) rfl (by omega) (by decide))) (fun c29 => ?_)
    refine s_Ow_tallyAll_32 rfl ?_
    refine s_Ow_tallyAll_33 hp_18 rfl ?_
    refine s_Ow_tallyAll_36 rfl ?_
    refine c_Ow_tallyAll_37 (t_St_held rfl (by omega)) hp_4 rfl (Nat.le_of_ble_eq_true rfl) ?_
    refine s_Ow_tallyAll_40 ?_
    refine s_Ow_tallyAll_41 rfl ?_
    refine c_Ow_tallyAll_42 (t_Va_kind) (Nat.le_of_ble_eq_true rfl) ?_
    refine s_Ow_tallyAll_45 ?_
    refine s_Ow_tallyAll_46 (fun c46 => ?_) (fun c46 => ?_)
    · skip
      refine s_Ow_tallyAll_57 rfl ?_
      refine c_Ow_tallyAll_58 (t_Va_kind) (Nat.le_of_ble_eq_true rfl) ?_
      refine s_Ow_tallyAll_61 ?_
      refine s_Ow_tallyAll_62 (fun c62 => ?_) (fun c62 => ?_)
      · skip
        refine s_Ow_tallyAll_70 rfl ?_
        rw [nI_1]
        refine s_Ow_tallyAll_73 ?_
        refine ev_pick [0, 2] rfl ?_
        exact ih (j + 1) _ (by omega) (by rw [tal, tl1, if_neg c46, if_neg c62] at hP; exact hP)
      · skip
        refine s_Ow_tallyAll_65 rfl ?_
        refine s_Ow_tallyAll_66 rfl ?_
        refine c_Ow_tallyAll_67 (t_Ow_tallyShared hv.1 (by simp [vCap, c62]) (hv.2 c62)) hp_18 rfl (Nat.le_of_ble_eq_true rfl) ?_
        refine s_Ow_tallyAll_70 rfl ?_
        rw [nI_1]
        refine s_Ow_tallyAll_73 ?_
        refine ev_pick [0, 2] rfl ?_
        exact ih (j + 1) _ (by omega) (by rw [tal, tl1, if_neg c46, if_pos c62] at hP; exact hP)
    · skip
      refine s_Ow_tallyAll_49 rfl ?_
      refine s_Ow_tallyAll_50 rfl ?_
      refine c_Ow_tallyAll_51 (t_Ow_tallyExclusive hv.1 (by simp [vCap, c46])) hp_18 rfl (Nat.le_of_ble_eq_true rfl) ?_
      refine s_Ow_tallyAll_54 ?_
      refine s_Ow_tallyAll_70 rfl ?_
      rw [nI_1]
      refine s_Ow_tallyAll_73 ?_
      refine ev_pick [0, 2] rfl ?_
      exact ih (j + 1) _ (by omega) (by rw [tal, tl1, if_pos c46] at hP; exact hP)
set_option maxRecDepth 100000 in
theorem t_Ow_tallyAll {G : GW} {L : LT} {I : IT} {r : Nat} (hL : ∀ p, p < 102 → rk2 (L 5 p)) : mt G M_Ow_tallyAll 2 0 0 [.ref 18] (hp L I r) (dt (none) (hp L (tlA L I) r)) := by
  refine mt_of_ev (by decide) (Nat.le_of_ble_eq_true rfl) ?_
  show ev G M_Ow_tallyAll (rmv 2 0 0) (Er M_Ow_tallyAll _ 0 0) 0 [(0, .ref 18)] [] (hp L I r) 0 0
  refine s_Ow_tallyAll_0 rfl ?_
  refine s_Ow_tallyAll_1 hp_18 rfl ?_
  refine s_Ow_tallyAll_4 ?_
  refine c_Ow_tallyAll_5 (t_Ja_fillI hp_19 (by decide)) (Nat.le_of_ble_eq_true rfl) ?_
  rw [hu_19]
  refine s_Ow_tallyAll_8 rfl ?_
  refine s_Ow_tallyAll_9 hp_18 rfl ?_
  refine s_Ow_tallyAll_12 ?_
  refine c_Ow_tallyAll_13 (t_Ja_fillI hp_20 (by decide)) (Nat.le_of_ble_eq_true rfl) ?_
  rw [hu_20]
  refine s_Ow_tallyAll_16 rfl ?_
  refine s_Ow_tallyAll_17 hp_18 rfl ?_
  refine s_Ow_tallyAll_20 ?_
  refine c_Ow_tallyAll_21 (t_Ja_fillI hp_21 (by decide)) (Nat.le_of_ble_eq_true rfl) ?_
  rw [hu_21]
  refine s_Ow_tallyAll_24 ?_
  refine s_Ow_tallyAll_25 ?_
  refine ev_pick [0, 1] rfl ?_
  exact l_tal hL 102 0 _ rfl ⟨rfl, rfl⟩
set_option maxRecDepth 100000 in
set_option maxHeartbeats 2000000 in
theorem l_hoe {G : GW} {I : IT} {r : Nat} {L : LT} {P : Option Value → HP → Prop} {a : Nat} (ha : a < 48) : ∀ (n q : Nat) (b : Bool), q + n = 4 → P (some (.int (bz (hoe I a b q n)))) (hp L I r) → ev G M_Ow_hasOneOwnerEach (rmv 1 0 0) (Er M_Ow_hasOneOwnerEach P 0 0) 4 [(3, .int (nI q)), (2, .int (bz b)), (0, .ref 18), (1, .int (nI a))] [] (hp L I r) 0 0 := by
  intro n
  induction n with
  | zero =>
    intro q b hq hP
    obtain rfl : q = 4 := by omega
    refine s_Ow_hasOneOwnerEach_4 rfl ?_
    refine s_Ow_hasOneOwnerEach_5 ?_
    refine s_Ow_hasOneOwnerEach_6 (fun _ => ?_) (fun c => absurd (by decide) c)
    refine s_Ow_hasOneOwnerEach_64 rfl ?_
    exact s_Ow_hasOneOwnerEach_65 bz_or hP z0
  | succ n ih =>
    intro q b hq hP
    refine s_Ow_hasOneOwnerEach_4 rfl ?_
    refine s_Ow_hasOneOwnerEach_5 ?_
    refine s_Ow_hasOneOwnerEach_6 (fun c6 => absurd c6 (nle_nI (n := 4) rfl (by omega) (by decide))) (fun c6 => ?_)
    refine s_Ow_hasOneOwnerEach_9 ?_
    refine s_Ow_hasOneOwnerEach_10 rfl ?_
    refine s_Ow_hasOneOwnerEach_11 ?_
    refine s_Ow_hasOneOwnerEach_12 ?_
    refine s_Ow_hasOneOwnerEach_13 (fun c13 => ?_) (fun c13 => ?_)
    · skip
      refine s_Ow_hasOneOwnerEach_28 ?_
      refine s_Ow_hasOneOwnerEach_29 ?_
      refine s_Ow_hasOneOwnerEach_31 rfl ?_
      refine s_Ow_hasOneOwnerEach_32 (fun c32 => ?_) (fun c32 => ?_)
      · skip
        (first | rw [bz_n0] at c32 | rw [bz_0] at c32 | skip); (try simp only [Bool.not_eq_false', Bool.not_eq_true', decide_eq_true_eq, decide_eq_false_iff_not, Bool.or_eq_true, Bool.or_eq_false_iff, Bool.and_eq_true, Bool.and_eq_false_iff] at c32)
        refine s_Ow_hasOneOwnerEach_56 ?_
        refine s_Ow_hasOneOwnerEach_57 ?_
        refine s_Ow_hasOneOwnerEach_58 rfl ?_
        rw [nI_1]
        refine s_Ow_hasOneOwnerEach_61 ?_
        refine ev_pick [0, 1, 3, 4] rfl ?_
        exact ih (q + 1) false (by omega) (by rw [hoe, c32, Bool.false_and] at hP; exact hP)
      · skip
        (first | rw [bz_n0] at c32 | rw [bz_0] at c32 | skip); (try simp only [Bool.not_eq_false', Bool.not_eq_true', decide_eq_true_eq, decide_eq_false_iff_not, Bool.or_eq_true, Bool.or_eq_false_iff, Bool.and_eq_true, Bool.and_eq_false_iff] at c32)
        refine s_Ow_hasOneOwnerEach_35 rfl ?_
        refine s_Ow_hasOneOwnerEach_36 hp_18 rfl ?_
        refine s_Ow_hasOneOwnerEach_39 rfl ?_
        refine s_Ow_hasOneOwnerEach_40 ?_
        refine s_Ow_hasOneOwnerEach_41 ?_
        refine s_Ow_hasOneOwnerEach_42 rfl ?_
        refine s_Ow_hasOneOwnerEach_43 ?_
        rw [mul4]
        refine s_Ow_hasOneOwnerEach_44 hp_19 (vp_in_nI (by omega) (by decide)) ?_
        rw [nI_clamp (by omega)]
        refine s_Ow_hasOneOwnerEach_45 rfl ?_
        refine s_Ow_hasOneOwnerEach_47 ?_
        refine s_Ow_hasOneOwnerEach_48 ?_
        refine s_Ow_hasOneOwnerEach_49 (fun c49 => ?_) (fun c49 => ?_)
        · skip
          refine s_Ow_hasOneOwnerEach_56 ?_
          refine s_Ow_hasOneOwnerEach_57 ?_
          refine s_Ow_hasOneOwnerEach_58 rfl ?_
          rw [nI_1]
          refine s_Ow_hasOneOwnerEach_61 ?_
          refine ev_pick [0, 1, 3, 4] rfl ?_
          exact ih (q + 1) false (by omega) (by rw [hoe, if_neg c13, decide_eq_false c49, Bool.and_false] at hP; exact hP)
        · skip
          refine s_Ow_hasOneOwnerEach_52 ?_
          refine s_Ow_hasOneOwnerEach_53 ?_
          refine s_Ow_hasOneOwnerEach_57 ?_
          refine s_Ow_hasOneOwnerEach_58 rfl ?_
          rw [nI_1]
          refine s_Ow_hasOneOwnerEach_61 ?_
          refine ev_pick [0, 1, 3, 4] rfl ?_
          exact ih (q + 1) true (by omega) (by rw [hoe, if_neg c13, c32, decide_eq_true c49, Bool.true_and] at hP; exact hP)
    · skip
      refine s_Ow_hasOneOwnerEach_16 rfl ?_
      refine s_Ow_hasOneOwnerEach_17 hp_18 rfl ?_
      refine s_Ow_hasOneOwnerEach_20 rfl ?_
      refine s_Ow_hasOneOwnerEach_21 hp_20 (vp_in_nI ha (by decide)) ?_
      rw [nI_clamp (by omega)]
      refine c_Ow_hasOneOwnerEach_22 (t_Ji_bitCount) (Nat.le_of_ble_eq_true rfl) ?_
      refine s_Ow_hasOneOwnerEach_25 ?_
      refine s_Ow_hasOneOwnerEach_29 ?_
      refine s_Ow_hasOneOwnerEach_31 rfl ?_
      refine s_Ow_hasOneOwnerEach_32 (fun c32 => ?_) (fun c32 => ?_)
      · skip
        (first | rw [bz_n0] at c32 | rw [bz_0] at c32 | skip); (try simp only [Bool.not_eq_false', Bool.not_eq_true', decide_eq_true_eq, decide_eq_false_iff_not, Bool.or_eq_true, Bool.or_eq_false_iff, Bool.and_eq_true, Bool.and_eq_false_iff] at c32)
        refine s_Ow_hasOneOwnerEach_56 ?_
        refine s_Ow_hasOneOwnerEach_57 ?_
        refine s_Ow_hasOneOwnerEach_58 rfl ?_
        rw [nI_1]
        refine s_Ow_hasOneOwnerEach_61 ?_
        refine ev_pick [0, 1, 3, 4] rfl ?_
        exact ih (q + 1) false (by omega) (by rw [hoe, c32, Bool.false_and] at hP; exact hP)
      · skip
        (first | rw [bz_n0] at c32 | rw [bz_0] at c32 | skip); (try simp only [Bool.not_eq_false', Bool.not_eq_true', decide_eq_true_eq, decide_eq_false_iff_not, Bool.or_eq_true, Bool.or_eq_false_iff, Bool.and_eq_true, Bool.and_eq_false_iff] at c32)
        refine s_Ow_hasOneOwnerEach_35 rfl ?_
        refine s_Ow_hasOneOwnerEach_36 hp_18 rfl ?_
        refine s_Ow_hasOneOwnerEach_39 rfl ?_
        refine s_Ow_hasOneOwnerEach_40 ?_
        refine s_Ow_hasOneOwnerEach_41 ?_
        refine s_Ow_hasOneOwnerEach_42 rfl ?_
        refine s_Ow_hasOneOwnerEach_43 ?_
        rw [mul4]
        refine s_Ow_hasOneOwnerEach_44 hp_19 (vp_in_nI (by omega) (by decide)) ?_
        rw [nI_clamp (by omega)]
        refine s_Ow_hasOneOwnerEach_45 rfl ?_
        refine s_Ow_hasOneOwnerEach_47 ?_
        refine s_Ow_hasOneOwnerEach_48 ?_
        refine s_Ow_hasOneOwnerEach_49 (fun c49 => ?_) (fun c49 => ?_)
        · skip
          refine s_Ow_hasOneOwnerEach_56 ?_
          refine s_Ow_hasOneOwnerEach_57 ?_
          refine s_Ow_hasOneOwnerEach_58 rfl ?_
          rw [nI_1]
          refine s_Ow_hasOneOwnerEach_61 ?_
          refine ev_pick [0, 1, 3, 4] rfl ?_
          exact ih (q + 1) false (by omega) (by rw [hoe, if_pos c13, decide_eq_false c49, Bool.and_false] at hP; exact hP)
        · skip
          refine s_Ow_hasOneOwnerEach_52 ?_
          refine s_Ow_hasOneOwnerEach_53 ?_
          refine s_Ow_hasOneOwnerEach_57 ?_
          refine s_Ow_hasOneOwnerEach_58 rfl ?_
          rw [nI_1]
          refine s_Ow_hasOneOwnerEach_61 ?_
          refine ev_pick [0, 1, 3, 4] rfl ?_
          exact ih (q + 1) true (by omega) (by rw [hoe, if_pos c13, c32, decide_eq_true c49, Bool.true_and] at hP; exact hP)
set_option maxRecDepth 100000 in
theorem t_Ow_hasOneOwnerEach {G : GW} {L : LT} {I : IT} {r : Nat} {p : Int32} {a : Nat} (ep : p = nI a) (ha : a < 48) : mt G M_Ow_hasOneOwnerEach 1 0 0 [.ref 18, .int p] (hp L I r) (dt (some (.int (bz (hoe I a true 0 4)))) (hp L I r)) := by
  refine mt_of_ev (by decide) (Nat.le_of_ble_eq_true rfl) ?_
  show ev G M_Ow_hasOneOwnerEach (rmv 1 0 0) (Er M_Ow_hasOneOwnerEach _ 0 0) 0 [(0, .ref 18), (1, .int p)] [] (hp L I r) 0 0
  subst ep
  refine s_Ow_hasOneOwnerEach_0 ?_
  refine s_Ow_hasOneOwnerEach_1 ?_
  refine s_Ow_hasOneOwnerEach_2 ?_
  refine s_Ow_hasOneOwnerEach_3 ?_
  refine ev_pick [0, 1, 2, 3] rfl ?_
  exact l_hoe ha 4 0 true rfl dt_i
set_option maxRecDepth 100000 in
set_option maxHeartbeats 2000000 in
theorem l_fw2 {G : GW} {I : IT} {r : Nat} {L : LT} {P : Option Value → HP → Prop} : ∀ (n c : Nat), c + n = 6 → P (some (.int (fw2 I c n))) (hp L I r) → ev G M_Ow_firstWrong (rmv 3 0 0) (Er M_Ow_firstWrong P 0 0) 32 [(1, .int (nI c)), (0, .ref 18)] [] (hp L I r) 0 0 := by
  intro n
  induction n with
  | zero =>
    intro c hc hP
    obtain rfl : c = 6 := by omega
    refine s_Ow_firstWrong_32 rfl ?_
    refine s_Ow_firstWrong_33 ?_
    refine s_Ow_firstWrong_35 (fun _ => ?_) (fun c => absurd (by decide) c)
    refine s_Ow_firstWrong_66 ?_
    exact s_Ow_firstWrong_67 hP z0
  | succ n ih =>
    intro c hc hP
    refine s_Ow_firstWrong_32 rfl ?_
    refine s_Ow_firstWrong_33 ?_
    refine s_Ow_firstWrong_35 (fun c35 => absurd c35 (nle_nI (n := 6) rfl (by omega) (by decide))) (fun c35 => ?_)
    refine s_Ow_firstWrong_38 rfl ?_
    refine s_Ow_firstWrong_39 hp_18 rfl ?_
    refine s_Ow_firstWrong_42 rfl ?_
    refine c_Ow_firstWrong_43 (t_St_countOf rfl (by omega)) hp_4 rfl (Nat.le_of_ble_eq_true rfl) ?_
    refine s_Ow_firstWrong_46 rfl ?_
    refine s_Ow_firstWrong_47 hp_18 rfl ?_
    refine s_Ow_firstWrong_50 rfl ?_
    refine s_Ow_firstWrong_51 hp_21 (vp_in_nI (by omega) (by decide)) ?_
    rw [nI_clamp (by omega)]
    refine s_Ow_firstWrong_52 (fun c52 => ?_) (fun c52 => ?_)
    · skip
      refine s_Ow_firstWrong_60 rfl ?_
      rw [nI_1]
      refine s_Ow_firstWrong_63 ?_
      refine ev_pick [0, 1] rfl ?_
      exact ih (c + 1) (by omega) (by rw [fw2, if_pos c52] at hP; exact hP)
    · skip
      refine s_Ow_firstWrong_55 ?_
      refine s_Ow_firstWrong_57 rfl ?_
      refine s_Ow_firstWrong_58 ?_
      exact s_Ow_firstWrong_59 (by rw [fw2, if_neg c52] at hP; exact hP) z0
set_option maxRecDepth 100000 in
set_option maxHeartbeats 2000000 in
theorem l_fw1 {G : GW} {I : IT} {r : Nat} {L : LT} {P : Option Value → HP → Prop} : ∀ (n a : Nat), a + n = 48 → P (some (.int (fw1 I a n))) (hp L I r) → ev G M_Ow_firstWrong (rmv 3 0 0) (Er M_Ow_firstWrong P 0 0) 6 [(1, .int (nI a)), (0, .ref 18)] [] (hp L I r) 0 0 := by
  intro n
  induction n with
  | zero =>
    intro a ha hP
    obtain rfl : a = 48 := by omega
    refine s_Ow_firstWrong_6 rfl ?_
    refine s_Ow_firstWrong_7 ?_
    refine s_Ow_firstWrong_9 (fun _ => ?_) (fun c => absurd (by decide) c)
    refine s_Ow_firstWrong_30 ?_
    refine s_Ow_firstWrong_31 ?_
    refine ev_pick [0, 1] rfl ?_
    exact l_fw2 6 0 rfl hP
  | succ n ih =>
    intro a ha hP
    refine s_Ow_firstWrong_6 rfl ?_
    refine s_Ow_firstWrong_7 ?_
    refine s_Ow_firstWrong_9 (fun c9 => absurd c9 (nle_nI (n := 48) rfl (by omega) (by decide))) (fun c9 => ?_)
    refine s_Ow_firstWrong_12 rfl ?_
    refine s_Ow_firstWrong_13 rfl ?_
    refine c_Ow_firstWrong_14 (t_Ow_hasOneOwnerEach rfl (by omega)) hp_18 rfl (Nat.le_of_ble_eq_true rfl) ?_
    refine s_Ow_firstWrong_17 (fun c17 => ?_) (fun c17 => ?_)
    · skip
      (first | rw [bz_n0] at c17 | rw [bz_0] at c17 | skip); (try simp only [Bool.not_eq_false', Bool.not_eq_true', decide_eq_true_eq, decide_eq_false_iff_not, Bool.or_eq_true, Bool.or_eq_false_iff, Bool.and_eq_true, Bool.and_eq_false_iff] at c17)
      refine s_Ow_firstWrong_24 rfl ?_
      rw [nI_1]
      refine s_Ow_firstWrong_27 ?_
      refine ev_pick [0, 1] rfl ?_
      exact ih (a + 1) (by omega) (by rw [fw1, if_pos c17] at hP; exact hP)
    · skip
      (first | rw [bz_n0] at c17 | rw [bz_0] at c17 | skip); (try simp only [Bool.not_eq_false', Bool.not_eq_true', decide_eq_true_eq, decide_eq_false_iff_not, Bool.or_eq_true, Bool.or_eq_false_iff, Bool.and_eq_true, Bool.and_eq_false_iff] at c17)
      refine s_Ow_firstWrong_20 ?_
      refine s_Ow_firstWrong_21 rfl ?_
      refine s_Ow_firstWrong_22 ?_
      exact s_Ow_firstWrong_23 (by rw [fw1, if_neg (by rw [c17]; decide)] at hP; exact hP) z0
set_option maxRecDepth 100000 in
theorem t_Ow_firstWrong {G : GW} {L : LT} {I : IT} {r : Nat} (hL : ∀ p, p < 102 → rk2 (L 5 p)) : mt G M_Ow_firstWrong 3 0 0 [.ref 18] (hp L I r) (dt (some (.int (fw1 (tlA L I) 0 48))) (hp L (tlA L I) r)) := by
  refine mt_of_ev (by decide) (Nat.le_of_ble_eq_true rfl) ?_
  show ev G M_Ow_firstWrong (rmv 3 0 0) (Er M_Ow_firstWrong _ 0 0) 0 [(0, .ref 18)] [] (hp L I r) 0 0
  refine s_Ow_firstWrong_0 rfl ?_
  refine c_Ow_firstWrong_1 (t_Ow_tallyAll hL) hp_18 rfl (Nat.le_of_ble_eq_true rfl) ?_
  refine s_Ow_firstWrong_4 ?_
  refine s_Ow_firstWrong_5 ?_
  refine ev_pick [0, 1] rfl ?_
  exact l_fw1 48 0 rfl dt_i
set_option maxRecDepth 100000 in
theorem t_Um_conserve {G : GW} {L : LT} {I : IT} {r : Nat} (hL : ∀ p, p < 102 → rk2 (L 5 p)) (hb : ¬ I 0 6 = 0) : mt G M_Um_conserve 4 0 0 [.ref 0] (hp L I r) (dt (some (.int (fw1 (tlA L I) 0 48))) (hp L (tlA L I) r)) := by
  refine mt_of_ev (by decide) (Nat.le_of_ble_eq_true rfl) ?_
  show ev G M_Um_conserve (rmv 4 0 0) (Er M_Um_conserve _ 0 0) 0 [(0, .ref 0)] [] (hp L I r) 0 0
  refine s_Um_conserve_0 rfl ?_
  refine s_Um_conserve_1 hp_0 rfl ?_
  refine s_Um_conserve_4 (fun c4 => absurd c4 (hb)) (fun c4 => ?_)
  refine s_Um_conserve_7 rfl ?_
  refine s_Um_conserve_8 hp_0 rfl ?_
  refine c_Um_conserve_11 (t_Ow_firstWrong hL) hp_18 rfl (Nat.le_of_ble_eq_true rfl) ?_
  refine s_Um_conserve_14 ?_
  exact s_Um_conserve_18 ⟨by first | rfl | (simp [bz, *]; done) | (simp only [← Int32.not_le] at *; simp [bz, *]; done) | (simp only [Int32.not_lt, Int32.not_le] at *; simp [bz, *]; done) | (simp_all [bz]; done) | (simp only [bz_0, bz_n0, ← Int32.not_le] at *; simp_all [bz]; done), by first | rfl | (simp [*]; done) | (simp_all; done)⟩ z0
set_option maxRecDepth 100000 in
theorem t_conserve_0 {G : GW} {L : LT} {I : IT} {r : Nat} (hb : I 0 6 = 0) : mt G M_Um_conserve 4 0 0 [.ref 0] (hp L I r) (dt (some (.int 0)) (hp L I r)) := by
  refine mt_of_ev (by decide) (Nat.le_of_ble_eq_true rfl) ?_
  show ev G M_Um_conserve (rmv 4 0 0) (Er M_Um_conserve _ 0 0) 0 [(0, .ref 0)] [] (hp L I r) 0 0
  refine s_Um_conserve_0 rfl ?_
  refine s_Um_conserve_1 hp_0 rfl ?_
  refine s_Um_conserve_4 (fun c4 => ?_) (fun c4 => absurd c4 (fun q => q hb))
  refine s_Um_conserve_17 ?_
  exact s_Um_conserve_18 ⟨by first | rfl | (simp [bz, *]; done) | (simp only [← Int32.not_le] at *; simp [bz, *]; done) | (simp only [Int32.not_lt, Int32.not_le] at *; simp [bz, *]; done) | (simp_all [bz]; done) | (simp only [bz_0, bz_n0, ← Int32.not_le] at *; simp_all [bz]; done), by first | rfl | (simp [*]; done) | (simp_all; done)⟩ z0

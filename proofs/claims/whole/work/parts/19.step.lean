/-! takeBack, undo, step -/
def fMd (x y : Int32) : Int32 := if (x ^^^ y) < 0 ∧ ¬ x - x / y * y = 0 then x - x / y * y + y else x - x / y * y
theorem fMd40 : ∀ a, a < 40 → ∀ t, t < 41 → fMd (nI a - nI t) 40 = nI ((a + 40 - t) % 40) := by decide +kernel
set_option maxRecDepth 100000 in
theorem t_Jm_floorMod {G : GW} {L : LT} {I : IT} {r : Nat} {x y : Int32} (hy : ¬ y = 0) : mt G M_Jm_floorMod 0 0 0 [.int x, .int y] (hp L I r) (dt (some (.int (fMd x y))) (hp L I r)) := by
  refine mt_of_evF (by decide +kernel) (Nat.le_of_ble_eq_true rfl) ?_
  show ev G M_Jm_floorMod (rmv 0 0 0) (Er M_Jm_floorMod _ 0 0) 0 [(0, .int x), (1, .int y)] [] (hp L I r) 0 0
  refine s_Jm_floorMod_0 rfl ?_
  refine s_Jm_floorMod_1 rfl ?_
  refine s_Jm_floorMod_2 hy ?_
  refine s_Jm_floorMod_3 ?_
  refine s_Jm_floorMod_4 rfl ?_
  refine s_Jm_floorMod_5 rfl ?_
  refine s_Jm_floorMod_6 ?_
  refine s_Jm_floorMod_7 (fun c7 => ?_) (fun c7 => ?_)
  · skip
    refine s_Jm_floorMod_18 rfl ?_
    exact s_Jm_floorMod_19 ⟨by simp only [fMd]; first | (rw [if_pos ⟨Int32.not_le.mp c7, c11⟩]; done) | (rw [if_neg (fun h => absurd (Int32.not_le.mpr h.1) (fun q => q c7))]; done) | (rw [if_neg (fun h => h.2 c11)]; done), rfl⟩ z0
  · skip
    refine s_Jm_floorMod_10 rfl ?_
    refine s_Jm_floorMod_11 (fun c11 => ?_) (fun c11 => ?_)
    · skip
      refine s_Jm_floorMod_18 rfl ?_
      exact s_Jm_floorMod_19 ⟨by simp only [fMd]; first | (rw [if_pos ⟨Int32.not_le.mp c7, c11⟩]; done) | (rw [if_neg (fun h => absurd (Int32.not_le.mpr h.1) (fun q => q c7))]; done) | (rw [if_neg (fun h => h.2 c11)]; done), rfl⟩ z0
    · skip
      refine s_Jm_floorMod_14 rfl ?_
      refine s_Jm_floorMod_15 rfl ?_
      refine s_Jm_floorMod_16 ?_
      exact s_Jm_floorMod_17 ⟨by simp only [fMd]; first | (rw [if_pos ⟨Int32.not_le.mp c7, c11⟩]; done) | (rw [if_neg (fun h => absurd (Int32.not_le.mpr h.1) (fun q => q c7))]; done) | (rw [if_neg (fun h => h.2 c11)]; done), rfl⟩ z0
set_option maxRecDepth 100000 in
set_option maxHeartbeats 4000000 in
theorem t_takeBack_0 {G : GW} {L : LT} {I : IT} {r n : Nat} {q : Int32} (en : I 15 1 = nI n) (hn : n < 40) (es : I 15 2 = 0) (hq : 0 < q) : mt G M_Hi_takeBack 2 0 0 [.ref 15, .ref 4, .int q] (hp L I r) (dt (some (.int 0)) (hp L I r)) := by
  refine mt_of_ev (by decide) (Nat.le_of_ble_eq_true rfl) ?_
  show ev G M_Hi_takeBack (rmv 2 0 0) (Er M_Hi_takeBack _ 0 0) 0 [(0, .ref 15), (1, .ref 4), (2, .int q)] [] (hp L I r) 0 0
  refine s_Hi_takeBack_0 rfl ?_
  refine s_Hi_takeBack_1 rfl ?_
  refine s_Hi_takeBack_2 hp_15 rfl ?_
  refine ev_topi es ?_
  refine c_Hi_takeBack_5 t_Jm_min (Nat.le_of_ble_eq_true rfl) ?_
  rw [if_pos hq]
  refine s_Hi_takeBack_8 ?_
  refine s_Hi_takeBack_9 rfl ?_
  refine s_Hi_takeBack_10 hp_15 rfl ?_
  refine ev_topi en ?_
  refine s_Hi_takeBack_13 rfl ?_
  refine s_Hi_takeBack_14 ?_
  refine s_Hi_takeBack_15 ?_
  refine c_Hi_takeBack_17 (t_Jm_floorMod (by decide)) (Nat.le_of_ble_eq_true rfl) ?_
  refine ev_topi ((fMd40 n hn 0 (by decide)).trans (by rw [show (n + 40 - 0) % 40 = n by omega])) ?_
  refine s_Hi_takeBack_20 ?_
  refine s_Hi_takeBack_22 rfl ?_
  refine s_Hi_takeBack_23 hp_15 rfl ?_
  refine s_Hi_takeBack_26 rfl ?_
  refine s_Hi_takeBack_28 hp_16 (vp_in_nI hn (by decide)) ?_
  rw [nI_clamp (by omega)]
  cases hc : rg r n with
  | none =>
    refine s_Hi_takeBack_29N ?_
    refine s_Hi_takeBack_31 rfl ?_
    refine s_Hi_takeBack_32 ?_
    refine s_Hi_takeBack_33 (fun _ => ?_) (fun c => absurd (by decide) c)
    refine s_Hi_takeBack_41 ?_
    exact s_Hi_takeBack_42 ⟨rfl, rfl⟩ z0
  | some z =>
    refine s_Hi_takeBack_29 ?_
    refine s_Hi_takeBack_31 rfl ?_
    refine s_Hi_takeBack_32 ?_
    refine s_Hi_takeBack_33 (fun _ => ?_) (fun c => absurd (by decide) c)
    refine s_Hi_takeBack_41 ?_
    exact s_Hi_takeBack_42 ⟨rfl, rfl⟩ z0
def tbE (I : IT) (a : Nat) (z : Int32) : IT := upI (upI I 15 1 (nI a)) 15 2 z
theorem cpI_15 {I : IT} {j : Nat} {c : Nat} (hc : c = 15 ∨ c = 16) : cpI I 4 (26 + 11 * j) c = I c := by
  unfold cpI cpA upI
  rcases hc with rfl | rfl <;> simp (disch := omega) only [va_up_ne]
set_option maxRecDepth 100000 in
set_option maxHeartbeats 4000000 in
theorem t_takeBack {G : GW} {L : LT} {I : IT} {r n k s t a : Nat} {q : Int32} (en : I 15 1 = nI n) (hn : n < 40) (es : I 15 2 = nI s) (hs : s ≤ 40) (eq : q = nI k) (hk : k ≤ 40) (ht : t = min k s) (h1 : 1 ≤ t) (ha : a = (n + 40 - t) % 40) (har : a < r) (hr : r ≤ 40) : mt G M_Hi_takeBack 2 0 0 [.ref 15, .ref 4, .int q] (hp L I r) (dt (some (.int (nI t))) (hp (cpL L 4 (26 + 11 * a)) (tbE (cpI I 4 (26 + 11 * a)) a (nI (s - t))) r)) := by
  refine mt_of_ev (by decide) (Nat.le_of_ble_eq_true rfl) ?_
  show ev G M_Hi_takeBack (rmv 2 0 0) (Er M_Hi_takeBack _ 0 0) 0 [(0, .ref 15), (1, .ref 4), (2, .int q)] [] (hp L I r) 0 0
  have hmin : (if I 15 2 < q then I 15 2 else q) = nI t := by
    rw [es, eq, ht]
    by_cases h : s < k
    · rw [if_pos ((nI_ltI (by omega) (by omega)).mpr h), Nat.min_eq_right (by omega)]
    · rw [if_neg (fun q => h ((nI_ltI (by omega) (by omega)).mp q)), Nat.min_eq_left (by omega)]
  have htk : t ≤ 40 ∧ t ≤ s := by omega
  refine s_Hi_takeBack_0 rfl ?_
  refine s_Hi_takeBack_1 rfl ?_
  refine s_Hi_takeBack_2 hp_15 rfl ?_
  refine c_Hi_takeBack_5 t_Jm_min (Nat.le_of_ble_eq_true rfl) ?_
  rw [hmin]
  refine s_Hi_takeBack_8 ?_
  refine s_Hi_takeBack_9 rfl ?_
  refine s_Hi_takeBack_10 hp_15 rfl ?_
  refine ev_topi en ?_
  refine s_Hi_takeBack_13 rfl ?_
  refine s_Hi_takeBack_14 ?_
  refine s_Hi_takeBack_15 ?_
  refine c_Hi_takeBack_17 (t_Jm_floorMod (by decide)) (Nat.le_of_ble_eq_true rfl) ?_
  rw [fMd40 n hn t (by omega), ← ha]
  refine s_Hi_takeBack_20 ?_
  refine s_Hi_takeBack_22 rfl ?_
  refine s_Hi_takeBack_23 hp_15 rfl ?_
  refine s_Hi_takeBack_26 rfl ?_
  refine s_Hi_takeBack_28 hp_16 (vp_in_nI (by omega) (by decide)) ?_
  rw [nI_clamp (by omega), rg_in har]
  refine s_Hi_takeBack_29 ?_
  refine s_Hi_takeBack_31 rfl ?_
  refine s_Hi_takeBack_32 ?_
  refine s_Hi_takeBack_33 (fun c => absurd c (by rw [show (1 : Int32) = nI 1 from rfl, nI_ltI (by omega) (by decide)]; omega)) (fun c33 => ?_)
  refine s_Hi_takeBack_36 rfl ?_
  refine s_Hi_takeBack_38 ?_
  refine s_Hi_takeBack_43 rfl ?_
  refine s_Hi_takeBack_44 rfl ?_
  refine c_Hi_takeBack_46 (t_copy_main har hr) hp_4 rfl (Nat.le_of_ble_eq_true rfl) ?_
  refine s_Hi_takeBack_49 rfl ?_
  refine s_Hi_takeBack_50 rfl ?_
  refine s_Hi_takeBack_52 hp_15 (Nat.le_of_ble_eq_true rfl) ?_
  rw [hu_15_1]
  refine s_Hi_takeBack_55 rfl ?_
  refine s_Hi_takeBack_56 rfl ?_
  refine s_Hi_takeBack_57 hp_15 rfl ?_
  refine ev_topi (show _ = nI s from (congrFun (cpI_15 (I := I) (j := a) (Or.inl rfl)) 2).trans es) ?_
  refine s_Hi_takeBack_60 rfl ?_
  refine s_Hi_takeBack_61 ?_
  rw [pk_sub htk.2]
  refine s_Hi_takeBack_62 hp_15 (Nat.le_of_ble_eq_true rfl) ?_
  rw [hu_15_2]
  refine s_Hi_takeBack_65 rfl ?_
  exact s_Hi_takeBack_66 ⟨rfl, rfl⟩ z0
set_option maxRecDepth 100000 in
theorem t_undo_no {G : GW} {L : LT} {I : IT} {r : Nat} {q : Int32} (hq : q < 1 ∨ 40 < q) : mt G M_Um_undo 3 0 0 [.ref 0, .int q] (hp L I r) (dt (some (.int (-1))) (hp L I r)) := by
  refine mt_of_ev (by decide) (Nat.le_of_ble_eq_true rfl) ?_
  show ev G M_Um_undo (rmv 3 0 0) (Er M_Um_undo _ 0 0) 0 [(0, .ref 0), (1, .int q)] [] (hp L I r) 0 0
  refine s_Um_undo_0 rfl ?_
  refine s_Um_undo_1 ?_
  refine s_Um_undo_2 (fun c2 => ?_) (fun c2 => ?_)
  · skip
    refine s_Um_undo_11 ?_
    exact s_Um_undo_12 ⟨by first | rfl | (simp [bz, *]; done) | (simp only [← Int32.not_le] at *; simp [bz, *]; done) | (simp only [Int32.not_lt, Int32.not_le] at *; simp [bz, *]; done) | (simp_all [bz]; done) | (simp only [bz_0, bz_n0, ← Int32.not_le] at *; simp_all [bz]; done), by first | rfl | (simp [*]; done) | (simp_all; done)⟩ z0
  · skip
    refine s_Um_undo_5 rfl ?_
    refine s_Um_undo_6 ?_
    refine s_Um_undo_8 (fun c8 => absurd c8 (Int32.not_le.mpr (hq.resolve_left c2))) (fun c8 => ?_)
    refine s_Um_undo_11 ?_
    exact s_Um_undo_12 ⟨by first | rfl | (simp [bz, *]; done) | (simp only [← Int32.not_le] at *; simp [bz, *]; done) | (simp only [Int32.not_lt, Int32.not_le] at *; simp [bz, *]; done) | (simp_all [bz]; done) | (simp only [bz_0, bz_n0, ← Int32.not_le] at *; simp_all [bz]; done), by first | rfl | (simp [*]; done) | (simp_all; done)⟩ z0
set_option maxRecDepth 100000 in
theorem t_undo_0 {G : GW} {L : LT} {I : IT} {r : Nat} {n : Nat} {q : Int32} (en : I 15 1 = nI n) (hn : n < 40) (es : I 15 2 = 0) (h1 : ¬ q < 1) (h2 : q ≤ 40) : mt G M_Um_undo 3 0 0 [.ref 0, .int q] (hp L I r) (dt (some (.int 0)) (hp L I r)) := by
  refine mt_of_ev (by decide) (Nat.le_of_ble_eq_true rfl) ?_
  show ev G M_Um_undo (rmv 3 0 0) (Er M_Um_undo _ 0 0) 0 [(0, .ref 0), (1, .int q)] [] (hp L I r) 0 0
  refine s_Um_undo_0 rfl ?_
  refine s_Um_undo_1 ?_
  refine s_Um_undo_2 (fun c2 => absurd c2 (h1)) (fun c2 => ?_)
  refine s_Um_undo_5 rfl ?_
  refine s_Um_undo_6 ?_
  refine s_Um_undo_8 (fun c8 => ?_) (fun c8 => absurd c8 (fun q => q h2))
  refine s_Um_undo_13 rfl ?_
  refine s_Um_undo_14 hp_0 rfl ?_
  refine s_Um_undo_17 rfl ?_
  refine s_Um_undo_18 hp_0 rfl ?_
  refine s_Um_undo_21 rfl ?_
  refine c_Um_undo_22 (t_takeBack_0 en hn es (by have := Int32.not_lt.mp h1; exact Int32.lt_of_lt_of_le (by decide) this)) hp_15 rfl (Nat.le_of_ble_eq_true rfl) ?_
  exact s_Um_undo_25 ⟨by first | rfl | (simp [bz, *]; done) | (simp only [← Int32.not_le] at *; simp [bz, *]; done) | (simp only [Int32.not_lt, Int32.not_le] at *; simp [bz, *]; done) | (simp_all [bz]; done) | (simp only [bz_0, bz_n0, ← Int32.not_le] at *; simp_all [bz]; done), by first | rfl | (simp [*]; done) | (simp_all; done)⟩ z0
set_option maxRecDepth 100000 in
theorem t_undo {G : GW} {L : LT} {I : IT} {r : Nat} {n k s t a : Nat} {q : Int32} (en : I 15 1 = nI n) (hn : n < 40) (es : I 15 2 = nI s) (hs : s ≤ 40) (eq : q = nI k) (hk : k ≤ 40) (ht : t = min k s) (h1t : 1 ≤ t) (ha : a = (n + 40 - t) % 40) (har : a < r) (hr : r ≤ 40) (h1 : ¬ q < 1) (h2 : q ≤ 40) : mt G M_Um_undo 3 0 0 [.ref 0, .int q] (hp L I r) (dt (some (.int (nI t))) (hp (cpL L 4 (26 + 11 * a)) (tbE (cpI I 4 (26 + 11 * a)) a (nI (s - t))) r)) := by
  refine mt_of_ev (by decide) (Nat.le_of_ble_eq_true rfl) ?_
  show ev G M_Um_undo (rmv 3 0 0) (Er M_Um_undo _ 0 0) 0 [(0, .ref 0), (1, .int q)] [] (hp L I r) 0 0
  refine s_Um_undo_0 rfl ?_
  refine s_Um_undo_1 ?_
  refine s_Um_undo_2 (fun c2 => absurd c2 (h1)) (fun c2 => ?_)
  refine s_Um_undo_5 rfl ?_
  refine s_Um_undo_6 ?_
  refine s_Um_undo_8 (fun c8 => ?_) (fun c8 => absurd c8 (fun q => q h2))
  refine s_Um_undo_13 rfl ?_
  refine s_Um_undo_14 hp_0 rfl ?_
  refine s_Um_undo_17 rfl ?_
  refine s_Um_undo_18 hp_0 rfl ?_
  refine s_Um_undo_21 rfl ?_
  refine c_Um_undo_22 (t_takeBack en hn es hs eq hk ht h1t ha har hr) hp_15 rfl (Nat.le_of_ble_eq_true rfl) ?_
  exact s_Um_undo_25 ⟨by first | rfl | (simp [bz, *]; done) | (simp only [← Int32.not_le] at *; simp [bz, *]; done) | (simp only [Int32.not_lt, Int32.not_le] at *; simp [bz, *]; done) | (simp_all [bz]; done) | (simp only [bz_0, bz_n0, ← Int32.not_le] at *; simp_all [bz]; done), by first | rfl | (simp [*]; done) | (simp_all; done)⟩ z0
set_option maxRecDepth 100000 in
theorem t_step_no {G : GW} {L : LT} {I : IT} {r : Nat} {q : Int32} (hq : I 0 6 = 0 ∨ q < 1 ∨ 30 < q) : mt G M_Um_step 6 0 0 [.ref 0, .int q] (hp L I r) (dt (some (.int (-2))) (hp L I r)) := by
  refine mt_of_ev (by decide) (Nat.le_of_ble_eq_true rfl) ?_
  show ev G M_Um_step (rmv 6 0 0) (Er M_Um_step _ 0 0) 0 [(0, .ref 0), (1, .int q)] [] (hp L I r) 0 0
  refine s_Um_step_0 rfl ?_
  refine s_Um_step_1 hp_0 rfl ?_
  refine s_Um_step_4 (fun c4 => ?_) (fun c4 => ?_)
  · skip
    refine s_Um_step_18 ?_
    exact s_Um_step_20 ⟨by first | rfl | (simp [bz, *]; done) | (simp only [← Int32.not_le] at *; simp [bz, *]; done) | (simp only [Int32.not_lt, Int32.not_le] at *; simp [bz, *]; done) | (simp_all [bz]; done) | (simp only [bz_0, bz_n0, ← Int32.not_le] at *; simp_all [bz]; done), by first | rfl | (simp [*]; done) | (simp_all; done)⟩ z0
  · skip
    refine s_Um_step_7 rfl ?_
    refine s_Um_step_8 ?_
    refine s_Um_step_9 (fun c9 => ?_) (fun c9 => ?_)
    · skip
      refine s_Um_step_18 ?_
      exact s_Um_step_20 ⟨by first | rfl | (simp [bz, *]; done) | (simp only [← Int32.not_le] at *; simp [bz, *]; done) | (simp only [Int32.not_lt, Int32.not_le] at *; simp [bz, *]; done) | (simp_all [bz]; done) | (simp only [bz_0, bz_n0, ← Int32.not_le] at *; simp_all [bz]; done), by first | rfl | (simp [*]; done) | (simp_all; done)⟩ z0
    · skip
      refine s_Um_step_12 rfl ?_
      refine s_Um_step_13 ?_
      refine s_Um_step_15 (fun c15 => absurd c15 (Int32.not_le.mpr ((hq.resolve_left c4).resolve_left c9))) (fun c15 => ?_)
      refine s_Um_step_18 ?_
      exact s_Um_step_20 ⟨by first | rfl | (simp [bz, *]; done) | (simp only [← Int32.not_le] at *; simp [bz, *]; done) | (simp only [Int32.not_lt, Int32.not_le] at *; simp [bz, *]; done) | (simp_all [bz]; done) | (simp only [bz_0, bz_n0, ← Int32.not_le] at *; simp_all [bz]; done), by first | rfl | (simp [*]; done) | (simp_all; done)⟩ z0
/-- what step's loop does, k rounds left, the rows being rf in the end -/
def stp (G : GW) (rf : Nat) (fin : LT → IT → Prop) : Nat → LT → IT → Nat → Prop
  | 0, L, I, r => r = rf ∧ fin L I
  | k + 1, L, I, r => (¬ I 4 14 = 0 → r = rf ∧ fin L I) ∧ (I 4 14 = 0 → ∃ (L1 : LT) (I1 : IT) (r1 : Nat) (L2 : LT) (I2 : IT), r ≤ r1 ∧ r1 ≤ rf ∧ mt G M_Hi_keep 2 (11 * (r1 - r)) (196 * (r1 - r)) [.ref 15, .ref 4] (hp L I r) (dt none (hp L1 I1 r1)) ∧ mt G M_Pr_runOne 5 0 0 [.ref 17] (hp L1 I1 r1) (dt none (hp L2 I2 r1)) ∧ stp G rf fin k L2 I2 r1)
set_option maxRecDepth 100000 in
set_option maxHeartbeats 4000000 in
theorem l_step {G : GW} {P : Option Value → HP → Prop} {rf r0 n : Nat} {fin : LT → IT → Prop} (hn : n ≤ 30) (hfin : ∀ L I, fin L I → P (some (.int (I 4 14))) (hp L I rf)) : ∀ (k i : Nat) (L : LT) (I : IT) (r : Nat), i + k = n → r0 ≤ r → r ≤ rf → stp G rf fin k L I r → ev G M_Um_step (rmv 6 (11 * (rf - r0)) (196 * (rf - r0))) (Er M_Um_step P (11 * (rf - r0)) (196 * (rf - r0))) 23 [(2, .int (nI i)), (0, .ref 0), (1, .int (nI n))] [] (hp L I r) (11 * (r - r0)) (196 * (r - r0)) := by
  intro k
  have last : ∀ (i : Nat) (L : LT) (I : IT) (r : Nat), r0 ≤ r → r = rf → fin L I → ev G M_Um_step (rmv 6 (11 * (rf - r0)) (196 * (rf - r0))) (Er M_Um_step P (11 * (rf - r0)) (196 * (rf - r0))) 62 [(2, .int (nI i)), (0, .ref 0), (1, .int (nI n))] [] (hp L I r) (11 * (r - r0)) (196 * (r - r0)) := by
    intro i L I r h0 hr hf
    subst hr
    refine s_Um_step_62 rfl ?_
    refine s_Um_step_63 hp_0 rfl ?_
    refine s_Um_step_66 hp_4 rfl ?_
    exact s_Um_step_69 (hfin L I hf) ⟨Nat.le_refl _, Nat.le_refl _⟩
  induction k with
  | zero =>
    intro i L I r hi h0 hrf hs
    obtain rfl : i = n := by omega
    refine s_Um_step_23 rfl ?_
    refine s_Um_step_24 rfl ?_
    refine s_Um_step_25 (fun _ => ?_) (fun c => absurd (nI_le (Nat.le_refl i) (by omega)) c)
    exact last i L I r h0 hs.1 hs.2
  | succ k ih =>
    intro i L I r hi h0 hrf hs
    refine s_Um_step_23 rfl ?_
    refine s_Um_step_24 rfl ?_
    refine s_Um_step_25 (fun c => absurd c (nI_ge (by omega) (by omega))) (fun _ => ?_)
    refine s_Um_step_28 rfl ?_
    refine s_Um_step_29 hp_0 rfl ?_
    refine s_Um_step_32 hp_4 rfl ?_
    refine s_Um_step_35 (fun c35 => last i L I r h0 (hs.1 c35).1 (hs.1 c35).2) (fun c35 => ?_)
    obtain ⟨L1, I1, r1, L2, I2, g1, g2, hk, ho, hs'⟩ := hs.2 c35
    refine s_Um_step_38 rfl ?_
    refine s_Um_step_39 hp_0 rfl ?_
    refine s_Um_step_42 rfl ?_
    refine s_Um_step_43 hp_0 rfl ?_
    refine s_Um_step_46 hk hp_15 rfl ⟨Nat.le_of_ble_eq_true rfl, Nat.le_of_ble_eq_true rfl⟩ ⟨show _ ≤ 11 * (rf - r0) by omega, show _ ≤ 196 * (rf - r0) by omega⟩ (Nat.le_of_ble_eq_true rfl) ?_
    rintro _ _ ⟨rfl, rfl⟩
    rw [show 11 * (r - r0) + 11 * (r1 - r) = 11 * (r1 - r0) by omega, show 196 * (r - r0) + 196 * (r1 - r) = 196 * (r1 - r0) by omega]
    refine s_Um_step_49 rfl ?_
    refine s_Um_step_50 hp_0 rfl ?_
    refine s_Um_step_53 ho hp_17 rfl ⟨Nat.le_of_ble_eq_true rfl, Nat.le_of_ble_eq_true rfl⟩ ⟨show _ ≤ 11 * (rf - r0) by omega, show _ ≤ 196 * (rf - r0) by omega⟩ (Nat.le_of_ble_eq_true rfl) ?_
    rintro _ _ ⟨rfl, rfl⟩
    refine s_Um_step_56 rfl ?_
    rw [nI_1]
    refine s_Um_step_59 ?_
    refine ev_pick [0, 1, 2] rfl ?_
    exact ih (i + 1) L2 I2 r1 (by omega) (by omega) g2 hs'

set_option maxRecDepth 100000 in
set_option maxHeartbeats 4000000 in
theorem t_step {G : GW} {L : LT} {I : IT} {r rf n : Nat} {q : Int32} {fin : LT → IT → Prop} {P : Option Value → HP → Prop} (eq : q = nI n) (h1 : 1 ≤ n) (hn : n ≤ 30) (hb : ¬ I 0 6 = 0) (hr : r ≤ rf) (hs : stp G rf fin n L I r) (hfin : ∀ L I, fin L I → P (some (.int (I 4 14))) (hp L I rf)) : mt G M_Um_step 6 (11 * (rf - r)) (196 * (rf - r)) [.ref 0, .int q] (hp L I r) P := by
  subst eq
  refine mt_of_ev (by decide) (Nat.le_of_ble_eq_true rfl) ?_
  show ev G M_Um_step (rmv 6 (11 * (rf - r)) (196 * (rf - r))) (Er M_Um_step _ _ _) 0 [(0, .ref 0), (1, .int (nI n))] [] (hp L I r) 0 0
  refine s_Um_step_0 rfl ?_
  refine s_Um_step_1 hp_0 rfl ?_
  refine s_Um_step_4 (fun c => absurd c hb) (fun _ => ?_)
  refine s_Um_step_7 rfl ?_
  refine s_Um_step_8 ?_
  refine s_Um_step_9 (fun c => absurd c (by rw [show (1 : Int32) = nI 1 from rfl, nI_ltI (by omega) (by decide)]; omega)) (fun _ => ?_)
  refine s_Um_step_12 rfl ?_
  refine s_Um_step_13 ?_
  refine s_Um_step_15 (fun _ => ?_) (fun c => absurd (by rw [show (30 : Int32) = nI 30 from rfl, nI_leI (by omega) (by decide)]; omega) c)
  refine s_Um_step_21 ?_
  refine s_Um_step_22 ?_
  refine ev_pick [0, 1, 2] rfl ?_
  have k := l_step (r0 := r) hn hfin n 0 L I r (Nat.zero_add n) (Nat.le_refl r) hr hs
  simp only [Nat.sub_self, Nat.mul_zero] at k
  exact k

/-! the small methods: Value, Math, Code, State's reads and writes -/
def vKd (v : Int64) : Int32 := ((v.toUInt64 >>> ((32 : Int32).toInt64.toUInt64 &&& Int64.toUInt64 63)).toInt64).toInt32
def vFr (v : Int64) : Int32 := v.toInt32 &&& 255
def vEn (v : Int64) : Int32 := ((v.toUInt64 >>> ((8 : Int32).toInt64.toUInt64 &&& Int64.toUInt64 63)).toInt64).toInt32 &&& 255
def vRi (v : Int64) : Int32 := ((v.toUInt64 >>> ((16 : Int32).toInt64.toUInt64 &&& Int64.toUInt64 63)).toInt64).toInt32 &&& 255
def vLk (v : Int64) : Int32 := ((v.toUInt64 >>> ((24 : Int32).toInt64.toUInt64 &&& Int64.toUInt64 63)).toInt64).toInt32 &&& 255
def vPk (k f e r l : Int32) : Int64 := (((k.toInt64 <<< ((32 : Int32).toInt64 &&& 63) ||| l.toInt64 <<< ((24 : Int32).toInt64 &&& 63)) ||| r.toInt64 <<< ((16 : Int32).toInt64 &&& 63)) ||| e.toInt64 <<< ((8 : Int32).toInt64 &&& 63)) ||| f.toInt64
def vNu (n : Int32) : Int64 := n.toInt64 &&& 4294967295
def bz (b : Bool) : Int32 := if b then 1 else 0
theorem bz_or {b : Bool} : bz b = 0 ∨ bz b = 1 := by cases b <;> simp [bz]
theorem vin {p N : Int32} {n : Nat} (hN : N.toInt = n) (h1 : ¬ p < 0) (h2 : ¬ N ≤ p) : vp_in p n := by
  refine vp_in_iff.mpr ⟨?_, ?_⟩
  · have := Int32.not_lt.mp h1
    simpa using Int32.le_iff_toInt_le.mp this
  · have := Int32.not_le.mp h2
    rw [← hN]; exact Int32.lt_iff_toInt_lt.mp this
set_option maxRecDepth 100000 in
theorem t_Va_kind {G : GW} {L : LT} {I : IT} {r : Nat} {v : Int64} : mt G M_Va_kind 0 0 0 [.long v] (hp L I r) (dt (some (.int (vKd v))) (hp L I r)) := by
  refine mt_of_ev (by decide) (Nat.le_of_ble_eq_true rfl) ?_
  show ev G M_Va_kind (rmv 0 0 0) (Er M_Va_kind _ 0 0) 0 [(0, .long v)] [] (hp L I r) 0 0
  refine s_Va_kind_0 rfl ?_
  refine s_Va_kind_1 ?_
  refine s_Va_kind_3 ?_
  refine s_Va_kind_4 ?_
  exact s_Va_kind_5 ⟨by first | rfl | (simp [bz, *]; done) | (simp only [← Int32.not_le] at *; simp [bz, *]; done) | (simp only [Int32.not_lt, Int32.not_le] at *; simp [bz, *]; done) | (simp_all [bz]; done) | (simp only [bz_0, bz_n0, ← Int32.not_le] at *; simp_all [bz]; done), by first | rfl | (simp [*]; done) | (simp_all; done)⟩ z0
set_option maxRecDepth 100000 in
theorem t_Va_from {G : GW} {L : LT} {I : IT} {r : Nat} {v : Int64} : mt G M_Va_from 0 0 0 [.long v] (hp L I r) (dt (some (.int (vFr v))) (hp L I r)) := by
  refine mt_of_ev (by decide) (Nat.le_of_ble_eq_true rfl) ?_
  show ev G M_Va_from (rmv 0 0 0) (Er M_Va_from _ 0 0) 0 [(0, .long v)] [] (hp L I r) 0 0
  refine s_Va_from_0 rfl ?_
  refine s_Va_from_1 ?_
  refine s_Va_from_2 ?_
  refine s_Va_from_5 ?_
  exact s_Va_from_6 ⟨by first | rfl | (simp [bz, *]; done) | (simp only [← Int32.not_le] at *; simp [bz, *]; done) | (simp only [Int32.not_lt, Int32.not_le] at *; simp [bz, *]; done) | (simp_all [bz]; done) | (simp only [bz_0, bz_n0, ← Int32.not_le] at *; simp_all [bz]; done), by first | rfl | (simp [*]; done) | (simp_all; done)⟩ z0
set_option maxRecDepth 100000 in
theorem t_Va_end {G : GW} {L : LT} {I : IT} {r : Nat} {v : Int64} : mt G M_Va_end 0 0 0 [.long v] (hp L I r) (dt (some (.int (vEn v))) (hp L I r)) := by
  refine mt_of_ev (by decide) (Nat.le_of_ble_eq_true rfl) ?_
  show ev G M_Va_end (rmv 0 0 0) (Er M_Va_end _ 0 0) 0 [(0, .long v)] [] (hp L I r) 0 0
  refine s_Va_end_0 rfl ?_
  refine s_Va_end_1 ?_
  refine s_Va_end_3 ?_
  refine s_Va_end_4 ?_
  refine s_Va_end_5 ?_
  refine s_Va_end_8 ?_
  exact s_Va_end_9 ⟨by first | rfl | (simp [bz, *]; done) | (simp only [← Int32.not_le] at *; simp [bz, *]; done) | (simp only [Int32.not_lt, Int32.not_le] at *; simp [bz, *]; done) | (simp_all [bz]; done) | (simp only [bz_0, bz_n0, ← Int32.not_le] at *; simp_all [bz]; done), by first | rfl | (simp [*]; done) | (simp_all; done)⟩ z0
set_option maxRecDepth 100000 in
theorem t_Va_rights {G : GW} {L : LT} {I : IT} {r : Nat} {v : Int64} : mt G M_Va_rights 0 0 0 [.long v] (hp L I r) (dt (some (.int (vRi v))) (hp L I r)) := by
  refine mt_of_ev (by decide) (Nat.le_of_ble_eq_true rfl) ?_
  show ev G M_Va_rights (rmv 0 0 0) (Er M_Va_rights _ 0 0) 0 [(0, .long v)] [] (hp L I r) 0 0
  refine s_Va_rights_0 rfl ?_
  refine s_Va_rights_1 ?_
  refine s_Va_rights_3 ?_
  refine s_Va_rights_4 ?_
  refine s_Va_rights_5 ?_
  refine s_Va_rights_8 ?_
  exact s_Va_rights_9 ⟨by first | rfl | (simp [bz, *]; done) | (simp only [← Int32.not_le] at *; simp [bz, *]; done) | (simp only [Int32.not_lt, Int32.not_le] at *; simp [bz, *]; done) | (simp_all [bz]; done) | (simp only [bz_0, bz_n0, ← Int32.not_le] at *; simp_all [bz]; done), by first | rfl | (simp [*]; done) | (simp_all; done)⟩ z0
set_option maxRecDepth 100000 in
theorem t_Va_link {G : GW} {L : LT} {I : IT} {r : Nat} {v : Int64} : mt G M_Va_link 0 0 0 [.long v] (hp L I r) (dt (some (.int (vLk v))) (hp L I r)) := by
  refine mt_of_ev (by decide) (Nat.le_of_ble_eq_true rfl) ?_
  show ev G M_Va_link (rmv 0 0 0) (Er M_Va_link _ 0 0) 0 [(0, .long v)] [] (hp L I r) 0 0
  refine s_Va_link_0 rfl ?_
  refine s_Va_link_1 ?_
  refine s_Va_link_3 ?_
  refine s_Va_link_4 ?_
  refine s_Va_link_5 ?_
  refine s_Va_link_8 ?_
  exact s_Va_link_9 ⟨by first | rfl | (simp [bz, *]; done) | (simp only [← Int32.not_le] at *; simp [bz, *]; done) | (simp only [Int32.not_lt, Int32.not_le] at *; simp [bz, *]; done) | (simp_all [bz]; done) | (simp only [bz_0, bz_n0, ← Int32.not_le] at *; simp_all [bz]; done), by first | rfl | (simp [*]; done) | (simp_all; done)⟩ z0
set_option maxRecDepth 100000 in
theorem t_Va_number {G : GW} {L : LT} {I : IT} {r : Nat} {n : Int32} : mt G M_Va_number 0 0 0 [.int n] (hp L I r) (dt (some (.long (vNu n))) (hp L I r)) := by
  refine mt_of_ev (by decide) (Nat.le_of_ble_eq_true rfl) ?_
  show ev G M_Va_number (rmv 0 0 0) (Er M_Va_number _ 0 0) 0 [(0, .int n)] [] (hp L I r) 0 0
  refine s_Va_number_0 rfl ?_
  refine s_Va_number_1 ?_
  refine s_Va_number_2 ?_
  refine s_Va_number_5 ?_
  exact s_Va_number_6 ⟨by first | rfl | (simp [bz, *]; done) | (simp only [← Int32.not_le] at *; simp [bz, *]; done) | (simp only [Int32.not_lt, Int32.not_le] at *; simp [bz, *]; done) | (simp_all [bz]; done) | (simp only [bz_0, bz_n0, ← Int32.not_le] at *; simp_all [bz]; done), by first | rfl | (simp [*]; done) | (simp_all; done)⟩ z0
set_option maxRecDepth 100000 in
theorem t_Va_pack {G : GW} {L : LT} {I : IT} {r : Nat} {k f e q l : Int32} : mt G M_Va_pack 0 0 0 [.int k, .int f, .int e, .int q, .int l] (hp L I r) (dt (some (.long (vPk k f e q l))) (hp L I r)) := by
  refine mt_of_ev (by decide) (Nat.le_of_ble_eq_true rfl) ?_
  show ev G M_Va_pack (rmv 0 0 0) (Er M_Va_pack _ 0 0) 0 [(0, .int k), (1, .int f), (2, .int e), (3, .int q), (4, .int l)] [] (hp L I r) 0 0
  refine s_Va_pack_0 rfl ?_
  refine s_Va_pack_1 ?_
  refine s_Va_pack_2 ?_
  refine s_Va_pack_4 ?_
  refine s_Va_pack_5 rfl ?_
  refine s_Va_pack_7 ?_
  refine s_Va_pack_8 ?_
  refine s_Va_pack_10 ?_
  refine s_Va_pack_11 ?_
  refine s_Va_pack_12 rfl ?_
  refine s_Va_pack_13 ?_
  refine s_Va_pack_14 ?_
  refine s_Va_pack_16 ?_
  refine s_Va_pack_17 ?_
  refine s_Va_pack_18 rfl ?_
  refine s_Va_pack_19 ?_
  refine s_Va_pack_20 ?_
  refine s_Va_pack_22 ?_
  refine s_Va_pack_23 ?_
  refine s_Va_pack_24 rfl ?_
  refine s_Va_pack_25 ?_
  refine s_Va_pack_26 ?_
  exact s_Va_pack_27 ⟨by first | rfl | (simp [bz, *]; done) | (simp only [← Int32.not_le] at *; simp [bz, *]; done) | (simp only [Int32.not_lt, Int32.not_le] at *; simp [bz, *]; done) | (simp_all [bz]; done) | (simp only [bz_0, bz_n0, ← Int32.not_le] at *; simp_all [bz]; done), by first | rfl | (simp [*]; done) | (simp_all; done)⟩ z0
set_option maxRecDepth 100000 in
theorem t_Va_exclusive {G : GW} {L : LT} {I : IT} {r : Nat} {f e q : Int32} : mt G M_Va_exclusive 1 0 0 [.int f, .int e, .int q] (hp L I r) (dt (some (.long (vPk 1 f e q 0))) (hp L I r)) := by
  refine mt_of_ev (by decide) (Nat.le_of_ble_eq_true rfl) ?_
  show ev G M_Va_exclusive (rmv 1 0 0) (Er M_Va_exclusive _ 0 0) 0 [(0, .int f), (1, .int e), (2, .int q)] [] (hp L I r) 0 0
  refine s_Va_exclusive_0 ?_
  refine s_Va_exclusive_1 rfl ?_
  refine s_Va_exclusive_2 rfl ?_
  refine s_Va_exclusive_3 rfl ?_
  refine s_Va_exclusive_4 ?_
  refine c_Va_exclusive_5 (t_Va_pack) (Nat.le_of_ble_eq_true rfl) ?_
  exact s_Va_exclusive_8 ⟨by first | rfl | (simp [bz, *]; done) | (simp only [← Int32.not_le] at *; simp [bz, *]; done) | (simp only [Int32.not_lt, Int32.not_le] at *; simp [bz, *]; done) | (simp_all [bz]; done) | (simp only [bz_0, bz_n0, ← Int32.not_le] at *; simp_all [bz]; done), by first | rfl | (simp [*]; done) | (simp_all; done)⟩ z0
set_option maxRecDepth 100000 in
theorem t_Va_shared {G : GW} {L : LT} {I : IT} {r : Nat} {f e c : Int32} : mt G M_Va_shared 1 0 0 [.int f, .int e, .int c] (hp L I r) (dt (some (.long (vPk 2 f e 1 c))) (hp L I r)) := by
  refine mt_of_ev (by decide) (Nat.le_of_ble_eq_true rfl) ?_
  show ev G M_Va_shared (rmv 1 0 0) (Er M_Va_shared _ 0 0) 0 [(0, .int f), (1, .int e), (2, .int c)] [] (hp L I r) 0 0
  refine s_Va_shared_0 ?_
  refine s_Va_shared_1 rfl ?_
  refine s_Va_shared_2 rfl ?_
  refine s_Va_shared_3 ?_
  refine s_Va_shared_4 rfl ?_
  refine c_Va_shared_5 (t_Va_pack) (Nat.le_of_ble_eq_true rfl) ?_
  exact s_Va_shared_8 ⟨by first | rfl | (simp [bz, *]; done) | (simp only [← Int32.not_le] at *; simp [bz, *]; done) | (simp only [Int32.not_lt, Int32.not_le] at *; simp [bz, *]; done) | (simp_all [bz]; done) | (simp only [bz_0, bz_n0, ← Int32.not_le] at *; simp_all [bz]; done), by first | rfl | (simp [*]; done) | (simp_all; done)⟩ z0
set_option maxRecDepth 100000 in
theorem t_Va_seal {G : GW} {L : LT} {I : IT} {r : Nat} {g : Int32} : mt G M_Va_seal 1 0 0 [.int g] (hp L I r) (dt (some (.long (vPk 3 0 0 0 g))) (hp L I r)) := by
  refine mt_of_ev (by decide) (Nat.le_of_ble_eq_true rfl) ?_
  show ev G M_Va_seal (rmv 1 0 0) (Er M_Va_seal _ 0 0) 0 [(0, .int g)] [] (hp L I r) 0 0
  refine s_Va_seal_0 ?_
  refine s_Va_seal_1 ?_
  refine s_Va_seal_2 ?_
  refine s_Va_seal_3 ?_
  refine s_Va_seal_4 rfl ?_
  refine c_Va_seal_5 (t_Va_pack) (Nat.le_of_ble_eq_true rfl) ?_
  exact s_Va_seal_8 ⟨by first | rfl | (simp [bz, *]; done) | (simp only [← Int32.not_le] at *; simp [bz, *]; done) | (simp only [Int32.not_lt, Int32.not_le] at *; simp [bz, *]; done) | (simp_all [bz]; done) | (simp only [bz_0, bz_n0, ← Int32.not_le] at *; simp_all [bz]; done), by first | rfl | (simp [*]; done) | (simp_all; done)⟩ z0
set_option maxRecDepth 100000 in
theorem t_Va_isNumber {G : GW} {L : LT} {I : IT} {r : Nat} {v : Int64} : mt G M_Va_isNumber 1 0 0 [.long v] (hp L I r) (dt (some (.int (bz (decide (vKd v = 0))))) (hp L I r)) := by
  refine mt_of_ev (by decide) (Nat.le_of_ble_eq_true rfl) ?_
  show ev G M_Va_isNumber (rmv 1 0 0) (Er M_Va_isNumber _ 0 0) 0 [(0, .long v)] [] (hp L I r) 0 0
  refine s_Va_isNumber_0 rfl ?_
  refine c_Va_isNumber_1 (t_Va_kind) (Nat.le_of_ble_eq_true rfl) ?_
  refine s_Va_isNumber_4 (fun c4 => ?_) (fun c4 => ?_)
  · skip
    refine s_Va_isNumber_11 ?_
    exact s_Va_isNumber_12 (by first | exact Or.inl rfl | exact Or.inr rfl | exact bz_or | assumption) ⟨by first | rfl | (simp [bz, *]; done) | (simp only [← Int32.not_le] at *; simp [bz, *]; done) | (simp only [Int32.not_lt, Int32.not_le] at *; simp [bz, *]; done) | (simp_all [bz]; done) | (simp only [bz_0, bz_n0, ← Int32.not_le] at *; simp_all [bz]; done), by first | rfl | (simp [*]; done) | (simp_all; done)⟩ z0
  · skip
    refine s_Va_isNumber_7 ?_
    refine s_Va_isNumber_8 ?_
    exact s_Va_isNumber_12 (by first | exact Or.inl rfl | exact Or.inr rfl | exact bz_or | assumption) ⟨by first | rfl | (simp [bz, *]; done) | (simp only [← Int32.not_le] at *; simp [bz, *]; done) | (simp only [Int32.not_lt, Int32.not_le] at *; simp [bz, *]; done) | (simp_all [bz]; done) | (simp only [bz_0, bz_n0, ← Int32.not_le] at *; simp_all [bz]; done), by first | rfl | (simp [*]; done) | (simp_all; done)⟩ z0
set_option maxRecDepth 100000 in
theorem t_Va_isCapability {G : GW} {L : LT} {I : IT} {r : Nat} {v : Int64} : mt G M_Va_isCapability 1 0 0 [.long v] (hp L I r) (dt (some (.int (bz (decide (vKd v = 1) || decide (vKd v = 2))))) (hp L I r)) := by
  refine mt_of_ev (by decide) (Nat.le_of_ble_eq_true rfl) ?_
  show ev G M_Va_isCapability (rmv 1 0 0) (Er M_Va_isCapability _ 0 0) 0 [(0, .long v)] [] (hp L I r) 0 0
  refine s_Va_isCapability_0 rfl ?_
  refine c_Va_isCapability_1 (t_Va_kind) (Nat.le_of_ble_eq_true rfl) ?_
  refine s_Va_isCapability_4 ?_
  refine s_Va_isCapability_5 (fun c5 => ?_) (fun c5 => ?_)
  · skip
    refine s_Va_isCapability_16 ?_
    refine s_Va_isCapability_17 ?_
    exact s_Va_isCapability_21 (by first | exact Or.inl rfl | exact Or.inr rfl | exact bz_or | assumption) ⟨by first | rfl | (simp [bz, *]; done) | (simp only [← Int32.not_le] at *; simp [bz, *]; done) | (simp only [Int32.not_lt, Int32.not_le] at *; simp [bz, *]; done) | (simp_all [bz]; done) | (simp only [bz_0, bz_n0, ← Int32.not_le] at *; simp_all [bz]; done), by first | rfl | (simp [*]; done) | (simp_all; done)⟩ z0
  · skip
    refine s_Va_isCapability_8 rfl ?_
    refine c_Va_isCapability_9 (t_Va_kind) (Nat.le_of_ble_eq_true rfl) ?_
    refine s_Va_isCapability_12 ?_
    refine s_Va_isCapability_13 (fun c13 => ?_) (fun c13 => ?_)
    · skip
      refine s_Va_isCapability_20 ?_
      exact s_Va_isCapability_21 (by first | exact Or.inl rfl | exact Or.inr rfl | exact bz_or | assumption) ⟨by first | rfl | (simp [bz, *]; done) | (simp only [← Int32.not_le] at *; simp [bz, *]; done) | (simp only [Int32.not_lt, Int32.not_le] at *; simp [bz, *]; done) | (simp_all [bz]; done) | (simp only [bz_0, bz_n0, ← Int32.not_le] at *; simp_all [bz]; done), by first | rfl | (simp [*]; done) | (simp_all; done)⟩ z0
    · skip
      refine s_Va_isCapability_16 ?_
      refine s_Va_isCapability_17 ?_
      exact s_Va_isCapability_21 (by first | exact Or.inl rfl | exact Or.inr rfl | exact bz_or | assumption) ⟨by first | rfl | (simp [bz, *]; done) | (simp only [← Int32.not_le] at *; simp [bz, *]; done) | (simp only [Int32.not_lt, Int32.not_le] at *; simp [bz, *]; done) | (simp_all [bz]; done) | (simp only [bz_0, bz_n0, ← Int32.not_le] at *; simp_all [bz]; done), by first | rfl | (simp [*]; done) | (simp_all; done)⟩ z0
set_option maxRecDepth 100000 in
theorem t_Va_isMoved {G : GW} {L : LT} {I : IT} {r : Nat} {v : Int64} : mt G M_Va_isMoved 1 0 0 [.long v] (hp L I r) (dt (some (.int (bz (decide (vKd v = 1) || decide (vKd v = 3))))) (hp L I r)) := by
  refine mt_of_ev (by decide) (Nat.le_of_ble_eq_true rfl) ?_
  show ev G M_Va_isMoved (rmv 1 0 0) (Er M_Va_isMoved _ 0 0) 0 [(0, .long v)] [] (hp L I r) 0 0
  refine s_Va_isMoved_0 rfl ?_
  refine c_Va_isMoved_1 (t_Va_kind) (Nat.le_of_ble_eq_true rfl) ?_
  refine s_Va_isMoved_4 ?_
  refine s_Va_isMoved_5 (fun c5 => ?_) (fun c5 => ?_)
  · skip
    refine s_Va_isMoved_16 ?_
    refine s_Va_isMoved_17 ?_
    exact s_Va_isMoved_21 (by first | exact Or.inl rfl | exact Or.inr rfl | exact bz_or | assumption) ⟨by first | rfl | (simp [bz, *]; done) | (simp only [← Int32.not_le] at *; simp [bz, *]; done) | (simp only [Int32.not_lt, Int32.not_le] at *; simp [bz, *]; done) | (simp_all [bz]; done) | (simp only [bz_0, bz_n0, ← Int32.not_le] at *; simp_all [bz]; done), by first | rfl | (simp [*]; done) | (simp_all; done)⟩ z0
  · skip
    refine s_Va_isMoved_8 rfl ?_
    refine c_Va_isMoved_9 (t_Va_kind) (Nat.le_of_ble_eq_true rfl) ?_
    refine s_Va_isMoved_12 ?_
    refine s_Va_isMoved_13 (fun c13 => ?_) (fun c13 => ?_)
    · skip
      refine s_Va_isMoved_20 ?_
      exact s_Va_isMoved_21 (by first | exact Or.inl rfl | exact Or.inr rfl | exact bz_or | assumption) ⟨by first | rfl | (simp [bz, *]; done) | (simp only [← Int32.not_le] at *; simp [bz, *]; done) | (simp only [Int32.not_lt, Int32.not_le] at *; simp [bz, *]; done) | (simp_all [bz]; done) | (simp only [bz_0, bz_n0, ← Int32.not_le] at *; simp_all [bz]; done), by first | rfl | (simp [*]; done) | (simp_all; done)⟩ z0
    · skip
      refine s_Va_isMoved_16 ?_
      refine s_Va_isMoved_17 ?_
      exact s_Va_isMoved_21 (by first | exact Or.inl rfl | exact Or.inr rfl | exact bz_or | assumption) ⟨by first | rfl | (simp [bz, *]; done) | (simp only [← Int32.not_le] at *; simp [bz, *]; done) | (simp only [Int32.not_lt, Int32.not_le] at *; simp [bz, *]; done) | (simp_all [bz]; done) | (simp only [bz_0, bz_n0, ← Int32.not_le] at *; simp_all [bz]; done), by first | rfl | (simp [*]; done) | (simp_all; done)⟩ z0

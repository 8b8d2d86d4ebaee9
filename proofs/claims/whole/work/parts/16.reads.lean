/-! the class's reads; code; fill; clear; boot -/
def vFd (v : Int64) (f : Int32) : Int32 := if vKd v = 0 then (if f = 1 then v.toInt32 else 0) else if f = 0 then vKd v else if f = 1 then vFr v else if f = 2 then vEn v else if f = 3 then vRi v else vLk v
def uReg (L : LT) (q f : Int32) : Int32 := if q < 0 ∨ 8 ≤ q ∨ f < 0 ∨ ¬ f < 5 then -1 else vFd (L 5 q.toNatClampNeg) f
def uWrd (L : LT) (q f : Int32) : Int32 := if q < 0 ∨ 48 ≤ q ∨ f < 0 ∨ ¬ f < 5 then -1 else vFd (L 5 (8 + q.toNatClampNeg)) f
def uLok (I : IT) (w : Int32) : Int32 := if w = 0 then I 4 10 else if w = 1 then I 4 11 else if w = 2 then I 4 12 else if w = 3 then I 4 13 else if w = 4 then I 4 14 else if w = 5 then I 3 0 else if w = 6 then I 3 1 else if w = 7 then I 3 2 else -1
def uCnt (I : IT) (q : Int32) : Int32 := if q < 0 ∨ ¬ q < 6 then -1 else I 7 q.toNatClampNeg
def uGat (I : IT) (q f : Int32) : Int32 := if q < 0 ∨ ¬ q < 6 then -1 else if f = 0 then I 8 q.toNatClampNeg else if f = 1 then I 9 q.toNatClampNeg else if f = 2 then I 10 q.toNatClampNeg else -1
def uApp (I : IT) (m s : Nat) (op a b c : Int32) : IT := upI (upI (upI (upI (upI I 2 ((m * 24 + s) * 4) op) 2 ((m * 24 + s) * 4 + 1) a) 2 ((m * 24 + s) * 4 + 2) b) 2 ((m * 24 + s) * 4 + 3) c) 3 m (nI s + 1)
def fil {α : Type} (f : Nat → α) (n : Nat) (x : α) : Nat → α := fun j => if j < n then x else f j
def clI (I : IT) : IT := upI (upI (upI (upI (upI (va_up (va_up (va_up (va_up I 7 (fil (I 7) 6 0)) 8 (fil (I 8) 6 0)) 9 (fil (I 9) 6 0)) 10 (fil (I 10) 6 0)) 4 10 0) 4 11 0) 4 12 0) 4 13 0) 4 14 0
def clL (L : LT) : LT := va_up L 5 (fil (L 5) 102 0)
theorem idx40 (m q : Nat) : (nI m * 24 + nI q) * 4 = nI ((m * 24 + q) * 4) := by
  rw [show (24 : Int32) = nI 24 from rfl, show (4 : Int32) = nI 4 from rfl, pk_mul, nI_add, pk_mul]
theorem fil_s {α : Type} (f : Nat → α) (i : Nat) (x : α) (j : Nat) : fil f (i + 1) x j = if j = i then x else fil f i x j := by
  unfold fil
  by_cases h : j = i
  · subst h; simp
  · rw [if_neg h]
    by_cases h2 : j < i
    · rw [if_pos h2, if_pos (by omega)]
    · rw [if_neg h2, if_neg (by omega)]
set_option maxRecDepth 100000 in
theorem t_Va_field {G : GW} {L : LT} {I : IT} {r : Nat} {v : Int64} {f : Int32} : mt G M_Va_field 2 0 0 [.long v, .int f] (hp L I r) (dt (some (.int (vFd v f))) (hp L I r)) := by
  refine mt_of_ev (by decide) (Nat.le_of_ble_eq_true rfl) ?_
  show ev G M_Va_field (rmv 2 0 0) (Er M_Va_field _ 0 0) 0 [(0, .long v), (2, .int f)] [] (hp L I r) 0 0
  refine s_Va_field_0 rfl ?_
  refine c_Va_field_1 (t_Va_isNumber) (Nat.le_of_ble_eq_true rfl) ?_
  refine s_Va_field_4 (fun c4 => ?_) (fun c4 => ?_)
  · skip
    (first | rw [bz_n0] at c4 | rw [bz_0] at c4 | skip); (try simp only [Bool.not_eq_false', Bool.not_eq_true', decide_eq_true_eq, decide_eq_false_iff_not, Bool.or_eq_true, Bool.or_eq_false_iff, Bool.and_eq_true, Bool.and_eq_false_iff] at c4)
    refine s_Va_field_19 rfl ?_
    by_cases e20_0 : f = 0
    · skip
      refine ev_topi e20_0 ?_
      refine s_Va_field_20_0 ?_
      refine s_Va_field_52 rfl ?_
      refine c_Va_field_53 (t_Va_kind) (Nat.le_of_ble_eq_true rfl) ?_
      exact s_Va_field_56 ⟨by simp [vFd, c4, e20_0], rfl⟩ z0
    by_cases e20_1 : f = 1
    · skip
      refine ev_topi e20_1 ?_
      refine s_Va_field_20_1 ?_
      refine s_Va_field_57 rfl ?_
      refine c_Va_field_58 (t_Va_from) (Nat.le_of_ble_eq_true rfl) ?_
      exact s_Va_field_61 ⟨by simp [vFd, c4, e20_0, e20_1], rfl⟩ z0
    by_cases e20_2 : f = 2
    · skip
      refine ev_topi e20_2 ?_
      refine s_Va_field_20_2 ?_
      refine s_Va_field_62 rfl ?_
      refine c_Va_field_63 (t_Va_end) (Nat.le_of_ble_eq_true rfl) ?_
      exact s_Va_field_66 ⟨by simp [vFd, c4, e20_0, e20_1, e20_2], rfl⟩ z0
    by_cases e20_3 : f = 3
    · skip
      refine ev_topi e20_3 ?_
      refine s_Va_field_20_3 ?_
      refine s_Va_field_67 rfl ?_
      refine c_Va_field_68 (t_Va_rights) (Nat.le_of_ble_eq_true rfl) ?_
      exact s_Va_field_71 ⟨by simp [vFd, c4, e20_0, e20_1, e20_2, e20_3], rfl⟩ z0
    refine s_Va_field_20_d (by have t0 := tne e20_0 (n := 0) (by decide); have t1 := tne e20_1 (n := 1) (by decide); have t2 := tne e20_2 (n := 2) (by decide); have t3 := tne e20_3 (n := 3) (by decide); omega) ?_
    refine s_Va_field_72 rfl ?_
    refine c_Va_field_73 (t_Va_link) (Nat.le_of_ble_eq_true rfl) ?_
    exact s_Va_field_76 ⟨by simp [vFd, c4, e20_0, e20_1, e20_2, e20_3], rfl⟩ z0
  · skip
    (first | rw [bz_n0] at c4 | rw [bz_0] at c4 | skip); (try simp only [Bool.not_eq_false', Bool.not_eq_true', decide_eq_true_eq, decide_eq_false_iff_not, Bool.or_eq_true, Bool.or_eq_false_iff, Bool.and_eq_true, Bool.and_eq_false_iff] at c4)
    refine s_Va_field_7 rfl ?_
    refine s_Va_field_8 ?_
    refine s_Va_field_9 (fun c9 => ?_) (fun c9 => ?_)
    · skip
      refine s_Va_field_17 ?_
      exact s_Va_field_18 ⟨by simp [vFd, c4, c9], rfl⟩ z0
    · skip
      refine s_Va_field_12 rfl ?_
      refine s_Va_field_13 ?_
      refine s_Va_field_14 ?_
      exact s_Va_field_18 ⟨by simp [vFd, c4, c9], rfl⟩ z0
set_option maxRecDepth 100000 in
theorem t_Um_register {G : GW} {L : LT} {I : IT} {r : Nat} {q f : Int32} : mt G M_Um_register 3 0 0 [.ref 0, .int q, .int f] (hp L I r) (dt (some (.int (uReg L q f))) (hp L I r)) := by
  refine mt_of_ev (by decide) (Nat.le_of_ble_eq_true rfl) ?_
  show ev G M_Um_register (rmv 3 0 0) (Er M_Um_register _ 0 0) 0 [(0, .ref 0), (1, .int q), (2, .int f)] [] (hp L I r) 0 0
  refine s_Um_register_0 rfl ?_
  refine s_Um_register_1 (fun c1 => ?_) (fun c1 => ?_)
  · skip
    refine s_Um_register_19 ?_
    exact s_Um_register_20 ⟨by rw [uReg, if_pos (by first | exact Or.inl c1 | exact Or.inr (Or.inl c7) | exact Or.inr (Or.inr (Or.inl c11)) | exact Or.inr (Or.inr (Or.inr c16)))], rfl⟩ z0
  · skip
    refine s_Um_register_4 rfl ?_
    refine s_Um_register_5 ?_
    refine s_Um_register_7 (fun c7 => ?_) (fun c7 => ?_)
    · skip
      refine s_Um_register_19 ?_
      exact s_Um_register_20 ⟨by rw [uReg, if_pos (by first | exact Or.inl c1 | exact Or.inr (Or.inl c7) | exact Or.inr (Or.inr (Or.inl c11)) | exact Or.inr (Or.inr (Or.inr c16)))], rfl⟩ z0
    · skip
      refine s_Um_register_10 rfl ?_
      refine s_Um_register_11 (fun c11 => ?_) (fun c11 => ?_)
      · skip
        refine s_Um_register_19 ?_
        exact s_Um_register_20 ⟨by rw [uReg, if_pos (by first | exact Or.inl c1 | exact Or.inr (Or.inl c7) | exact Or.inr (Or.inr (Or.inl c11)) | exact Or.inr (Or.inr (Or.inr c16)))], rfl⟩ z0
      · skip
        refine s_Um_register_14 rfl ?_
        refine s_Um_register_15 ?_
        refine s_Um_register_16 (fun c16 => ?_) (fun c16 => ?_)
        · skip
          obtain ⟨j, hj, rfl⟩ := vp_in_of (vin (n := 8) rfl c1 c7) (by decide)
          refine s_Um_register_21 rfl ?_
          refine s_Um_register_22 hp_0 rfl ?_
          refine s_Um_register_25 rfl ?_
          refine c_Um_register_26 (t_St_held rfl (by omega)) hp_4 rfl (Nat.le_of_ble_eq_true rfl) ?_
          refine s_Um_register_29 rfl ?_
          refine c_Um_register_30 (t_Va_field) (Nat.le_of_ble_eq_true rfl) ?_
          exact s_Um_register_33 ⟨by rw [uReg, if_neg (fun h => h.elim c1 (fun h => h.elim c7 (fun h => h.elim c11 (fun h => h c16)))), nI_clamp (by omega)], rfl⟩ z0
        · skip
          refine s_Um_register_19 ?_
          exact s_Um_register_20 ⟨by rw [uReg, if_pos (by first | exact Or.inl c1 | exact Or.inr (Or.inl c7) | exact Or.inr (Or.inr (Or.inl c11)) | exact Or.inr (Or.inr (Or.inr c16)))], rfl⟩ z0
set_option maxRecDepth 100000 in
theorem t_Um_word {G : GW} {L : LT} {I : IT} {r : Nat} {q f : Int32} : mt G M_Um_word 3 0 0 [.ref 0, .int q, .int f] (hp L I r) (dt (some (.int (uWrd L q f))) (hp L I r)) := by
  refine mt_of_ev (by decide) (Nat.le_of_ble_eq_true rfl) ?_
  show ev G M_Um_word (rmv 3 0 0) (Er M_Um_word _ 0 0) 0 [(0, .ref 0), (1, .int q), (2, .int f)] [] (hp L I r) 0 0
  refine s_Um_word_0 rfl ?_
  refine s_Um_word_1 (fun c1 => ?_) (fun c1 => ?_)
  · skip
    refine s_Um_word_19 ?_
    exact s_Um_word_20 ⟨by rw [uWrd, if_pos (by first | exact Or.inl c1 | exact Or.inr (Or.inl c7) | exact Or.inr (Or.inr (Or.inl c11)) | exact Or.inr (Or.inr (Or.inr c16)))], rfl⟩ z0
  · skip
    refine s_Um_word_4 rfl ?_
    refine s_Um_word_5 ?_
    refine s_Um_word_7 (fun c7 => ?_) (fun c7 => ?_)
    · skip
      refine s_Um_word_19 ?_
      exact s_Um_word_20 ⟨by rw [uWrd, if_pos (by first | exact Or.inl c1 | exact Or.inr (Or.inl c7) | exact Or.inr (Or.inr (Or.inl c11)) | exact Or.inr (Or.inr (Or.inr c16)))], rfl⟩ z0
    · skip
      refine s_Um_word_10 rfl ?_
      refine s_Um_word_11 (fun c11 => ?_) (fun c11 => ?_)
      · skip
        refine s_Um_word_19 ?_
        exact s_Um_word_20 ⟨by rw [uWrd, if_pos (by first | exact Or.inl c1 | exact Or.inr (Or.inl c7) | exact Or.inr (Or.inr (Or.inl c11)) | exact Or.inr (Or.inr (Or.inr c16)))], rfl⟩ z0
      · skip
        refine s_Um_word_14 rfl ?_
        refine s_Um_word_15 ?_
        refine s_Um_word_16 (fun c16 => ?_) (fun c16 => ?_)
        · skip
          obtain ⟨j, hj, rfl⟩ := vp_in_of (vin (n := 48) rfl c1 c7) (by decide)
          refine s_Um_word_21 rfl ?_
          refine s_Um_word_22 hp_0 rfl ?_
          refine s_Um_word_25 ?_
          refine s_Um_word_27 rfl ?_
          refine s_Um_word_28 ?_
          refine c_Um_word_29 (t_St_held (show (8 : Int32) + nI j = nI (8 + j) from nI_add 8 j) (by omega)) hp_4 rfl (Nat.le_of_ble_eq_true rfl) ?_
          refine s_Um_word_32 rfl ?_
          refine c_Um_word_33 (t_Va_field) (Nat.le_of_ble_eq_true rfl) ?_
          exact s_Um_word_36 ⟨by rw [uWrd, if_neg (fun h => h.elim c1 (fun h => h.elim c7 (fun h => h.elim c11 (fun h => h c16)))), nI_clamp (by omega)], rfl⟩ z0
        · skip
          refine s_Um_word_19 ?_
          exact s_Um_word_20 ⟨by rw [uWrd, if_pos (by first | exact Or.inl c1 | exact Or.inr (Or.inl c7) | exact Or.inr (Or.inr (Or.inl c11)) | exact Or.inr (Or.inr (Or.inr c16)))], rfl⟩ z0
set_option maxRecDepth 100000 in
theorem t_Um_look {G : GW} {L : LT} {I : IT} {r : Nat} {w : Int32} : mt G M_Um_look 1 0 0 [.ref 0, .int w] (hp L I r) (dt (some (.int (uLok I w))) (hp L I r)) := by
  refine mt_of_ev (by decide) (Nat.le_of_ble_eq_true rfl) ?_
  show ev G M_Um_look (rmv 1 0 0) (Er M_Um_look _ 0 0) 0 [(0, .ref 0), (1, .int w)] [] (hp L I r) 0 0
  refine s_Um_look_0 rfl ?_
  by_cases e1_0 : w = 0
  · skip
    refine ev_topi e1_0 ?_
    refine s_Um_look_1_0 ?_
    refine s_Um_look_48 rfl ?_
    refine s_Um_look_49 hp_0 rfl ?_
    refine s_Um_look_52 hp_4 rfl ?_
    exact s_Um_look_55 ⟨by simp [uLok, e1_0], rfl⟩ z0
  by_cases e1_1 : w = 1
  · skip
    refine ev_topi e1_1 ?_
    refine s_Um_look_1_1 ?_
    refine s_Um_look_56 rfl ?_
    refine s_Um_look_57 hp_0 rfl ?_
    refine s_Um_look_60 hp_4 rfl ?_
    exact s_Um_look_63 ⟨by simp [uLok, e1_0, e1_1], rfl⟩ z0
  by_cases e1_2 : w = 2
  · skip
    refine ev_topi e1_2 ?_
    refine s_Um_look_1_2 ?_
    refine s_Um_look_64 rfl ?_
    refine s_Um_look_65 hp_0 rfl ?_
    refine s_Um_look_68 hp_4 rfl ?_
    exact s_Um_look_71 ⟨by simp [uLok, e1_0, e1_1, e1_2], rfl⟩ z0
  by_cases e1_3 : w = 3
  · skip
    refine ev_topi e1_3 ?_
    refine s_Um_look_1_3 ?_
    refine s_Um_look_72 rfl ?_
    refine s_Um_look_73 hp_0 rfl ?_
    refine s_Um_look_76 hp_4 rfl ?_
    exact s_Um_look_79 ⟨by simp [uLok, e1_0, e1_1, e1_2, e1_3], rfl⟩ z0
  by_cases e1_4 : w = 4
  · skip
    refine ev_topi e1_4 ?_
    refine s_Um_look_1_4 ?_
    refine s_Um_look_80 rfl ?_
    refine s_Um_look_81 hp_0 rfl ?_
    refine s_Um_look_84 hp_4 rfl ?_
    exact s_Um_look_87 ⟨by simp [uLok, e1_0, e1_1, e1_2, e1_3, e1_4], rfl⟩ z0
  by_cases e1_5 : w = 5
  · skip
    refine ev_topi e1_5 ?_
    refine s_Um_look_1_5 ?_
    refine s_Um_look_88 rfl ?_
    refine s_Um_look_89 hp_0 rfl ?_
    refine s_Um_look_92 ?_
    refine c_Um_look_93 (t_Co_size (j := 0) rfl (by omega)) hp_1 rfl (Nat.le_of_ble_eq_true rfl) ?_
    exact s_Um_look_96 ⟨by simp [uLok, e1_0, e1_1, e1_2, e1_3, e1_4, e1_5], rfl⟩ z0
  by_cases e1_6 : w = 6
  · skip
    refine ev_topi e1_6 ?_
    refine s_Um_look_1_6 ?_
    refine s_Um_look_97 rfl ?_
    refine s_Um_look_98 hp_0 rfl ?_
    refine s_Um_look_101 ?_
    refine c_Um_look_102 (t_Co_size (j := 1) rfl (by omega)) hp_1 rfl (Nat.le_of_ble_eq_true rfl) ?_
    exact s_Um_look_105 ⟨by simp [uLok, e1_0, e1_1, e1_2, e1_3, e1_4, e1_5, e1_6], rfl⟩ z0
  by_cases e1_7 : w = 7
  · skip
    refine ev_topi e1_7 ?_
    refine s_Um_look_1_7 ?_
    refine s_Um_look_106 rfl ?_
    refine s_Um_look_107 hp_0 rfl ?_
    refine s_Um_look_110 ?_
    refine c_Um_look_111 (t_Co_size (j := 2) rfl (by omega)) hp_1 rfl (Nat.le_of_ble_eq_true rfl) ?_
    exact s_Um_look_114 ⟨by simp [uLok, e1_0, e1_1, e1_2, e1_3, e1_4, e1_5, e1_6, e1_7], rfl⟩ z0
  refine s_Um_look_1_d (by have t0 := tne e1_0 (n := 0) (by decide); have t1 := tne e1_1 (n := 1) (by decide); have t2 := tne e1_2 (n := 2) (by decide); have t3 := tne e1_3 (n := 3) (by decide); have t4 := tne e1_4 (n := 4) (by decide); have t5 := tne e1_5 (n := 5) (by decide); have t6 := tne e1_6 (n := 6) (by decide); have t7 := tne e1_7 (n := 7) (by decide); omega) ?_
  refine s_Um_look_115 ?_
  exact s_Um_look_116 ⟨by simp [uLok, e1_0, e1_1, e1_2, e1_3, e1_4, e1_5, e1_6, e1_7], rfl⟩ z0
set_option maxRecDepth 100000 in
theorem t_Um_count {G : GW} {L : LT} {I : IT} {r : Nat} {q : Int32} : mt G M_Um_count 0 0 0 [.ref 0, .int q] (hp L I r) (dt (some (.int (uCnt I q))) (hp L I r)) := by
  refine mt_of_ev (by decide) (Nat.le_of_ble_eq_true rfl) ?_
  show ev G M_Um_count (rmv 0 0 0) (Er M_Um_count _ 0 0) 0 [(0, .ref 0), (1, .int q)] [] (hp L I r) 0 0
  refine s_Um_count_0 rfl ?_
  refine s_Um_count_1 (fun c1 => ?_) (fun c1 => ?_)
  · skip
    refine s_Um_count_10 ?_
    refine s_Um_count_11 ?_
    exact s_Um_count_23 ⟨by simp [uCnt, c1], rfl⟩ z0
  · skip
    refine s_Um_count_4 rfl ?_
    refine s_Um_count_5 ?_
    refine s_Um_count_7 (fun c7 => ?_) (fun c7 => ?_)
    · skip
      refine s_Um_count_14 rfl ?_
      refine s_Um_count_15 hp_0 rfl ?_
      refine s_Um_count_18 hp_4 rfl ?_
      refine s_Um_count_21 rfl ?_
      refine s_Um_count_22 hp_7 (vin (n := 6) rfl c1 (by rw [Int32.not_le]; exact c7)) ?_
      exact s_Um_count_23 ⟨by simp [uCnt, c1, c7], rfl⟩ z0
    · skip
      refine s_Um_count_10 ?_
      refine s_Um_count_11 ?_
      exact s_Um_count_23 ⟨by simp [uCnt, c1, c7], rfl⟩ z0
set_option maxRecDepth 100000 in
theorem t_Um_gate {G : GW} {L : LT} {I : IT} {r : Nat} {q f : Int32} : mt G M_Um_gate 0 0 0 [.ref 0, .int q, .int f] (hp L I r) (dt (some (.int (uGat I q f))) (hp L I r)) := by
  refine mt_of_ev (by decide) (Nat.le_of_ble_eq_true rfl) ?_
  show ev G M_Um_gate (rmv 0 0 0) (Er M_Um_gate _ 0 0) 0 [(0, .ref 0), (1, .int q), (2, .int f)] [] (hp L I r) 0 0
  refine s_Um_gate_0 rfl ?_
  refine s_Um_gate_1 (fun c1 => ?_) (fun c1 => ?_)
  · skip
    refine s_Um_gate_10 ?_
    exact s_Um_gate_11 ⟨by simp [uGat, c1], rfl⟩ z0
  · skip
    refine s_Um_gate_4 rfl ?_
    refine s_Um_gate_5 ?_
    refine s_Um_gate_7 (fun c7 => ?_) (fun c7 => ?_)
    · skip
      refine s_Um_gate_12 rfl ?_
      by_cases e13_0 : f = 0
      · skip
        refine ev_topi e13_0 ?_
        refine s_Um_gate_13_0 ?_
        refine s_Um_gate_40 rfl ?_
        refine s_Um_gate_41 hp_0 rfl ?_
        refine s_Um_gate_44 hp_4 rfl ?_
        refine s_Um_gate_47 rfl ?_
        refine s_Um_gate_48 hp_8 (vin (n := 6) rfl c1 (by rw [Int32.not_le]; exact c7)) ?_
        exact s_Um_gate_49 ⟨by simp [uGat, c1, c7, e13_0], rfl⟩ z0
      by_cases e13_1 : f = 1
      · skip
        refine ev_topi e13_1 ?_
        refine s_Um_gate_13_1 ?_
        refine s_Um_gate_50 rfl ?_
        refine s_Um_gate_51 hp_0 rfl ?_
        refine s_Um_gate_54 hp_4 rfl ?_
        refine s_Um_gate_57 rfl ?_
        refine s_Um_gate_58 hp_9 (vin (n := 6) rfl c1 (by rw [Int32.not_le]; exact c7)) ?_
        exact s_Um_gate_59 ⟨by simp [uGat, c1, c7, e13_0, e13_1], rfl⟩ z0
      by_cases e13_2 : f = 2
      · skip
        refine ev_topi e13_2 ?_
        refine s_Um_gate_13_2 ?_
        refine s_Um_gate_60 rfl ?_
        refine s_Um_gate_61 hp_0 rfl ?_
        refine s_Um_gate_64 hp_4 rfl ?_
        refine s_Um_gate_67 rfl ?_
        refine s_Um_gate_68 hp_10 (vin (n := 6) rfl c1 (by rw [Int32.not_le]; exact c7)) ?_
        exact s_Um_gate_69 ⟨by simp [uGat, c1, c7, e13_0, e13_1, e13_2], rfl⟩ z0
      refine s_Um_gate_13_d (by have t0 := tne e13_0 (n := 0) (by decide); have t1 := tne e13_1 (n := 1) (by decide); have t2 := tne e13_2 (n := 2) (by decide); omega) ?_
      refine s_Um_gate_70 ?_
      exact s_Um_gate_71 ⟨by simp [uGat, c1, c7, e13_0, e13_1, e13_2], rfl⟩ z0
    · skip
      refine s_Um_gate_10 ?_
      exact s_Um_gate_11 ⟨by simp [uGat, c1, c7], rfl⟩ z0
set_option maxRecDepth 100000 in
theorem t_Co_append {G : GW} {L : LT} {I : IT} {r : Nat} {p op a b c : Int32} {m s : Nat} (ep : p = nI m) (hm : m < 3) (es : I 3 m = nI s) (hs : s < 24) : mt G M_Co_append 0 0 0 [.ref 1, .int p, .int op, .int a, .int b, .int c] (hp L I r) (dt (some (.int (nI s))) (hp L (uApp I m s op a b c) r)) := by
  refine mt_of_ev (by decide) (Nat.le_of_ble_eq_true rfl) ?_
  show ev G M_Co_append (rmv 0 0 0) (Er M_Co_append _ 0 0) 0 [(0, .ref 1), (1, .int p), (2, .int op), (3, .int a), (4, .int b), (5, .int c)] [] (hp L I r) 0 0
  subst ep
  refine s_Co_append_0 rfl ?_
  refine s_Co_append_1 (fun c1 => absurd c1 (nI_pos (by omega))) (fun c1 => ?_)
  refine s_Co_append_4 rfl ?_
  refine s_Co_append_5 ?_
  refine s_Co_append_6 (fun c6 => absurd c6 (nle_nI (n := 3) rfl hm (by decide))) (fun c6 => ?_)
  refine s_Co_append_9 rfl ?_
  refine s_Co_append_10 hp_1 rfl ?_
  refine s_Co_append_13 rfl ?_
  refine s_Co_append_14 hp_3 (vp_in_nI hm (by decide)) ?_
  rw [nI_clamp (by omega), es]
  refine s_Co_append_15 ?_
  refine s_Co_append_17 (fun c17 => ?_) (fun c17 => absurd c17 (nn_lt (lt_nI (n := 24) rfl hs (by decide))))
  refine s_Co_append_22 rfl ?_
  refine s_Co_append_23 hp_1 rfl ?_
  refine s_Co_append_26 rfl ?_
  refine s_Co_append_27 hp_3 (vp_in_nI hm (by decide)) ?_
  rw [nI_clamp (by omega), es]
  refine s_Co_append_28 ?_
  refine s_Co_append_30 rfl ?_
  refine s_Co_append_31 ?_
  refine s_Co_append_33 ?_
  refine s_Co_append_34 rfl ?_
  refine s_Co_append_36 ?_
  refine s_Co_append_37 ?_
  refine s_Co_append_38 ?_
  rw [idx40]
  refine s_Co_append_39 ?_
  refine s_Co_append_41 rfl ?_
  refine s_Co_append_42 hp_1 rfl ?_
  refine s_Co_append_45 rfl ?_
  refine s_Co_append_47 rfl ?_
  refine s_Co_append_48 hp_2 (vp_in_nI (by omega) (by decide)) ?_
  rw [hu_2]
  rw [nI_clamp (by omega)]
  refine s_Co_append_49 rfl ?_
  refine s_Co_append_50 hp_1 rfl ?_
  refine s_Co_append_53 rfl ?_
  refine s_Co_append_55 ?_
  refine s_Co_append_56 ?_
  refine ev_topi (nI_add _ 1) ?_
  refine s_Co_append_57 rfl ?_
  refine s_Co_append_58 hp_2 (vp_in_nI (by omega) (by decide)) ?_
  rw [hu_2]
  rw [nI_clamp (by omega)]
  refine s_Co_append_59 rfl ?_
  refine s_Co_append_60 hp_1 rfl ?_
  refine s_Co_append_63 rfl ?_
  refine s_Co_append_65 ?_
  refine s_Co_append_66 ?_
  refine ev_topi (nI_add _ 2) ?_
  refine s_Co_append_67 rfl ?_
  refine s_Co_append_69 hp_2 (vp_in_nI (by omega) (by decide)) ?_
  rw [hu_2]
  rw [nI_clamp (by omega)]
  refine s_Co_append_70 rfl ?_
  refine s_Co_append_71 hp_1 rfl ?_
  refine s_Co_append_74 rfl ?_
  refine s_Co_append_76 ?_
  refine s_Co_append_77 ?_
  refine ev_topi (nI_add _ 3) ?_
  refine s_Co_append_78 rfl ?_
  refine s_Co_append_80 hp_2 (vp_in_nI (by omega) (by decide)) ?_
  rw [hu_2]
  rw [nI_clamp (by omega)]
  refine s_Co_append_81 rfl ?_
  refine s_Co_append_82 hp_1 rfl ?_
  refine s_Co_append_85 rfl ?_
  refine s_Co_append_86 rfl ?_
  refine s_Co_append_88 ?_
  refine s_Co_append_89 ?_
  refine s_Co_append_90 hp_3 (vp_in_nI hm (by decide)) ?_
  rw [hu_3]
  rw [nI_clamp (by omega)]
  refine s_Co_append_91 rfl ?_
  exact s_Co_append_93 ⟨rfl, rfl⟩ z0
set_option maxRecDepth 100000 in
theorem t_Co_append_no {G : GW} {L : LT} {I : IT} {r : Nat} {p op a b c : Int32} (hb : p < 0 ∨ 3 ≤ p ∨ ∃ m, m < 3 ∧ p = nI m ∧ ¬ I 3 m < 24) : mt G M_Co_append 0 0 0 [.ref 1, .int p, .int op, .int a, .int b, .int c] (hp L I r) (dt (some (.int (-1))) (hp L I r)) := by
  refine mt_of_ev (by decide) (Nat.le_of_ble_eq_true rfl) ?_
  show ev G M_Co_append (rmv 0 0 0) (Er M_Co_append _ 0 0) 0 [(0, .ref 1), (1, .int p), (2, .int op), (3, .int a), (4, .int b), (5, .int c)] [] (hp L I r) 0 0
  refine s_Co_append_0 rfl ?_
  refine s_Co_append_1 (fun c1 => ?_) (fun c1 => ?_)
  · skip
    refine s_Co_append_20 ?_
    exact s_Co_append_21 ⟨rfl, rfl⟩ z0
  · skip
    refine s_Co_append_4 rfl ?_
    refine s_Co_append_5 ?_
    refine s_Co_append_6 (fun c6 => ?_) (fun c6 => ?_)
    · skip
      refine s_Co_append_20 ?_
      exact s_Co_append_21 ⟨rfl, rfl⟩ z0
    · skip
      obtain ⟨m, hm, rfl, hx⟩ := (hb.resolve_left c1).resolve_left c6
      refine s_Co_append_9 rfl ?_
      refine s_Co_append_10 hp_1 rfl ?_
      refine s_Co_append_13 rfl ?_
      refine s_Co_append_14 hp_3 (vp_in_nI hm (by decide)) ?_
      rw [nI_clamp (by omega)]
      refine s_Co_append_15 ?_
      refine s_Co_append_17 (fun c17 => absurd c17 (hx)) (fun c17 => ?_)
      refine s_Co_append_20 ?_
      exact s_Co_append_21 ⟨rfl, rfl⟩ z0
set_option maxRecDepth 100000 in
theorem t_Um_code {G : GW} {L : LT} {I : IT} {r : Nat} {p op a b c : Int32} {m s : Nat} (ep : p = nI m) (hm : m < 3) (es : I 3 m = nI s) (hs : s < 24) (h0 : I 0 6 = 0) : mt G M_Um_code 1 0 0 [.ref 0, .int p, .int op, .int a, .int b, .int c] (hp L I r) (dt (some (.int (nI s))) (hp L (uApp I m s op a b c) r)) := by
  refine mt_of_ev (by decide) (Nat.le_of_ble_eq_true rfl) ?_
  show ev G M_Um_code (rmv 1 0 0) (Er M_Um_code _ 0 0) 0 [(0, .ref 0), (1, .int p), (2, .int op), (3, .int a), (4, .int b), (5, .int c)] [] (hp L I r) 0 0
  refine s_Um_code_0 rfl ?_
  refine s_Um_code_1 hp_0 rfl ?_
  refine s_Um_code_4 (fun c4 => ?_) (fun c4 => absurd c4 (fun q => q h0))
  refine s_Um_code_11 rfl ?_
  refine s_Um_code_12 hp_0 rfl ?_
  refine s_Um_code_15 rfl ?_
  refine s_Um_code_16 rfl ?_
  refine s_Um_code_17 rfl ?_
  refine s_Um_code_18 rfl ?_
  refine s_Um_code_20 rfl ?_
  refine c_Um_code_22 (t_Co_append ep hm es hs) hp_1 rfl (Nat.le_of_ble_eq_true rfl) ?_
  exact s_Um_code_25 ⟨by first | rfl | (simp [bz, *]; done) | (simp only [← Int32.not_le] at *; simp [bz, *]; done) | (simp only [Int32.not_lt, Int32.not_le] at *; simp [bz, *]; done) | (simp_all [bz]; done) | (simp only [bz_0, bz_n0, ← Int32.not_le] at *; simp_all [bz]; done), by first | rfl | (simp [*]; done) | (simp_all; done)⟩ z0
set_option maxRecDepth 100000 in
theorem t_Um_code_no {G : GW} {L : LT} {I : IT} {r : Nat} {p op a b c : Int32} (hb : ¬ I 0 6 = 0 ∨ p < 0 ∨ 3 ≤ p ∨ ∃ m, m < 3 ∧ p = nI m ∧ ¬ I 3 m < 24) : mt G M_Um_code 1 0 0 [.ref 0, .int p, .int op, .int a, .int b, .int c] (hp L I r) (dt (some (.int (-1))) (hp L I r)) := by
  refine mt_of_ev (by decide) (Nat.le_of_ble_eq_true rfl) ?_
  show ev G M_Um_code (rmv 1 0 0) (Er M_Um_code _ 0 0) 0 [(0, .ref 0), (1, .int p), (2, .int op), (3, .int a), (4, .int b), (5, .int c)] [] (hp L I r) 0 0
  refine s_Um_code_0 rfl ?_
  refine s_Um_code_1 hp_0 rfl ?_
  refine s_Um_code_4 (fun c4 => ?_) (fun c4 => ?_)
  · skip
    refine s_Um_code_11 rfl ?_
    refine s_Um_code_12 hp_0 rfl ?_
    refine s_Um_code_15 rfl ?_
    refine s_Um_code_16 rfl ?_
    refine s_Um_code_17 rfl ?_
    refine s_Um_code_18 rfl ?_
    refine s_Um_code_20 rfl ?_
    refine c_Um_code_22 (t_Co_append_no (hb.resolve_left (fun h => h c4))) hp_1 rfl (Nat.le_of_ble_eq_true rfl) ?_
    exact s_Um_code_25 ⟨by first | rfl | (simp [bz, *]; done) | (simp only [← Int32.not_le] at *; simp [bz, *]; done) | (simp only [Int32.not_lt, Int32.not_le] at *; simp [bz, *]; done) | (simp_all [bz]; done) | (simp only [bz_0, bz_n0, ← Int32.not_le] at *; simp_all [bz]; done), by first | rfl | (simp [*]; done) | (simp_all; done)⟩ z0
  · skip
    refine s_Um_code_7 ?_
    refine s_Um_code_8 ?_
    exact s_Um_code_25 ⟨by first | rfl | (simp [bz, *]; done) | (simp only [← Int32.not_le] at *; simp [bz, *]; done) | (simp only [Int32.not_lt, Int32.not_le] at *; simp [bz, *]; done) | (simp_all [bz]; done) | (simp only [bz_0, bz_n0, ← Int32.not_le] at *; simp_all [bz]; done), by first | rfl | (simp [*]; done) | (simp_all; done)⟩ z0
set_option maxRecDepth 100000 in
theorem l_Ja_fillI {G : GW} {h : HP} {f : Nat → Int32} {P : Option Value → HP → Prop} {a n : Nat} {x : Int32} (hn : n < 2 ^ 31) : ∀ (k i : Nat), i + k = n → P none (va_up h a (mI 0 n (fil f n x))) → ev G M_Ja_fillI (rmv 0 0 0) (Er M_Ja_fillI P 0 0) 5 [(2, .int (nI i)), (3, .int (nI n)), (0, .ref a), (1, .int x)] [] (va_up h a (mI 0 n (fil f i x))) 0 0 := by
  intro k
  induction k with
  | zero =>
    intro i hi hP
    obtain rfl : i = n := by omega
    refine s_Ja_fillI_5 rfl ?_
    refine s_Ja_fillI_6 rfl ?_
    refine s_Ja_fillI_7 (fun _ => ?_) (fun c => absurd (nI_le (Nat.le_refl i) hn) c)
    exact s_Ja_fillI_20 hP z0
  | succ k ih =>
    intro i hi hP
    refine s_Ja_fillI_5 rfl ?_
    refine s_Ja_fillI_6 rfl ?_
    refine s_Ja_fillI_7 (fun c => absurd c (nI_ge (by omega) hn)) (fun c => ?_)
    refine s_Ja_fillI_10 rfl ?_
    refine s_Ja_fillI_11 rfl ?_
    refine s_Ja_fillI_12 rfl ?_
    refine s_Ja_fillI_13 (va_up_self h a _) (vp_in_nI (by omega) hn) ?_
    rw [nI_clamp (by omega), bx_uu, show upd (fil f i x) i x = fil f (i + 1) x from funext (fun j => (fil_s f i x j).symm)]
    refine s_Ja_fillI_14 rfl ?_
    rw [nI_1]
    refine s_Ja_fillI_17 ?_
    refine ev_pick [0, 1, 2, 3] rfl ?_
    exact ih (i + 1) (by omega) hP
set_option maxRecDepth 100000 in
theorem t_Ja_fillI {G : GW} {h : HP} {f : Nat → Int32} {a n : Nat} {x : Int32} (hh : h a = mI 0 n f) (hn : n < 2 ^ 31) : mt G M_Ja_fillI 0 0 0 [.ref a, .int x] h (dt none (va_up h a (mI 0 n (fil f n x)))) := by
  refine mt_of_ev (by decide) (Nat.le_of_ble_eq_true rfl) ?_
  show ev G M_Ja_fillI (rmv 0 0 0) (Er M_Ja_fillI _ 0 0) 0 [(0, .ref a), (1, .int x)] [] h 0 0
  refine s_Ja_fillI_0 ?_
  refine s_Ja_fillI_1 ?_
  refine s_Ja_fillI_2 rfl ?_
  refine s_Ja_fillI_3 hh ?_
  refine s_Ja_fillI_4 ?_
  have e : h = va_up h a (mI 0 n (fil f 0 x)) := by
    funext j
    by_cases q : j = a
    · subst q; rw [va_up_self, hh]; rfl
    · rw [va_up_ne _ _ q]
  have k := l_Ja_fillI (G := G) (h := h) (f := f) (P := dt none (va_up h a (mI 0 n (fil f n x)))) (a := a) (x := x) hn n 0 (Nat.zero_add n) dt_i
  rw [← e] at k
  refine ev_pick [1, 0, 2, 3] rfl ?_
  exact k
set_option maxRecDepth 100000 in
theorem l_Ja_fillJ {G : GW} {h : HP} {f : Nat → Int64} {P : Option Value → HP → Prop} {a n : Nat} {x : Int64} (hn : n < 2 ^ 31) : ∀ (k i : Nat), i + k = n → P none (va_up h a (mL 1 n (fil f n x))) → ev G M_Ja_fillJ (rmv 0 0 0) (Er M_Ja_fillJ P 0 0) 6 [(3, .int (nI i)), (4, .int (nI n)), (0, .ref a), (1, .long x)] [] (va_up h a (mL 1 n (fil f i x))) 0 0 := by
  intro k
  induction k with
  | zero =>
    intro i hi hP
    obtain rfl : i = n := by omega
    refine s_Ja_fillJ_6 rfl ?_
    refine s_Ja_fillJ_7 rfl ?_
    refine s_Ja_fillJ_9 (fun _ => ?_) (fun c => absurd (nI_le (Nat.le_refl i) hn) c)
    exact s_Ja_fillJ_22 hP z0
  | succ k ih =>
    intro i hi hP
    refine s_Ja_fillJ_6 rfl ?_
    refine s_Ja_fillJ_7 rfl ?_
    refine s_Ja_fillJ_9 (fun c => absurd c (nI_ge (by omega) hn)) (fun c => ?_)
    refine s_Ja_fillJ_12 rfl ?_
    refine s_Ja_fillJ_13 rfl ?_
    refine s_Ja_fillJ_14 rfl ?_
    refine s_Ja_fillJ_15 (va_up_self h a _) (vp_in_nI (by omega) hn) ?_
    rw [nI_clamp (by omega), bx_uu, show vp_updL (fil f i x) i x = fil f (i + 1) x from funext (fun j => (fil_s f i x j).symm)]
    refine s_Ja_fillJ_16 rfl ?_
    rw [nI_1]
    refine s_Ja_fillJ_19 ?_
    refine ev_pick [0, 1, 2, 3] rfl ?_
    exact ih (i + 1) (by omega) hP
set_option maxRecDepth 100000 in
theorem t_Ja_fillJ {G : GW} {h : HP} {f : Nat → Int64} {a n : Nat} {x : Int64} (hh : h a = mL 1 n f) (hn : n < 2 ^ 31) : mt G M_Ja_fillJ 0 0 0 [.ref a, .long x] h (dt none (va_up h a (mL 1 n (fil f n x)))) := by
  refine mt_of_ev (by decide) (Nat.le_of_ble_eq_true rfl) ?_
  show ev G M_Ja_fillJ (rmv 0 0 0) (Er M_Ja_fillJ _ 0 0) 0 [(0, .ref a), (1, .long x)] [] h 0 0
  refine s_Ja_fillJ_0 ?_
  refine s_Ja_fillJ_1 ?_
  refine s_Ja_fillJ_2 rfl ?_
  refine s_Ja_fillJ_3 hh ?_
  refine s_Ja_fillJ_4 ?_
  have e : h = va_up h a (mL 1 n (fil f 0 x)) := by
    funext j
    by_cases q : j = a
    · subst q; rw [va_up_self, hh]; rfl
    · rw [va_up_ne _ _ q]
  have k := l_Ja_fillJ (G := G) (h := h) (f := f) (P := dt none (va_up h a (mL 1 n (fil f n x)))) (a := a) (x := x) hn n 0 (Nat.zero_add n) dt_i
  rw [← e] at k
  refine ev_pick [1, 0, 2, 3] rfl ?_
  exact k
set_option maxRecDepth 100000 in
theorem t_Co_clear {G : GW} {L : LT} {I : IT} {r : Nat}  : mt G M_Co_clear 1 0 0 [.ref 1] (hp L I r) (dt (none) (hp L (va_up I 3 (fil (I 3) 3 0)) r)) := by
  refine mt_of_ev (by decide) (Nat.le_of_ble_eq_true rfl) ?_
  show ev G M_Co_clear (rmv 1 0 0) (Er M_Co_clear _ 0 0) 0 [(0, .ref 1)] [] (hp L I r) 0 0
  refine s_Co_clear_0 rfl ?_
  refine s_Co_clear_1 hp_1 rfl ?_
  refine s_Co_clear_4 ?_
  refine c_Co_clear_5 (t_Ja_fillI hp_3 (by decide)) (Nat.le_of_ble_eq_true rfl) ?_
  rw [hu_3]
  exact s_Co_clear_8 ⟨by first | rfl | (simp [bz, *]; done) | (simp only [← Int32.not_le] at *; simp [bz, *]; done) | (simp only [Int32.not_lt, Int32.not_le] at *; simp [bz, *]; done) | (simp_all [bz]; done) | (simp only [bz_0, bz_n0, ← Int32.not_le] at *; simp_all [bz]; done), by first | rfl | (simp [*]; done) | (simp_all; done)⟩ z0
set_option maxRecDepth 100000 in
theorem t_St_clear {G : GW} {L : LT} {I : IT} {r : Nat}  : mt G M_St_clear 1 0 0 [.ref 4] (hp L I r) (dt (none) (hp (clL L) (clI I) r)) := by
  refine mt_of_ev (by decide) (Nat.le_of_ble_eq_true rfl) ?_
  show ev G M_St_clear (rmv 1 0 0) (Er M_St_clear _ 0 0) 0 [(0, .ref 4)] [] (hp L I r) 0 0
  refine s_St_clear_0 rfl ?_
  refine s_St_clear_1 hp_4 rfl ?_
  refine s_St_clear_4 ?_
  refine c_St_clear_5 (t_Ja_fillJ hp_5 (by decide)) (Nat.le_of_ble_eq_true rfl) ?_
  rw [hu_5]
  refine s_St_clear_8 rfl ?_
  refine s_St_clear_9 hp_4 rfl ?_
  refine s_St_clear_12 ?_
  refine c_St_clear_13 (t_Ja_fillI hp_7 (by decide)) (Nat.le_of_ble_eq_true rfl) ?_
  rw [hu_7]
  refine s_St_clear_16 rfl ?_
  refine s_St_clear_17 hp_4 rfl ?_
  refine s_St_clear_20 ?_
  refine c_St_clear_21 (t_Ja_fillI hp_8 (by decide)) (Nat.le_of_ble_eq_true rfl) ?_
  rw [hu_8]
  refine s_St_clear_24 rfl ?_
  refine s_St_clear_25 hp_4 rfl ?_
  refine s_St_clear_28 ?_
  refine c_St_clear_29 (t_Ja_fillI hp_9 (by decide)) (Nat.le_of_ble_eq_true rfl) ?_
  rw [hu_9]
  refine s_St_clear_32 rfl ?_
  refine s_St_clear_33 hp_4 rfl ?_
  refine s_St_clear_36 ?_
  refine c_St_clear_37 (t_Ja_fillI hp_10 (by decide)) (Nat.le_of_ble_eq_true rfl) ?_
  rw [hu_10]
  refine s_St_clear_40 rfl ?_
  refine s_St_clear_41 ?_
  refine s_St_clear_42 hp_4 (Nat.le_of_ble_eq_true rfl) ?_
  rw [hu_4_10]
  refine s_St_clear_45 rfl ?_
  refine s_St_clear_46 ?_
  refine s_St_clear_47 hp_4 (Nat.le_of_ble_eq_true rfl) ?_
  rw [hu_4_11]
  refine s_St_clear_50 rfl ?_
  refine s_St_clear_51 ?_
  refine s_St_clear_52 hp_4 (Nat.le_of_ble_eq_true rfl) ?_
  rw [hu_4_12]
  refine s_St_clear_55 rfl ?_
  refine s_St_clear_56 ?_
  refine s_St_clear_57 hp_4 (Nat.le_of_ble_eq_true rfl) ?_
  rw [hu_4_13]
  refine s_St_clear_60 rfl ?_
  refine s_St_clear_61 ?_
  refine s_St_clear_62 hp_4 (Nat.le_of_ble_eq_true rfl) ?_
  rw [hu_4_14]
  exact s_St_clear_65 ⟨rfl, rfl⟩ z0
set_option maxRecDepth 100000 in
theorem t_boot_on {G : GW} {L : LT} {I : IT} {r : Nat} (h0 : I 0 6 = 0) : mt G M_Um_boot 2 0 0 [.ref 0] (hp L I r) (dt (some (.int 1)) (hp (upL (clL L) 5 1 (vPk 1 0 48 15 0)) (clI (upI (upI (upI I 0 6 1) 15 1 0) 15 2 0)) r)) := by
  refine mt_of_ev (by decide) (Nat.le_of_ble_eq_true rfl) ?_
  show ev G M_Um_boot (rmv 2 0 0) (Er M_Um_boot _ 0 0) 0 [(0, .ref 0)] [] (hp L I r) 0 0
  refine s_Um_boot_0 rfl ?_
  refine s_Um_boot_1 rfl ?_
  refine s_Um_boot_2 hp_0 rfl ?_
  refine s_Um_boot_5 (fun c5 => absurd c5 (fun q => q h0)) (fun c5 => ?_)
  refine s_Um_boot_8 ?_
  refine s_Um_boot_9 ?_
  refine s_Um_boot_13 hp_0 (Nat.le_of_ble_eq_true rfl) (by first | exact Or.inl rfl | exact Or.inr rfl | exact bz_or | assumption) ?_
  rw [hu_0_6]
  refine s_Um_boot_16 rfl ?_
  refine s_Um_boot_17 hp_0 rfl ?_
  refine c_Um_boot_20 (t_Hi_clear) hp_15 rfl (Nat.le_of_ble_eq_true rfl) ?_
  refine s_Um_boot_23 rfl ?_
  refine s_Um_boot_24 hp_0 rfl ?_
  refine c_Um_boot_27 (t_St_clear) hp_4 rfl (Nat.le_of_ble_eq_true rfl) ?_
  refine s_Um_boot_30 rfl ?_
  refine s_Um_boot_31 hp_0 rfl ?_
  refine s_Um_boot_34 (fun c34 => absurd c34 (show ¬ (1 : Int32) = 0 by decide)) (fun c34 => ?_)
  refine s_Um_boot_37 rfl ?_
  refine s_Um_boot_38 hp_0 rfl ?_
  refine s_Um_boot_41 ?_
  refine s_Um_boot_42 ?_
  refine s_Um_boot_43 ?_
  refine s_Um_boot_45 ?_
  refine c_Um_boot_47 (t_Va_exclusive) (Nat.le_of_ble_eq_true rfl) ?_
  refine c_Um_boot_50 (t_St_put (j := 1) rfl (by omega)) hp_4 rfl (Nat.le_of_ble_eq_true rfl) ?_
  refine s_Um_boot_53 ?_
  refine s_Um_boot_63 rfl ?_
  refine s_Um_boot_64 hp_0 rfl ?_
  exact s_Um_boot_67 (by first | exact Or.inl rfl | exact Or.inr rfl | exact bz_or | assumption) ⟨rfl, rfl⟩ z0
set_option maxRecDepth 100000 in
theorem t_boot_off {G : GW} {L : LT} {I : IT} {r : Nat} (h0 : ¬ I 0 6 = 0) : mt G M_Um_boot 2 0 0 [.ref 0] (hp L I r) (dt (some (.int 0)) (hp (clL L) (va_up (clI (upI (upI (upI I 0 6 0) 15 1 0) 15 2 0)) 3 (fil (I 3) 3 0)) r)) := by
  refine mt_of_ev (by decide) (Nat.le_of_ble_eq_true rfl) ?_
  show ev G M_Um_boot (rmv 2 0 0) (Er M_Um_boot _ 0 0) 0 [(0, .ref 0)] [] (hp L I r) 0 0
  refine s_Um_boot_0 rfl ?_
  refine s_Um_boot_1 rfl ?_
  refine s_Um_boot_2 hp_0 rfl ?_
  refine s_Um_boot_5 (fun c5 => ?_) (fun c5 => absurd c5 (h0))
  refine s_Um_boot_12 ?_
  refine s_Um_boot_13 hp_0 (Nat.le_of_ble_eq_true rfl) (by first | exact Or.inl rfl | exact Or.inr rfl | exact bz_or | assumption) ?_
  rw [hu_0_6]
  refine s_Um_boot_16 rfl ?_
  refine s_Um_boot_17 hp_0 rfl ?_
  refine c_Um_boot_20 (t_Hi_clear) hp_15 rfl (Nat.le_of_ble_eq_true rfl) ?_
  refine s_Um_boot_23 rfl ?_
  refine s_Um_boot_24 hp_0 rfl ?_
  refine c_Um_boot_27 (t_St_clear) hp_4 rfl (Nat.le_of_ble_eq_true rfl) ?_
  refine s_Um_boot_30 rfl ?_
  refine s_Um_boot_31 hp_0 rfl ?_
  refine s_Um_boot_34 (fun c34 => ?_) (fun c34 => absurd c34 (show ¬ ¬ (0 : Int32) = 0 by decide))
  refine s_Um_boot_56 rfl ?_
  refine s_Um_boot_57 hp_0 rfl ?_
  refine c_Um_boot_60 (t_Co_clear) hp_1 rfl (Nat.le_of_ble_eq_true rfl) ?_
  refine s_Um_boot_63 rfl ?_
  refine s_Um_boot_64 hp_0 rfl ?_
  exact s_Um_boot_67 (by first | exact Or.inl rfl | exact Or.inr rfl | exact bz_or | assumption) ⟨rfl, rfl⟩ z0

/-! Value's other methods, Math, Code's and State's reads and writes, the processor's small methods -/
def vCap (v : Int64) : Bool := decide (vKd v = 1) || decide (vKd v = 2)
def vMov (v : Int64) : Bool := decide (vKd v = 1) || decide (vKd v = 3)
def upL (L : LT) (a j : Nat) (v : Int64) : LT := va_up L a (vp_updL (L a) j v)
def upI (I : IT) (a j : Nat) (x : Int32) : IT := va_up I a (upd (I a) j x)
theorem bz_0 {b : Bool} : bz b = 0 ↔ b = false := by cases b <;> simp [bz]
theorem bz_n0 {b : Bool} : ¬ bz b = 0 ↔ b = true := by cases b <;> simp [bz]
theorem nle_nI {N : Int32} {n j : Nat} (hN : N.toInt = n) (h : j < n) (hb : n ≤ 2 ^ 31) : ¬ N ≤ nI j := by
  rw [Int32.le_iff_toInt_le, nI_toInt (by omega), hN]; omega
theorem lt_nI {N : Int32} {n j : Nat} (hN : N.toInt = n) (h : j < n) (hb : n ≤ 2 ^ 31) : nI j < N := by
  rw [Int32.lt_iff_toInt_lt, nI_toInt (by omega), hN]; omega
theorem tne {x k : Int32} {n : Int} (h : ¬ x = k) (hk : k.toInt = n) : x.toInt ≠ n := fun e => h (Int32.toInt_inj.mp (by rw [e, hk]))
theorem nn_lt {a b : Int32} (h : a < b) : ¬ ¬ a < b := fun q => q h
theorem mt_of_evF {G : GW} {M : MW} {d mc ms : Nat} {as : List Value} {h : HP} {P : Option Value → HP → Prop} (hy : plainFor M.1 = true) (hn : (lg_sl as).length ≤ M.2.2.1) (k : ev G M (rmv d mc ms) (Er M P mc ms) 0 (lv_args 0 as) [] h 0 0) : mt G M d mc ms as h P := by
  intro ads sz
  refine va_MetF (cc := M.2.1) (maxL := M.2.2.1) (ret := M.2.2.2) hy rfl ?_
  intro p e s m args below meth c s₁ B hml hv
  obtain ⟨rfl, hsz, hw, hg, hok⟩ := hv
  subst hsz
  have hl := lv_entry (as.map (rv ads G.2.2.2.1)) (n := M.2.2.1) (by rw [lg_sl_r]; exact hn)
  rw [lv_args_r] at hl
  rw [lg_entry_eq]
  generalize (lg_sl (as.map (rv ads G.2.2.2.1)) ++ List.replicate (M.2.2.1 - (lg_sl (as.map (rv ads G.2.2.2.1))).length) Slot.unset).toArray = ls at hl ⊢
  have hts := atoms_spec (ws := Cond.code M.1 M.2.1 M.2.2.1 M.2.2.2 :: Tb) B.pre
  have C0 : cx G M p s m (as.map (rv ads G.2.2.2.1)).toArray meth c (aA ads s.heap.size) := ⟨⟨B.exec, B.bytes, B.returns, hml, findClass_of_methodNamed B.named, fun w hw => hts w (List.mem_cons_of_mem _ hw), B.notSynchronized, fun hi => (name_of_methodNamed B.named B.method).1.trans hi⟩, hg, fun q hq => Or.inr hq⟩
  refine k p e s m _ below meth c (MQ below (mQc G ads s.heap.size P) (as.map (rv ads G.2.2.2.1)).toArray s mc ms (aA ads s.heap.size)) (aA ads s.heap.size) ads C0 ?_ ads s.heap [] ls ⟨⟨hw, va_S.rf, fun _ _ hq => hq⟩, ⟨hl, lv_args_ok as 0 hok⟩, okl_nil⟩
  intro pc lv st h' cells slots ads' H locs ls' hE X
  obtain ⟨h1, h2, hE⟩ := hE
  refine W.widen (k := mc) (n := ms) h1 h2 ?_
  rcases hE with ⟨e1, e2, rfl, hP⟩ | ⟨v, ty, e1, e2, e3, rfl, hP⟩ | ⟨v, e1, e2, rfl, hP⟩
  · exact W.vret C0.1.1 C0.1.2.1 (C0.1.2.2.1.trans e1) (fun t ht hW => ⟨⟨none, h', ads', rfl, hP, by rw [ht]; exact X.1.1, X.1.2.2, fun v hv => by cases hv⟩, X.1.2.1.F ht⟩) X.1.2.1.2.2 e2 C0.1.2.2.2.2.2.2.1
  · exact W.zret C0.1.1 C0.1.2.1 (C0.1.2.2.1.trans e1) e2 (fun t ht hW => ⟨⟨some (.int v), h', ads', rfl, hP, by rw [ht]; exact X.1.1, X.1.2.2, fun w hw => by cases hw; trivial⟩, X.1.2.1.F ht⟩) X.1.2.1.2.2 e3 C0.1.2.2.2.2.2.2.1
  · exact W.lret C0.1.1 C0.1.2.1 (C0.1.2.2.1.trans e1) (fun t ht hW => ⟨⟨some (.long v), h', ads', rfl, hP, by rw [ht]; exact X.1.1, X.1.2.2, fun w hw => by cases hw; trivial⟩, X.1.2.1.F ht⟩) X.1.2.1.2.2 e2 C0.1.2.2.2.2.2.2.1

set_option maxRecDepth 100000 in
theorem t_Va_length {G : GW} {L : LT} {I : IT} {r : Nat} {v : Int64} : mt G M_Va_length 1 0 0 [.long v] (hp L I r) (dt (some (.int (vEn v - vFr v))) (hp L I r)) := by
  refine mt_of_ev (by decide) (Nat.le_of_ble_eq_true rfl) ?_
  show ev G M_Va_length (rmv 1 0 0) (Er M_Va_length _ 0 0) 0 [(0, .long v)] [] (hp L I r) 0 0
  refine s_Va_length_0 rfl ?_
  refine c_Va_length_1 (t_Va_end) (Nat.le_of_ble_eq_true rfl) ?_
  refine s_Va_length_4 rfl ?_
  refine c_Va_length_5 (t_Va_from) (Nat.le_of_ble_eq_true rfl) ?_
  refine s_Va_length_8 ?_
  exact s_Va_length_9 ⟨by first | rfl | (simp [bz, *]; done) | (simp only [← Int32.not_le] at *; simp [bz, *]; done) | (simp only [Int32.not_lt, Int32.not_le] at *; simp [bz, *]; done) | (simp_all [bz]; done) | (simp only [bz_0, bz_n0, ← Int32.not_le] at *; simp_all [bz]; done), by first | rfl | (simp [*]; done) | (simp_all; done)⟩ z0
set_option maxRecDepth 100000 in
theorem t_Va_hasRight {G : GW} {L : LT} {I : IT} {r : Nat} {v : Int64} {q : Int32} : mt G M_Va_hasRight 2 0 0 [.long v, .int q] (hp L I r) (dt (some (.int (bz (vCap v && !decide (vRi v &&& q = 0))))) (hp L I r)) := by
  refine mt_of_ev (by decide) (Nat.le_of_ble_eq_true rfl) ?_
  show ev G M_Va_hasRight (rmv 2 0 0) (Er M_Va_hasRight _ 0 0) 0 [(0, .long v), (2, .int q)] [] (hp L I r) 0 0
  refine s_Va_hasRight_0 rfl ?_
  refine c_Va_hasRight_1 (show mt _ _ _ _ _ _ _ (dt (some (.int (bz (vCap v)))) _) from t_Va_isCapability) (Nat.le_of_ble_eq_true rfl) ?_
  refine s_Va_hasRight_4 (fun c4 => ?_) (fun c4 => ?_)
  · skip
    (first | rw [bz_n0] at c4 | rw [bz_0] at c4 | skip); (try simp only [Bool.not_eq_false', Bool.not_eq_true', decide_eq_true_eq, decide_eq_false_iff_not, Bool.or_eq_true, Bool.or_eq_false_iff, Bool.and_eq_true, Bool.and_eq_false_iff] at c4)
    refine s_Va_hasRight_20 ?_
    exact s_Va_hasRight_21 (by first | exact Or.inl rfl | exact Or.inr rfl | exact bz_or | assumption) ⟨by first | rfl | (simp [bz, *]; done) | (simp only [← Int32.not_le] at *; simp [bz, *]; done) | (simp only [Int32.not_lt, Int32.not_le] at *; simp [bz, *]; done) | (simp_all [bz]; done) | (simp only [bz_0, bz_n0, ← Int32.not_le] at *; simp_all [bz]; done), by first | rfl | (simp [*]; done) | (simp_all; done)⟩ z0
  · skip
    (first | rw [bz_n0] at c4 | rw [bz_0] at c4 | skip); (try simp only [Bool.not_eq_false', Bool.not_eq_true', decide_eq_true_eq, decide_eq_false_iff_not, Bool.or_eq_true, Bool.or_eq_false_iff, Bool.and_eq_true, Bool.and_eq_false_iff] at c4)
    refine s_Va_hasRight_7 rfl ?_
    refine c_Va_hasRight_8 (t_Va_rights) (Nat.le_of_ble_eq_true rfl) ?_
    refine s_Va_hasRight_11 rfl ?_
    refine s_Va_hasRight_12 ?_
    refine s_Va_hasRight_13 (fun c13 => ?_) (fun c13 => ?_)
    · skip
      refine s_Va_hasRight_20 ?_
      exact s_Va_hasRight_21 (by first | exact Or.inl rfl | exact Or.inr rfl | exact bz_or | assumption) ⟨by first | rfl | (simp [bz, *]; done) | (simp only [← Int32.not_le] at *; simp [bz, *]; done) | (simp only [Int32.not_lt, Int32.not_le] at *; simp [bz, *]; done) | (simp_all [bz]; done) | (simp only [bz_0, bz_n0, ← Int32.not_le] at *; simp_all [bz]; done), by first | rfl | (simp [*]; done) | (simp_all; done)⟩ z0
    · skip
      refine s_Va_hasRight_16 ?_
      refine s_Va_hasRight_17 ?_
      exact s_Va_hasRight_21 (by first | exact Or.inl rfl | exact Or.inr rfl | exact bz_or | assumption) ⟨by first | rfl | (simp [bz, *]; done) | (simp only [← Int32.not_le] at *; simp [bz, *]; done) | (simp only [Int32.not_lt, Int32.not_le] at *; simp [bz, *]; done) | (simp_all [bz]; done) | (simp only [bz_0, bz_n0, ← Int32.not_le] at *; simp_all [bz]; done), by first | rfl | (simp [*]; done) | (simp_all; done)⟩ z0
set_option maxRecDepth 100000 in
theorem t_Va_covers {G : GW} {L : LT} {I : IT} {r : Nat} {v : Int64} {a : Int32} : mt G M_Va_covers 2 0 0 [.long v, .int a] (hp L I r) (dt (some (.int (bz (vCap v && (decide (vFr v ≤ a) && decide (a < vEn v)))))) (hp L I r)) := by
  refine mt_of_ev (by decide) (Nat.le_of_ble_eq_true rfl) ?_
  show ev G M_Va_covers (rmv 2 0 0) (Er M_Va_covers _ 0 0) 0 [(0, .long v), (2, .int a)] [] (hp L I r) 0 0
  refine s_Va_covers_0 rfl ?_
  refine c_Va_covers_1 (show mt _ _ _ _ _ _ _ (dt (some (.int (bz (vCap v)))) _) from t_Va_isCapability) (Nat.le_of_ble_eq_true rfl) ?_
  refine s_Va_covers_4 (fun c4 => ?_) (fun c4 => ?_)
  · skip
    (first | rw [bz_n0] at c4 | rw [bz_0] at c4 | skip); (try simp only [Bool.not_eq_false', Bool.not_eq_true', decide_eq_true_eq, decide_eq_false_iff_not, Bool.or_eq_true, Bool.or_eq_false_iff, Bool.and_eq_true, Bool.and_eq_false_iff] at c4)
    refine s_Va_covers_27 ?_
    exact s_Va_covers_28 (by first | exact Or.inl rfl | exact Or.inr rfl | exact bz_or | assumption) ⟨by (try rw [bz_0] at c4); (try rw [bz_n0] at c4); (try rw [Int32.not_lt] at c12); (try rw [← Int32.not_le] at c12); (try rw [Int32.not_le] at c20); (try rw [← Int32.not_lt] at c20); simp [bz, *], rfl⟩ z0
  · skip
    (first | rw [bz_n0] at c4 | rw [bz_0] at c4 | skip); (try simp only [Bool.not_eq_false', Bool.not_eq_true', decide_eq_true_eq, decide_eq_false_iff_not, Bool.or_eq_true, Bool.or_eq_false_iff, Bool.and_eq_true, Bool.and_eq_false_iff] at c4)
    refine s_Va_covers_7 rfl ?_
    refine c_Va_covers_8 (t_Va_from) (Nat.le_of_ble_eq_true rfl) ?_
    refine s_Va_covers_11 rfl ?_
    refine s_Va_covers_12 (fun c12 => ?_) (fun c12 => ?_)
    · skip
      refine s_Va_covers_27 ?_
      exact s_Va_covers_28 (by first | exact Or.inl rfl | exact Or.inr rfl | exact bz_or | assumption) ⟨by (try rw [bz_0] at c4); (try rw [bz_n0] at c4); (try rw [Int32.not_lt] at c12); (try rw [← Int32.not_le] at c12); (try rw [Int32.not_le] at c20); (try rw [← Int32.not_lt] at c20); simp [bz, *], rfl⟩ z0
    · skip
      refine s_Va_covers_15 rfl ?_
      refine s_Va_covers_16 rfl ?_
      refine c_Va_covers_17 (t_Va_end) (Nat.le_of_ble_eq_true rfl) ?_
      refine s_Va_covers_20 (fun c20 => ?_) (fun c20 => ?_)
      · skip
        refine s_Va_covers_27 ?_
        exact s_Va_covers_28 (by first | exact Or.inl rfl | exact Or.inr rfl | exact bz_or | assumption) ⟨by (try rw [bz_0] at c4); (try rw [bz_n0] at c4); (try rw [Int32.not_lt] at c12); (try rw [← Int32.not_le] at c12); (try rw [Int32.not_le] at c20); (try rw [← Int32.not_lt] at c20); simp [bz, *], rfl⟩ z0
      · skip
        refine s_Va_covers_23 ?_
        refine s_Va_covers_24 ?_
        exact s_Va_covers_28 (by first | exact Or.inl rfl | exact Or.inr rfl | exact bz_or | assumption) ⟨by (try rw [bz_0] at c4); (try rw [bz_n0] at c4); (try rw [Int32.not_lt] at c12); (try rw [← Int32.not_le] at c12); (try rw [Int32.not_le] at c20); (try rw [← Int32.not_lt] at c20); simp [bz, *], rfl⟩ z0
set_option maxRecDepth 100000 in
theorem t_Jm_min {G : GW} {L : LT} {I : IT} {r : Nat} {x y : Int32} : mt G M_Jm_min 0 0 0 [.int x, .int y] (hp L I r) (dt (some (.int (if y < x then y else x))) (hp L I r)) := by
  refine mt_of_evF (by decide +kernel) (Nat.le_of_ble_eq_true rfl) ?_
  show ev G M_Jm_min (rmv 0 0 0) (Er M_Jm_min _ 0 0) 0 [(0, .int x), (1, .int y)] [] (hp L I r) 0 0
  refine s_Jm_min_0 rfl ?_
  refine s_Jm_min_1 rfl ?_
  refine s_Jm_min_2 (fun c2 => ?_) (fun c2 => ?_)
  · skip
    refine s_Jm_min_9 rfl ?_
    exact s_Jm_min_10 ⟨by first | rfl | (simp [bz, *]; done) | (simp only [← Int32.not_le] at *; simp [bz, *]; done) | (simp only [Int32.not_lt, Int32.not_le] at *; simp [bz, *]; done) | (simp_all [bz]; done) | (simp only [bz_0, bz_n0, ← Int32.not_le] at *; simp_all [bz]; done), by first | rfl | (simp [*]; done) | (simp_all; done)⟩ z0
  · skip
    refine s_Jm_min_5 rfl ?_
    refine s_Jm_min_6 ?_
    exact s_Jm_min_10 ⟨by first | rfl | (simp [bz, *]; done) | (simp only [← Int32.not_le] at *; simp [bz, *]; done) | (simp only [Int32.not_lt, Int32.not_le] at *; simp [bz, *]; done) | (simp_all [bz]; done) | (simp only [bz_0, bz_n0, ← Int32.not_le] at *; simp_all [bz]; done), by first | rfl | (simp [*]; done) | (simp_all; done)⟩ z0
set_option maxRecDepth 100000 in
theorem t_Jm_max {G : GW} {L : LT} {I : IT} {r : Nat} {x y : Int32} : mt G M_Jm_max 0 0 0 [.int x, .int y] (hp L I r) (dt (some (.int (if x < y then y else x))) (hp L I r)) := by
  refine mt_of_evF (by decide +kernel) (Nat.le_of_ble_eq_true rfl) ?_
  show ev G M_Jm_max (rmv 0 0 0) (Er M_Jm_max _ 0 0) 0 [(0, .int x), (1, .int y)] [] (hp L I r) 0 0
  refine s_Jm_max_0 rfl ?_
  refine s_Jm_max_1 rfl ?_
  refine s_Jm_max_2 (fun c2 => ?_) (fun c2 => ?_)
  · skip
    refine s_Jm_max_9 rfl ?_
    exact s_Jm_max_10 ⟨by first | rfl | (simp [bz, *]; done) | (simp only [← Int32.not_le] at *; simp [bz, *]; done) | (simp only [Int32.not_lt, Int32.not_le] at *; simp [bz, *]; done) | (simp_all [bz]; done) | (simp only [bz_0, bz_n0, ← Int32.not_le] at *; simp_all [bz]; done), by first | rfl | (simp [*]; done) | (simp_all; done)⟩ z0
  · skip
    refine s_Jm_max_5 rfl ?_
    refine s_Jm_max_6 ?_
    exact s_Jm_max_10 ⟨by first | rfl | (simp [bz, *]; done) | (simp only [← Int32.not_le] at *; simp [bz, *]; done) | (simp only [Int32.not_lt, Int32.not_le] at *; simp [bz, *]; done) | (simp_all [bz]; done) | (simp only [bz_0, bz_n0, ← Int32.not_le] at *; simp_all [bz]; done), by first | rfl | (simp [*]; done) | (simp_all; done)⟩ z0
set_option maxRecDepth 100000 in
theorem t_St_held {G : GW} {L : LT} {I : IT} {r : Nat} {p : Int32} {j : Nat} (ep : p = nI j) (hj : j < 102) : mt G M_St_held 0 0 0 [.ref 4, .int p] (hp L I r) (dt (some (.long (L 5 j))) (hp L I r)) := by
  refine mt_of_ev (by decide) (Nat.le_of_ble_eq_true rfl) ?_
  show ev G M_St_held (rmv 0 0 0) (Er M_St_held _ 0 0) 0 [(0, .ref 4), (1, .int p)] [] (hp L I r) 0 0
  subst ep
  refine s_St_held_0 rfl ?_
  refine s_St_held_1 (fun c1 => absurd c1 (nI_pos (by omega))) (fun c1 => ?_)
  refine s_St_held_4 rfl ?_
  refine s_St_held_5 ?_
  refine s_St_held_7 (fun c7 => ?_) (fun c7 => absurd c7 (nn_lt (lt_nI rfl hj (by decide))))
  refine s_St_held_14 rfl ?_
  refine s_St_held_15 hp_4 rfl ?_
  refine s_St_held_18 rfl ?_
  refine s_St_held_19 hp_5 (vp_in_nI hj (by decide)) ?_
  exact s_St_held_20 ⟨by rw [nI_clamp (by omega)], rfl⟩ z0
set_option maxRecDepth 100000 in
theorem t_St_put {G : GW} {L : LT} {I : IT} {r : Nat} {p : Int32} {j : Nat} (ep : p = nI j) (hj : j < 102) {v : Int64} : mt G M_St_put 0 0 0 [.ref 4, .int p, .long v] (hp L I r) (dt (none) (hp (upL L 5 j v) I r)) := by
  refine mt_of_ev (by decide) (Nat.le_of_ble_eq_true rfl) ?_
  show ev G M_St_put (rmv 0 0 0) (Er M_St_put _ 0 0) 0 [(0, .ref 4), (1, .int p), (2, .long v)] [] (hp L I r) 0 0
  subst ep
  refine s_St_put_0 rfl ?_
  refine s_St_put_1 (fun c1 => absurd c1 (nI_pos (by omega))) (fun c1 => ?_)
  refine s_St_put_4 rfl ?_
  refine s_St_put_5 ?_
  refine s_St_put_7 (fun c7 => absurd c7 (nle_nI rfl hj (by decide))) (fun c7 => ?_)
  refine s_St_put_10 rfl ?_
  refine s_St_put_11 hp_4 rfl ?_
  refine s_St_put_14 rfl ?_
  refine s_St_put_15 rfl ?_
  refine s_St_put_16 hp_5 (vp_in_nI hj (by decide)) ?_
  rw [hu_5]
  exact s_St_put_17 ⟨rfl, by rw [nI_clamp (by omega)]; rfl⟩ z0
set_option maxRecDepth 100000 in
theorem t_St_countOf {G : GW} {L : LT} {I : IT} {r : Nat} {p : Int32} {j : Nat} (ep : p = nI j) (hj : j < 6) : mt G M_St_countOf 0 0 0 [.ref 4, .int p] (hp L I r) (dt (some (.int (I 7 j))) (hp L I r)) := by
  refine mt_of_ev (by decide) (Nat.le_of_ble_eq_true rfl) ?_
  show ev G M_St_countOf (rmv 0 0 0) (Er M_St_countOf _ 0 0) 0 [(0, .ref 4), (1, .int p)] [] (hp L I r) 0 0
  subst ep
  refine s_St_countOf_0 rfl ?_
  refine s_St_countOf_1 (fun c1 => absurd c1 (nI_pos (by omega))) (fun c1 => ?_)
  refine s_St_countOf_4 rfl ?_
  refine s_St_countOf_5 ?_
  refine s_St_countOf_7 (fun c7 => ?_) (fun c7 => absurd c7 (nn_lt (lt_nI rfl hj (by decide))))
  refine s_St_countOf_14 rfl ?_
  refine s_St_countOf_15 hp_4 rfl ?_
  refine s_St_countOf_18 rfl ?_
  refine s_St_countOf_19 hp_7 (vp_in_nI hj (by decide)) ?_
  exact s_St_countOf_20 ⟨by rw [nI_clamp (by omega)], rfl⟩ z0
set_option maxRecDepth 100000 in
theorem t_St_addToCount {G : GW} {L : LT} {I : IT} {r : Nat} {p : Int32} {j : Nat} (ep : p = nI j) (hj : j < 6) {x : Int32} : mt G M_St_addToCount 0 0 0 [.ref 4, .int p, .int x] (hp L I r) (dt (none) (hp L (upI I 7 j (I 7 j + x)) r)) := by
  refine mt_of_ev (by decide) (Nat.le_of_ble_eq_true rfl) ?_
  show ev G M_St_addToCount (rmv 0 0 0) (Er M_St_addToCount _ 0 0) 0 [(0, .ref 4), (1, .int p), (2, .int x)] [] (hp L I r) 0 0
  subst ep
  refine s_St_addToCount_0 rfl ?_
  refine s_St_addToCount_1 (fun c1 => absurd c1 (nI_pos (by omega))) (fun c1 => ?_)
  refine s_St_addToCount_4 rfl ?_
  refine s_St_addToCount_5 ?_
  refine s_St_addToCount_7 (fun c7 => absurd c7 (nle_nI rfl hj (by decide))) (fun c7 => ?_)
  refine s_St_addToCount_10 rfl ?_
  refine s_St_addToCount_11 hp_4 rfl ?_
  refine s_St_addToCount_14 rfl ?_
  refine s_St_addToCount_15 rfl rfl ?_
  refine s_St_addToCount_16 hp_7 (vp_in_nI hj (by decide)) ?_
  refine s_St_addToCount_17 rfl ?_
  refine s_St_addToCount_18 ?_
  refine s_St_addToCount_19 hp_7 (vp_in_nI hj (by decide)) ?_
  rw [hu_7]
  exact s_St_addToCount_20 ⟨rfl, by rw [nI_clamp (by omega)]; rfl⟩ z0
set_option maxRecDepth 100000 in
theorem t_St_carry {G : GW} {L : LT} {I : IT} {r : Nat} {p q : Int32} {t f : Nat} (ep : p = nI t) (ht : t < 102) (hq : q = nI f) (hf : f < 102) : mt G M_St_carry 1 0 0 [.ref 4, .int p, .int q] (hp L I r) (dt (none) (hp (upL (upL L 5 t (L 5 f)) 5 f 0) I r)) := by
  refine mt_of_ev (by decide) (Nat.le_of_ble_eq_true rfl) ?_
  show ev G M_St_carry (rmv 1 0 0) (Er M_St_carry _ 0 0) 0 [(0, .ref 4), (1, .int p), (2, .int q)] [] (hp L I r) 0 0
  refine s_St_carry_0 rfl ?_
  refine s_St_carry_1 rfl ?_
  refine s_St_carry_2 rfl ?_
  refine s_St_carry_3 rfl ?_
  refine c_St_carry_4 (t_St_held hq hf) hp_4 rfl (Nat.le_of_ble_eq_true rfl) ?_
  refine c_St_carry_7 (t_St_put ep ht) hp_4 rfl (Nat.le_of_ble_eq_true rfl) ?_
  refine s_St_carry_10 rfl ?_
  refine s_St_carry_11 rfl ?_
  refine s_St_carry_12 ?_
  refine c_St_carry_13 (t_St_put hq hf) hp_4 rfl (Nat.le_of_ble_eq_true rfl) ?_
  exact s_St_carry_16 ⟨by first | rfl | (simp [bz, *]; done) | (simp only [← Int32.not_le] at *; simp [bz, *]; done) | (simp only [Int32.not_lt, Int32.not_le] at *; simp [bz, *]; done) | (simp_all [bz]; done) | (simp only [bz_0, bz_n0, ← Int32.not_le] at *; simp_all [bz]; done), by first | rfl | (simp [*]; done) | (simp_all; done)⟩ z0
set_option maxRecDepth 100000 in
theorem t_St_keptPlace {G : GW} {L : LT} {I : IT} {r : Nat} {f q : Int32} : mt G M_St_keptPlace 0 0 0 [.int f, .int q] (hp L I r) (dt (some (.int (56 + f * 8 + q))) (hp L I r)) := by
  refine mt_of_ev (by decide) (Nat.le_of_ble_eq_true rfl) ?_
  show ev G M_St_keptPlace (rmv 0 0 0) (Er M_St_keptPlace _ 0 0) 0 [(0, .int f), (1, .int q)] [] (hp L I r) 0 0
  refine s_St_keptPlace_0 ?_
  refine s_St_keptPlace_2 rfl ?_
  refine s_St_keptPlace_3 ?_
  refine s_St_keptPlace_5 ?_
  refine s_St_keptPlace_6 ?_
  refine s_St_keptPlace_7 rfl ?_
  refine s_St_keptPlace_8 ?_
  exact s_St_keptPlace_9 ⟨by first | rfl | (simp [bz, *]; done) | (simp only [← Int32.not_le] at *; simp [bz, *]; done) | (simp only [Int32.not_lt, Int32.not_le] at *; simp [bz, *]; done) | (simp_all [bz]; done) | (simp only [bz_0, bz_n0, ← Int32.not_le] at *; simp_all [bz]; done), by first | rfl | (simp [*]; done) | (simp_all; done)⟩ z0
set_option maxRecDepth 100000 in
theorem t_St_canOpen {G : GW} {L : LT} {I : IT} {r : Nat} {p : Int32} {j : Nat} (ep : p = nI j) (hj : j < 6) : mt G M_St_canOpen 0 0 0 [.ref 4, .int p] (hp L I r) (dt (some (.int (bz (decide (I 8 j = 1) && decide (I 4 10 < 5))))) (hp L I r)) := by
  refine mt_of_ev (by decide) (Nat.le_of_ble_eq_true rfl) ?_
  show ev G M_St_canOpen (rmv 0 0 0) (Er M_St_canOpen _ 0 0) 0 [(0, .ref 4), (1, .int p)] [] (hp L I r) 0 0
  subst ep
  refine s_St_canOpen_0 rfl ?_
  refine s_St_canOpen_1 (fun c1 => absurd c1 (nI_pos (by omega))) (fun c1 => ?_)
  refine s_St_canOpen_4 rfl ?_
  refine s_St_canOpen_5 ?_
  refine s_St_canOpen_7 (fun c7 => absurd c7 (nle_nI rfl hj (by decide))) (fun c7 => ?_)
  refine s_St_canOpen_10 rfl ?_
  refine s_St_canOpen_11 hp_4 rfl ?_
  refine s_St_canOpen_14 rfl ?_
  refine s_St_canOpen_15 hp_8 (vp_in_nI hj (by decide)) ?_
  rw [nI_clamp (by omega)]
  refine s_St_canOpen_16 ?_
  refine s_St_canOpen_17 (fun c17 => ?_) (fun c17 => ?_)
  · skip
    refine s_St_canOpen_32 ?_
    exact s_St_canOpen_33 (by first | exact Or.inl rfl | exact Or.inr rfl | exact bz_or | assumption) ⟨by first | rfl | (simp [bz, *]; done) | (simp only [← Int32.not_le] at *; simp [bz, *]; done) | (simp only [Int32.not_lt, Int32.not_le] at *; simp [bz, *]; done) | (simp_all [bz]; done) | (simp only [bz_0, bz_n0, ← Int32.not_le] at *; simp_all [bz]; done), by first | rfl | (simp [*]; done) | (simp_all; done)⟩ z0
  · skip
    refine s_St_canOpen_20 rfl ?_
    refine s_St_canOpen_21 hp_4 rfl ?_
    refine s_St_canOpen_24 ?_
    refine s_St_canOpen_25 (fun c25 => ?_) (fun c25 => ?_)
    · skip
      refine s_St_canOpen_32 ?_
      exact s_St_canOpen_33 (by first | exact Or.inl rfl | exact Or.inr rfl | exact bz_or | assumption) ⟨by first | rfl | (simp [bz, *]; done) | (simp only [← Int32.not_le] at *; simp [bz, *]; done) | (simp only [Int32.not_lt, Int32.not_le] at *; simp [bz, *]; done) | (simp_all [bz]; done) | (simp only [bz_0, bz_n0, ← Int32.not_le] at *; simp_all [bz]; done), by first | rfl | (simp [*]; done) | (simp_all; done)⟩ z0
    · skip
      refine s_St_canOpen_28 ?_
      refine s_St_canOpen_29 ?_
      exact s_St_canOpen_33 (by first | exact Or.inl rfl | exact Or.inr rfl | exact bz_or | assumption) ⟨by first | rfl | (simp [bz, *]; done) | (simp only [← Int32.not_le] at *; simp [bz, *]; done) | (simp only [Int32.not_lt, Int32.not_le] at *; simp [bz, *]; done) | (simp_all [bz]; done) | (simp only [bz_0, bz_n0, ← Int32.not_le] at *; simp_all [bz]; done), by first | rfl | (simp [*]; done) | (simp_all; done)⟩ z0
set_option maxRecDepth 100000 in
theorem t_Co_size {G : GW} {L : LT} {I : IT} {r : Nat} {p : Int32} {j : Nat} (ep : p = nI j) (hj : j < 3) : mt G M_Co_size 0 0 0 [.ref 1, .int p] (hp L I r) (dt (some (.int (I 3 j))) (hp L I r)) := by
  refine mt_of_ev (by decide) (Nat.le_of_ble_eq_true rfl) ?_
  show ev G M_Co_size (rmv 0 0 0) (Er M_Co_size _ 0 0) 0 [(0, .ref 1), (1, .int p)] [] (hp L I r) 0 0
  subst ep
  refine s_Co_size_0 rfl ?_
  refine s_Co_size_1 (fun c1 => absurd c1 (nI_pos (by omega))) (fun c1 => ?_)
  refine s_Co_size_4 rfl ?_
  refine s_Co_size_5 ?_
  refine s_Co_size_6 (fun c6 => ?_) (fun c6 => absurd c6 (nn_lt (lt_nI rfl hj (by decide))))
  refine s_Co_size_13 rfl ?_
  refine s_Co_size_14 hp_1 rfl ?_
  refine s_Co_size_17 rfl ?_
  refine s_Co_size_18 hp_3 (vp_in_nI hj (by decide)) ?_
  exact s_Co_size_19 ⟨by rw [nI_clamp (by omega)], rfl⟩ z0
set_option maxRecDepth 100000 in
theorem t_Hi_clear {G : GW} {L : LT} {I : IT} {r : Nat}  : mt G M_Hi_clear 0 0 0 [.ref 15] (hp L I r) (dt (none) (hp L (upI (upI I 15 1 0) 15 2 0) r)) := by
  refine mt_of_ev (by decide) (Nat.le_of_ble_eq_true rfl) ?_
  show ev G M_Hi_clear (rmv 0 0 0) (Er M_Hi_clear _ 0 0) 0 [(0, .ref 15)] [] (hp L I r) 0 0
  refine s_Hi_clear_0 rfl ?_
  refine s_Hi_clear_1 ?_
  refine s_Hi_clear_2 hp_15 (Nat.le_of_ble_eq_true rfl) ?_
  rw [hu_15_1]
  refine s_Hi_clear_5 rfl ?_
  refine s_Hi_clear_6 ?_
  refine s_Hi_clear_7 hp_15 (Nat.le_of_ble_eq_true rfl) ?_
  rw [hu_15_2]
  exact s_Hi_clear_10 ⟨by first | rfl | (simp [bz, *]; done) | (simp only [← Int32.not_le] at *; simp [bz, *]; done) | (simp only [Int32.not_lt, Int32.not_le] at *; simp [bz, *]; done) | (simp_all [bz]; done) | (simp only [bz_0, bz_n0, ← Int32.not_le] at *; simp_all [bz]; done), by first | rfl | (simp [*]; done) | (simp_all; done)⟩ z0
set_option maxRecDepth 100000 in
theorem t_Pr_isRegister {G : GW} {L : LT} {I : IT} {r : Nat} {p : Int32} : mt G M_Pr_isRegister 0 0 0 [.int p] (hp L I r) (dt (some (.int (bz (decide (0 ≤ p) && decide (p < 8))))) (hp L I r)) := by
  refine mt_of_ev (by decide) (Nat.le_of_ble_eq_true rfl) ?_
  show ev G M_Pr_isRegister (rmv 0 0 0) (Er M_Pr_isRegister _ 0 0) 0 [(0, .int p)] [] (hp L I r) 0 0
  refine s_Pr_isRegister_0 rfl ?_
  refine s_Pr_isRegister_1 (fun c1 => ?_) (fun c1 => ?_)
  · skip
    refine s_Pr_isRegister_14 ?_
    exact s_Pr_isRegister_15 (by first | exact Or.inl rfl | exact Or.inr rfl | exact bz_or | assumption) ⟨by first | rfl | (simp [bz, *]; done) | (simp only [← Int32.not_le] at *; simp [bz, *]; done) | (simp only [Int32.not_lt, Int32.not_le] at *; simp [bz, *]; done) | (simp_all [bz]; done) | (simp only [bz_0, bz_n0, ← Int32.not_le] at *; simp_all [bz]; done), by first | rfl | (simp [*]; done) | (simp_all; done)⟩ z0
  · skip
    refine s_Pr_isRegister_4 rfl ?_
    refine s_Pr_isRegister_5 ?_
    refine s_Pr_isRegister_7 (fun c7 => ?_) (fun c7 => ?_)
    · skip
      refine s_Pr_isRegister_14 ?_
      exact s_Pr_isRegister_15 (by first | exact Or.inl rfl | exact Or.inr rfl | exact bz_or | assumption) ⟨by first | rfl | (simp [bz, *]; done) | (simp only [← Int32.not_le] at *; simp [bz, *]; done) | (simp only [Int32.not_lt, Int32.not_le] at *; simp [bz, *]; done) | (simp_all [bz]; done) | (simp only [bz_0, bz_n0, ← Int32.not_le] at *; simp_all [bz]; done), by first | rfl | (simp [*]; done) | (simp_all; done)⟩ z0
    · skip
      refine s_Pr_isRegister_10 ?_
      refine s_Pr_isRegister_11 ?_
      exact s_Pr_isRegister_15 (by first | exact Or.inl rfl | exact Or.inr rfl | exact bz_or | assumption) ⟨by first | rfl | (simp [bz, *]; done) | (simp only [← Int32.not_le] at *; simp [bz, *]; done) | (simp only [Int32.not_lt, Int32.not_le] at *; simp [bz, *]; done) | (simp_all [bz]; done) | (simp only [bz_0, bz_n0, ← Int32.not_le] at *; simp_all [bz]; done), by first | rfl | (simp [*]; done) | (simp_all; done)⟩ z0
set_option maxRecDepth 100000 in
theorem t_Pr_goOnAt {G : GW} {L : LT} {I : IT} {r : Nat} {p : Int32} : mt G M_Pr_goOnAt 0 0 0 [.ref 17, .int p] (hp L I r) (dt (some (.int 0)) (hp L (upI I 4 12 p) r)) := by
  refine mt_of_ev (by decide) (Nat.le_of_ble_eq_true rfl) ?_
  show ev G M_Pr_goOnAt (rmv 0 0 0) (Er M_Pr_goOnAt _ 0 0) 0 [(0, .ref 17), (1, .int p)] [] (hp L I r) 0 0
  refine s_Pr_goOnAt_0 rfl ?_
  refine s_Pr_goOnAt_1 hp_17 rfl ?_
  refine s_Pr_goOnAt_4 rfl ?_
  refine s_Pr_goOnAt_5 hp_4 (Nat.le_of_ble_eq_true rfl) ?_
  rw [hu_4_12]
  refine s_Pr_goOnAt_8 ?_
  exact s_Pr_goOnAt_9 ⟨by first | rfl | (simp [bz, *]; done) | (simp only [← Int32.not_le] at *; simp [bz, *]; done) | (simp only [Int32.not_lt, Int32.not_le] at *; simp [bz, *]; done) | (simp_all [bz]; done) | (simp only [bz_0, bz_n0, ← Int32.not_le] at *; simp_all [bz]; done), by first | rfl | (simp [*]; done) | (simp_all; done)⟩ z0
set_option maxRecDepth 100000 in
theorem t_Pr_goOn {G : GW} {L : LT} {I : IT} {r : Nat}  : mt G M_Pr_goOn 1 0 0 [.ref 17] (hp L I r) (dt (some (.int 0)) (hp L (upI I 4 12 (I 4 12 + 1)) r)) := by
  refine mt_of_ev (by decide) (Nat.le_of_ble_eq_true rfl) ?_
  show ev G M_Pr_goOn (rmv 1 0 0) (Er M_Pr_goOn _ 0 0) 0 [(0, .ref 17)] [] (hp L I r) 0 0
  refine s_Pr_goOn_0 rfl ?_
  refine s_Pr_goOn_1 rfl ?_
  refine s_Pr_goOn_2 hp_17 rfl ?_
  refine s_Pr_goOn_5 hp_4 rfl ?_
  refine s_Pr_goOn_8 ?_
  refine s_Pr_goOn_9 ?_
  refine c_Pr_goOn_10 (t_Pr_goOnAt) hp_17 rfl (Nat.le_of_ble_eq_true rfl) ?_
  exact s_Pr_goOn_13 ⟨by first | rfl | (simp [bz, *]; done) | (simp only [← Int32.not_le] at *; simp [bz, *]; done) | (simp only [Int32.not_lt, Int32.not_le] at *; simp [bz, *]; done) | (simp_all [bz]; done) | (simp only [bz_0, bz_n0, ← Int32.not_le] at *; simp_all [bz]; done), by first | rfl | (simp [*]; done) | (simp_all; done)⟩ z0
set_option maxRecDepth 100000 in
theorem t_Pr_isFull {G : GW} {L : LT} {I : IT} {r : Nat} {p : Int32} {j : Nat} (ep : p = nI j) (hj : j < 102) : mt G M_Pr_isFull 2 0 0 [.ref 17, .int p] (hp L I r) (dt (some (.int (bz (!decide (vKd (L 5 j) = 0))))) (hp L I r)) := by
  refine mt_of_ev (by decide) (Nat.le_of_ble_eq_true rfl) ?_
  show ev G M_Pr_isFull (rmv 2 0 0) (Er M_Pr_isFull _ 0 0) 0 [(0, .ref 17), (1, .int p)] [] (hp L I r) 0 0
  refine s_Pr_isFull_0 rfl ?_
  refine s_Pr_isFull_1 hp_17 rfl ?_
  refine s_Pr_isFull_4 rfl ?_
  refine c_Pr_isFull_5 (t_St_held ep hj) hp_4 rfl (Nat.le_of_ble_eq_true rfl) ?_
  refine c_Pr_isFull_8 (t_Va_isNumber) (Nat.le_of_ble_eq_true rfl) ?_
  refine s_Pr_isFull_11 (fun c11 => ?_) (fun c11 => ?_)
  · skip
    (first | rw [bz_n0] at c11 | rw [bz_0] at c11 | skip); (try simp only [Bool.not_eq_false', Bool.not_eq_true', decide_eq_true_eq, decide_eq_false_iff_not, Bool.or_eq_true, Bool.or_eq_false_iff, Bool.and_eq_true, Bool.and_eq_false_iff] at c11)
    refine s_Pr_isFull_18 ?_
    exact s_Pr_isFull_19 (by first | exact Or.inl rfl | exact Or.inr rfl | exact bz_or | assumption) ⟨by first | rfl | (simp [bz, *]; done) | (simp only [← Int32.not_le] at *; simp [bz, *]; done) | (simp only [Int32.not_lt, Int32.not_le] at *; simp [bz, *]; done) | (simp_all [bz]; done) | (simp only [bz_0, bz_n0, ← Int32.not_le] at *; simp_all [bz]; done), by first | rfl | (simp [*]; done) | (simp_all; done)⟩ z0
  · skip
    (first | rw [bz_n0] at c11 | rw [bz_0] at c11 | skip); (try simp only [Bool.not_eq_false', Bool.not_eq_true', decide_eq_true_eq, decide_eq_false_iff_not, Bool.or_eq_true, Bool.or_eq_false_iff, Bool.and_eq_true, Bool.and_eq_false_iff] at c11)
    refine s_Pr_isFull_14 ?_
    refine s_Pr_isFull_15 ?_
    exact s_Pr_isFull_19 (by first | exact Or.inl rfl | exact Or.inr rfl | exact bz_or | assumption) ⟨by first | rfl | (simp [bz, *]; done) | (simp only [← Int32.not_le] at *; simp [bz, *]; done) | (simp only [Int32.not_lt, Int32.not_le] at *; simp [bz, *]; done) | (simp_all [bz]; done) | (simp only [bz_0, bz_n0, ← Int32.not_le] at *; simp_all [bz]; done), by first | rfl | (simp [*]; done) | (simp_all; done)⟩ z0
set_option maxRecDepth 100000 in
theorem t_Pr_isExclusive {G : GW} {L : LT} {I : IT} {r : Nat} {p : Int32} {j : Nat} (ep : p = nI j) (hj : j < 102) : mt G M_Pr_isExclusive 1 0 0 [.ref 17, .int p] (hp L I r) (dt (some (.int (bz (decide (vKd (L 5 j) = 1))))) (hp L I r)) := by
  refine mt_of_ev (by decide) (Nat.le_of_ble_eq_true rfl) ?_
  show ev G M_Pr_isExclusive (rmv 1 0 0) (Er M_Pr_isExclusive _ 0 0) 0 [(0, .ref 17), (1, .int p)] [] (hp L I r) 0 0
  refine s_Pr_isExclusive_0 rfl ?_
  refine s_Pr_isExclusive_1 hp_17 rfl ?_
  refine s_Pr_isExclusive_4 rfl ?_
  refine c_Pr_isExclusive_5 (t_St_held ep hj) hp_4 rfl (Nat.le_of_ble_eq_true rfl) ?_
  refine c_Pr_isExclusive_8 (t_Va_kind) (Nat.le_of_ble_eq_true rfl) ?_
  refine s_Pr_isExclusive_11 ?_
  refine s_Pr_isExclusive_12 (fun c12 => ?_) (fun c12 => ?_)
  · skip
    refine s_Pr_isExclusive_19 ?_
    exact s_Pr_isExclusive_20 (by first | exact Or.inl rfl | exact Or.inr rfl | exact bz_or | assumption) ⟨by first | rfl | (simp [bz, *]; done) | (simp only [← Int32.not_le] at *; simp [bz, *]; done) | (simp only [Int32.not_lt, Int32.not_le] at *; simp [bz, *]; done) | (simp_all [bz]; done) | (simp only [bz_0, bz_n0, ← Int32.not_le] at *; simp_all [bz]; done), by first | rfl | (simp [*]; done) | (simp_all; done)⟩ z0
  · skip
    refine s_Pr_isExclusive_15 ?_
    refine s_Pr_isExclusive_16 ?_
    exact s_Pr_isExclusive_20 (by first | exact Or.inl rfl | exact Or.inr rfl | exact bz_or | assumption) ⟨by first | rfl | (simp [bz, *]; done) | (simp only [← Int32.not_le] at *; simp [bz, *]; done) | (simp only [Int32.not_lt, Int32.not_le] at *; simp [bz, *]; done) | (simp_all [bz]; done) | (simp only [bz_0, bz_n0, ← Int32.not_le] at *; simp_all [bz]; done), by first | rfl | (simp [*]; done) | (simp_all; done)⟩ z0
set_option maxRecDepth 100000 in
theorem t_Pr_isShared {G : GW} {L : LT} {I : IT} {r : Nat} {p : Int32} {j : Nat} (ep : p = nI j) (hj : j < 102) : mt G M_Pr_isShared 1 0 0 [.ref 17, .int p] (hp L I r) (dt (some (.int (bz (decide (vKd (L 5 j) = 2))))) (hp L I r)) := by
  refine mt_of_ev (by decide) (Nat.le_of_ble_eq_true rfl) ?_
  show ev G M_Pr_isShared (rmv 1 0 0) (Er M_Pr_isShared _ 0 0) 0 [(0, .ref 17), (1, .int p)] [] (hp L I r) 0 0
  refine s_Pr_isShared_0 rfl ?_
  refine s_Pr_isShared_1 hp_17 rfl ?_
  refine s_Pr_isShared_4 rfl ?_
  refine c_Pr_isShared_5 (t_St_held ep hj) hp_4 rfl (Nat.le_of_ble_eq_true rfl) ?_
  refine c_Pr_isShared_8 (t_Va_kind) (Nat.le_of_ble_eq_true rfl) ?_
  refine s_Pr_isShared_11 ?_
  refine s_Pr_isShared_12 (fun c12 => ?_) (fun c12 => ?_)
  · skip
    refine s_Pr_isShared_19 ?_
    exact s_Pr_isShared_20 (by first | exact Or.inl rfl | exact Or.inr rfl | exact bz_or | assumption) ⟨by first | rfl | (simp [bz, *]; done) | (simp only [← Int32.not_le] at *; simp [bz, *]; done) | (simp only [Int32.not_lt, Int32.not_le] at *; simp [bz, *]; done) | (simp_all [bz]; done) | (simp only [bz_0, bz_n0, ← Int32.not_le] at *; simp_all [bz]; done), by first | rfl | (simp [*]; done) | (simp_all; done)⟩ z0
  · skip
    refine s_Pr_isShared_15 ?_
    refine s_Pr_isShared_16 ?_
    exact s_Pr_isShared_20 (by first | exact Or.inl rfl | exact Or.inr rfl | exact bz_or | assumption) ⟨by first | rfl | (simp [bz, *]; done) | (simp only [← Int32.not_le] at *; simp [bz, *]; done) | (simp only [Int32.not_lt, Int32.not_le] at *; simp [bz, *]; done) | (simp_all [bz]; done) | (simp only [bz_0, bz_n0, ← Int32.not_le] at *; simp_all [bz]; done), by first | rfl | (simp [*]; done) | (simp_all; done)⟩ z0
set_option maxRecDepth 100000 in
theorem t_Pr_isInside {G : GW} {L : LT} {I : IT} {r : Nat} {v : Int64} : mt G M_Pr_isInside 2 0 0 [.ref 17, .long v] (hp L I r) (dt (some (.int (bz (decide (0 ≤ I 17 5) && decide (I 17 5 < vEn v - vFr v))))) (hp L I r)) := by
  refine mt_of_ev (by decide) (Nat.le_of_ble_eq_true rfl) ?_
  show ev G M_Pr_isInside (rmv 2 0 0) (Er M_Pr_isInside _ 0 0) 0 [(0, .ref 17), (1, .long v)] [] (hp L I r) 0 0
  refine s_Pr_isInside_0 rfl ?_
  refine s_Pr_isInside_1 hp_17 rfl ?_
  refine s_Pr_isInside_4 (fun c4 => ?_) (fun c4 => ?_)
  · skip
    refine s_Pr_isInside_22 ?_
    exact s_Pr_isInside_23 (by first | exact Or.inl rfl | exact Or.inr rfl | exact bz_or | assumption) ⟨by first | rfl | (simp [bz, *]; done) | (simp only [← Int32.not_le] at *; simp [bz, *]; done) | (simp only [Int32.not_lt, Int32.not_le] at *; simp [bz, *]; done) | (simp_all [bz]; done) | (simp only [bz_0, bz_n0, ← Int32.not_le] at *; simp_all [bz]; done), by first | rfl | (simp [*]; done) | (simp_all; done)⟩ z0
  · skip
    refine s_Pr_isInside_7 rfl ?_
    refine s_Pr_isInside_8 hp_17 rfl ?_
    refine s_Pr_isInside_11 rfl ?_
    refine c_Pr_isInside_12 (t_Va_length) (Nat.le_of_ble_eq_true rfl) ?_
    refine s_Pr_isInside_15 (fun c15 => ?_) (fun c15 => ?_)
    · skip
      refine s_Pr_isInside_22 ?_
      exact s_Pr_isInside_23 (by first | exact Or.inl rfl | exact Or.inr rfl | exact bz_or | assumption) ⟨by first | rfl | (simp [bz, *]; done) | (simp only [← Int32.not_le] at *; simp [bz, *]; done) | (simp only [Int32.not_lt, Int32.not_le] at *; simp [bz, *]; done) | (simp_all [bz]; done) | (simp only [bz_0, bz_n0, ← Int32.not_le] at *; simp_all [bz]; done), by first | rfl | (simp [*]; done) | (simp_all; done)⟩ z0
    · skip
      refine s_Pr_isInside_18 ?_
      refine s_Pr_isInside_19 ?_
      exact s_Pr_isInside_23 (by first | exact Or.inl rfl | exact Or.inr rfl | exact bz_or | assumption) ⟨by first | rfl | (simp [bz, *]; done) | (simp only [← Int32.not_le] at *; simp [bz, *]; done) | (simp only [Int32.not_lt, Int32.not_le] at *; simp [bz, *]; done) | (simp_all [bz]; done) | (simp only [bz_0, bz_n0, ← Int32.not_le] at *; simp_all [bz]; done), by first | rfl | (simp [*]; done) | (simp_all; done)⟩ z0
set_option maxRecDepth 100000 in
theorem t_Pr_haveJoinedRange {G : GW} {L : LT} {I : IT} {r : Nat} {u v : Int64} : mt G M_Pr_haveJoinedRange 1 0 0 [.long u, .long v] (hp L I r) (dt (some (.int (bz ((decide (vEn u = vFr v) || decide (vEn v = vFr u)) && decide (vRi u = vRi v))))) (hp L I r)) := by
  refine mt_of_ev (by decide) (Nat.le_of_ble_eq_true rfl) ?_
  show ev G M_Pr_haveJoinedRange (rmv 1 0 0) (Er M_Pr_haveJoinedRange _ 0 0) 0 [(0, .long u), (2, .long v)] [] (hp L I r) 0 0
  refine s_Pr_haveJoinedRange_0 rfl ?_
  refine c_Pr_haveJoinedRange_1 (t_Va_end) (Nat.le_of_ble_eq_true rfl) ?_
  refine s_Pr_haveJoinedRange_4 rfl ?_
  refine c_Pr_haveJoinedRange_5 (t_Va_from) (Nat.le_of_ble_eq_true rfl) ?_
  refine s_Pr_haveJoinedRange_8 (fun c8 => ?_) (fun c8 => ?_)
  · skip
    refine s_Pr_haveJoinedRange_22 ?_
    refine s_Pr_haveJoinedRange_23 ?_
    refine s_Pr_haveJoinedRange_27 ?_
    refine s_Pr_haveJoinedRange_29 rfl ?_
    refine s_Pr_haveJoinedRange_31 (fun c31 => ?_) (fun c31 => ?_)
    · skip
      refine s_Pr_haveJoinedRange_49 ?_
      exact s_Pr_haveJoinedRange_50 (by first | exact Or.inl rfl | exact Or.inr rfl | exact bz_or | assumption) ⟨by first | rfl | (simp [bz, *]; done) | (simp only [← Int32.not_le] at *; simp [bz, *]; done) | (simp only [Int32.not_lt, Int32.not_le] at *; simp [bz, *]; done) | (simp_all [bz]; done) | (simp only [bz_0, bz_n0, ← Int32.not_le] at *; simp_all [bz]; done), by first | rfl | (simp [*]; done) | (simp_all; done)⟩ z0
    · skip
      refine s_Pr_haveJoinedRange_34 rfl ?_
      refine c_Pr_haveJoinedRange_35 (t_Va_rights) (Nat.le_of_ble_eq_true rfl) ?_
      refine s_Pr_haveJoinedRange_38 rfl ?_
      refine c_Pr_haveJoinedRange_39 (t_Va_rights) (Nat.le_of_ble_eq_true rfl) ?_
      refine s_Pr_haveJoinedRange_42 (fun c42 => ?_) (fun c42 => ?_)
      · skip
        refine s_Pr_haveJoinedRange_49 ?_
        exact s_Pr_haveJoinedRange_50 (by first | exact Or.inl rfl | exact Or.inr rfl | exact bz_or | assumption) ⟨by first | rfl | (simp [bz, *]; done) | (simp only [← Int32.not_le] at *; simp [bz, *]; done) | (simp only [Int32.not_lt, Int32.not_le] at *; simp [bz, *]; done) | (simp_all [bz]; done) | (simp only [bz_0, bz_n0, ← Int32.not_le] at *; simp_all [bz]; done), by first | rfl | (simp [*]; done) | (simp_all; done)⟩ z0
      · skip
        refine s_Pr_haveJoinedRange_45 ?_
        refine s_Pr_haveJoinedRange_46 ?_
        exact s_Pr_haveJoinedRange_50 (by first | exact Or.inl rfl | exact Or.inr rfl | exact bz_or | assumption) ⟨by first | rfl | (simp [bz, *]; done) | (simp only [← Int32.not_le] at *; simp [bz, *]; done) | (simp only [Int32.not_lt, Int32.not_le] at *; simp [bz, *]; done) | (simp_all [bz]; done) | (simp only [bz_0, bz_n0, ← Int32.not_le] at *; simp_all [bz]; done), by first | rfl | (simp [*]; done) | (simp_all; done)⟩ z0
  · skip
    refine s_Pr_haveJoinedRange_11 rfl ?_
    refine c_Pr_haveJoinedRange_12 (t_Va_end) (Nat.le_of_ble_eq_true rfl) ?_
    refine s_Pr_haveJoinedRange_15 rfl ?_
    refine c_Pr_haveJoinedRange_16 (t_Va_from) (Nat.le_of_ble_eq_true rfl) ?_
    refine s_Pr_haveJoinedRange_19 (fun c19 => ?_) (fun c19 => ?_)
    · skip
      refine s_Pr_haveJoinedRange_26 ?_
      refine s_Pr_haveJoinedRange_27 ?_
      refine s_Pr_haveJoinedRange_29 rfl ?_
      refine s_Pr_haveJoinedRange_31 (fun c31 => ?_) (fun c31 => ?_)
      · skip
        refine s_Pr_haveJoinedRange_49 ?_
        exact s_Pr_haveJoinedRange_50 (by first | exact Or.inl rfl | exact Or.inr rfl | exact bz_or | assumption) ⟨by first | rfl | (simp [bz, *]; done) | (simp only [← Int32.not_le] at *; simp [bz, *]; done) | (simp only [Int32.not_lt, Int32.not_le] at *; simp [bz, *]; done) | (simp_all [bz]; done) | (simp only [bz_0, bz_n0, ← Int32.not_le] at *; simp_all [bz]; done), by first | rfl | (simp [*]; done) | (simp_all; done)⟩ z0
      · skip
        refine s_Pr_haveJoinedRange_34 rfl ?_
        refine c_Pr_haveJoinedRange_35 (t_Va_rights) (Nat.le_of_ble_eq_true rfl) ?_
        refine s_Pr_haveJoinedRange_38 rfl ?_
        refine c_Pr_haveJoinedRange_39 (t_Va_rights) (Nat.le_of_ble_eq_true rfl) ?_
        refine s_Pr_haveJoinedRange_42 (fun c42 => ?_) (fun c42 => ?_)
        · skip
          refine s_Pr_haveJoinedRange_49 ?_
          exact s_Pr_haveJoinedRange_50 (by first | exact Or.inl rfl | exact Or.inr rfl | exact bz_or | assumption) ⟨by first | rfl | (simp [bz, *]; done) | (simp only [← Int32.not_le] at *; simp [bz, *]; done) | (simp only [Int32.not_lt, Int32.not_le] at *; simp [bz, *]; done) | (simp_all [bz]; done) | (simp only [bz_0, bz_n0, ← Int32.not_le] at *; simp_all [bz]; done), by first | rfl | (simp [*]; done) | (simp_all; done)⟩ z0
        · skip
          refine s_Pr_haveJoinedRange_45 ?_
          refine s_Pr_haveJoinedRange_46 ?_
          exact s_Pr_haveJoinedRange_50 (by first | exact Or.inl rfl | exact Or.inr rfl | exact bz_or | assumption) ⟨by first | rfl | (simp [bz, *]; done) | (simp only [← Int32.not_le] at *; simp [bz, *]; done) | (simp only [Int32.not_lt, Int32.not_le] at *; simp [bz, *]; done) | (simp_all [bz]; done) | (simp only [bz_0, bz_n0, ← Int32.not_le] at *; simp_all [bz]; done), by first | rfl | (simp [*]; done) | (simp_all; done)⟩ z0
    · skip
      refine s_Pr_haveJoinedRange_22 ?_
      refine s_Pr_haveJoinedRange_23 ?_
      refine s_Pr_haveJoinedRange_27 ?_
      refine s_Pr_haveJoinedRange_29 rfl ?_
      refine s_Pr_haveJoinedRange_31 (fun c31 => ?_) (fun c31 => ?_)
      · skip
        refine s_Pr_haveJoinedRange_49 ?_
        exact s_Pr_haveJoinedRange_50 (by first | exact Or.inl rfl | exact Or.inr rfl | exact bz_or | assumption) ⟨by first | rfl | (simp [bz, *]; done) | (simp only [← Int32.not_le] at *; simp [bz, *]; done) | (simp only [Int32.not_lt, Int32.not_le] at *; simp [bz, *]; done) | (simp_all [bz]; done) | (simp only [bz_0, bz_n0, ← Int32.not_le] at *; simp_all [bz]; done), by first | rfl | (simp [*]; done) | (simp_all; done)⟩ z0
      · skip
        refine s_Pr_haveJoinedRange_34 rfl ?_
        refine c_Pr_haveJoinedRange_35 (t_Va_rights) (Nat.le_of_ble_eq_true rfl) ?_
        refine s_Pr_haveJoinedRange_38 rfl ?_
        refine c_Pr_haveJoinedRange_39 (t_Va_rights) (Nat.le_of_ble_eq_true rfl) ?_
        refine s_Pr_haveJoinedRange_42 (fun c42 => ?_) (fun c42 => ?_)
        · skip
          refine s_Pr_haveJoinedRange_49 ?_
          exact s_Pr_haveJoinedRange_50 (by first | exact Or.inl rfl | exact Or.inr rfl | exact bz_or | assumption) ⟨by first | rfl | (simp [bz, *]; done) | (simp only [← Int32.not_le] at *; simp [bz, *]; done) | (simp only [Int32.not_lt, Int32.not_le] at *; simp [bz, *]; done) | (simp_all [bz]; done) | (simp only [bz_0, bz_n0, ← Int32.not_le] at *; simp_all [bz]; done), by first | rfl | (simp [*]; done) | (simp_all; done)⟩ z0
        · skip
          refine s_Pr_haveJoinedRange_45 ?_
          refine s_Pr_haveJoinedRange_46 ?_
          exact s_Pr_haveJoinedRange_50 (by first | exact Or.inl rfl | exact Or.inr rfl | exact bz_or | assumption) ⟨by first | rfl | (simp [bz, *]; done) | (simp only [← Int32.not_le] at *; simp [bz, *]; done) | (simp only [Int32.not_lt, Int32.not_le] at *; simp [bz, *]; done) | (simp_all [bz]; done) | (simp only [bz_0, bz_n0, ← Int32.not_le] at *; simp_all [bz]; done), by first | rfl | (simp [*]; done) | (simp_all; done)⟩ z0
set_option maxRecDepth 100000 in
theorem t_Pr_haveJoinedRights {G : GW} {L : LT} {I : IT} {r : Nat} {u v : Int64} : mt G M_Pr_haveJoinedRights 1 0 0 [.long u, .long v] (hp L I r) (dt (some (.int (bz ((decide (vFr u = vFr v) && decide (vEn u = vEn v)) && decide (vRi u &&& vRi v = 0))))) (hp L I r)) := by
  refine mt_of_ev (by decide) (Nat.le_of_ble_eq_true rfl) ?_
  show ev G M_Pr_haveJoinedRights (rmv 1 0 0) (Er M_Pr_haveJoinedRights _ 0 0) 0 [(0, .long u), (2, .long v)] [] (hp L I r) 0 0
  refine s_Pr_haveJoinedRights_0 rfl ?_
  refine c_Pr_haveJoinedRights_1 (t_Va_from) (Nat.le_of_ble_eq_true rfl) ?_
  refine s_Pr_haveJoinedRights_4 rfl ?_
  refine c_Pr_haveJoinedRights_5 (t_Va_from) (Nat.le_of_ble_eq_true rfl) ?_
  refine s_Pr_haveJoinedRights_8 (fun c8 => ?_) (fun c8 => ?_)
  · skip
    refine s_Pr_haveJoinedRights_26 ?_
    refine s_Pr_haveJoinedRights_27 ?_
    refine s_Pr_haveJoinedRights_29 rfl ?_
    refine s_Pr_haveJoinedRights_31 (fun c31 => ?_) (fun c31 => ?_)
    · skip
      refine s_Pr_haveJoinedRights_50 ?_
      exact s_Pr_haveJoinedRights_51 (by first | exact Or.inl rfl | exact Or.inr rfl | exact bz_or | assumption) ⟨by first | rfl | (simp [bz, *]; done) | (simp only [← Int32.not_le] at *; simp [bz, *]; done) | (simp only [Int32.not_lt, Int32.not_le] at *; simp [bz, *]; done) | (simp_all [bz]; done) | (simp only [bz_0, bz_n0, ← Int32.not_le] at *; simp_all [bz]; done), by first | rfl | (simp [*]; done) | (simp_all; done)⟩ z0
    · skip
      refine s_Pr_haveJoinedRights_34 rfl ?_
      refine c_Pr_haveJoinedRights_35 (t_Va_rights) (Nat.le_of_ble_eq_true rfl) ?_
      refine s_Pr_haveJoinedRights_38 rfl ?_
      refine c_Pr_haveJoinedRights_39 (t_Va_rights) (Nat.le_of_ble_eq_true rfl) ?_
      refine s_Pr_haveJoinedRights_42 ?_
      refine s_Pr_haveJoinedRights_43 (fun c43 => ?_) (fun c43 => ?_)
      · skip
        refine s_Pr_haveJoinedRights_50 ?_
        exact s_Pr_haveJoinedRights_51 (by first | exact Or.inl rfl | exact Or.inr rfl | exact bz_or | assumption) ⟨by first | rfl | (simp [bz, *]; done) | (simp only [← Int32.not_le] at *; simp [bz, *]; done) | (simp only [Int32.not_lt, Int32.not_le] at *; simp [bz, *]; done) | (simp_all [bz]; done) | (simp only [bz_0, bz_n0, ← Int32.not_le] at *; simp_all [bz]; done), by first | rfl | (simp [*]; done) | (simp_all; done)⟩ z0
      · skip
        refine s_Pr_haveJoinedRights_46 ?_
        refine s_Pr_haveJoinedRights_47 ?_
        exact s_Pr_haveJoinedRights_51 (by first | exact Or.inl rfl | exact Or.inr rfl | exact bz_or | assumption) ⟨by first | rfl | (simp [bz, *]; done) | (simp only [← Int32.not_le] at *; simp [bz, *]; done) | (simp only [Int32.not_lt, Int32.not_le] at *; simp [bz, *]; done) | (simp_all [bz]; done) | (simp only [bz_0, bz_n0, ← Int32.not_le] at *; simp_all [bz]; done), by first | rfl | (simp [*]; done) | (simp_all; done)⟩ z0
  · skip
    refine s_Pr_haveJoinedRights_11 rfl ?_
    refine c_Pr_haveJoinedRights_12 (t_Va_end) (Nat.le_of_ble_eq_true rfl) ?_
    refine s_Pr_haveJoinedRights_15 rfl ?_
    refine c_Pr_haveJoinedRights_16 (t_Va_end) (Nat.le_of_ble_eq_true rfl) ?_
    refine s_Pr_haveJoinedRights_19 (fun c19 => ?_) (fun c19 => ?_)
    · skip
      refine s_Pr_haveJoinedRights_26 ?_
      refine s_Pr_haveJoinedRights_27 ?_
      refine s_Pr_haveJoinedRights_29 rfl ?_
      refine s_Pr_haveJoinedRights_31 (fun c31 => ?_) (fun c31 => ?_)
      · skip
        refine s_Pr_haveJoinedRights_50 ?_
        exact s_Pr_haveJoinedRights_51 (by first | exact Or.inl rfl | exact Or.inr rfl | exact bz_or | assumption) ⟨by first | rfl | (simp [bz, *]; done) | (simp only [← Int32.not_le] at *; simp [bz, *]; done) | (simp only [Int32.not_lt, Int32.not_le] at *; simp [bz, *]; done) | (simp_all [bz]; done) | (simp only [bz_0, bz_n0, ← Int32.not_le] at *; simp_all [bz]; done), by first | rfl | (simp [*]; done) | (simp_all; done)⟩ z0
      · skip
        refine s_Pr_haveJoinedRights_34 rfl ?_
        refine c_Pr_haveJoinedRights_35 (t_Va_rights) (Nat.le_of_ble_eq_true rfl) ?_
        refine s_Pr_haveJoinedRights_38 rfl ?_
        refine c_Pr_haveJoinedRights_39 (t_Va_rights) (Nat.le_of_ble_eq_true rfl) ?_
        refine s_Pr_haveJoinedRights_42 ?_
        refine s_Pr_haveJoinedRights_43 (fun c43 => ?_) (fun c43 => ?_)
        · skip
          refine s_Pr_haveJoinedRights_50 ?_
          exact s_Pr_haveJoinedRights_51 (by first | exact Or.inl rfl | exact Or.inr rfl | exact bz_or | assumption) ⟨by first | rfl | (simp [bz, *]; done) | (simp only [← Int32.not_le] at *; simp [bz, *]; done) | (simp only [Int32.not_lt, Int32.not_le] at *; simp [bz, *]; done) | (simp_all [bz]; done) | (simp only [bz_0, bz_n0, ← Int32.not_le] at *; simp_all [bz]; done), by first | rfl | (simp [*]; done) | (simp_all; done)⟩ z0
        · skip
          refine s_Pr_haveJoinedRights_46 ?_
          refine s_Pr_haveJoinedRights_47 ?_
          exact s_Pr_haveJoinedRights_51 (by first | exact Or.inl rfl | exact Or.inr rfl | exact bz_or | assumption) ⟨by first | rfl | (simp [bz, *]; done) | (simp only [← Int32.not_le] at *; simp [bz, *]; done) | (simp only [Int32.not_lt, Int32.not_le] at *; simp [bz, *]; done) | (simp_all [bz]; done) | (simp only [bz_0, bz_n0, ← Int32.not_le] at *; simp_all [bz]; done), by first | rfl | (simp [*]; done) | (simp_all; done)⟩ z0
    · skip
      refine s_Pr_haveJoinedRights_22 ?_
      refine s_Pr_haveJoinedRights_23 ?_
      refine s_Pr_haveJoinedRights_27 ?_
      refine s_Pr_haveJoinedRights_29 rfl ?_
      refine s_Pr_haveJoinedRights_31 (fun c31 => ?_) (fun c31 => ?_)
      · skip
        refine s_Pr_haveJoinedRights_50 ?_
        exact s_Pr_haveJoinedRights_51 (by first | exact Or.inl rfl | exact Or.inr rfl | exact bz_or | assumption) ⟨by first | rfl | (simp [bz, *]; done) | (simp only [← Int32.not_le] at *; simp [bz, *]; done) | (simp only [Int32.not_lt, Int32.not_le] at *; simp [bz, *]; done) | (simp_all [bz]; done) | (simp only [bz_0, bz_n0, ← Int32.not_le] at *; simp_all [bz]; done), by first | rfl | (simp [*]; done) | (simp_all; done)⟩ z0
      · skip
        refine s_Pr_haveJoinedRights_34 rfl ?_
        refine c_Pr_haveJoinedRights_35 (t_Va_rights) (Nat.le_of_ble_eq_true rfl) ?_
        refine s_Pr_haveJoinedRights_38 rfl ?_
        refine c_Pr_haveJoinedRights_39 (t_Va_rights) (Nat.le_of_ble_eq_true rfl) ?_
        refine s_Pr_haveJoinedRights_42 ?_
        refine s_Pr_haveJoinedRights_43 (fun c43 => ?_) (fun c43 => ?_)
        · skip
          refine s_Pr_haveJoinedRights_50 ?_
          exact s_Pr_haveJoinedRights_51 (by first | exact Or.inl rfl | exact Or.inr rfl | exact bz_or | assumption) ⟨by first | rfl | (simp [bz, *]; done) | (simp only [← Int32.not_le] at *; simp [bz, *]; done) | (simp only [Int32.not_lt, Int32.not_le] at *; simp [bz, *]; done) | (simp_all [bz]; done) | (simp only [bz_0, bz_n0, ← Int32.not_le] at *; simp_all [bz]; done), by first | rfl | (simp [*]; done) | (simp_all; done)⟩ z0
        · skip
          refine s_Pr_haveJoinedRights_46 ?_
          refine s_Pr_haveJoinedRights_47 ?_
          exact s_Pr_haveJoinedRights_51 (by first | exact Or.inl rfl | exact Or.inr rfl | exact bz_or | assumption) ⟨by first | rfl | (simp [bz, *]; done) | (simp only [← Int32.not_le] at *; simp [bz, *]; done) | (simp only [Int32.not_lt, Int32.not_le] at *; simp [bz, *]; done) | (simp_all [bz]; done) | (simp only [bz_0, bz_n0, ← Int32.not_le] at *; simp_all [bz]; done), by first | rfl | (simp [*]; done) | (simp_all; done)⟩ z0

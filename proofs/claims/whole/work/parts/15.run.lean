/-! perform, and one order run -/
def oGo (L : LT) (I : IT) : OR := (0, L, upI I 4 12 (I 17 3))
def rF (q : OR) : IT := upI (if q.1 = 0 then q.2.2 else upI q.2.2 4 14 q.1) 4 13 ((if q.1 = 0 then q.2.2 else upI q.2.2 4 14 q.1) 4 13 + 1)
theorem rF_0 {q : OR} (h : q.1 = 0) : rF q = upI q.2.2 4 13 (q.2.2 4 13 + 1) := by simp only [rF, if_pos h]
theorem rF_n {q : OR} (h : ¬ q.1 = 0) : rF q = upI (upI q.2.2 4 14 q.1) 4 13 (upI q.2.2 4 14 q.1 4 13 + 1) := by simp only [rF, if_neg h]
set_option maxRecDepth 100000 in
theorem t_perf_0 {G : GW} {L : LT} {I : IT} {r : Nat} {a : Nat} (ea : I 17 3 = nI a) (ha : a < 8) (hop : I 17 2 = 0) : mt G M_Pr_perform 4 0 0 [.ref 17] (hp L I r) (dt (some (.int (oNum L I a).1)) (hp (oNum L I a).2.1 (oNum L I a).2.2 r)) := by
  refine mt_of_ev (by decide) (Nat.le_of_ble_eq_true rfl) ?_
  show ev G M_Pr_perform (rmv 4 0 0) (Er M_Pr_perform _ 0 0) 0 [(0, .ref 17)] [] (hp L I r) 0 0
  refine s_Pr_perform_0 rfl ?_
  refine s_Pr_perform_1 hp_17 rfl ?_
  refine ev_topi (hop) ?_
  refine s_Pr_perform_4_0 ?_
  refine s_Pr_perform_96 rfl ?_
  refine c_Pr_perform_97 (t_Pr_setNumber ea ha) hp_17 rfl (Nat.le_of_ble_eq_true rfl) ?_
  exact s_Pr_perform_100 ⟨rfl, rfl⟩ z0
set_option maxRecDepth 100000 in
theorem t_perf_1 {G : GW} {L : LT} {I : IT} {r : Nat} {a : Nat} (ea : I 17 3 = nI a) (ha : a < 8) {b : Nat} (eb : I 17 4 = nI b) (hb : b < 8) (hlk : vKd (L 5 b) = 2 → lk (L 5 b) < 6) (hop : I 17 2 = 1) : mt G M_Pr_perform 4 0 0 [.ref 17] (hp L I r) (dt (some (.int (oMov L I a b).1)) (hp (oMov L I a b).2.1 (oMov L I a b).2.2 r)) := by
  refine mt_of_ev (by decide) (Nat.le_of_ble_eq_true rfl) ?_
  show ev G M_Pr_perform (rmv 4 0 0) (Er M_Pr_perform _ 0 0) 0 [(0, .ref 17)] [] (hp L I r) 0 0
  refine s_Pr_perform_0 rfl ?_
  refine s_Pr_perform_1 hp_17 rfl ?_
  refine ev_topi (hop) ?_
  refine s_Pr_perform_4_1 ?_
  refine s_Pr_perform_101 rfl ?_
  refine c_Pr_perform_102 (t_Pr_move ea ha eb hb hlk) hp_17 rfl (Nat.le_of_ble_eq_true rfl) ?_
  exact s_Pr_perform_105 ⟨rfl, rfl⟩ z0
set_option maxRecDepth 100000 in
theorem t_perf_2 {G : GW} {L : LT} {I : IT} {r : Nat} {a : Nat} (ea : I 17 3 = nI a) (ha : a < 8) {b : Nat} (eb : I 17 4 = nI b) (hb : b < 8) (hop : I 17 2 = 2) : mt G M_Pr_perform 4 0 0 [.ref 17] (hp L I r) (dt (some (.int (oAdd L I 1 a b).1)) (hp (oAdd L I 1 a b).2.1 (oAdd L I 1 a b).2.2 r)) := by
  refine mt_of_ev (by decide) (Nat.le_of_ble_eq_true rfl) ?_
  show ev G M_Pr_perform (rmv 4 0 0) (Er M_Pr_perform _ 0 0) 0 [(0, .ref 17)] [] (hp L I r) 0 0
  refine s_Pr_perform_0 rfl ?_
  refine s_Pr_perform_1 hp_17 rfl ?_
  refine ev_topi (hop) ?_
  refine s_Pr_perform_4_2 ?_
  refine s_Pr_perform_106 rfl ?_
  refine s_Pr_perform_107 ?_
  refine c_Pr_perform_108 (t_Pr_add ea ha eb hb) hp_17 rfl (Nat.le_of_ble_eq_true rfl) ?_
  exact s_Pr_perform_111 ⟨rfl, rfl⟩ z0
set_option maxRecDepth 100000 in
theorem t_perf_3 {G : GW} {L : LT} {I : IT} {r : Nat} {a : Nat} (ea : I 17 3 = nI a) (ha : a < 8) {b : Nat} (eb : I 17 4 = nI b) (hb : b < 8) (hop : I 17 2 = 3) : mt G M_Pr_perform 4 0 0 [.ref 17] (hp L I r) (dt (some (.int (oAdd L I (-1) a b).1)) (hp (oAdd L I (-1) a b).2.1 (oAdd L I (-1) a b).2.2 r)) := by
  refine mt_of_ev (by decide) (Nat.le_of_ble_eq_true rfl) ?_
  show ev G M_Pr_perform (rmv 4 0 0) (Er M_Pr_perform _ 0 0) 0 [(0, .ref 17)] [] (hp L I r) 0 0
  refine s_Pr_perform_0 rfl ?_
  refine s_Pr_perform_1 hp_17 rfl ?_
  refine ev_topi (hop) ?_
  refine s_Pr_perform_4_3 ?_
  refine s_Pr_perform_112 rfl ?_
  refine s_Pr_perform_113 ?_
  refine c_Pr_perform_114 (t_Pr_add ea ha eb hb) hp_17 rfl (Nat.le_of_ble_eq_true rfl) ?_
  exact s_Pr_perform_117 ⟨rfl, rfl⟩ z0
set_option maxRecDepth 100000 in
theorem t_perf_4 {G : GW} {L : LT} {I : IT} {r : Nat} {a : Nat} (ea : I 17 3 = nI a) (ha : a < 8) {b : Nat} (eb : I 17 4 = nI b) (hb : b < 8) (hop : I 17 2 = 4) : mt G M_Pr_perform 4 0 0 [.ref 17] (hp L I r) (dt (some (.int (oSpl L I a b).1)) (hp (oSpl L I a b).2.1 (oSpl L I a b).2.2 r)) := by
  refine mt_of_ev (by decide) (Nat.le_of_ble_eq_true rfl) ?_
  show ev G M_Pr_perform (rmv 4 0 0) (Er M_Pr_perform _ 0 0) 0 [(0, .ref 17)] [] (hp L I r) 0 0
  refine s_Pr_perform_0 rfl ?_
  refine s_Pr_perform_1 hp_17 rfl ?_
  refine ev_topi (hop) ?_
  refine s_Pr_perform_4_4 ?_
  refine s_Pr_perform_118 rfl ?_
  refine c_Pr_perform_119 (t_Pr_split ea ha eb hb) hp_17 rfl (Nat.le_of_ble_eq_true rfl) ?_
  exact s_Pr_perform_122 ⟨rfl, rfl⟩ z0
set_option maxRecDepth 100000 in
theorem t_perf_5 {G : GW} {L : LT} {I : IT} {r : Nat} {a : Nat} (ea : I 17 3 = nI a) (ha : a < 8) {b : Nat} (eb : I 17 4 = nI b) (hb : b < 8) (hop : I 17 2 = 5) : mt G M_Pr_perform 4 0 0 [.ref 17] (hp L I r) (dt (some (.int (oMer L I a b).1)) (hp (oMer L I a b).2.1 (oMer L I a b).2.2 r)) := by
  refine mt_of_ev (by decide) (Nat.le_of_ble_eq_true rfl) ?_
  show ev G M_Pr_perform (rmv 4 0 0) (Er M_Pr_perform _ 0 0) 0 [(0, .ref 17)] [] (hp L I r) 0 0
  refine s_Pr_perform_0 rfl ?_
  refine s_Pr_perform_1 hp_17 rfl ?_
  refine ev_topi (hop) ?_
  refine s_Pr_perform_4_5 ?_
  refine s_Pr_perform_123 rfl ?_
  refine c_Pr_perform_124 (t_Pr_merge ea ha eb hb) hp_17 rfl (Nat.le_of_ble_eq_true rfl) ?_
  exact s_Pr_perform_127 ⟨rfl, rfl⟩ z0
set_option maxRecDepth 100000 in
theorem t_perf_6 {G : GW} {L : LT} {I : IT} {r : Nat} {a : Nat} (ea : I 17 3 = nI a) (ha : a < 8) {b : Nat} (eb : I 17 4 = nI b) (hb : b < 8) (hop : I 17 2 = 6) : mt G M_Pr_perform 4 0 0 [.ref 17] (hp L I r) (dt (some (.int (oRes L I a b).1)) (hp (oRes L I a b).2.1 (oRes L I a b).2.2 r)) := by
  refine mt_of_ev (by decide) (Nat.le_of_ble_eq_true rfl) ?_
  show ev G M_Pr_perform (rmv 4 0 0) (Er M_Pr_perform _ 0 0) 0 [(0, .ref 17)] [] (hp L I r) 0 0
  refine s_Pr_perform_0 rfl ?_
  refine s_Pr_perform_1 hp_17 rfl ?_
  refine ev_topi (hop) ?_
  refine s_Pr_perform_4_6 ?_
  refine s_Pr_perform_128 rfl ?_
  refine c_Pr_perform_129 (t_Pr_restrict ea ha eb hb) hp_17 rfl (Nat.le_of_ble_eq_true rfl) ?_
  exact s_Pr_perform_132 ⟨rfl, rfl⟩ z0
set_option maxRecDepth 100000 in
theorem t_perf_7 {G : GW} {L : LT} {I : IT} {r : Nat} {a : Nat} (ea : I 17 3 = nI a) (ha : a < 8) (hop : I 17 2 = 7) : mt G M_Pr_perform 4 0 0 [.ref 17] (hp L I r) (dt (some (.int (oFre L I a).1)) (hp (oFre L I a).2.1 (oFre L I a).2.2 r)) := by
  refine mt_of_ev (by decide) (Nat.le_of_ble_eq_true rfl) ?_
  show ev G M_Pr_perform (rmv 4 0 0) (Er M_Pr_perform _ 0 0) 0 [(0, .ref 17)] [] (hp L I r) 0 0
  refine s_Pr_perform_0 rfl ?_
  refine s_Pr_perform_1 hp_17 rfl ?_
  refine ev_topi (hop) ?_
  refine s_Pr_perform_4_7 ?_
  refine s_Pr_perform_133 rfl ?_
  refine c_Pr_perform_134 (t_Pr_freeze ea ha) hp_17 rfl (Nat.le_of_ble_eq_true rfl) ?_
  exact s_Pr_perform_137 ⟨rfl, rfl⟩ z0
set_option maxRecDepth 100000 in
theorem t_perf_8 {G : GW} {L : LT} {I : IT} {r : Nat} {a : Nat} (ea : I 17 3 = nI a) (ha : a < 8) (hlk : vKd (L 5 a) = 2 → lk (L 5 a) < 6) (hop : I 17 2 = 8) : mt G M_Pr_perform 4 0 0 [.ref 17] (hp L I r) (dt (some (.int (oTha L I a).1)) (hp (oTha L I a).2.1 (oTha L I a).2.2 r)) := by
  refine mt_of_ev (by decide) (Nat.le_of_ble_eq_true rfl) ?_
  show ev G M_Pr_perform (rmv 4 0 0) (Er M_Pr_perform _ 0 0) 0 [(0, .ref 17)] [] (hp L I r) 0 0
  refine s_Pr_perform_0 rfl ?_
  refine s_Pr_perform_1 hp_17 rfl ?_
  refine ev_topi (hop) ?_
  refine s_Pr_perform_4_8 ?_
  refine s_Pr_perform_138 rfl ?_
  refine c_Pr_perform_139 (t_Pr_thaw ea ha hlk) hp_17 rfl (Nat.le_of_ble_eq_true rfl) ?_
  exact s_Pr_perform_142 ⟨rfl, rfl⟩ z0
set_option maxRecDepth 100000 in
theorem t_perf_9 {G : GW} {L : LT} {I : IT} {r : Nat} {a : Nat} (ea : I 17 3 = nI a) (ha : a < 8) (hlk : vKd (L 5 a) = 2 → lk (L 5 a) < 6) (hop : I 17 2 = 9) : mt G M_Pr_perform 4 0 0 [.ref 17] (hp L I r) (dt (some (.int (oDro L I a).1)) (hp (oDro L I a).2.1 (oDro L I a).2.2 r)) := by
  refine mt_of_ev (by decide) (Nat.le_of_ble_eq_true rfl) ?_
  show ev G M_Pr_perform (rmv 4 0 0) (Er M_Pr_perform _ 0 0) 0 [(0, .ref 17)] [] (hp L I r) 0 0
  refine s_Pr_perform_0 rfl ?_
  refine s_Pr_perform_1 hp_17 rfl ?_
  refine ev_topi (hop) ?_
  refine s_Pr_perform_4_9 ?_
  refine s_Pr_perform_143 rfl ?_
  refine c_Pr_perform_144 (t_Pr_drop ea ha hlk) hp_17 rfl (Nat.le_of_ble_eq_true rfl) ?_
  exact s_Pr_perform_147 ⟨rfl, rfl⟩ z0
set_option maxRecDepth 100000 in
theorem t_perf_10 {G : GW} {L : LT} {I : IT} {r : Nat} {a : Nat} (ea : I 17 3 = nI a) (ha : a < 8) {b : Nat} (eb : I 17 4 = nI b) (hb : b < 8) {pl : Nat} (hpl : vCap (L 5 b) = true → vIn I (L 5 b) = true → 8 + vFr (L 5 b) + I 17 5 = nI pl ∧ pl < 56) (hlk : vCap (L 5 b) = true → vIn I (L 5 b) = true → vKd (L 5 pl) = 2 → lk (L 5 pl) < 6) (hop : I 17 2 = 10) : mt G M_Pr_perform 4 0 0 [.ref 17] (hp L I r) (dt (some (.int (oLoa L I a b pl).1)) (hp (oLoa L I a b pl).2.1 (oLoa L I a b pl).2.2 r)) := by
  refine mt_of_ev (by decide) (Nat.le_of_ble_eq_true rfl) ?_
  show ev G M_Pr_perform (rmv 4 0 0) (Er M_Pr_perform _ 0 0) 0 [(0, .ref 17)] [] (hp L I r) 0 0
  refine s_Pr_perform_0 rfl ?_
  refine s_Pr_perform_1 hp_17 rfl ?_
  refine ev_topi (hop) ?_
  refine s_Pr_perform_4_10 ?_
  refine s_Pr_perform_148 rfl ?_
  refine c_Pr_perform_149 (t_Pr_load ea ha eb hb hpl hlk) hp_17 rfl (Nat.le_of_ble_eq_true rfl) ?_
  exact s_Pr_perform_152 ⟨rfl, rfl⟩ z0
set_option maxRecDepth 100000 in
theorem t_perf_11 {G : GW} {L : LT} {I : IT} {r : Nat} {a : Nat} (ea : I 17 3 = nI a) (ha : a < 8) {b : Nat} (eb : I 17 4 = nI b) (hb : b < 8) {pl : Nat} (hpl : vCap (L 5 b) = true → vIn I (L 5 b) = true → 8 + vFr (L 5 b) + I 17 5 = nI pl ∧ pl < 56) (hlk : vKd (L 5 a) = 2 → lk (L 5 a) < 6) (hop : I 17 2 = 11) : mt G M_Pr_perform 4 0 0 [.ref 17] (hp L I r) (dt (some (.int (oSto L I a b pl).1)) (hp (oSto L I a b pl).2.1 (oSto L I a b pl).2.2 r)) := by
  refine mt_of_ev (by decide) (Nat.le_of_ble_eq_true rfl) ?_
  show ev G M_Pr_perform (rmv 4 0 0) (Er M_Pr_perform _ 0 0) 0 [(0, .ref 17)] [] (hp L I r) 0 0
  refine s_Pr_perform_0 rfl ?_
  refine s_Pr_perform_1 hp_17 rfl ?_
  refine ev_topi (hop) ?_
  refine s_Pr_perform_4_11 ?_
  refine s_Pr_perform_153 rfl ?_
  refine c_Pr_perform_154 (t_Pr_store ea ha eb hb hpl hlk) hp_17 rfl (Nat.le_of_ble_eq_true rfl) ?_
  exact s_Pr_perform_157 ⟨rfl, rfl⟩ z0
set_option maxRecDepth 100000 in
theorem t_perf_12 {G : GW} {L : LT} {I : IT} {r : Nat}  (hop : I 17 2 = 12) : mt G M_Pr_perform 4 0 0 [.ref 17] (hp L I r) (dt (some (.int (oGo L I).1)) (hp (oGo L I).2.1 (oGo L I).2.2 r)) := by
  refine mt_of_ev (by decide) (Nat.le_of_ble_eq_true rfl) ?_
  show ev G M_Pr_perform (rmv 4 0 0) (Er M_Pr_perform _ 0 0) 0 [(0, .ref 17)] [] (hp L I r) 0 0
  refine s_Pr_perform_0 rfl ?_
  refine s_Pr_perform_1 hp_17 rfl ?_
  refine ev_topi (hop) ?_
  refine s_Pr_perform_4_12 ?_
  refine s_Pr_perform_158 rfl ?_
  refine s_Pr_perform_159 rfl ?_
  refine s_Pr_perform_160 hp_17 rfl ?_
  refine c_Pr_perform_163 (t_Pr_goOnAt) hp_17 rfl (Nat.le_of_ble_eq_true rfl) ?_
  exact s_Pr_perform_166 ⟨rfl, rfl⟩ z0
set_option maxRecDepth 100000 in
theorem t_perf_13 {G : GW} {L : LT} {I : IT} {r : Nat} {a : Nat} (ea : I 17 3 = nI a) (ha : a < 8) (hop : I 17 2 = 13) : mt G M_Pr_perform 4 0 0 [.ref 17] (hp L I r) (dt (some (.int (oZer L I a).1)) (hp (oZer L I a).2.1 (oZer L I a).2.2 r)) := by
  refine mt_of_ev (by decide) (Nat.le_of_ble_eq_true rfl) ?_
  show ev G M_Pr_perform (rmv 4 0 0) (Er M_Pr_perform _ 0 0) 0 [(0, .ref 17)] [] (hp L I r) 0 0
  refine s_Pr_perform_0 rfl ?_
  refine s_Pr_perform_1 hp_17 rfl ?_
  refine ev_topi (hop) ?_
  refine s_Pr_perform_4_13 ?_
  refine s_Pr_perform_167 rfl ?_
  refine c_Pr_perform_168 (t_Pr_jumpIfZero ea ha) hp_17 rfl (Nat.le_of_ble_eq_true rfl) ?_
  exact s_Pr_perform_171 ⟨rfl, rfl⟩ z0
set_option maxRecDepth 100000 in
theorem t_perf_14 {G : GW} {L : LT} {I : IT} {r : Nat} {a : Nat} (ea : I 17 3 = nI a) (ha : a < 8) {b : Nat} (eb : I 17 4 = nI b) (hb : b < 8) (hop : I 17 2 = 14) : mt G M_Pr_perform 4 0 0 [.ref 17] (hp L I r) (dt (some (.int (oLes L I a b).1)) (hp (oLes L I a b).2.1 (oLes L I a b).2.2 r)) := by
  refine mt_of_ev (by decide) (Nat.le_of_ble_eq_true rfl) ?_
  show ev G M_Pr_perform (rmv 4 0 0) (Er M_Pr_perform _ 0 0) 0 [(0, .ref 17)] [] (hp L I r) 0 0
  refine s_Pr_perform_0 rfl ?_
  refine s_Pr_perform_1 hp_17 rfl ?_
  refine ev_topi (hop) ?_
  refine s_Pr_perform_4_14 ?_
  refine s_Pr_perform_172 rfl ?_
  refine c_Pr_perform_173 (t_Pr_jumpIfLess ea ha eb hb) hp_17 rfl (Nat.le_of_ble_eq_true rfl) ?_
  exact s_Pr_perform_176 ⟨rfl, rfl⟩ z0
set_option maxRecDepth 100000 in
theorem t_perf_15 {G : GW} {L : LT} {I : IT} {r : Nat} {a : Nat} (ea : I 17 3 = nI a) (ha : a < 8) (hop : I 17 2 = 15) : mt G M_Pr_perform 4 0 0 [.ref 17] (hp L I r) (dt (some (.int (oSea L I a).1)) (hp (oSea L I a).2.1 (oSea L I a).2.2 r)) := by
  refine mt_of_ev (by decide) (Nat.le_of_ble_eq_true rfl) ?_
  show ev G M_Pr_perform (rmv 4 0 0) (Er M_Pr_perform _ 0 0) 0 [(0, .ref 17)] [] (hp L I r) 0 0
  refine s_Pr_perform_0 rfl ?_
  refine s_Pr_perform_1 hp_17 rfl ?_
  refine ev_topi (hop) ?_
  refine s_Pr_perform_4_15 ?_
  refine s_Pr_perform_177 rfl ?_
  refine c_Pr_perform_178 (t_Pr_seal ea ha) hp_17 rfl (Nat.le_of_ble_eq_true rfl) ?_
  exact s_Pr_perform_181 ⟨rfl, rfl⟩ z0
set_option maxRecDepth 100000 in
theorem t_perf_16 {G : GW} {L : LT} {I : IT} {r : Nat} {a : Nat} (ea : I 17 3 = nI a) (ha : a < 8) (hlk : vKd (L 5 a) = 3 → lk (L 5 a) < 6) {dp : Nat} (ed : I 4 10 = nI dp) (hd : dp ≤ 5) (hop : I 17 2 = 16) : mt G M_Pr_perform 4 0 0 [.ref 17] (hp L I r) (dt (some (.int (oCal L I a dp).1)) (hp (oCal L I a dp).2.1 (oCal L I a dp).2.2 r)) := by
  refine mt_of_ev (by decide) (Nat.le_of_ble_eq_true rfl) ?_
  show ev G M_Pr_perform (rmv 4 0 0) (Er M_Pr_perform _ 0 0) 0 [(0, .ref 17)] [] (hp L I r) 0 0
  refine s_Pr_perform_0 rfl ?_
  refine s_Pr_perform_1 hp_17 rfl ?_
  refine ev_topi (hop) ?_
  refine s_Pr_perform_4_16 ?_
  refine s_Pr_perform_182 rfl ?_
  refine c_Pr_perform_183 (t_Pr_call ea ha hlk ed hd) hp_17 rfl (Nat.le_of_ble_eq_true rfl) ?_
  exact s_Pr_perform_186 ⟨rfl, rfl⟩ z0
set_option maxRecDepth 100000 in
theorem t_perf_17 {G : GW} {L : LT} {I : IT} {r : Nat} {f g k : Nat} (ed : I 4 10 = nI (f + 1)) (hf : f < 5) (eg : I 13 f = nI g) (hg : g < 6) (ek : I 14 f = nI k) (hk : k ≤ 6) (hop : I 17 2 = 17) : mt G M_Pr_perform 4 0 0 [.ref 17] (hp L I r) (dt (some (.int (oRet L I f g k).1)) (hp (oRet L I f g k).2.1 (oRet L I f g k).2.2 r)) := by
  refine mt_of_ev (by decide) (Nat.le_of_ble_eq_true rfl) ?_
  show ev G M_Pr_perform (rmv 4 0 0) (Er M_Pr_perform _ 0 0) 0 [(0, .ref 17)] [] (hp L I r) 0 0
  refine s_Pr_perform_0 rfl ?_
  refine s_Pr_perform_1 hp_17 rfl ?_
  refine ev_topi (hop) ?_
  refine s_Pr_perform_4_17 ?_
  refine s_Pr_perform_187 rfl ?_
  refine c_Pr_perform_188 (t_Pr_comeBack ed hf eg hg ek hk) hp_17 rfl (Nat.le_of_ble_eq_true rfl) ?_
  exact s_Pr_perform_191 ⟨rfl, rfl⟩ z0
set_option maxRecDepth 100000 in
theorem t_perf_170 {G : GW} {L : LT} {I : IT} {r : Nat} (ed : I 4 10 = 0) (hop : I 17 2 = 17) : mt G M_Pr_perform 4 0 0 [.ref 17] (hp L I r) (dt (some (.int 8)) (hp L I r)) := by
  refine mt_of_ev (by decide) (Nat.le_of_ble_eq_true rfl) ?_
  show ev G M_Pr_perform (rmv 4 0 0) (Er M_Pr_perform _ 0 0) 0 [(0, .ref 17)] [] (hp L I r) 0 0
  refine s_Pr_perform_0 rfl ?_
  refine s_Pr_perform_1 hp_17 rfl ?_
  refine ev_topi (hop) ?_
  refine s_Pr_perform_4_17 ?_
  refine s_Pr_perform_187 rfl ?_
  refine c_Pr_perform_188 (t_Pr_comeBack0 ed) hp_17 rfl (Nat.le_of_ble_eq_true rfl) ?_
  exact s_Pr_perform_191 ⟨rfl, rfl⟩ z0
set_option maxRecDepth 100000 in
theorem t_perf_18 {G : GW} {L : LT} {I : IT} {r : Nat}  (hop : I 17 2 = 18) : mt G M_Pr_perform 4 0 0 [.ref 17] (hp L I r) (dt (some (.int (oHal L I).1)) (hp (oHal L I).2.1 (oHal L I).2.2 r)) := by
  refine mt_of_ev (by decide) (Nat.le_of_ble_eq_true rfl) ?_
  show ev G M_Pr_perform (rmv 4 0 0) (Er M_Pr_perform _ 0 0) 0 [(0, .ref 17)] [] (hp L I r) 0 0
  refine s_Pr_perform_0 rfl ?_
  refine s_Pr_perform_1 hp_17 rfl ?_
  refine ev_topi (hop) ?_
  refine s_Pr_perform_4_18 ?_
  refine s_Pr_perform_192 rfl ?_
  refine c_Pr_perform_193 (t_Pr_halt) hp_17 rfl (Nat.le_of_ble_eq_true rfl) ?_
  exact s_Pr_perform_196 ⟨rfl, rfl⟩ z0
set_option maxRecDepth 100000 in
theorem t_runOne {G : GW} {L : LT} {I : IT} {r : Nat} {m : Nat} (em : I 4 11 = nI m) (hm : m < 3) (hs : I 3 m ≤ 24) (hG : G.2.2.2.2[0]? = some (.int, 19, nmd)) (hh : hasO I m (I 4 12) = true) (hw : wfm (fI I m) = true) {q : OR} (hq : mt G M_Pr_perform 4 0 0 [.ref 17] (hp L (fI I m) r) (dt (some (.int q.1)) (hp q.2.1 q.2.2 r))) : mt G M_Pr_runOne 5 0 0 [.ref 17] (hp L I r) (dt (none) (hp q.2.1 (rF q) r)) := by
  refine mt_of_ev (by decide) (Nat.le_of_ble_eq_true rfl) ?_
  show ev G M_Pr_runOne (rmv 5 0 0) (Er M_Pr_runOne _ 0 0) 0 [(0, .ref 17)] [] (hp L I r) 0 0
  refine s_Pr_runOne_0 rfl ?_
  refine c_Pr_runOne_1 (t_Pr_fetch em hm hs) hp_17 rfl (Nat.le_of_ble_eq_true rfl) ?_
  refine s_Pr_runOne_4 (fun c4 => absurd c4 (by rw [bz_n0]; exact hh)) (fun c4 => ?_)
  refine s_Pr_runOne_7 rfl ?_
  refine c_Pr_runOne_8 (t_Pr_isWellFormed hG) hp_17 rfl (Nat.le_of_ble_eq_true rfl) ?_
  refine s_Pr_runOne_11 (fun c11 => absurd c11 (by rw [bz_n0]; exact hw)) (fun c11 => ?_)
  refine s_Pr_runOne_14 rfl ?_
  refine c_Pr_runOne_15 (hq) hp_17 rfl (Nat.le_of_ble_eq_true rfl) ?_
  refine s_Pr_runOne_18 ?_
  refine s_Pr_runOne_22 ?_
  refine s_Pr_runOne_23 rfl ?_
  refine s_Pr_runOne_24 (fun c24 => ?_) (fun c24 => ?_)
  · skip
    refine s_Pr_runOne_35 rfl ?_
    refine s_Pr_runOne_36 hp_17 rfl ?_
    refine s_Pr_runOne_39 rfl ?_
    refine s_Pr_runOne_40 hp_4 rfl ?_
    refine s_Pr_runOne_43 ?_
    refine s_Pr_runOne_44 ?_
    refine s_Pr_runOne_45 hp_4 (Nat.le_of_ble_eq_true rfl) ?_
    rw [hu_4_13]
    exact s_Pr_runOne_48 ⟨rfl, by first | (rw [rF_0 c24]; rfl) | (rw [rF_n c24]; rfl)⟩ z0
  · skip
    refine s_Pr_runOne_27 rfl ?_
    refine s_Pr_runOne_28 hp_17 rfl ?_
    refine s_Pr_runOne_31 rfl ?_
    refine s_Pr_runOne_32 hp_4 (Nat.le_of_ble_eq_true rfl) ?_
    rw [hu_4_14]
    refine s_Pr_runOne_35 rfl ?_
    refine s_Pr_runOne_36 hp_17 rfl ?_
    refine s_Pr_runOne_39 rfl ?_
    refine s_Pr_runOne_40 hp_4 rfl ?_
    refine s_Pr_runOne_43 ?_
    refine s_Pr_runOne_44 ?_
    refine s_Pr_runOne_45 hp_4 (Nat.le_of_ble_eq_true rfl) ?_
    rw [hu_4_13]
    exact s_Pr_runOne_48 ⟨rfl, by first | (rw [rF_0 c24]; rfl) | (rw [rF_n c24]; rfl)⟩ z0
set_option maxRecDepth 100000 in
theorem t_runOne_none {G : GW} {L : LT} {I : IT} {r : Nat} {m : Nat} (em : I 4 11 = nI m) (hm : m < 3) (hs : I 3 m ≤ 24) (hG : G.2.2.2.2[0]? = some (.int, 19, nmd)) (hh : hasO I m (I 4 12) = false) : mt G M_Pr_runOne 5 0 0 [.ref 17] (hp L I r) (dt (none) (hp L (rF (5, L, fI I m)) r)) := by
  refine mt_of_ev (by decide) (Nat.le_of_ble_eq_true rfl) ?_
  show ev G M_Pr_runOne (rmv 5 0 0) (Er M_Pr_runOne _ 0 0) 0 [(0, .ref 17)] [] (hp L I r) 0 0
  refine s_Pr_runOne_0 rfl ?_
  refine c_Pr_runOne_1 (t_Pr_fetch em hm hs) hp_17 rfl (Nat.le_of_ble_eq_true rfl) ?_
  refine s_Pr_runOne_4 (fun c4 => ?_) (fun c4 => absurd c4 (by rw [hh]; exact fun q => q rfl))
  refine s_Pr_runOne_21 ?_
  refine s_Pr_runOne_22 ?_
  refine s_Pr_runOne_23 rfl ?_
  refine s_Pr_runOne_24 (fun c24 => absurd c24 (by decide)) (fun c24 => ?_)
  refine s_Pr_runOne_27 rfl ?_
  refine s_Pr_runOne_28 hp_17 rfl ?_
  refine s_Pr_runOne_31 rfl ?_
  refine s_Pr_runOne_32 hp_4 (Nat.le_of_ble_eq_true rfl) ?_
  rw [hu_4_14]
  refine s_Pr_runOne_35 rfl ?_
  refine s_Pr_runOne_36 hp_17 rfl ?_
  refine s_Pr_runOne_39 rfl ?_
  refine s_Pr_runOne_40 hp_4 rfl ?_
  refine s_Pr_runOne_43 ?_
  refine s_Pr_runOne_44 ?_
  refine s_Pr_runOne_45 hp_4 (Nat.le_of_ble_eq_true rfl) ?_
  rw [hu_4_13]
  exact s_Pr_runOne_48 ⟨rfl, rfl⟩ z0
set_option maxRecDepth 100000 in
theorem t_runOne_bad {G : GW} {L : LT} {I : IT} {r : Nat} {m : Nat} (em : I 4 11 = nI m) (hm : m < 3) (hs : I 3 m ≤ 24) (hG : G.2.2.2.2[0]? = some (.int, 19, nmd)) (hh : hasO I m (I 4 12) = true) (hw : wfm (fI I m) = false) : mt G M_Pr_runOne 5 0 0 [.ref 17] (hp L I r) (dt (none) (hp L (rF (5, L, fI I m)) r)) := by
  refine mt_of_ev (by decide) (Nat.le_of_ble_eq_true rfl) ?_
  show ev G M_Pr_runOne (rmv 5 0 0) (Er M_Pr_runOne _ 0 0) 0 [(0, .ref 17)] [] (hp L I r) 0 0
  refine s_Pr_runOne_0 rfl ?_
  refine c_Pr_runOne_1 (t_Pr_fetch em hm hs) hp_17 rfl (Nat.le_of_ble_eq_true rfl) ?_
  refine s_Pr_runOne_4 (fun c4 => absurd c4 (by rw [bz_n0]; exact hh)) (fun c4 => ?_)
  refine s_Pr_runOne_7 rfl ?_
  refine c_Pr_runOne_8 (t_Pr_isWellFormed hG) hp_17 rfl (Nat.le_of_ble_eq_true rfl) ?_
  refine s_Pr_runOne_11 (fun c11 => ?_) (fun c11 => absurd c11 (by rw [hw]; exact fun q => q rfl))
  refine s_Pr_runOne_21 ?_
  refine s_Pr_runOne_22 ?_
  refine s_Pr_runOne_23 rfl ?_
  refine s_Pr_runOne_24 (fun c24 => absurd c24 (by decide)) (fun c24 => ?_)
  refine s_Pr_runOne_27 rfl ?_
  refine s_Pr_runOne_28 hp_17 rfl ?_
  refine s_Pr_runOne_31 rfl ?_
  refine s_Pr_runOne_32 hp_4 (Nat.le_of_ble_eq_true rfl) ?_
  rw [hu_4_14]
  refine s_Pr_runOne_35 rfl ?_
  refine s_Pr_runOne_36 hp_17 rfl ?_
  refine s_Pr_runOne_39 rfl ?_
  refine s_Pr_runOne_40 hp_4 rfl ?_
  refine s_Pr_runOne_43 ?_
  refine s_Pr_runOne_44 ?_
  refine s_Pr_runOne_45 hp_4 (Nat.le_of_ble_eq_true rfl) ?_
  rw [hu_4_13]
  exact s_Pr_runOne_48 ⟨rfl, rfl⟩ z0

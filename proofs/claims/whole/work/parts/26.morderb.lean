set_option maxHeartbeats 4000000 in
set_option maxRecDepth 100000 in
theorem t_ordb_4 {G : GW} {L : LT} {I : IT} {r : Nat} {m x : Nat} (em : I 1000 13 = nI m) (hm : m < 3) (ex : I 1000 14 = nI x) (hx : x < 24) (hlt : nI x < I 1001 m) {p q c : Int32} (ho : I 1002 (96 * m + 4 * x) = 4) (e1 : I 1002 (96 * m + 4 * x + 1) = p) (e2 : I 1002 (96 * m + 4 * x + 2) = q) (e3 : I 1002 (96 * m + 4 * x + 3) = c) (hbad : (inz p 0 7 && inz q 0 7) = false) : mt G M_Mo_order 5 0 0 [.ref 1000] (hp L I r) (dt (none) (hp L (mQ 4 (5, mD I)) r)) := by
  refine mt_of_ev (by decide) (Nat.le_of_ble_eq_true rfl) ?_
  show ev G M_Mo_order (rmv 5 0 0) (Er M_Mo_order _ 0 0) 0 [(0, .ref 1000)] [] (hp L I r) 0 0
  refine s_Mo_order_0 rfl ?_
  refine s_Mo_order_1 rfl ?_
  refine s_Mo_order_2 hp_1000 rfl ?_
  refine s_Mo_order_5 ?_
  refine s_Mo_order_6 ?_
  refine s_Mo_order_7 hp_1000 (Nat.le_of_ble_eq_true rfl) ?_
  rw [hu_1000_16]
  refine s_Mo_order_10 ?_
  refine s_Mo_order_12 rfl ?_
  refine s_Mo_order_13 hp_1000 rfl ?_
  refine ev_topi em ?_
  refine s_Mo_order_16 ?_
  refine s_Mo_order_17 ?_
  refine s_Mo_order_18 rfl ?_
  refine s_Mo_order_19 hp_1000 rfl ?_
  refine ev_topi ex ?_
  refine s_Mo_order_22 ?_
  refine s_Mo_order_23 ?_
  rw [idxM]
  refine s_Mo_order_24 ?_
  refine s_Mo_order_25 rfl ?_
  refine s_Mo_order_26 hp_1000 rfl ?_
  refine ev_topi ex ?_
  refine s_Mo_order_29 (fun c29 => absurd c29 (nI_pos (by omega))) (fun c29 => ?_)
  refine s_Mo_order_32 rfl ?_
  refine s_Mo_order_33 hp_1000 rfl ?_
  refine ev_topi ex ?_
  refine s_Mo_order_36 rfl ?_
  refine s_Mo_order_37 hp_1000 rfl ?_
  refine s_Mo_order_40 rfl ?_
  refine s_Mo_order_41 hp_1000 rfl ?_
  refine ev_topi em ?_
  refine s_Mo_order_44 hp_1001 (vp_in_nI (by omega) (by decide)) ?_
  rw [nI_clamp (by omega)]
  refine s_Mo_order_45 (fun c45 => absurd c45 (Int32.not_le.mpr hlt)) (fun c45 => ?_)
  refine s_Mo_order_48 ?_
  refine s_Mo_order_49 ?_
  refine s_Mo_order_53 ?_
  refine s_Mo_order_54 rfl ?_
  refine s_Mo_order_55 (fun c55 => absurd c55 (by decide)) (fun c55 => ?_)
  refine s_Mo_order_58 rfl ?_
  refine s_Mo_order_59 hp_1000 rfl ?_
  refine s_Mo_order_62 rfl ?_
  refine s_Mo_order_63 hp_1002 (vp_in_nI (by omega) (by decide)) ?_
  rw [nI_clamp (by omega)]
  refine ev_topi ho ?_
  refine s_Mo_order_64 ?_
  refine s_Mo_order_68 ?_
  refine s_Mo_order_69 rfl ?_
  refine s_Mo_order_70 (fun c70 => absurd c70 (by decide)) (fun c70 => ?_)
  refine s_Mo_order_73 rfl ?_
  refine s_Mo_order_74 hp_1000 rfl ?_
  refine s_Mo_order_77 rfl ?_
  refine s_Mo_order_78 ?_
  refine s_Mo_order_79 ?_
  refine ev_topi (nI_add _ 1) ?_
  refine s_Mo_order_80 hp_1002 (vp_in_nI (by omega) (by decide)) ?_
  rw [nI_clamp (by omega)]
  refine ev_topi e1 ?_
  refine s_Mo_order_81 ?_
  refine s_Mo_order_85 ?_
  refine s_Mo_order_87 rfl ?_
  refine s_Mo_order_88 (fun c88 => absurd c88 (by decide)) (fun c88 => ?_)
  refine s_Mo_order_91 rfl ?_
  refine s_Mo_order_92 hp_1000 rfl ?_
  refine s_Mo_order_95 rfl ?_
  refine s_Mo_order_96 ?_
  refine s_Mo_order_97 ?_
  refine ev_topi (nI_add _ 2) ?_
  refine s_Mo_order_98 hp_1002 (vp_in_nI (by omega) (by decide)) ?_
  rw [nI_clamp (by omega)]
  refine ev_topi e2 ?_
  refine s_Mo_order_99 ?_
  refine s_Mo_order_103 ?_
  refine s_Mo_order_105 rfl ?_
  refine s_Mo_order_106 (fun c106 => absurd c106 (by decide)) (fun c106 => ?_)
  refine s_Mo_order_109 rfl ?_
  refine s_Mo_order_110 hp_1000 rfl ?_
  refine s_Mo_order_113 rfl ?_
  refine s_Mo_order_114 ?_
  refine s_Mo_order_115 ?_
  refine ev_topi (nI_add _ 3) ?_
  refine s_Mo_order_116 hp_1002 (vp_in_nI (by omega) (by decide)) ?_
  rw [nI_clamp (by omega)]
  refine ev_topi e3 ?_
  refine s_Mo_order_117 ?_
  refine s_Mo_order_121 ?_
  refine s_Mo_order_123 rfl ?_
  refine s_Mo_order_124 ?_
  refine s_Mo_order_125 ?_
  refine c_Mo_order_127 (t_Mo_in) (Nat.le_of_ble_eq_true rfl) ?_
  refine s_Mo_order_130 (fun c130 => absurd c130 (by decide)) (fun c130 => ?_)
  refine s_Mo_order_133 rfl ?_
  refine s_Mo_order_134 ?_
  refine s_Mo_order_136 (fun c136 => absurd c136 (by decide)) (fun c136 => ?_)
  refine s_Mo_order_139 ?_
  refine s_Mo_order_140 ?_
  refine s_Mo_order_144 ?_
  refine s_Mo_order_146 rfl ?_
  refine s_Mo_order_147 ?_
  refine s_Mo_order_148 ?_
  refine c_Mo_order_150 (t_Mo_in) (Nat.le_of_ble_eq_true rfl) ?_
  refine s_Mo_order_153 (fun c153 => ?_) (fun c153 => absurd c153 (by decide))
  refine s_Mo_order_174 ?_
  refine s_Mo_order_175 ?_
  refine s_Mo_order_179 ?_
  refine s_Mo_order_181 rfl ?_
  refine s_Mo_order_182 ?_
  refine s_Mo_order_183 ?_
  refine c_Mo_order_185 (t_Mo_in) (Nat.le_of_ble_eq_true rfl) ?_
  refine s_Mo_order_188 (fun c188 => absurd c188 (by decide)) (fun c188 => ?_)
  refine s_Mo_order_191 rfl ?_
  refine s_Mo_order_193 (fun c193 => absurd c193 (by decide)) (fun c193 => ?_)
  refine s_Mo_order_196 rfl ?_
  refine s_Mo_order_198 ?_
  refine s_Mo_order_199 ?_
  refine c_Mo_order_201 (t_Mo_in) (Nat.le_of_ble_eq_true rfl) ?_
  refine s_Mo_order_204 (fun c204 => ?_) (fun c204 => ?_)
  · skip
    (first | rw [bz_n0] at c204 | rw [bz_0] at c204 | skip); (try simp only [Bool.not_eq_false', Bool.not_eq_true', decide_eq_true_eq, decide_eq_false_iff_not, Bool.or_eq_true, Bool.or_eq_false_iff, Bool.and_eq_true, Bool.and_eq_false_iff] at c204)
    refine s_Mo_order_267 ?_
    refine s_Mo_order_268 ?_
    refine s_Mo_order_272 ?_
    refine s_Mo_order_274 rfl ?_
    refine s_Mo_order_276 (fun c276 => absurd c276 (by decide)) (fun c276 => ?_)
    refine s_Mo_order_279 ?_
    refine s_Mo_order_280 ?_
    refine s_Mo_order_426 ?_
    refine s_Mo_order_428 rfl ?_
    refine s_Mo_order_429 rfl ?_
    refine s_Mo_order_431 hp_1000 (Nat.le_of_ble_eq_true rfl) ?_
    rw [hu_1000_15]
    refine s_Mo_order_434 rfl ?_
    refine s_Mo_order_435 rfl ?_
    refine s_Mo_order_437 (fun c437 => ?_) (fun c437 => absurd c437 (by decide))
    refine s_Mo_order_452 rfl ?_
    refine s_Mo_order_453 hp_1000 rfl ?_
    refine s_Mo_order_456 ?_
    refine s_Mo_order_465 hp_1000 (Nat.le_of_ble_eq_true rfl) ?_
    rw [hu_1000_14]
    exact s_Mo_order_468 ⟨rfl, by rw [i5]; rfl⟩ z0
  · skip
    (first | rw [bz_n0] at c204 | rw [bz_0] at c204 | skip); (try simp only [Bool.not_eq_false', Bool.not_eq_true', decide_eq_true_eq, decide_eq_false_iff_not, Bool.or_eq_true, Bool.or_eq_false_iff, Bool.and_eq_true, Bool.and_eq_false_iff] at c204)
    refine s_Mo_order_207 rfl ?_
    refine s_Mo_order_209 (fun c209 => absurd c209 (by decide)) (fun c209 => ?_)
    refine s_Mo_order_212 rfl ?_
    refine s_Mo_order_214 ?_
    refine s_Mo_order_215 ?_
    refine c_Mo_order_217 (t_Mo_in) (Nat.le_of_ble_eq_true rfl) ?_
    refine s_Mo_order_220 (fun c220 => ?_) (fun c220 => absurd c220 (fun h => h (by rw [show inz p 0 7 = true from c204] at hbad; rw [bz_0]; simpa using hbad)))
    refine s_Mo_order_267 ?_
    refine s_Mo_order_268 ?_
    refine s_Mo_order_272 ?_
    refine s_Mo_order_274 rfl ?_
    refine s_Mo_order_276 (fun c276 => absurd c276 (by decide)) (fun c276 => ?_)
    refine s_Mo_order_279 ?_
    refine s_Mo_order_280 ?_
    refine s_Mo_order_426 ?_
    refine s_Mo_order_428 rfl ?_
    refine s_Mo_order_429 rfl ?_
    refine s_Mo_order_431 hp_1000 (Nat.le_of_ble_eq_true rfl) ?_
    rw [hu_1000_15]
    refine s_Mo_order_434 rfl ?_
    refine s_Mo_order_435 rfl ?_
    refine s_Mo_order_437 (fun c437 => ?_) (fun c437 => absurd c437 (by decide))
    refine s_Mo_order_452 rfl ?_
    refine s_Mo_order_453 hp_1000 rfl ?_
    refine s_Mo_order_456 ?_
    refine s_Mo_order_465 hp_1000 (Nat.le_of_ble_eq_true rfl) ?_
    rw [hu_1000_14]
    exact s_Mo_order_468 ⟨rfl, by rw [i5]; rfl⟩ z0
set_option maxHeartbeats 4000000 in
set_option maxRecDepth 100000 in
theorem t_ord_5 {G : GW} {L : LT} {I : IT} {r : Nat} {m x : Nat} (em : I 1000 13 = nI m) (hm : m < 3) (ex : I 1000 14 = nI x) (hx : x < 24) (hlt : nI x < I 1001 m) {p q c : Int32} (ho : I 1002 (96 * m + 4 * x) = 5) (e1 : I 1002 (96 * m + 4 * x + 1) = p) (e2 : I 1002 (96 * m + 4 * x + 2) = q) (e3 : I 1002 (96 * m + 4 * x + 3) = c) (ha : inz p 0 7 = true) (hb : inz q 0 7 = true) {w : MR} (hq : mt G M_Mo_ranges 3 0 0 [.ref 1000, .int 5, .int p, .int q, .int c] (hp L (mD I) r) (dt (some (.int w.1)) (hp L w.2 r))) : mt G M_Mo_order 5 0 0 [.ref 1000] (hp L I r) (dt (none) (hp L (mQ 5 w) r)) := by
  refine mt_of_ev (by decide) (Nat.le_of_ble_eq_true rfl) ?_
  show ev G M_Mo_order (rmv 5 0 0) (Er M_Mo_order _ 0 0) 0 [(0, .ref 1000)] [] (hp L I r) 0 0
  refine s_Mo_order_0 rfl ?_
  refine s_Mo_order_1 rfl ?_
  refine s_Mo_order_2 hp_1000 rfl ?_
  refine s_Mo_order_5 ?_
  refine s_Mo_order_6 ?_
  refine s_Mo_order_7 hp_1000 (Nat.le_of_ble_eq_true rfl) ?_
  rw [hu_1000_16]
  refine s_Mo_order_10 ?_
  refine s_Mo_order_12 rfl ?_
  refine s_Mo_order_13 hp_1000 rfl ?_
  refine ev_topi em ?_
  refine s_Mo_order_16 ?_
  refine s_Mo_order_17 ?_
  refine s_Mo_order_18 rfl ?_
  refine s_Mo_order_19 hp_1000 rfl ?_
  refine ev_topi ex ?_
  refine s_Mo_order_22 ?_
  refine s_Mo_order_23 ?_
  rw [idxM]
  refine s_Mo_order_24 ?_
  refine s_Mo_order_25 rfl ?_
  refine s_Mo_order_26 hp_1000 rfl ?_
  refine ev_topi ex ?_
  refine s_Mo_order_29 (fun c29 => absurd c29 (nI_pos (by omega))) (fun c29 => ?_)
  refine s_Mo_order_32 rfl ?_
  refine s_Mo_order_33 hp_1000 rfl ?_
  refine ev_topi ex ?_
  refine s_Mo_order_36 rfl ?_
  refine s_Mo_order_37 hp_1000 rfl ?_
  refine s_Mo_order_40 rfl ?_
  refine s_Mo_order_41 hp_1000 rfl ?_
  refine ev_topi em ?_
  refine s_Mo_order_44 hp_1001 (vp_in_nI (by omega) (by decide)) ?_
  rw [nI_clamp (by omega)]
  refine s_Mo_order_45 (fun c45 => absurd c45 (Int32.not_le.mpr hlt)) (fun c45 => ?_)
  refine s_Mo_order_48 ?_
  refine s_Mo_order_49 ?_
  refine s_Mo_order_53 ?_
  refine s_Mo_order_54 rfl ?_
  refine s_Mo_order_55 (fun c55 => absurd c55 (by decide)) (fun c55 => ?_)
  refine s_Mo_order_58 rfl ?_
  refine s_Mo_order_59 hp_1000 rfl ?_
  refine s_Mo_order_62 rfl ?_
  refine s_Mo_order_63 hp_1002 (vp_in_nI (by omega) (by decide)) ?_
  rw [nI_clamp (by omega)]
  refine ev_topi ho ?_
  refine s_Mo_order_64 ?_
  refine s_Mo_order_68 ?_
  refine s_Mo_order_69 rfl ?_
  refine s_Mo_order_70 (fun c70 => absurd c70 (by decide)) (fun c70 => ?_)
  refine s_Mo_order_73 rfl ?_
  refine s_Mo_order_74 hp_1000 rfl ?_
  refine s_Mo_order_77 rfl ?_
  refine s_Mo_order_78 ?_
  refine s_Mo_order_79 ?_
  refine ev_topi (nI_add _ 1) ?_
  refine s_Mo_order_80 hp_1002 (vp_in_nI (by omega) (by decide)) ?_
  rw [nI_clamp (by omega)]
  refine ev_topi e1 ?_
  refine s_Mo_order_81 ?_
  refine s_Mo_order_85 ?_
  refine s_Mo_order_87 rfl ?_
  refine s_Mo_order_88 (fun c88 => absurd c88 (by decide)) (fun c88 => ?_)
  refine s_Mo_order_91 rfl ?_
  refine s_Mo_order_92 hp_1000 rfl ?_
  refine s_Mo_order_95 rfl ?_
  refine s_Mo_order_96 ?_
  refine s_Mo_order_97 ?_
  refine ev_topi (nI_add _ 2) ?_
  refine s_Mo_order_98 hp_1002 (vp_in_nI (by omega) (by decide)) ?_
  rw [nI_clamp (by omega)]
  refine ev_topi e2 ?_
  refine s_Mo_order_99 ?_
  refine s_Mo_order_103 ?_
  refine s_Mo_order_105 rfl ?_
  refine s_Mo_order_106 (fun c106 => absurd c106 (by decide)) (fun c106 => ?_)
  refine s_Mo_order_109 rfl ?_
  refine s_Mo_order_110 hp_1000 rfl ?_
  refine s_Mo_order_113 rfl ?_
  refine s_Mo_order_114 ?_
  refine s_Mo_order_115 ?_
  refine ev_topi (nI_add _ 3) ?_
  refine s_Mo_order_116 hp_1002 (vp_in_nI (by omega) (by decide)) ?_
  rw [nI_clamp (by omega)]
  refine ev_topi e3 ?_
  refine s_Mo_order_117 ?_
  refine s_Mo_order_121 ?_
  refine s_Mo_order_123 rfl ?_
  refine s_Mo_order_124 ?_
  refine s_Mo_order_125 ?_
  refine c_Mo_order_127 (t_Mo_in) (Nat.le_of_ble_eq_true rfl) ?_
  refine s_Mo_order_130 (fun c130 => absurd c130 (by decide)) (fun c130 => ?_)
  refine s_Mo_order_133 rfl ?_
  refine s_Mo_order_134 ?_
  refine s_Mo_order_136 (fun c136 => absurd c136 (by decide)) (fun c136 => ?_)
  refine s_Mo_order_139 ?_
  refine s_Mo_order_140 ?_
  refine s_Mo_order_144 ?_
  refine s_Mo_order_146 rfl ?_
  refine s_Mo_order_147 ?_
  refine s_Mo_order_148 ?_
  refine c_Mo_order_150 (t_Mo_in) (Nat.le_of_ble_eq_true rfl) ?_
  refine s_Mo_order_153 (fun c153 => ?_) (fun c153 => absurd c153 (by decide))
  refine s_Mo_order_174 ?_
  refine s_Mo_order_175 ?_
  refine s_Mo_order_179 ?_
  refine s_Mo_order_181 rfl ?_
  refine s_Mo_order_182 ?_
  refine s_Mo_order_183 ?_
  refine c_Mo_order_185 (t_Mo_in) (Nat.le_of_ble_eq_true rfl) ?_
  refine s_Mo_order_188 (fun c188 => absurd c188 (by decide)) (fun c188 => ?_)
  refine s_Mo_order_191 rfl ?_
  refine s_Mo_order_193 (fun c193 => absurd c193 (by decide)) (fun c193 => ?_)
  refine s_Mo_order_196 rfl ?_
  refine s_Mo_order_198 ?_
  refine s_Mo_order_199 ?_
  refine c_Mo_order_201 (t_Mo_in) (Nat.le_of_ble_eq_true rfl) ?_
  refine s_Mo_order_204 (fun c204 => absurd c204 (bz_n0.mpr ha)) (fun c204 => ?_)
  refine s_Mo_order_207 rfl ?_
  refine s_Mo_order_209 (fun c209 => absurd c209 (by decide)) (fun c209 => ?_)
  refine s_Mo_order_212 rfl ?_
  refine s_Mo_order_214 ?_
  refine s_Mo_order_215 ?_
  refine c_Mo_order_217 (t_Mo_in) (Nat.le_of_ble_eq_true rfl) ?_
  refine s_Mo_order_220 (fun c220 => absurd c220 (bz_n0.mpr hb)) (fun c220 => ?_)
  refine s_Mo_order_223 rfl ?_
  refine s_Mo_order_224 ?_
  refine s_Mo_order_226 (fun c226 => ?_) (fun c226 => absurd c226 (by decide))
  refine s_Mo_order_250 rfl ?_
  refine s_Mo_order_251 ?_
  refine s_Mo_order_253 (fun c253 => ?_) (fun c253 => absurd c253 (by decide))
  refine s_Mo_order_271 ?_
  refine s_Mo_order_272 ?_
  refine s_Mo_order_274 rfl ?_
  refine s_Mo_order_276 (fun c276 => ?_) (fun c276 => absurd c276 (by decide))
  refine s_Mo_order_283 rfl ?_
  refine s_Mo_order_284 ?_
  refine s_Mo_order_285 (fun c285 => ?_) (fun c285 => absurd c285 (by decide))
  refine s_Mo_order_300 rfl ?_
  refine s_Mo_order_301 ?_
  refine s_Mo_order_303 (fun c303 => absurd c303 (by decide)) (fun c303 => ?_)
  refine s_Mo_order_306 rfl ?_
  refine s_Mo_order_307 rfl ?_
  refine s_Mo_order_308 rfl ?_
  refine s_Mo_order_310 rfl ?_
  refine s_Mo_order_312 rfl ?_
  refine c_Mo_order_314 (hq) hp_1000 rfl (Nat.le_of_ble_eq_true rfl) ?_
  refine s_Mo_order_317 ?_
  refine s_Mo_order_426 ?_
  refine s_Mo_order_428 rfl ?_
  refine s_Mo_order_429 rfl ?_
  refine s_Mo_order_431 hp_1000 (Nat.le_of_ble_eq_true rfl) ?_
  rw [hu_1000_15]
  refine s_Mo_order_434 rfl ?_
  refine s_Mo_order_435 rfl ?_
  refine s_Mo_order_437 (fun c437 => ?_) (fun c437 => ?_)
  · skip
    refine s_Mo_order_452 rfl ?_
    refine s_Mo_order_453 hp_1000 rfl ?_
    refine s_Mo_order_456 ?_
    refine s_Mo_order_465 hp_1000 (Nat.le_of_ble_eq_true rfl) ?_
    rw [hu_1000_14]
    exact s_Mo_order_468 ⟨rfl, by rw [mQ, if_pos (Or.inl c437)]; rfl⟩ z0
  · skip
    refine s_Mo_order_440 rfl ?_
    refine s_Mo_order_441 ?_
    refine s_Mo_order_443 (fun c443 => absurd c443 (by decide)) (fun c443 => ?_)
    refine s_Mo_order_446 rfl ?_
    refine s_Mo_order_447 ?_
    refine s_Mo_order_449 (fun c449 => ?_) (fun c449 => absurd c449 (by decide))
    refine s_Mo_order_459 rfl ?_
    refine s_Mo_order_460 hp_1000 rfl ?_
    refine s_Mo_order_463 ?_
    refine s_Mo_order_464 ?_
    refine s_Mo_order_465 hp_1000 (Nat.le_of_ble_eq_true rfl) ?_
    rw [hu_1000_14]
    exact s_Mo_order_468 ⟨rfl, by rw [mQ, if_neg (fun h => h.elim c437 (fun h => h.elim (fun h => absurd h (by decide)) (fun h => absurd h (by decide))))]; rfl⟩ z0
set_option maxHeartbeats 4000000 in
set_option maxRecDepth 100000 in
theorem t_ordb_5 {G : GW} {L : LT} {I : IT} {r : Nat} {m x : Nat} (em : I 1000 13 = nI m) (hm : m < 3) (ex : I 1000 14 = nI x) (hx : x < 24) (hlt : nI x < I 1001 m) {p q c : Int32} (ho : I 1002 (96 * m + 4 * x) = 5) (e1 : I 1002 (96 * m + 4 * x + 1) = p) (e2 : I 1002 (96 * m + 4 * x + 2) = q) (e3 : I 1002 (96 * m + 4 * x + 3) = c) (hbad : (inz p 0 7 && inz q 0 7) = false) : mt G M_Mo_order 5 0 0 [.ref 1000] (hp L I r) (dt (none) (hp L (mQ 5 (5, mD I)) r)) := by
  refine mt_of_ev (by decide) (Nat.le_of_ble_eq_true rfl) ?_
  show ev G M_Mo_order (rmv 5 0 0) (Er M_Mo_order _ 0 0) 0 [(0, .ref 1000)] [] (hp L I r) 0 0
  refine s_Mo_order_0 rfl ?_
  refine s_Mo_order_1 rfl ?_
  refine s_Mo_order_2 hp_1000 rfl ?_
  refine s_Mo_order_5 ?_
  refine s_Mo_order_6 ?_
  refine s_Mo_order_7 hp_1000 (Nat.le_of_ble_eq_true rfl) ?_
  rw [hu_1000_16]
  refine s_Mo_order_10 ?_
  refine s_Mo_order_12 rfl ?_
  refine s_Mo_order_13 hp_1000 rfl ?_
  refine ev_topi em ?_
  refine s_Mo_order_16 ?_
  refine s_Mo_order_17 ?_
  refine s_Mo_order_18 rfl ?_
  refine s_Mo_order_19 hp_1000 rfl ?_
  refine ev_topi ex ?_
  refine s_Mo_order_22 ?_
  refine s_Mo_order_23 ?_
  rw [idxM]
  refine s_Mo_order_24 ?_
  refine s_Mo_order_25 rfl ?_
  refine s_Mo_order_26 hp_1000 rfl ?_
  refine ev_topi ex ?_
  refine s_Mo_order_29 (fun c29 => absurd c29 (nI_pos (by omega))) (fun c29 => ?_)
  refine s_Mo_order_32 rfl ?_
  refine s_Mo_order_33 hp_1000 rfl ?_
  refine ev_topi ex ?_
  refine s_Mo_order_36 rfl ?_
  refine s_Mo_order_37 hp_1000 rfl ?_
  refine s_Mo_order_40 rfl ?_
  refine s_Mo_order_41 hp_1000 rfl ?_
  refine ev_topi em ?_
  refine s_Mo_order_44 hp_1001 (vp_in_nI (by omega) (by decide)) ?_
  rw [nI_clamp (by omega)]
  refine s_Mo_order_45 (fun c45 => absurd c45 (Int32.not_le.mpr hlt)) (fun c45 => ?_)
  refine s_Mo_order_48 ?_
  refine s_Mo_order_49 ?_
  refine s_Mo_order_53 ?_
  refine s_Mo_order_54 rfl ?_
  refine s_Mo_order_55 (fun c55 => absurd c55 (by decide)) (fun c55 => ?_)
  refine s_Mo_order_58 rfl ?_
  refine s_Mo_order_59 hp_1000 rfl ?_
  refine s_Mo_order_62 rfl ?_
  refine s_Mo_order_63 hp_1002 (vp_in_nI (by omega) (by decide)) ?_
  rw [nI_clamp (by omega)]
  refine ev_topi ho ?_
  refine s_Mo_order_64 ?_
  refine s_Mo_order_68 ?_
  refine s_Mo_order_69 rfl ?_
  refine s_Mo_order_70 (fun c70 => absurd c70 (by decide)) (fun c70 => ?_)
  refine s_Mo_order_73 rfl ?_
  refine s_Mo_order_74 hp_1000 rfl ?_
  refine s_Mo_order_77 rfl ?_
  refine s_Mo_order_78 ?_
  refine s_Mo_order_79 ?_
  refine ev_topi (nI_add _ 1) ?_
  refine s_Mo_order_80 hp_1002 (vp_in_nI (by omega) (by decide)) ?_
  rw [nI_clamp (by omega)]
  refine ev_topi e1 ?_
  refine s_Mo_order_81 ?_
  refine s_Mo_order_85 ?_
  refine s_Mo_order_87 rfl ?_
  refine s_Mo_order_88 (fun c88 => absurd c88 (by decide)) (fun c88 => ?_)
  refine s_Mo_order_91 rfl ?_
  refine s_Mo_order_92 hp_1000 rfl ?_
  refine s_Mo_order_95 rfl ?_
  refine s_Mo_order_96 ?_
  refine s_Mo_order_97 ?_
  refine ev_topi (nI_add _ 2) ?_
  refine s_Mo_order_98 hp_1002 (vp_in_nI (by omega) (by decide)) ?_
  rw [nI_clamp (by omega)]
  refine ev_topi e2 ?_
  refine s_Mo_order_99 ?_
  refine s_Mo_order_103 ?_
  refine s_Mo_order_105 rfl ?_
  refine s_Mo_order_106 (fun c106 => absurd c106 (by decide)) (fun c106 => ?_)
  refine s_Mo_order_109 rfl ?_
  refine s_Mo_order_110 hp_1000 rfl ?_
  refine s_Mo_order_113 rfl ?_
  refine s_Mo_order_114 ?_
  refine s_Mo_order_115 ?_
  refine ev_topi (nI_add _ 3) ?_
  refine s_Mo_order_116 hp_1002 (vp_in_nI (by omega) (by decide)) ?_
  rw [nI_clamp (by omega)]
  refine ev_topi e3 ?_
  refine s_Mo_order_117 ?_
  refine s_Mo_order_121 ?_
  refine s_Mo_order_123 rfl ?_
  refine s_Mo_order_124 ?_
  refine s_Mo_order_125 ?_
  refine c_Mo_order_127 (t_Mo_in) (Nat.le_of_ble_eq_true rfl) ?_
  refine s_Mo_order_130 (fun c130 => absurd c130 (by decide)) (fun c130 => ?_)
  refine s_Mo_order_133 rfl ?_
  refine s_Mo_order_134 ?_
  refine s_Mo_order_136 (fun c136 => absurd c136 (by decide)) (fun c136 => ?_)
  refine s_Mo_order_139 ?_
  refine s_Mo_order_140 ?_
  refine s_Mo_order_144 ?_
  refine s_Mo_order_146 rfl ?_
  refine s_Mo_order_147 ?_
  refine s_Mo_order_148 ?_
  refine c_Mo_order_150 (t_Mo_in) (Nat.le_of_ble_eq_true rfl) ?_
  refine s_Mo_order_153 (fun c153 => ?_) (fun c153 => absurd c153 (by decide))
  refine s_Mo_order_174 ?_
  refine s_Mo_order_175 ?_
  refine s_Mo_order_179 ?_
  refine s_Mo_order_181 rfl ?_
  refine s_Mo_order_182 ?_
  refine s_Mo_order_183 ?_
  refine c_Mo_order_185 (t_Mo_in) (Nat.le_of_ble_eq_true rfl) ?_
  refine s_Mo_order_188 (fun c188 => absurd c188 (by decide)) (fun c188 => ?_)
  refine s_Mo_order_191 rfl ?_
  refine s_Mo_order_193 (fun c193 => absurd c193 (by decide)) (fun c193 => ?_)
  refine s_Mo_order_196 rfl ?_
  refine s_Mo_order_198 ?_
  refine s_Mo_order_199 ?_
  refine c_Mo_order_201 (t_Mo_in) (Nat.le_of_ble_eq_true rfl) ?_
  refine s_Mo_order_204 (fun c204 => ?_) (fun c204 => ?_)
  · skip
    (first | rw [bz_n0] at c204 | rw [bz_0] at c204 | skip); (try simp only [Bool.not_eq_false', Bool.not_eq_true', decide_eq_true_eq, decide_eq_false_iff_not, Bool.or_eq_true, Bool.or_eq_false_iff, Bool.and_eq_true, Bool.and_eq_false_iff] at c204)
    refine s_Mo_order_267 ?_
    refine s_Mo_order_268 ?_
    refine s_Mo_order_272 ?_
    refine s_Mo_order_274 rfl ?_
    refine s_Mo_order_276 (fun c276 => absurd c276 (by decide)) (fun c276 => ?_)
    refine s_Mo_order_279 ?_
    refine s_Mo_order_280 ?_
    refine s_Mo_order_426 ?_
    refine s_Mo_order_428 rfl ?_
    refine s_Mo_order_429 rfl ?_
    refine s_Mo_order_431 hp_1000 (Nat.le_of_ble_eq_true rfl) ?_
    rw [hu_1000_15]
    refine s_Mo_order_434 rfl ?_
    refine s_Mo_order_435 rfl ?_
    refine s_Mo_order_437 (fun c437 => ?_) (fun c437 => absurd c437 (by decide))
    refine s_Mo_order_452 rfl ?_
    refine s_Mo_order_453 hp_1000 rfl ?_
    refine s_Mo_order_456 ?_
    refine s_Mo_order_465 hp_1000 (Nat.le_of_ble_eq_true rfl) ?_
    rw [hu_1000_14]
    exact s_Mo_order_468 ⟨rfl, by rw [i5]; rfl⟩ z0
  · skip
    (first | rw [bz_n0] at c204 | rw [bz_0] at c204 | skip); (try simp only [Bool.not_eq_false', Bool.not_eq_true', decide_eq_true_eq, decide_eq_false_iff_not, Bool.or_eq_true, Bool.or_eq_false_iff, Bool.and_eq_true, Bool.and_eq_false_iff] at c204)
    refine s_Mo_order_207 rfl ?_
    refine s_Mo_order_209 (fun c209 => absurd c209 (by decide)) (fun c209 => ?_)
    refine s_Mo_order_212 rfl ?_
    refine s_Mo_order_214 ?_
    refine s_Mo_order_215 ?_
    refine c_Mo_order_217 (t_Mo_in) (Nat.le_of_ble_eq_true rfl) ?_
    refine s_Mo_order_220 (fun c220 => ?_) (fun c220 => absurd c220 (fun h => h (by rw [show inz p 0 7 = true from c204] at hbad; rw [bz_0]; simpa using hbad)))
    refine s_Mo_order_267 ?_
    refine s_Mo_order_268 ?_
    refine s_Mo_order_272 ?_
    refine s_Mo_order_274 rfl ?_
    refine s_Mo_order_276 (fun c276 => absurd c276 (by decide)) (fun c276 => ?_)
    refine s_Mo_order_279 ?_
    refine s_Mo_order_280 ?_
    refine s_Mo_order_426 ?_
    refine s_Mo_order_428 rfl ?_
    refine s_Mo_order_429 rfl ?_
    refine s_Mo_order_431 hp_1000 (Nat.le_of_ble_eq_true rfl) ?_
    rw [hu_1000_15]
    refine s_Mo_order_434 rfl ?_
    refine s_Mo_order_435 rfl ?_
    refine s_Mo_order_437 (fun c437 => ?_) (fun c437 => absurd c437 (by decide))
    refine s_Mo_order_452 rfl ?_
    refine s_Mo_order_453 hp_1000 rfl ?_
    refine s_Mo_order_456 ?_
    refine s_Mo_order_465 hp_1000 (Nat.le_of_ble_eq_true rfl) ?_
    rw [hu_1000_14]
    exact s_Mo_order_468 ⟨rfl, by rw [i5]; rfl⟩ z0
set_option maxHeartbeats 4000000 in
set_option maxRecDepth 100000 in
theorem t_ord_6 {G : GW} {L : LT} {I : IT} {r : Nat} {m x : Nat} (em : I 1000 13 = nI m) (hm : m < 3) (ex : I 1000 14 = nI x) (hx : x < 24) (hlt : nI x < I 1001 m) {p q c : Int32} (ho : I 1002 (96 * m + 4 * x) = 6) (e1 : I 1002 (96 * m + 4 * x + 1) = p) (e2 : I 1002 (96 * m + 4 * x + 2) = q) (e3 : I 1002 (96 * m + 4 * x + 3) = c) (ha : inz p 0 7 = true) (hb : inz q 0 7 = true) {w : MR} (hq : mt G M_Mo_ranges 3 0 0 [.ref 1000, .int 6, .int p, .int q, .int c] (hp L (mD I) r) (dt (some (.int w.1)) (hp L w.2 r))) : mt G M_Mo_order 5 0 0 [.ref 1000] (hp L I r) (dt (none) (hp L (mQ 6 w) r)) := by
  refine mt_of_ev (by decide) (Nat.le_of_ble_eq_true rfl) ?_
  show ev G M_Mo_order (rmv 5 0 0) (Er M_Mo_order _ 0 0) 0 [(0, .ref 1000)] [] (hp L I r) 0 0
  refine s_Mo_order_0 rfl ?_
  refine s_Mo_order_1 rfl ?_
  refine s_Mo_order_2 hp_1000 rfl ?_
  refine s_Mo_order_5 ?_
  refine s_Mo_order_6 ?_
  refine s_Mo_order_7 hp_1000 (Nat.le_of_ble_eq_true rfl) ?_
  rw [hu_1000_16]
  refine s_Mo_order_10 ?_
  refine s_Mo_order_12 rfl ?_
  refine s_Mo_order_13 hp_1000 rfl ?_
  refine ev_topi em ?_
  refine s_Mo_order_16 ?_
  refine s_Mo_order_17 ?_
  refine s_Mo_order_18 rfl ?_
  refine s_Mo_order_19 hp_1000 rfl ?_
  refine ev_topi ex ?_
  refine s_Mo_order_22 ?_
  refine s_Mo_order_23 ?_
  rw [idxM]
  refine s_Mo_order_24 ?_
  refine s_Mo_order_25 rfl ?_
  refine s_Mo_order_26 hp_1000 rfl ?_
  refine ev_topi ex ?_
  refine s_Mo_order_29 (fun c29 => absurd c29 (nI_pos (by omega))) (fun c29 => ?_)
  refine s_Mo_order_32 rfl ?_
  refine s_Mo_order_33 hp_1000 rfl ?_
  refine ev_topi ex ?_
  refine s_Mo_order_36 rfl ?_
  refine s_Mo_order_37 hp_1000 rfl ?_
  refine s_Mo_order_40 rfl ?_
  refine s_Mo_order_41 hp_1000 rfl ?_
  refine ev_topi em ?_
  refine s_Mo_order_44 hp_1001 (vp_in_nI (by omega) (by decide)) ?_
  rw [nI_clamp (by omega)]
  refine s_Mo_order_45 (fun c45 => absurd c45 (Int32.not_le.mpr hlt)) (fun c45 => ?_)
  refine s_Mo_order_48 ?_
  refine s_Mo_order_49 ?_
  refine s_Mo_order_53 ?_
  refine s_Mo_order_54 rfl ?_
  refine s_Mo_order_55 (fun c55 => absurd c55 (by decide)) (fun c55 => ?_)
  refine s_Mo_order_58 rfl ?_
  refine s_Mo_order_59 hp_1000 rfl ?_
  refine s_Mo_order_62 rfl ?_
  refine s_Mo_order_63 hp_1002 (vp_in_nI (by omega) (by decide)) ?_
  rw [nI_clamp (by omega)]
  refine ev_topi ho ?_
  refine s_Mo_order_64 ?_
  refine s_Mo_order_68 ?_
  refine s_Mo_order_69 rfl ?_
  refine s_Mo_order_70 (fun c70 => absurd c70 (by decide)) (fun c70 => ?_)
  refine s_Mo_order_73 rfl ?_
  refine s_Mo_order_74 hp_1000 rfl ?_
  refine s_Mo_order_77 rfl ?_
  refine s_Mo_order_78 ?_
  refine s_Mo_order_79 ?_
  refine ev_topi (nI_add _ 1) ?_
  refine s_Mo_order_80 hp_1002 (vp_in_nI (by omega) (by decide)) ?_
  rw [nI_clamp (by omega)]
  refine ev_topi e1 ?_
  refine s_Mo_order_81 ?_
  refine s_Mo_order_85 ?_
  refine s_Mo_order_87 rfl ?_
  refine s_Mo_order_88 (fun c88 => absurd c88 (by decide)) (fun c88 => ?_)
  refine s_Mo_order_91 rfl ?_
  refine s_Mo_order_92 hp_1000 rfl ?_
  refine s_Mo_order_95 rfl ?_
  refine s_Mo_order_96 ?_
  refine s_Mo_order_97 ?_
  refine ev_topi (nI_add _ 2) ?_
  refine s_Mo_order_98 hp_1002 (vp_in_nI (by omega) (by decide)) ?_
  rw [nI_clamp (by omega)]
  refine ev_topi e2 ?_
  refine s_Mo_order_99 ?_
  refine s_Mo_order_103 ?_
  refine s_Mo_order_105 rfl ?_
  refine s_Mo_order_106 (fun c106 => absurd c106 (by decide)) (fun c106 => ?_)
  refine s_Mo_order_109 rfl ?_
  refine s_Mo_order_110 hp_1000 rfl ?_
  refine s_Mo_order_113 rfl ?_
  refine s_Mo_order_114 ?_
  refine s_Mo_order_115 ?_
  refine ev_topi (nI_add _ 3) ?_
  refine s_Mo_order_116 hp_1002 (vp_in_nI (by omega) (by decide)) ?_
  rw [nI_clamp (by omega)]
  refine ev_topi e3 ?_
  refine s_Mo_order_117 ?_
  refine s_Mo_order_121 ?_
  refine s_Mo_order_123 rfl ?_
  refine s_Mo_order_124 ?_
  refine s_Mo_order_125 ?_
  refine c_Mo_order_127 (t_Mo_in) (Nat.le_of_ble_eq_true rfl) ?_
  refine s_Mo_order_130 (fun c130 => absurd c130 (by decide)) (fun c130 => ?_)
  refine s_Mo_order_133 rfl ?_
  refine s_Mo_order_134 ?_
  refine s_Mo_order_136 (fun c136 => absurd c136 (by decide)) (fun c136 => ?_)
  refine s_Mo_order_139 ?_
  refine s_Mo_order_140 ?_
  refine s_Mo_order_144 ?_
  refine s_Mo_order_146 rfl ?_
  refine s_Mo_order_147 ?_
  refine s_Mo_order_148 ?_
  refine c_Mo_order_150 (t_Mo_in) (Nat.le_of_ble_eq_true rfl) ?_
  refine s_Mo_order_153 (fun c153 => ?_) (fun c153 => absurd c153 (by decide))
  refine s_Mo_order_174 ?_
  refine s_Mo_order_175 ?_
  refine s_Mo_order_179 ?_
  refine s_Mo_order_181 rfl ?_
  refine s_Mo_order_182 ?_
  refine s_Mo_order_183 ?_
  refine c_Mo_order_185 (t_Mo_in) (Nat.le_of_ble_eq_true rfl) ?_
  refine s_Mo_order_188 (fun c188 => absurd c188 (by decide)) (fun c188 => ?_)
  refine s_Mo_order_191 rfl ?_
  refine s_Mo_order_193 (fun c193 => absurd c193 (by decide)) (fun c193 => ?_)
  refine s_Mo_order_196 rfl ?_
  refine s_Mo_order_198 ?_
  refine s_Mo_order_199 ?_
  refine c_Mo_order_201 (t_Mo_in) (Nat.le_of_ble_eq_true rfl) ?_
  refine s_Mo_order_204 (fun c204 => absurd c204 (bz_n0.mpr ha)) (fun c204 => ?_)
  refine s_Mo_order_207 rfl ?_
  refine s_Mo_order_209 (fun c209 => absurd c209 (by decide)) (fun c209 => ?_)
  refine s_Mo_order_212 rfl ?_
  refine s_Mo_order_214 ?_
  refine s_Mo_order_215 ?_
  refine c_Mo_order_217 (t_Mo_in) (Nat.le_of_ble_eq_true rfl) ?_
  refine s_Mo_order_220 (fun c220 => absurd c220 (bz_n0.mpr hb)) (fun c220 => ?_)
  refine s_Mo_order_223 rfl ?_
  refine s_Mo_order_224 ?_
  refine s_Mo_order_226 (fun c226 => ?_) (fun c226 => absurd c226 (by decide))
  refine s_Mo_order_250 rfl ?_
  refine s_Mo_order_251 ?_
  refine s_Mo_order_253 (fun c253 => ?_) (fun c253 => absurd c253 (by decide))
  refine s_Mo_order_271 ?_
  refine s_Mo_order_272 ?_
  refine s_Mo_order_274 rfl ?_
  refine s_Mo_order_276 (fun c276 => ?_) (fun c276 => absurd c276 (by decide))
  refine s_Mo_order_283 rfl ?_
  refine s_Mo_order_284 ?_
  refine s_Mo_order_285 (fun c285 => ?_) (fun c285 => absurd c285 (by decide))
  refine s_Mo_order_300 rfl ?_
  refine s_Mo_order_301 ?_
  refine s_Mo_order_303 (fun c303 => absurd c303 (by decide)) (fun c303 => ?_)
  refine s_Mo_order_306 rfl ?_
  refine s_Mo_order_307 rfl ?_
  refine s_Mo_order_308 rfl ?_
  refine s_Mo_order_310 rfl ?_
  refine s_Mo_order_312 rfl ?_
  refine c_Mo_order_314 (hq) hp_1000 rfl (Nat.le_of_ble_eq_true rfl) ?_
  refine s_Mo_order_317 ?_
  refine s_Mo_order_426 ?_
  refine s_Mo_order_428 rfl ?_
  refine s_Mo_order_429 rfl ?_
  refine s_Mo_order_431 hp_1000 (Nat.le_of_ble_eq_true rfl) ?_
  rw [hu_1000_15]
  refine s_Mo_order_434 rfl ?_
  refine s_Mo_order_435 rfl ?_
  refine s_Mo_order_437 (fun c437 => ?_) (fun c437 => ?_)
  · skip
    refine s_Mo_order_452 rfl ?_
    refine s_Mo_order_453 hp_1000 rfl ?_
    refine s_Mo_order_456 ?_
    refine s_Mo_order_465 hp_1000 (Nat.le_of_ble_eq_true rfl) ?_
    rw [hu_1000_14]
    exact s_Mo_order_468 ⟨rfl, by rw [mQ, if_pos (Or.inl c437)]; rfl⟩ z0
  · skip
    refine s_Mo_order_440 rfl ?_
    refine s_Mo_order_441 ?_
    refine s_Mo_order_443 (fun c443 => absurd c443 (by decide)) (fun c443 => ?_)
    refine s_Mo_order_446 rfl ?_
    refine s_Mo_order_447 ?_
    refine s_Mo_order_449 (fun c449 => ?_) (fun c449 => absurd c449 (by decide))
    refine s_Mo_order_459 rfl ?_
    refine s_Mo_order_460 hp_1000 rfl ?_
    refine s_Mo_order_463 ?_
    refine s_Mo_order_464 ?_
    refine s_Mo_order_465 hp_1000 (Nat.le_of_ble_eq_true rfl) ?_
    rw [hu_1000_14]
    exact s_Mo_order_468 ⟨rfl, by rw [mQ, if_neg (fun h => h.elim c437 (fun h => h.elim (fun h => absurd h (by decide)) (fun h => absurd h (by decide))))]; rfl⟩ z0
set_option maxHeartbeats 4000000 in
set_option maxRecDepth 100000 in
theorem t_ordb_6 {G : GW} {L : LT} {I : IT} {r : Nat} {m x : Nat} (em : I 1000 13 = nI m) (hm : m < 3) (ex : I 1000 14 = nI x) (hx : x < 24) (hlt : nI x < I 1001 m) {p q c : Int32} (ho : I 1002 (96 * m + 4 * x) = 6) (e1 : I 1002 (96 * m + 4 * x + 1) = p) (e2 : I 1002 (96 * m + 4 * x + 2) = q) (e3 : I 1002 (96 * m + 4 * x + 3) = c) (hbad : (inz p 0 7 && inz q 0 7) = false) : mt G M_Mo_order 5 0 0 [.ref 1000] (hp L I r) (dt (none) (hp L (mQ 6 (5, mD I)) r)) := by
  refine mt_of_ev (by decide) (Nat.le_of_ble_eq_true rfl) ?_
  show ev G M_Mo_order (rmv 5 0 0) (Er M_Mo_order _ 0 0) 0 [(0, .ref 1000)] [] (hp L I r) 0 0
  refine s_Mo_order_0 rfl ?_
  refine s_Mo_order_1 rfl ?_
  refine s_Mo_order_2 hp_1000 rfl ?_
  refine s_Mo_order_5 ?_
  refine s_Mo_order_6 ?_
  refine s_Mo_order_7 hp_1000 (Nat.le_of_ble_eq_true rfl) ?_
  rw [hu_1000_16]
  refine s_Mo_order_10 ?_
  refine s_Mo_order_12 rfl ?_
  refine s_Mo_order_13 hp_1000 rfl ?_
  refine ev_topi em ?_
  refine s_Mo_order_16 ?_
  refine s_Mo_order_17 ?_
  refine s_Mo_order_18 rfl ?_
  refine s_Mo_order_19 hp_1000 rfl ?_
  refine ev_topi ex ?_
  refine s_Mo_order_22 ?_
  refine s_Mo_order_23 ?_
  rw [idxM]
  refine s_Mo_order_24 ?_
  refine s_Mo_order_25 rfl ?_
  refine s_Mo_order_26 hp_1000 rfl ?_
  refine ev_topi ex ?_
  refine s_Mo_order_29 (fun c29 => absurd c29 (nI_pos (by omega))) (fun c29 => ?_)
  refine s_Mo_order_32 rfl ?_
  refine s_Mo_order_33 hp_1000 rfl ?_
  refine ev_topi ex ?_
  refine s_Mo_order_36 rfl ?_
  refine s_Mo_order_37 hp_1000 rfl ?_
  refine s_Mo_order_40 rfl ?_
  refine s_Mo_order_41 hp_1000 rfl ?_
  refine ev_topi em ?_
  refine s_Mo_order_44 hp_1001 (vp_in_nI (by omega) (by decide)) ?_
  rw [nI_clamp (by omega)]
  refine s_Mo_order_45 (fun c45 => absurd c45 (Int32.not_le.mpr hlt)) (fun c45 => ?_)
  refine s_Mo_order_48 ?_
  refine s_Mo_order_49 ?_
  refine s_Mo_order_53 ?_
  refine s_Mo_order_54 rfl ?_
  refine s_Mo_order_55 (fun c55 => absurd c55 (by decide)) (fun c55 => ?_)
  refine s_Mo_order_58 rfl ?_
  refine s_Mo_order_59 hp_1000 rfl ?_
  refine s_Mo_order_62 rfl ?_
  refine s_Mo_order_63 hp_1002 (vp_in_nI (by omega) (by decide)) ?_
  rw [nI_clamp (by omega)]
  refine ev_topi ho ?_
  refine s_Mo_order_64 ?_
  refine s_Mo_order_68 ?_
  refine s_Mo_order_69 rfl ?_
  refine s_Mo_order_70 (fun c70 => absurd c70 (by decide)) (fun c70 => ?_)
  refine s_Mo_order_73 rfl ?_
  refine s_Mo_order_74 hp_1000 rfl ?_
  refine s_Mo_order_77 rfl ?_
  refine s_Mo_order_78 ?_
  refine s_Mo_order_79 ?_
  refine ev_topi (nI_add _ 1) ?_
  refine s_Mo_order_80 hp_1002 (vp_in_nI (by omega) (by decide)) ?_
  rw [nI_clamp (by omega)]
  refine ev_topi e1 ?_
  refine s_Mo_order_81 ?_
  refine s_Mo_order_85 ?_
  refine s_Mo_order_87 rfl ?_
  refine s_Mo_order_88 (fun c88 => absurd c88 (by decide)) (fun c88 => ?_)
  refine s_Mo_order_91 rfl ?_
  refine s_Mo_order_92 hp_1000 rfl ?_
  refine s_Mo_order_95 rfl ?_
  refine s_Mo_order_96 ?_
  refine s_Mo_order_97 ?_
  refine ev_topi (nI_add _ 2) ?_
  refine s_Mo_order_98 hp_1002 (vp_in_nI (by omega) (by decide)) ?_
  rw [nI_clamp (by omega)]
  refine ev_topi e2 ?_
  refine s_Mo_order_99 ?_
  refine s_Mo_order_103 ?_
  refine s_Mo_order_105 rfl ?_
  refine s_Mo_order_106 (fun c106 => absurd c106 (by decide)) (fun c106 => ?_)
  refine s_Mo_order_109 rfl ?_
  refine s_Mo_order_110 hp_1000 rfl ?_
  refine s_Mo_order_113 rfl ?_
  refine s_Mo_order_114 ?_
  refine s_Mo_order_115 ?_
  refine ev_topi (nI_add _ 3) ?_
  refine s_Mo_order_116 hp_1002 (vp_in_nI (by omega) (by decide)) ?_
  rw [nI_clamp (by omega)]
  refine ev_topi e3 ?_
  refine s_Mo_order_117 ?_
  refine s_Mo_order_121 ?_
  refine s_Mo_order_123 rfl ?_
  refine s_Mo_order_124 ?_
  refine s_Mo_order_125 ?_
  refine c_Mo_order_127 (t_Mo_in) (Nat.le_of_ble_eq_true rfl) ?_
  refine s_Mo_order_130 (fun c130 => absurd c130 (by decide)) (fun c130 => ?_)
  refine s_Mo_order_133 rfl ?_
  refine s_Mo_order_134 ?_
  refine s_Mo_order_136 (fun c136 => absurd c136 (by decide)) (fun c136 => ?_)
  refine s_Mo_order_139 ?_
  refine s_Mo_order_140 ?_
  refine s_Mo_order_144 ?_
  refine s_Mo_order_146 rfl ?_
  refine s_Mo_order_147 ?_
  refine s_Mo_order_148 ?_
  refine c_Mo_order_150 (t_Mo_in) (Nat.le_of_ble_eq_true rfl) ?_
  refine s_Mo_order_153 (fun c153 => ?_) (fun c153 => absurd c153 (by decide))
  refine s_Mo_order_174 ?_
  refine s_Mo_order_175 ?_
  refine s_Mo_order_179 ?_
  refine s_Mo_order_181 rfl ?_
  refine s_Mo_order_182 ?_
  refine s_Mo_order_183 ?_
  refine c_Mo_order_185 (t_Mo_in) (Nat.le_of_ble_eq_true rfl) ?_
  refine s_Mo_order_188 (fun c188 => absurd c188 (by decide)) (fun c188 => ?_)
  refine s_Mo_order_191 rfl ?_
  refine s_Mo_order_193 (fun c193 => absurd c193 (by decide)) (fun c193 => ?_)
  refine s_Mo_order_196 rfl ?_
  refine s_Mo_order_198 ?_
  refine s_Mo_order_199 ?_
  refine c_Mo_order_201 (t_Mo_in) (Nat.le_of_ble_eq_true rfl) ?_
  refine s_Mo_order_204 (fun c204 => ?_) (fun c204 => ?_)
  · skip
    (first | rw [bz_n0] at c204 | rw [bz_0] at c204 | skip); (try simp only [Bool.not_eq_false', Bool.not_eq_true', decide_eq_true_eq, decide_eq_false_iff_not, Bool.or_eq_true, Bool.or_eq_false_iff, Bool.and_eq_true, Bool.and_eq_false_iff] at c204)
    refine s_Mo_order_267 ?_
    refine s_Mo_order_268 ?_
    refine s_Mo_order_272 ?_
    refine s_Mo_order_274 rfl ?_
    refine s_Mo_order_276 (fun c276 => absurd c276 (by decide)) (fun c276 => ?_)
    refine s_Mo_order_279 ?_
    refine s_Mo_order_280 ?_
    refine s_Mo_order_426 ?_
    refine s_Mo_order_428 rfl ?_
    refine s_Mo_order_429 rfl ?_
    refine s_Mo_order_431 hp_1000 (Nat.le_of_ble_eq_true rfl) ?_
    rw [hu_1000_15]
    refine s_Mo_order_434 rfl ?_
    refine s_Mo_order_435 rfl ?_
    refine s_Mo_order_437 (fun c437 => ?_) (fun c437 => absurd c437 (by decide))
    refine s_Mo_order_452 rfl ?_
    refine s_Mo_order_453 hp_1000 rfl ?_
    refine s_Mo_order_456 ?_
    refine s_Mo_order_465 hp_1000 (Nat.le_of_ble_eq_true rfl) ?_
    rw [hu_1000_14]
    exact s_Mo_order_468 ⟨rfl, by rw [i5]; rfl⟩ z0
  · skip
    (first | rw [bz_n0] at c204 | rw [bz_0] at c204 | skip); (try simp only [Bool.not_eq_false', Bool.not_eq_true', decide_eq_true_eq, decide_eq_false_iff_not, Bool.or_eq_true, Bool.or_eq_false_iff, Bool.and_eq_true, Bool.and_eq_false_iff] at c204)
    refine s_Mo_order_207 rfl ?_
    refine s_Mo_order_209 (fun c209 => absurd c209 (by decide)) (fun c209 => ?_)
    refine s_Mo_order_212 rfl ?_
    refine s_Mo_order_214 ?_
    refine s_Mo_order_215 ?_
    refine c_Mo_order_217 (t_Mo_in) (Nat.le_of_ble_eq_true rfl) ?_
    refine s_Mo_order_220 (fun c220 => ?_) (fun c220 => absurd c220 (fun h => h (by rw [show inz p 0 7 = true from c204] at hbad; rw [bz_0]; simpa using hbad)))
    refine s_Mo_order_267 ?_
    refine s_Mo_order_268 ?_
    refine s_Mo_order_272 ?_
    refine s_Mo_order_274 rfl ?_
    refine s_Mo_order_276 (fun c276 => absurd c276 (by decide)) (fun c276 => ?_)
    refine s_Mo_order_279 ?_
    refine s_Mo_order_280 ?_
    refine s_Mo_order_426 ?_
    refine s_Mo_order_428 rfl ?_
    refine s_Mo_order_429 rfl ?_
    refine s_Mo_order_431 hp_1000 (Nat.le_of_ble_eq_true rfl) ?_
    rw [hu_1000_15]
    refine s_Mo_order_434 rfl ?_
    refine s_Mo_order_435 rfl ?_
    refine s_Mo_order_437 (fun c437 => ?_) (fun c437 => absurd c437 (by decide))
    refine s_Mo_order_452 rfl ?_
    refine s_Mo_order_453 hp_1000 rfl ?_
    refine s_Mo_order_456 ?_
    refine s_Mo_order_465 hp_1000 (Nat.le_of_ble_eq_true rfl) ?_
    rw [hu_1000_14]
    exact s_Mo_order_468 ⟨rfl, by rw [i5]; rfl⟩ z0
set_option maxHeartbeats 4000000 in
set_option maxRecDepth 100000 in
theorem t_ord_7 {G : GW} {L : LT} {I : IT} {r : Nat} {m x : Nat} (em : I 1000 13 = nI m) (hm : m < 3) (ex : I 1000 14 = nI x) (hx : x < 24) (hlt : nI x < I 1001 m) {p q c : Int32} (ho : I 1002 (96 * m + 4 * x) = 7) (e1 : I 1002 (96 * m + 4 * x + 1) = p) (e2 : I 1002 (96 * m + 4 * x + 2) = q) (e3 : I 1002 (96 * m + 4 * x + 3) = c) (ha : inz p 0 7 = true) {w : MR} (hq : mt G M_Mo_cells 2 0 0 [.ref 1000, .int 7, .int p] (hp L (mD I) r) (dt (some (.int w.1)) (hp L w.2 r))) : mt G M_Mo_order 5 0 0 [.ref 1000] (hp L I r) (dt (none) (hp L (mQ 7 w) r)) := by
  refine mt_of_ev (by decide) (Nat.le_of_ble_eq_true rfl) ?_
  show ev G M_Mo_order (rmv 5 0 0) (Er M_Mo_order _ 0 0) 0 [(0, .ref 1000)] [] (hp L I r) 0 0
  refine s_Mo_order_0 rfl ?_
  refine s_Mo_order_1 rfl ?_
  refine s_Mo_order_2 hp_1000 rfl ?_
  refine s_Mo_order_5 ?_
  refine s_Mo_order_6 ?_
  refine s_Mo_order_7 hp_1000 (Nat.le_of_ble_eq_true rfl) ?_
  rw [hu_1000_16]
  refine s_Mo_order_10 ?_
  refine s_Mo_order_12 rfl ?_
  refine s_Mo_order_13 hp_1000 rfl ?_
  refine ev_topi em ?_
  refine s_Mo_order_16 ?_
  refine s_Mo_order_17 ?_
  refine s_Mo_order_18 rfl ?_
  refine s_Mo_order_19 hp_1000 rfl ?_
  refine ev_topi ex ?_
  refine s_Mo_order_22 ?_
  refine s_Mo_order_23 ?_
  rw [idxM]
  refine s_Mo_order_24 ?_
  refine s_Mo_order_25 rfl ?_
  refine s_Mo_order_26 hp_1000 rfl ?_
  refine ev_topi ex ?_
  refine s_Mo_order_29 (fun c29 => absurd c29 (nI_pos (by omega))) (fun c29 => ?_)
  refine s_Mo_order_32 rfl ?_
  refine s_Mo_order_33 hp_1000 rfl ?_
  refine ev_topi ex ?_
  refine s_Mo_order_36 rfl ?_
  refine s_Mo_order_37 hp_1000 rfl ?_
  refine s_Mo_order_40 rfl ?_
  refine s_Mo_order_41 hp_1000 rfl ?_
  refine ev_topi em ?_
  refine s_Mo_order_44 hp_1001 (vp_in_nI (by omega) (by decide)) ?_
  rw [nI_clamp (by omega)]
  refine s_Mo_order_45 (fun c45 => absurd c45 (Int32.not_le.mpr hlt)) (fun c45 => ?_)
  refine s_Mo_order_48 ?_
  refine s_Mo_order_49 ?_
  refine s_Mo_order_53 ?_
  refine s_Mo_order_54 rfl ?_
  refine s_Mo_order_55 (fun c55 => absurd c55 (by decide)) (fun c55 => ?_)
  refine s_Mo_order_58 rfl ?_
  refine s_Mo_order_59 hp_1000 rfl ?_
  refine s_Mo_order_62 rfl ?_
  refine s_Mo_order_63 hp_1002 (vp_in_nI (by omega) (by decide)) ?_
  rw [nI_clamp (by omega)]
  refine ev_topi ho ?_
  refine s_Mo_order_64 ?_
  refine s_Mo_order_68 ?_
  refine s_Mo_order_69 rfl ?_
  refine s_Mo_order_70 (fun c70 => absurd c70 (by decide)) (fun c70 => ?_)
  refine s_Mo_order_73 rfl ?_
  refine s_Mo_order_74 hp_1000 rfl ?_
  refine s_Mo_order_77 rfl ?_
  refine s_Mo_order_78 ?_
  refine s_Mo_order_79 ?_
  refine ev_topi (nI_add _ 1) ?_
  refine s_Mo_order_80 hp_1002 (vp_in_nI (by omega) (by decide)) ?_
  rw [nI_clamp (by omega)]
  refine ev_topi e1 ?_
  refine s_Mo_order_81 ?_
  refine s_Mo_order_85 ?_
  refine s_Mo_order_87 rfl ?_
  refine s_Mo_order_88 (fun c88 => absurd c88 (by decide)) (fun c88 => ?_)
  refine s_Mo_order_91 rfl ?_
  refine s_Mo_order_92 hp_1000 rfl ?_
  refine s_Mo_order_95 rfl ?_
  refine s_Mo_order_96 ?_
  refine s_Mo_order_97 ?_
  refine ev_topi (nI_add _ 2) ?_
  refine s_Mo_order_98 hp_1002 (vp_in_nI (by omega) (by decide)) ?_
  rw [nI_clamp (by omega)]
  refine ev_topi e2 ?_
  refine s_Mo_order_99 ?_
  refine s_Mo_order_103 ?_
  refine s_Mo_order_105 rfl ?_
  refine s_Mo_order_106 (fun c106 => absurd c106 (by decide)) (fun c106 => ?_)
  refine s_Mo_order_109 rfl ?_
  refine s_Mo_order_110 hp_1000 rfl ?_
  refine s_Mo_order_113 rfl ?_
  refine s_Mo_order_114 ?_
  refine s_Mo_order_115 ?_
  refine ev_topi (nI_add _ 3) ?_
  refine s_Mo_order_116 hp_1002 (vp_in_nI (by omega) (by decide)) ?_
  rw [nI_clamp (by omega)]
  refine ev_topi e3 ?_
  refine s_Mo_order_117 ?_
  refine s_Mo_order_121 ?_
  refine s_Mo_order_123 rfl ?_
  refine s_Mo_order_124 ?_
  refine s_Mo_order_125 ?_
  refine c_Mo_order_127 (t_Mo_in) (Nat.le_of_ble_eq_true rfl) ?_
  refine s_Mo_order_130 (fun c130 => absurd c130 (by decide)) (fun c130 => ?_)
  refine s_Mo_order_133 rfl ?_
  refine s_Mo_order_134 ?_
  refine s_Mo_order_136 (fun c136 => absurd c136 (by decide)) (fun c136 => ?_)
  refine s_Mo_order_139 ?_
  refine s_Mo_order_140 ?_
  refine s_Mo_order_144 ?_
  refine s_Mo_order_146 rfl ?_
  refine s_Mo_order_147 ?_
  refine s_Mo_order_148 ?_
  refine c_Mo_order_150 (t_Mo_in) (Nat.le_of_ble_eq_true rfl) ?_
  refine s_Mo_order_153 (fun c153 => absurd c153 (fun h => h (by decide))) (fun c153 => ?_)
  refine s_Mo_order_156 rfl ?_
  refine s_Mo_order_157 ?_
  refine s_Mo_order_159 (fun c159 => absurd c159 (by decide)) (fun c159 => ?_)
  refine s_Mo_order_162 rfl ?_
  refine s_Mo_order_163 ?_
  refine s_Mo_order_165 (fun c165 => absurd c165 (by decide)) (fun c165 => ?_)
  refine s_Mo_order_168 rfl ?_
  refine s_Mo_order_169 ?_
  refine s_Mo_order_171 (fun c171 => ?_) (fun c171 => absurd c171 (by decide))
  refine s_Mo_order_178 ?_
  refine s_Mo_order_179 ?_
  refine s_Mo_order_181 rfl ?_
  refine s_Mo_order_182 ?_
  refine s_Mo_order_183 ?_
  refine c_Mo_order_185 (t_Mo_in) (Nat.le_of_ble_eq_true rfl) ?_
  refine s_Mo_order_188 (fun c188 => absurd c188 (by decide)) (fun c188 => ?_)
  refine s_Mo_order_191 rfl ?_
  refine s_Mo_order_193 (fun c193 => absurd c193 (by decide)) (fun c193 => ?_)
  refine s_Mo_order_196 rfl ?_
  refine s_Mo_order_198 ?_
  refine s_Mo_order_199 ?_
  refine c_Mo_order_201 (t_Mo_in) (Nat.le_of_ble_eq_true rfl) ?_
  refine s_Mo_order_204 (fun c204 => absurd c204 (bz_n0.mpr ha)) (fun c204 => ?_)
  refine s_Mo_order_207 rfl ?_
  refine s_Mo_order_209 (fun c209 => ?_) (fun c209 => absurd c209 (by decide))
  refine s_Mo_order_223 rfl ?_
  refine s_Mo_order_224 ?_
  refine s_Mo_order_226 (fun c226 => ?_) (fun c226 => absurd c226 (by decide))
  refine s_Mo_order_250 rfl ?_
  refine s_Mo_order_251 ?_
  refine s_Mo_order_253 (fun c253 => ?_) (fun c253 => absurd c253 (by decide))
  refine s_Mo_order_271 ?_
  refine s_Mo_order_272 ?_
  refine s_Mo_order_274 rfl ?_
  refine s_Mo_order_276 (fun c276 => ?_) (fun c276 => absurd c276 (by decide))
  refine s_Mo_order_283 rfl ?_
  refine s_Mo_order_284 ?_
  refine s_Mo_order_285 (fun c285 => ?_) (fun c285 => absurd c285 (by decide))
  refine s_Mo_order_300 rfl ?_
  refine s_Mo_order_301 ?_
  refine s_Mo_order_303 (fun c303 => ?_) (fun c303 => absurd c303 (by decide))
  refine s_Mo_order_320 rfl ?_
  refine s_Mo_order_321 ?_
  refine s_Mo_order_323 (fun c323 => absurd c323 (by decide)) (fun c323 => ?_)
  refine s_Mo_order_326 rfl ?_
  refine s_Mo_order_327 rfl ?_
  refine s_Mo_order_328 rfl ?_
  refine c_Mo_order_330 (hq) hp_1000 rfl (Nat.le_of_ble_eq_true rfl) ?_
  refine s_Mo_order_333 ?_
  refine s_Mo_order_426 ?_
  refine s_Mo_order_428 rfl ?_
  refine s_Mo_order_429 rfl ?_
  refine s_Mo_order_431 hp_1000 (Nat.le_of_ble_eq_true rfl) ?_
  rw [hu_1000_15]
  refine s_Mo_order_434 rfl ?_
  refine s_Mo_order_435 rfl ?_
  refine s_Mo_order_437 (fun c437 => ?_) (fun c437 => ?_)
  · skip
    refine s_Mo_order_452 rfl ?_
    refine s_Mo_order_453 hp_1000 rfl ?_
    refine s_Mo_order_456 ?_
    refine s_Mo_order_465 hp_1000 (Nat.le_of_ble_eq_true rfl) ?_
    rw [hu_1000_14]
    exact s_Mo_order_468 ⟨rfl, by rw [mQ, if_pos (Or.inl c437)]; rfl⟩ z0
  · skip
    refine s_Mo_order_440 rfl ?_
    refine s_Mo_order_441 ?_
    refine s_Mo_order_443 (fun c443 => absurd c443 (by decide)) (fun c443 => ?_)
    refine s_Mo_order_446 rfl ?_
    refine s_Mo_order_447 ?_
    refine s_Mo_order_449 (fun c449 => ?_) (fun c449 => absurd c449 (by decide))
    refine s_Mo_order_459 rfl ?_
    refine s_Mo_order_460 hp_1000 rfl ?_
    refine s_Mo_order_463 ?_
    refine s_Mo_order_464 ?_
    refine s_Mo_order_465 hp_1000 (Nat.le_of_ble_eq_true rfl) ?_
    rw [hu_1000_14]
    exact s_Mo_order_468 ⟨rfl, by rw [mQ, if_neg (fun h => h.elim c437 (fun h => h.elim (fun h => absurd h (by decide)) (fun h => absurd h (by decide))))]; rfl⟩ z0
set_option maxHeartbeats 4000000 in
set_option maxRecDepth 100000 in
theorem t_ordb_7 {G : GW} {L : LT} {I : IT} {r : Nat} {m x : Nat} (em : I 1000 13 = nI m) (hm : m < 3) (ex : I 1000 14 = nI x) (hx : x < 24) (hlt : nI x < I 1001 m) {p q c : Int32} (ho : I 1002 (96 * m + 4 * x) = 7) (e1 : I 1002 (96 * m + 4 * x + 1) = p) (e2 : I 1002 (96 * m + 4 * x + 2) = q) (e3 : I 1002 (96 * m + 4 * x + 3) = c) (hbad : (inz p 0 7) = false) : mt G M_Mo_order 5 0 0 [.ref 1000] (hp L I r) (dt (none) (hp L (mQ 7 (5, mD I)) r)) := by
  refine mt_of_ev (by decide) (Nat.le_of_ble_eq_true rfl) ?_
  show ev G M_Mo_order (rmv 5 0 0) (Er M_Mo_order _ 0 0) 0 [(0, .ref 1000)] [] (hp L I r) 0 0
  refine s_Mo_order_0 rfl ?_
  refine s_Mo_order_1 rfl ?_
  refine s_Mo_order_2 hp_1000 rfl ?_
  refine s_Mo_order_5 ?_
  refine s_Mo_order_6 ?_
  refine s_Mo_order_7 hp_1000 (Nat.le_of_ble_eq_true rfl) ?_
  rw [hu_1000_16]
  refine s_Mo_order_10 ?_
  refine s_Mo_order_12 rfl ?_
  refine s_Mo_order_13 hp_1000 rfl ?_
  refine ev_topi em ?_
  refine s_Mo_order_16 ?_
  refine s_Mo_order_17 ?_
  refine s_Mo_order_18 rfl ?_
  refine s_Mo_order_19 hp_1000 rfl ?_
  refine ev_topi ex ?_
  refine s_Mo_order_22 ?_
  refine s_Mo_order_23 ?_
  rw [idxM]
  refine s_Mo_order_24 ?_
  refine s_Mo_order_25 rfl ?_
  refine s_Mo_order_26 hp_1000 rfl ?_
  refine ev_topi ex ?_
  refine s_Mo_order_29 (fun c29 => absurd c29 (nI_pos (by omega))) (fun c29 => ?_)
  refine s_Mo_order_32 rfl ?_
  refine s_Mo_order_33 hp_1000 rfl ?_
  refine ev_topi ex ?_
  refine s_Mo_order_36 rfl ?_
  refine s_Mo_order_37 hp_1000 rfl ?_
  refine s_Mo_order_40 rfl ?_
  refine s_Mo_order_41 hp_1000 rfl ?_
  refine ev_topi em ?_
  refine s_Mo_order_44 hp_1001 (vp_in_nI (by omega) (by decide)) ?_
  rw [nI_clamp (by omega)]
  refine s_Mo_order_45 (fun c45 => absurd c45 (Int32.not_le.mpr hlt)) (fun c45 => ?_)
  refine s_Mo_order_48 ?_
  refine s_Mo_order_49 ?_
  refine s_Mo_order_53 ?_
  refine s_Mo_order_54 rfl ?_
  refine s_Mo_order_55 (fun c55 => absurd c55 (by decide)) (fun c55 => ?_)
  refine s_Mo_order_58 rfl ?_
  refine s_Mo_order_59 hp_1000 rfl ?_
  refine s_Mo_order_62 rfl ?_
  refine s_Mo_order_63 hp_1002 (vp_in_nI (by omega) (by decide)) ?_
  rw [nI_clamp (by omega)]
  refine ev_topi ho ?_
  refine s_Mo_order_64 ?_
  refine s_Mo_order_68 ?_
  refine s_Mo_order_69 rfl ?_
  refine s_Mo_order_70 (fun c70 => absurd c70 (by decide)) (fun c70 => ?_)
  refine s_Mo_order_73 rfl ?_
  refine s_Mo_order_74 hp_1000 rfl ?_
  refine s_Mo_order_77 rfl ?_
  refine s_Mo_order_78 ?_
  refine s_Mo_order_79 ?_
  refine ev_topi (nI_add _ 1) ?_
  refine s_Mo_order_80 hp_1002 (vp_in_nI (by omega) (by decide)) ?_
  rw [nI_clamp (by omega)]
  refine ev_topi e1 ?_
  refine s_Mo_order_81 ?_
  refine s_Mo_order_85 ?_
  refine s_Mo_order_87 rfl ?_
  refine s_Mo_order_88 (fun c88 => absurd c88 (by decide)) (fun c88 => ?_)
  refine s_Mo_order_91 rfl ?_
  refine s_Mo_order_92 hp_1000 rfl ?_
  refine s_Mo_order_95 rfl ?_
  refine s_Mo_order_96 ?_
  refine s_Mo_order_97 ?_
  refine ev_topi (nI_add _ 2) ?_
  refine s_Mo_order_98 hp_1002 (vp_in_nI (by omega) (by decide)) ?_
  rw [nI_clamp (by omega)]
  refine ev_topi e2 ?_
  refine s_Mo_order_99 ?_
  refine s_Mo_order_103 ?_
  refine s_Mo_order_105 rfl ?_
  refine s_Mo_order_106 (fun c106 => absurd c106 (by decide)) (fun c106 => ?_)
  refine s_Mo_order_109 rfl ?_
  refine s_Mo_order_110 hp_1000 rfl ?_
  refine s_Mo_order_113 rfl ?_
  refine s_Mo_order_114 ?_
  refine s_Mo_order_115 ?_
  refine ev_topi (nI_add _ 3) ?_
  refine s_Mo_order_116 hp_1002 (vp_in_nI (by omega) (by decide)) ?_
  rw [nI_clamp (by omega)]
  refine ev_topi e3 ?_
  refine s_Mo_order_117 ?_
  refine s_Mo_order_121 ?_
  refine s_Mo_order_123 rfl ?_
  refine s_Mo_order_124 ?_
  refine s_Mo_order_125 ?_
  refine c_Mo_order_127 (t_Mo_in) (Nat.le_of_ble_eq_true rfl) ?_
  refine s_Mo_order_130 (fun c130 => absurd c130 (by decide)) (fun c130 => ?_)
  refine s_Mo_order_133 rfl ?_
  refine s_Mo_order_134 ?_
  refine s_Mo_order_136 (fun c136 => absurd c136 (by decide)) (fun c136 => ?_)
  refine s_Mo_order_139 ?_
  refine s_Mo_order_140 ?_
  refine s_Mo_order_144 ?_
  refine s_Mo_order_146 rfl ?_
  refine s_Mo_order_147 ?_
  refine s_Mo_order_148 ?_
  refine c_Mo_order_150 (t_Mo_in) (Nat.le_of_ble_eq_true rfl) ?_
  refine s_Mo_order_153 (fun c153 => absurd c153 (fun h => h (by decide))) (fun c153 => ?_)
  refine s_Mo_order_156 rfl ?_
  refine s_Mo_order_157 ?_
  refine s_Mo_order_159 (fun c159 => absurd c159 (by decide)) (fun c159 => ?_)
  refine s_Mo_order_162 rfl ?_
  refine s_Mo_order_163 ?_
  refine s_Mo_order_165 (fun c165 => absurd c165 (by decide)) (fun c165 => ?_)
  refine s_Mo_order_168 rfl ?_
  refine s_Mo_order_169 ?_
  refine s_Mo_order_171 (fun c171 => ?_) (fun c171 => absurd c171 (by decide))
  refine s_Mo_order_178 ?_
  refine s_Mo_order_179 ?_
  refine s_Mo_order_181 rfl ?_
  refine s_Mo_order_182 ?_
  refine s_Mo_order_183 ?_
  refine c_Mo_order_185 (t_Mo_in) (Nat.le_of_ble_eq_true rfl) ?_
  refine s_Mo_order_188 (fun c188 => absurd c188 (by decide)) (fun c188 => ?_)
  refine s_Mo_order_191 rfl ?_
  refine s_Mo_order_193 (fun c193 => absurd c193 (by decide)) (fun c193 => ?_)
  refine s_Mo_order_196 rfl ?_
  refine s_Mo_order_198 ?_
  refine s_Mo_order_199 ?_
  refine c_Mo_order_201 (t_Mo_in) (Nat.le_of_ble_eq_true rfl) ?_
  refine s_Mo_order_204 (fun c204 => ?_) (fun c204 => absurd c204 (fun h => h (by rw [bz_0]; simpa using hbad)))
  refine s_Mo_order_267 ?_
  refine s_Mo_order_268 ?_
  refine s_Mo_order_272 ?_
  refine s_Mo_order_274 rfl ?_
  refine s_Mo_order_276 (fun c276 => absurd c276 (by decide)) (fun c276 => ?_)
  refine s_Mo_order_279 ?_
  refine s_Mo_order_280 ?_
  refine s_Mo_order_426 ?_
  refine s_Mo_order_428 rfl ?_
  refine s_Mo_order_429 rfl ?_
  refine s_Mo_order_431 hp_1000 (Nat.le_of_ble_eq_true rfl) ?_
  rw [hu_1000_15]
  refine s_Mo_order_434 rfl ?_
  refine s_Mo_order_435 rfl ?_
  refine s_Mo_order_437 (fun c437 => ?_) (fun c437 => absurd c437 (by decide))
  refine s_Mo_order_452 rfl ?_
  refine s_Mo_order_453 hp_1000 rfl ?_
  refine s_Mo_order_456 ?_
  refine s_Mo_order_465 hp_1000 (Nat.le_of_ble_eq_true rfl) ?_
  rw [hu_1000_14]
  exact s_Mo_order_468 ⟨rfl, by rw [i5]; rfl⟩ z0
set_option maxHeartbeats 4000000 in
set_option maxRecDepth 100000 in
theorem t_ord_8 {G : GW} {L : LT} {I : IT} {r : Nat} {m x : Nat} (em : I 1000 13 = nI m) (hm : m < 3) (ex : I 1000 14 = nI x) (hx : x < 24) (hlt : nI x < I 1001 m) {p q c : Int32} (ho : I 1002 (96 * m + 4 * x) = 8) (e1 : I 1002 (96 * m + 4 * x + 1) = p) (e2 : I 1002 (96 * m + 4 * x + 2) = q) (e3 : I 1002 (96 * m + 4 * x + 3) = c) (ha : inz p 0 7 = true) {w : MR} (hq : mt G M_Mo_cells 2 0 0 [.ref 1000, .int 8, .int p] (hp L (mD I) r) (dt (some (.int w.1)) (hp L w.2 r))) : mt G M_Mo_order 5 0 0 [.ref 1000] (hp L I r) (dt (none) (hp L (mQ 8 w) r)) := by
  refine mt_of_ev (by decide) (Nat.le_of_ble_eq_true rfl) ?_
  show ev G M_Mo_order (rmv 5 0 0) (Er M_Mo_order _ 0 0) 0 [(0, .ref 1000)] [] (hp L I r) 0 0
  refine s_Mo_order_0 rfl ?_
  refine s_Mo_order_1 rfl ?_
  refine s_Mo_order_2 hp_1000 rfl ?_
  refine s_Mo_order_5 ?_
  refine s_Mo_order_6 ?_
  refine s_Mo_order_7 hp_1000 (Nat.le_of_ble_eq_true rfl) ?_
  rw [hu_1000_16]
  refine s_Mo_order_10 ?_
  refine s_Mo_order_12 rfl ?_
  refine s_Mo_order_13 hp_1000 rfl ?_
  refine ev_topi em ?_
  refine s_Mo_order_16 ?_
  refine s_Mo_order_17 ?_
  refine s_Mo_order_18 rfl ?_
  refine s_Mo_order_19 hp_1000 rfl ?_
  refine ev_topi ex ?_
  refine s_Mo_order_22 ?_
  refine s_Mo_order_23 ?_
  rw [idxM]
  refine s_Mo_order_24 ?_
  refine s_Mo_order_25 rfl ?_
  refine s_Mo_order_26 hp_1000 rfl ?_
  refine ev_topi ex ?_
  refine s_Mo_order_29 (fun c29 => absurd c29 (nI_pos (by omega))) (fun c29 => ?_)
  refine s_Mo_order_32 rfl ?_
  refine s_Mo_order_33 hp_1000 rfl ?_
  refine ev_topi ex ?_
  refine s_Mo_order_36 rfl ?_
  refine s_Mo_order_37 hp_1000 rfl ?_
  refine s_Mo_order_40 rfl ?_
  refine s_Mo_order_41 hp_1000 rfl ?_
  refine ev_topi em ?_
  refine s_Mo_order_44 hp_1001 (vp_in_nI (by omega) (by decide)) ?_
  rw [nI_clamp (by omega)]
  refine s_Mo_order_45 (fun c45 => absurd c45 (Int32.not_le.mpr hlt)) (fun c45 => ?_)
  refine s_Mo_order_48 ?_
  refine s_Mo_order_49 ?_
  refine s_Mo_order_53 ?_
  refine s_Mo_order_54 rfl ?_
  refine s_Mo_order_55 (fun c55 => absurd c55 (by decide)) (fun c55 => ?_)
  refine s_Mo_order_58 rfl ?_
  refine s_Mo_order_59 hp_1000 rfl ?_
  refine s_Mo_order_62 rfl ?_
  refine s_Mo_order_63 hp_1002 (vp_in_nI (by omega) (by decide)) ?_
  rw [nI_clamp (by omega)]
  refine ev_topi ho ?_
  refine s_Mo_order_64 ?_
  refine s_Mo_order_68 ?_
  refine s_Mo_order_69 rfl ?_
  refine s_Mo_order_70 (fun c70 => absurd c70 (by decide)) (fun c70 => ?_)
  refine s_Mo_order_73 rfl ?_
  refine s_Mo_order_74 hp_1000 rfl ?_
  refine s_Mo_order_77 rfl ?_
  refine s_Mo_order_78 ?_
  refine s_Mo_order_79 ?_
  refine ev_topi (nI_add _ 1) ?_
  refine s_Mo_order_80 hp_1002 (vp_in_nI (by omega) (by decide)) ?_
  rw [nI_clamp (by omega)]
  refine ev_topi e1 ?_
  refine s_Mo_order_81 ?_
  refine s_Mo_order_85 ?_
  refine s_Mo_order_87 rfl ?_
  refine s_Mo_order_88 (fun c88 => absurd c88 (by decide)) (fun c88 => ?_)
  refine s_Mo_order_91 rfl ?_
  refine s_Mo_order_92 hp_1000 rfl ?_
  refine s_Mo_order_95 rfl ?_
  refine s_Mo_order_96 ?_
  refine s_Mo_order_97 ?_
  refine ev_topi (nI_add _ 2) ?_
  refine s_Mo_order_98 hp_1002 (vp_in_nI (by omega) (by decide)) ?_
  rw [nI_clamp (by omega)]
  refine ev_topi e2 ?_
  refine s_Mo_order_99 ?_
  refine s_Mo_order_103 ?_
  refine s_Mo_order_105 rfl ?_
  refine s_Mo_order_106 (fun c106 => absurd c106 (by decide)) (fun c106 => ?_)
  refine s_Mo_order_109 rfl ?_
  refine s_Mo_order_110 hp_1000 rfl ?_
  refine s_Mo_order_113 rfl ?_
  refine s_Mo_order_114 ?_
  refine s_Mo_order_115 ?_
  refine ev_topi (nI_add _ 3) ?_
  refine s_Mo_order_116 hp_1002 (vp_in_nI (by omega) (by decide)) ?_
  rw [nI_clamp (by omega)]
  refine ev_topi e3 ?_
  refine s_Mo_order_117 ?_
  refine s_Mo_order_121 ?_
  refine s_Mo_order_123 rfl ?_
  refine s_Mo_order_124 ?_
  refine s_Mo_order_125 ?_
  refine c_Mo_order_127 (t_Mo_in) (Nat.le_of_ble_eq_true rfl) ?_
  refine s_Mo_order_130 (fun c130 => absurd c130 (by decide)) (fun c130 => ?_)
  refine s_Mo_order_133 rfl ?_
  refine s_Mo_order_134 ?_
  refine s_Mo_order_136 (fun c136 => absurd c136 (by decide)) (fun c136 => ?_)
  refine s_Mo_order_139 ?_
  refine s_Mo_order_140 ?_
  refine s_Mo_order_144 ?_
  refine s_Mo_order_146 rfl ?_
  refine s_Mo_order_147 ?_
  refine s_Mo_order_148 ?_
  refine c_Mo_order_150 (t_Mo_in) (Nat.le_of_ble_eq_true rfl) ?_
  refine s_Mo_order_153 (fun c153 => absurd c153 (fun h => h (by decide))) (fun c153 => ?_)
  refine s_Mo_order_156 rfl ?_
  refine s_Mo_order_157 ?_
  refine s_Mo_order_159 (fun c159 => absurd c159 (by decide)) (fun c159 => ?_)
  refine s_Mo_order_162 rfl ?_
  refine s_Mo_order_163 ?_
  refine s_Mo_order_165 (fun c165 => absurd c165 (by decide)) (fun c165 => ?_)
  refine s_Mo_order_168 rfl ?_
  refine s_Mo_order_169 ?_
  refine s_Mo_order_171 (fun c171 => ?_) (fun c171 => absurd c171 (by decide))
  refine s_Mo_order_178 ?_
  refine s_Mo_order_179 ?_
  refine s_Mo_order_181 rfl ?_
  refine s_Mo_order_182 ?_
  refine s_Mo_order_183 ?_
  refine c_Mo_order_185 (t_Mo_in) (Nat.le_of_ble_eq_true rfl) ?_
  refine s_Mo_order_188 (fun c188 => absurd c188 (by decide)) (fun c188 => ?_)
  refine s_Mo_order_191 rfl ?_
  refine s_Mo_order_193 (fun c193 => absurd c193 (by decide)) (fun c193 => ?_)
  refine s_Mo_order_196 rfl ?_
  refine s_Mo_order_198 ?_
  refine s_Mo_order_199 ?_
  refine c_Mo_order_201 (t_Mo_in) (Nat.le_of_ble_eq_true rfl) ?_
  refine s_Mo_order_204 (fun c204 => absurd c204 (bz_n0.mpr ha)) (fun c204 => ?_)
  refine s_Mo_order_207 rfl ?_
  refine s_Mo_order_209 (fun c209 => ?_) (fun c209 => absurd c209 (by decide))
  refine s_Mo_order_223 rfl ?_
  refine s_Mo_order_224 ?_
  refine s_Mo_order_226 (fun c226 => ?_) (fun c226 => absurd c226 (by decide))
  refine s_Mo_order_250 rfl ?_
  refine s_Mo_order_251 ?_
  refine s_Mo_order_253 (fun c253 => ?_) (fun c253 => absurd c253 (by decide))
  refine s_Mo_order_271 ?_
  refine s_Mo_order_272 ?_
  refine s_Mo_order_274 rfl ?_
  refine s_Mo_order_276 (fun c276 => ?_) (fun c276 => absurd c276 (by decide))
  refine s_Mo_order_283 rfl ?_
  refine s_Mo_order_284 ?_
  refine s_Mo_order_285 (fun c285 => ?_) (fun c285 => absurd c285 (by decide))
  refine s_Mo_order_300 rfl ?_
  refine s_Mo_order_301 ?_
  refine s_Mo_order_303 (fun c303 => ?_) (fun c303 => absurd c303 (by decide))
  refine s_Mo_order_320 rfl ?_
  refine s_Mo_order_321 ?_
  refine s_Mo_order_323 (fun c323 => absurd c323 (by decide)) (fun c323 => ?_)
  refine s_Mo_order_326 rfl ?_
  refine s_Mo_order_327 rfl ?_
  refine s_Mo_order_328 rfl ?_
  refine c_Mo_order_330 (hq) hp_1000 rfl (Nat.le_of_ble_eq_true rfl) ?_
  refine s_Mo_order_333 ?_
  refine s_Mo_order_426 ?_
  refine s_Mo_order_428 rfl ?_
  refine s_Mo_order_429 rfl ?_
  refine s_Mo_order_431 hp_1000 (Nat.le_of_ble_eq_true rfl) ?_
  rw [hu_1000_15]
  refine s_Mo_order_434 rfl ?_
  refine s_Mo_order_435 rfl ?_
  refine s_Mo_order_437 (fun c437 => ?_) (fun c437 => ?_)
  · skip
    refine s_Mo_order_452 rfl ?_
    refine s_Mo_order_453 hp_1000 rfl ?_
    refine s_Mo_order_456 ?_
    refine s_Mo_order_465 hp_1000 (Nat.le_of_ble_eq_true rfl) ?_
    rw [hu_1000_14]
    exact s_Mo_order_468 ⟨rfl, by rw [mQ, if_pos (Or.inl c437)]; rfl⟩ z0
  · skip
    refine s_Mo_order_440 rfl ?_
    refine s_Mo_order_441 ?_
    refine s_Mo_order_443 (fun c443 => absurd c443 (by decide)) (fun c443 => ?_)
    refine s_Mo_order_446 rfl ?_
    refine s_Mo_order_447 ?_
    refine s_Mo_order_449 (fun c449 => ?_) (fun c449 => absurd c449 (by decide))
    refine s_Mo_order_459 rfl ?_
    refine s_Mo_order_460 hp_1000 rfl ?_
    refine s_Mo_order_463 ?_
    refine s_Mo_order_464 ?_
    refine s_Mo_order_465 hp_1000 (Nat.le_of_ble_eq_true rfl) ?_
    rw [hu_1000_14]
    exact s_Mo_order_468 ⟨rfl, by rw [mQ, if_neg (fun h => h.elim c437 (fun h => h.elim (fun h => absurd h (by decide)) (fun h => absurd h (by decide))))]; rfl⟩ z0
set_option maxHeartbeats 4000000 in
set_option maxRecDepth 100000 in
theorem t_ordb_8 {G : GW} {L : LT} {I : IT} {r : Nat} {m x : Nat} (em : I 1000 13 = nI m) (hm : m < 3) (ex : I 1000 14 = nI x) (hx : x < 24) (hlt : nI x < I 1001 m) {p q c : Int32} (ho : I 1002 (96 * m + 4 * x) = 8) (e1 : I 1002 (96 * m + 4 * x + 1) = p) (e2 : I 1002 (96 * m + 4 * x + 2) = q) (e3 : I 1002 (96 * m + 4 * x + 3) = c) (hbad : (inz p 0 7) = false) : mt G M_Mo_order 5 0 0 [.ref 1000] (hp L I r) (dt (none) (hp L (mQ 8 (5, mD I)) r)) := by
  refine mt_of_ev (by decide) (Nat.le_of_ble_eq_true rfl) ?_
  show ev G M_Mo_order (rmv 5 0 0) (Er M_Mo_order _ 0 0) 0 [(0, .ref 1000)] [] (hp L I r) 0 0
  refine s_Mo_order_0 rfl ?_
  refine s_Mo_order_1 rfl ?_
  refine s_Mo_order_2 hp_1000 rfl ?_
  refine s_Mo_order_5 ?_
  refine s_Mo_order_6 ?_
  refine s_Mo_order_7 hp_1000 (Nat.le_of_ble_eq_true rfl) ?_
  rw [hu_1000_16]
  refine s_Mo_order_10 ?_
  refine s_Mo_order_12 rfl ?_
  refine s_Mo_order_13 hp_1000 rfl ?_
  refine ev_topi em ?_
  refine s_Mo_order_16 ?_
  refine s_Mo_order_17 ?_
  refine s_Mo_order_18 rfl ?_
  refine s_Mo_order_19 hp_1000 rfl ?_
  refine ev_topi ex ?_
  refine s_Mo_order_22 ?_
  refine s_Mo_order_23 ?_
  rw [idxM]
  refine s_Mo_order_24 ?_
  refine s_Mo_order_25 rfl ?_
  refine s_Mo_order_26 hp_1000 rfl ?_
  refine ev_topi ex ?_
  refine s_Mo_order_29 (fun c29 => absurd c29 (nI_pos (by omega))) (fun c29 => ?_)
  refine s_Mo_order_32 rfl ?_
  refine s_Mo_order_33 hp_1000 rfl ?_
  refine ev_topi ex ?_
  refine s_Mo_order_36 rfl ?_
  refine s_Mo_order_37 hp_1000 rfl ?_
  refine s_Mo_order_40 rfl ?_
  refine s_Mo_order_41 hp_1000 rfl ?_
  refine ev_topi em ?_
  refine s_Mo_order_44 hp_1001 (vp_in_nI (by omega) (by decide)) ?_
  rw [nI_clamp (by omega)]
  refine s_Mo_order_45 (fun c45 => absurd c45 (Int32.not_le.mpr hlt)) (fun c45 => ?_)
  refine s_Mo_order_48 ?_
  refine s_Mo_order_49 ?_
  refine s_Mo_order_53 ?_
  refine s_Mo_order_54 rfl ?_
  refine s_Mo_order_55 (fun c55 => absurd c55 (by decide)) (fun c55 => ?_)
  refine s_Mo_order_58 rfl ?_
  refine s_Mo_order_59 hp_1000 rfl ?_
  refine s_Mo_order_62 rfl ?_
  refine s_Mo_order_63 hp_1002 (vp_in_nI (by omega) (by decide)) ?_
  rw [nI_clamp (by omega)]
  refine ev_topi ho ?_
  refine s_Mo_order_64 ?_
  refine s_Mo_order_68 ?_
  refine s_Mo_order_69 rfl ?_
  refine s_Mo_order_70 (fun c70 => absurd c70 (by decide)) (fun c70 => ?_)
  refine s_Mo_order_73 rfl ?_
  refine s_Mo_order_74 hp_1000 rfl ?_
  refine s_Mo_order_77 rfl ?_
  refine s_Mo_order_78 ?_
  refine s_Mo_order_79 ?_
  refine ev_topi (nI_add _ 1) ?_
  refine s_Mo_order_80 hp_1002 (vp_in_nI (by omega) (by decide)) ?_
  rw [nI_clamp (by omega)]
  refine ev_topi e1 ?_
  refine s_Mo_order_81 ?_
  refine s_Mo_order_85 ?_
  refine s_Mo_order_87 rfl ?_
  refine s_Mo_order_88 (fun c88 => absurd c88 (by decide)) (fun c88 => ?_)
  refine s_Mo_order_91 rfl ?_
  refine s_Mo_order_92 hp_1000 rfl ?_
  refine s_Mo_order_95 rfl ?_
  refine s_Mo_order_96 ?_
  refine s_Mo_order_97 ?_
  refine ev_topi (nI_add _ 2) ?_
  refine s_Mo_order_98 hp_1002 (vp_in_nI (by omega) (by decide)) ?_
  rw [nI_clamp (by omega)]
  refine ev_topi e2 ?_
  refine s_Mo_order_99 ?_
  refine s_Mo_order_103 ?_
  refine s_Mo_order_105 rfl ?_
  refine s_Mo_order_106 (fun c106 => absurd c106 (by decide)) (fun c106 => ?_)
  refine s_Mo_order_109 rfl ?_
  refine s_Mo_order_110 hp_1000 rfl ?_
  refine s_Mo_order_113 rfl ?_
  refine s_Mo_order_114 ?_
  refine s_Mo_order_115 ?_
  refine ev_topi (nI_add _ 3) ?_
  refine s_Mo_order_116 hp_1002 (vp_in_nI (by omega) (by decide)) ?_
  rw [nI_clamp (by omega)]
  refine ev_topi e3 ?_
  refine s_Mo_order_117 ?_
  refine s_Mo_order_121 ?_
  refine s_Mo_order_123 rfl ?_
  refine s_Mo_order_124 ?_
  refine s_Mo_order_125 ?_
  refine c_Mo_order_127 (t_Mo_in) (Nat.le_of_ble_eq_true rfl) ?_
  refine s_Mo_order_130 (fun c130 => absurd c130 (by decide)) (fun c130 => ?_)
  refine s_Mo_order_133 rfl ?_
  refine s_Mo_order_134 ?_
  refine s_Mo_order_136 (fun c136 => absurd c136 (by decide)) (fun c136 => ?_)
  refine s_Mo_order_139 ?_
  refine s_Mo_order_140 ?_
  refine s_Mo_order_144 ?_
  refine s_Mo_order_146 rfl ?_
  refine s_Mo_order_147 ?_
  refine s_Mo_order_148 ?_
  refine c_Mo_order_150 (t_Mo_in) (Nat.le_of_ble_eq_true rfl) ?_
  refine s_Mo_order_153 (fun c153 => absurd c153 (fun h => h (by decide))) (fun c153 => ?_)
  refine s_Mo_order_156 rfl ?_
  refine s_Mo_order_157 ?_
  refine s_Mo_order_159 (fun c159 => absurd c159 (by decide)) (fun c159 => ?_)
  refine s_Mo_order_162 rfl ?_
  refine s_Mo_order_163 ?_
  refine s_Mo_order_165 (fun c165 => absurd c165 (by decide)) (fun c165 => ?_)
  refine s_Mo_order_168 rfl ?_
  refine s_Mo_order_169 ?_
  refine s_Mo_order_171 (fun c171 => ?_) (fun c171 => absurd c171 (by decide))
  refine s_Mo_order_178 ?_
  refine s_Mo_order_179 ?_
  refine s_Mo_order_181 rfl ?_
  refine s_Mo_order_182 ?_
  refine s_Mo_order_183 ?_
  refine c_Mo_order_185 (t_Mo_in) (Nat.le_of_ble_eq_true rfl) ?_
  refine s_Mo_order_188 (fun c188 => absurd c188 (by decide)) (fun c188 => ?_)
  refine s_Mo_order_191 rfl ?_
  refine s_Mo_order_193 (fun c193 => absurd c193 (by decide)) (fun c193 => ?_)
  refine s_Mo_order_196 rfl ?_
  refine s_Mo_order_198 ?_
  refine s_Mo_order_199 ?_
  refine c_Mo_order_201 (t_Mo_in) (Nat.le_of_ble_eq_true rfl) ?_
  refine s_Mo_order_204 (fun c204 => ?_) (fun c204 => absurd c204 (fun h => h (by rw [bz_0]; simpa using hbad)))
  refine s_Mo_order_267 ?_
  refine s_Mo_order_268 ?_
  refine s_Mo_order_272 ?_
  refine s_Mo_order_274 rfl ?_
  refine s_Mo_order_276 (fun c276 => absurd c276 (by decide)) (fun c276 => ?_)
  refine s_Mo_order_279 ?_
  refine s_Mo_order_280 ?_
  refine s_Mo_order_426 ?_
  refine s_Mo_order_428 rfl ?_
  refine s_Mo_order_429 rfl ?_
  refine s_Mo_order_431 hp_1000 (Nat.le_of_ble_eq_true rfl) ?_
  rw [hu_1000_15]
  refine s_Mo_order_434 rfl ?_
  refine s_Mo_order_435 rfl ?_
  refine s_Mo_order_437 (fun c437 => ?_) (fun c437 => absurd c437 (by decide))
  refine s_Mo_order_452 rfl ?_
  refine s_Mo_order_453 hp_1000 rfl ?_
  refine s_Mo_order_456 ?_
  refine s_Mo_order_465 hp_1000 (Nat.le_of_ble_eq_true rfl) ?_
  rw [hu_1000_14]
  exact s_Mo_order_468 ⟨rfl, by rw [i5]; rfl⟩ z0

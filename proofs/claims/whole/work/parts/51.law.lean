/-! the law: its loop -/
theorem ev_cs {G : GW} {M : MW} {R : Room} {E : Nat → LV → List Value → HP → Nat → Nat → Prop} {pc : Nat} {lv : LV} {st : List Value} {h : HP} {c s c' s' : Nat} (hc : c = c') (hs : s = s') (k : ev G M R E pc lv st h c' s') : ev G M R E pc lv st h c s := by rw [hc, hs]; exact k
theorem ixk {i k N : Nat} {q : Int32} (hq : q = nI k) (h : i + k < N) (hN : N ≤ 3072) : vp_in (nI i + q) N := by rw [hq, nI_add]; exact vp_in_nI h (by omega)
theorem law_c {N i : Nat} (hN : N ≤ 3072) (hi : i ≤ 10000) (h : ¬ Int32.ofNat N - 6 < nI i) : i + 6 ≤ N := by
  by_cases h6 : 6 ≤ N
  · have e : Int32.ofNat N - 6 = nI (N - 6) := pk_sub (a := N) (b := 6) h6
    rw [e, nI_ltI (by omega) (by omega)] at h
    omega
  · exfalso
    rw [Int32.lt_iff_toInt_lt, nI_toInt (by omega)] at h
    rcases (by omega : N = 0 ∨ N = 1 ∨ N = 2 ∨ N = 3 ∨ N = 4 ∨ N = 5) with rfl | rfl | rfl | rfl | rfl | rfl
    · have : (Int32.ofNat 0 - 6).toInt = -6 := by decide
      omega
    · have : (Int32.ofNat 1 - 6).toInt = -5 := by decide
      omega
    · have : (Int32.ofNat 2 - 6).toInt = -4 := by decide
      omega
    · have : (Int32.ofNat 3 - 6).toInt = -3 := by decide
      omega
    · have : (Int32.ofNat 4 - 6).toInt = -2 := by decide
      omega
    · have : (Int32.ofNat 5 - 6).toInt = -1 := by decide
      omega
section LAW
variable {G : GW} {N : Nat} {xs : Nat → Int32} {E : Nat → LV → List Value → HP → Nat → Nat → Prop}
def lwE (G : GW) (E : Nat → LV → List Value → HP → Nat → Nat → Prop) (pc i : Nat) (L : LT) (I : IT) (r : Nat) : Prop := ev G M_La_law room_1 E pc [(3, .int (nI i)), (2, .ref 1000), (1, .ref 0), (0, .ref (tB + 1))] [] (hp L I r) (40 + 11 * r) (2092 + 196 * r)
set_option maxRecDepth 100000 in
set_option maxHeartbeats 4000000 in
theorem law_0 (hS : G.2.2.2.2[1]? = some (.int, N, fun j => .int (xs j))) (hN : N ≤ 3072) {i : Nat} (hi : i + 6 ≤ N) {L : LT} {I : IT} {r d : Nat} (v : Inv L I r d) (hd : d ≤ 5 * i) (k : ∀ (L : LT) (I : IT) (r d : Nat), Inv L I r d → d ≤ 5 * (i + 6) → lwE G E 449 i L I r) : lwE G E 100 i L I r := by
  have hr : r ≤ 40 := v.2.2.1.choose_spec.choose_spec.1.2.1.2.1
  obtain ⟨x, I', J', c1, c2, v'⟩ := p_code (G := G) v (xs (nI i + 1).toNatClampNeg) (xs (nI i + 2).toNatClampNeg) (xs (nI i + 3).toNatClampNeg) (xs (nI i + 4).toNatClampNeg) (xs (nI i + 5).toNatClampNeg)
  unfold lwE at *
  refine s_La_law_100 rfl ?_
  refine s_La_law_101 rfl ?_
  refine s_La_law_102 rfl ?_
  refine s_La_law_103 ?_
  refine s_La_law_104 ?_
  refine s_La_law_105t hS (ixk (k := 1) rfl (by omega) hN) rfl ?_
  refine s_La_law_106 rfl ?_
  refine s_La_law_107 rfl ?_
  refine s_La_law_108 ?_
  refine s_La_law_109 ?_
  refine s_La_law_110t hS (ixk (k := 2) rfl (by omega) hN) rfl ?_
  refine s_La_law_111 rfl ?_
  refine s_La_law_112 rfl ?_
  refine s_La_law_113 ?_
  refine s_La_law_114 ?_
  refine s_La_law_115t hS (ixk (k := 3) rfl (by omega) hN) rfl ?_
  refine s_La_law_116 rfl ?_
  refine s_La_law_117 rfl ?_
  refine s_La_law_118 ?_
  refine s_La_law_119 ?_
  refine s_La_law_120t hS (ixk (k := 4) rfl (by omega) hN) rfl ?_
  refine s_La_law_121 rfl ?_
  refine s_La_law_122 rfl ?_
  refine s_La_law_123 ?_
  refine s_La_law_124 ?_
  refine s_La_law_125t hS (ixk (k := 5) rfl (by omega) hN) rfl ?_
  refine s_La_law_126 c1 hp_0 rfl ⟨Nat.le_of_ble_eq_true rfl, Nat.le_of_ble_eq_true rfl⟩ ⟨(show 40 + 11 * r + 0 ≤ 600000 by omega), (show 2092 + 196 * r + 0 ≤ 7302250 by omega)⟩ (Nat.le_of_ble_eq_true rfl) ?_
  rintro _ _ ⟨rfl, rfl⟩
  refine s_La_law_129 rfl ?_
  refine s_La_law_130 rfl ?_
  refine s_La_law_131 rfl ?_
  refine s_La_law_132 ?_
  refine s_La_law_133 ?_
  refine s_La_law_134t hS (ixk (k := 1) rfl (by omega) hN) rfl ?_
  refine s_La_law_135 rfl ?_
  refine s_La_law_136 rfl ?_
  refine s_La_law_137 ?_
  refine s_La_law_138 ?_
  refine s_La_law_139t hS (ixk (k := 2) rfl (by omega) hN) rfl ?_
  refine s_La_law_140 rfl ?_
  refine s_La_law_141 rfl ?_
  refine s_La_law_142 ?_
  refine s_La_law_143 ?_
  refine s_La_law_144t hS (ixk (k := 3) rfl (by omega) hN) rfl ?_
  refine s_La_law_145 rfl ?_
  refine s_La_law_146 rfl ?_
  refine s_La_law_147 ?_
  refine s_La_law_148 ?_
  refine s_La_law_149t hS (ixk (k := 4) rfl (by omega) hN) rfl ?_
  refine s_La_law_150 rfl ?_
  refine s_La_law_151 rfl ?_
  refine s_La_law_152 ?_
  refine s_La_law_153 ?_
  refine s_La_law_154t hS (ixk (k := 5) rfl (by omega) hN) rfl ?_
  refine s_La_law_155 c2 hp_1000 rfl ⟨Nat.le_of_ble_eq_true rfl, Nat.le_of_ble_eq_true rfl⟩ ⟨(show 40 + 11 * r + 0 + 0 ≤ 600000 by omega), (show 2092 + 196 * r + 0 + 0 ≤ 7302250 by omega)⟩ (Nat.le_of_ble_eq_true rfl) ?_
  rintro _ _ ⟨rfl, rfl⟩
  refine s_La_law_158 (fun _ => ?_) (fun c => absurd rfl c)
  exact k L J' r d v' (by omega)
set_option maxRecDepth 100000 in
set_option maxHeartbeats 4000000 in
theorem law_1 (hS : G.2.2.2.2[1]? = some (.int, N, fun j => .int (xs j))) (hN : N ≤ 3072) {i : Nat} (hi : i + 6 ≤ N) {L : LT} {I : IT} {r d : Nat} (v : Inv L I r d) (hd : d ≤ 5 * i) (k : ∀ (L : LT) (I : IT) (r d : Nat), Inv L I r d → d ≤ 5 * (i + 6) → lwE G E 449 i L I r) : lwE G E 163 i L I r := by
  have hr : r ≤ 40 := v.2.2.1.choose_spec.choose_spec.1.2.1.2.1
  obtain ⟨x, L', I', J', c1, c2, v'⟩ := p_boot (G := G) v
  unfold lwE at *
  refine s_La_law_163 rfl ?_
  refine s_La_law_164 c1 hp_0 rfl ⟨Nat.le_of_ble_eq_true rfl, Nat.le_of_ble_eq_true rfl⟩ ⟨(show 40 + 11 * r + 0 ≤ 600000 by omega), (show 2092 + 196 * r + 0 ≤ 7302250 by omega)⟩ (Nat.le_of_ble_eq_true rfl) ?_
  rintro _ _ ⟨rfl, rfl⟩
  refine s_La_law_167 rfl ?_
  refine s_La_law_168 c2 hp_1000 rfl ⟨Nat.le_of_ble_eq_true rfl, Nat.le_of_ble_eq_true rfl⟩ ⟨(show 40 + 11 * r + 0 + 0 ≤ 600000 by omega), (show 2092 + 196 * r + 0 + 0 ≤ 7302250 by omega)⟩ (Nat.le_of_ble_eq_true rfl) ?_
  rintro _ _ ⟨rfl, rfl⟩
  refine s_La_law_171 (fun _ => ?_) (fun c => absurd rfl c)
  exact k L' J' r 0 v' (by omega)
set_option maxRecDepth 100000 in
set_option maxHeartbeats 4000000 in
theorem law_2 (hG : G.2.2.2.2[0]? = some (.int, 19, nmd)) (hS : G.2.2.2.2[1]? = some (.int, N, fun j => .int (xs j))) (hN : N ≤ 3072) {i : Nat} (hi : i + 6 ≤ N) {L : LT} {I : IT} {r d : Nat} (v : Inv L I r d) (hd : d ≤ 5 * i) (k : ∀ (L : LT) (I : IT) (r d : Nat), Inv L I r d → d ≤ 5 * (i + 6) → lwE G E 449 i L I r) : lwE G E 176 i L I r := by
  have hr : r ≤ 40 := v.2.2.1.choose_spec.choose_spec.1.2.1.2.1
  obtain ⟨rf, d', x, L', I', J', r1, r2, hd', c1, c2, v'⟩ := p_step (G := G) hG v (xs (nI i + 1).toNatClampNeg)
  unfold lwE at *
  refine s_La_law_176 rfl ?_
  refine s_La_law_177 rfl ?_
  refine s_La_law_178 rfl ?_
  refine s_La_law_179 ?_
  refine s_La_law_180 ?_
  refine s_La_law_181t hS (ixk (k := 1) rfl (by omega) hN) rfl ?_
  refine s_La_law_182 c1 hp_0 rfl ⟨Nat.le_of_ble_eq_true rfl, Nat.le_of_ble_eq_true rfl⟩ ⟨(show 40 + 11 * r + 11 * (rf - r) ≤ 600000 by omega), (show 2092 + 196 * r + 196 * (rf - r) ≤ 7302250 by omega)⟩ (Nat.le_of_ble_eq_true rfl) ?_
  rintro _ _ ⟨rfl, rfl⟩
  refine s_La_law_185 rfl ?_
  refine s_La_law_186 rfl ?_
  refine s_La_law_187 rfl ?_
  refine s_La_law_188 ?_
  refine s_La_law_189 ?_
  refine s_La_law_190t hS (ixk (k := 1) rfl (by omega) hN) rfl ?_
  refine s_La_law_191 c2 hp_1000 rfl ⟨Nat.le_of_ble_eq_true rfl, Nat.le_of_ble_eq_true rfl⟩ ⟨(show 40 + 11 * r + 11 * (rf - r) + 0 ≤ 600000 by omega), (show 2092 + 196 * r + 196 * (rf - r) + 0 ≤ 7302250 by omega)⟩ (Nat.le_of_ble_eq_true rfl) ?_
  rintro _ _ ⟨rfl, rfl⟩
  refine s_La_law_194 (fun _ => ?_) (fun c => absurd rfl c)
  refine ev_cs (c' := 40 + 11 * rf) (s' := 2092 + 196 * rf) (by omega) (by omega) ?_
  exact k L' J' rf d' v' (by omega)
set_option maxRecDepth 100000 in
set_option maxHeartbeats 4000000 in
theorem law_3 (hS : G.2.2.2.2[1]? = some (.int, N, fun j => .int (xs j))) (hN : N ≤ 3072) {i : Nat} (hi : i + 6 ≤ N) {L : LT} {I : IT} {r d : Nat} (v : Inv L I r d) (hd : d ≤ 5 * i) (k : ∀ (L : LT) (I : IT) (r d : Nat), Inv L I r d → d ≤ 5 * (i + 6) → lwE G E 449 i L I r) : lwE G E 199 i L I r := by
  have hr : r ≤ 40 := v.2.2.1.choose_spec.choose_spec.1.2.1.2.1
  obtain ⟨d', x, L', I', J', hd', c1, c2, v'⟩ := p_undo (G := G) v (by omega) (xs (nI i + 1).toNatClampNeg)
  unfold lwE at *
  refine s_La_law_199 rfl ?_
  refine s_La_law_200 rfl ?_
  refine s_La_law_201 rfl ?_
  refine s_La_law_202 ?_
  refine s_La_law_203 ?_
  refine s_La_law_204t hS (ixk (k := 1) rfl (by omega) hN) rfl ?_
  refine s_La_law_205 c1 hp_0 rfl ⟨Nat.le_of_ble_eq_true rfl, Nat.le_of_ble_eq_true rfl⟩ ⟨(show 40 + 11 * r + 0 ≤ 600000 by omega), (show 2092 + 196 * r + 0 ≤ 7302250 by omega)⟩ (Nat.le_of_ble_eq_true rfl) ?_
  rintro _ _ ⟨rfl, rfl⟩
  refine s_La_law_208 rfl ?_
  refine s_La_law_209 rfl ?_
  refine s_La_law_210 rfl ?_
  refine s_La_law_211 ?_
  refine s_La_law_212 ?_
  refine s_La_law_213t hS (ixk (k := 1) rfl (by omega) hN) rfl ?_
  refine s_La_law_214 c2 hp_1000 rfl ⟨Nat.le_of_ble_eq_true rfl, Nat.le_of_ble_eq_true rfl⟩ ⟨(show 40 + 11 * r + 0 + 0 ≤ 600000 by omega), (show 2092 + 196 * r + 0 + 0 ≤ 7302250 by omega)⟩ (Nat.le_of_ble_eq_true rfl) ?_
  rintro _ _ ⟨rfl, rfl⟩
  refine s_La_law_217 (fun _ => ?_) (fun c => absurd rfl c)
  exact k L' J' r d' v' (by omega)
set_option maxRecDepth 100000 in
set_option maxHeartbeats 4000000 in
theorem law_4 (hS : G.2.2.2.2[1]? = some (.int, N, fun j => .int (xs j))) (hN : N ≤ 3072) {i : Nat} (hi : i + 6 ≤ N) {L : LT} {I : IT} {r d : Nat} (v : Inv L I r d) (hd : d ≤ 5 * i) (k : ∀ (L : LT) (I : IT) (r d : Nat), Inv L I r d → d ≤ 5 * (i + 6) → lwE G E 449 i L I r) : lwE G E 222 i L I r := by
  have hr : r ≤ 40 := v.2.2.1.choose_spec.choose_spec.1.2.1.2.1
  obtain ⟨x, c1, c2⟩ := p_reg (G := G) v (xs (nI i + 1).toNatClampNeg) (xs (nI i + 2).toNatClampNeg)
  unfold lwE at *
  refine s_La_law_222 rfl ?_
  refine s_La_law_223 rfl ?_
  refine s_La_law_224 rfl ?_
  refine s_La_law_225 ?_
  refine s_La_law_226 ?_
  refine s_La_law_227t hS (ixk (k := 1) rfl (by omega) hN) rfl ?_
  refine s_La_law_228 rfl ?_
  refine s_La_law_229 rfl ?_
  refine s_La_law_230 ?_
  refine s_La_law_231 ?_
  refine s_La_law_232t hS (ixk (k := 2) rfl (by omega) hN) rfl ?_
  refine s_La_law_233 c1 hp_0 rfl ⟨Nat.le_of_ble_eq_true rfl, Nat.le_of_ble_eq_true rfl⟩ ⟨(show 40 + 11 * r + 0 ≤ 600000 by omega), (show 2092 + 196 * r + 0 ≤ 7302250 by omega)⟩ (Nat.le_of_ble_eq_true rfl) ?_
  rintro _ _ ⟨rfl, rfl⟩
  refine s_La_law_236 rfl ?_
  refine s_La_law_237 rfl ?_
  refine s_La_law_238 rfl ?_
  refine s_La_law_239 ?_
  refine s_La_law_240 ?_
  refine s_La_law_241t hS (ixk (k := 1) rfl (by omega) hN) rfl ?_
  refine s_La_law_242 rfl ?_
  refine s_La_law_243 rfl ?_
  refine s_La_law_244 ?_
  refine s_La_law_245 ?_
  refine s_La_law_246t hS (ixk (k := 2) rfl (by omega) hN) rfl ?_
  refine s_La_law_247 c2 hp_1000 rfl ⟨Nat.le_of_ble_eq_true rfl, Nat.le_of_ble_eq_true rfl⟩ ⟨(show 40 + 11 * r + 0 + 0 ≤ 600000 by omega), (show 2092 + 196 * r + 0 + 0 ≤ 7302250 by omega)⟩ (Nat.le_of_ble_eq_true rfl) ?_
  rintro _ _ ⟨rfl, rfl⟩
  refine s_La_law_250 (fun _ => ?_) (fun c => absurd rfl c)
  exact k L I r d v (by omega)
set_option maxRecDepth 100000 in
set_option maxHeartbeats 4000000 in
theorem law_5 (hS : G.2.2.2.2[1]? = some (.int, N, fun j => .int (xs j))) (hN : N ≤ 3072) {i : Nat} (hi : i + 6 ≤ N) {L : LT} {I : IT} {r d : Nat} (v : Inv L I r d) (hd : d ≤ 5 * i) (k : ∀ (L : LT) (I : IT) (r d : Nat), Inv L I r d → d ≤ 5 * (i + 6) → lwE G E 449 i L I r) : lwE G E 255 i L I r := by
  have hr : r ≤ 40 := v.2.2.1.choose_spec.choose_spec.1.2.1.2.1
  obtain ⟨x, c1, c2⟩ := p_wrd (G := G) v (xs (nI i + 1).toNatClampNeg) (xs (nI i + 2).toNatClampNeg)
  unfold lwE at *
  refine s_La_law_255 rfl ?_
  refine s_La_law_256 rfl ?_
  refine s_La_law_257 rfl ?_
  refine s_La_law_258 ?_
  refine s_La_law_259 ?_
  refine s_La_law_260t hS (ixk (k := 1) rfl (by omega) hN) rfl ?_
  refine s_La_law_261 rfl ?_
  refine s_La_law_262 rfl ?_
  refine s_La_law_263 ?_
  refine s_La_law_264 ?_
  refine s_La_law_265t hS (ixk (k := 2) rfl (by omega) hN) rfl ?_
  refine s_La_law_266 c1 hp_0 rfl ⟨Nat.le_of_ble_eq_true rfl, Nat.le_of_ble_eq_true rfl⟩ ⟨(show 40 + 11 * r + 0 ≤ 600000 by omega), (show 2092 + 196 * r + 0 ≤ 7302250 by omega)⟩ (Nat.le_of_ble_eq_true rfl) ?_
  rintro _ _ ⟨rfl, rfl⟩
  refine s_La_law_269 rfl ?_
  refine s_La_law_270 rfl ?_
  refine s_La_law_271 rfl ?_
  refine s_La_law_272 ?_
  refine s_La_law_273 ?_
  refine s_La_law_274t hS (ixk (k := 1) rfl (by omega) hN) rfl ?_
  refine s_La_law_275 rfl ?_
  refine s_La_law_276 rfl ?_
  refine s_La_law_277 ?_
  refine s_La_law_278 ?_
  refine s_La_law_279t hS (ixk (k := 2) rfl (by omega) hN) rfl ?_
  refine s_La_law_280 c2 hp_1000 rfl ⟨Nat.le_of_ble_eq_true rfl, Nat.le_of_ble_eq_true rfl⟩ ⟨(show 40 + 11 * r + 0 + 0 ≤ 600000 by omega), (show 2092 + 196 * r + 0 + 0 ≤ 7302250 by omega)⟩ (Nat.le_of_ble_eq_true rfl) ?_
  rintro _ _ ⟨rfl, rfl⟩
  refine s_La_law_283 (fun _ => ?_) (fun c => absurd rfl c)
  exact k L I r d v (by omega)
set_option maxRecDepth 100000 in
set_option maxHeartbeats 4000000 in
theorem law_6 (hS : G.2.2.2.2[1]? = some (.int, N, fun j => .int (xs j))) (hN : N ≤ 3072) {i : Nat} (hi : i + 6 ≤ N) {L : LT} {I : IT} {r d : Nat} (v : Inv L I r d) (hd : d ≤ 5 * i) (k : ∀ (L : LT) (I : IT) (r d : Nat), Inv L I r d → d ≤ 5 * (i + 6) → lwE G E 449 i L I r) : lwE G E 288 i L I r := by
  have hr : r ≤ 40 := v.2.2.1.choose_spec.choose_spec.1.2.1.2.1
  obtain ⟨x, c1, c2⟩ := p_lok (G := G) v (xs (nI i + 1).toNatClampNeg)
  unfold lwE at *
  refine s_La_law_288 rfl ?_
  refine s_La_law_289 rfl ?_
  refine s_La_law_290 rfl ?_
  refine s_La_law_291 ?_
  refine s_La_law_292 ?_
  refine s_La_law_293t hS (ixk (k := 1) rfl (by omega) hN) rfl ?_
  refine s_La_law_294 c1 hp_0 rfl ⟨Nat.le_of_ble_eq_true rfl, Nat.le_of_ble_eq_true rfl⟩ ⟨(show 40 + 11 * r + 0 ≤ 600000 by omega), (show 2092 + 196 * r + 0 ≤ 7302250 by omega)⟩ (Nat.le_of_ble_eq_true rfl) ?_
  rintro _ _ ⟨rfl, rfl⟩
  refine s_La_law_297 rfl ?_
  refine s_La_law_298 rfl ?_
  refine s_La_law_299 rfl ?_
  refine s_La_law_300 ?_
  refine s_La_law_301 ?_
  refine s_La_law_302t hS (ixk (k := 1) rfl (by omega) hN) rfl ?_
  refine s_La_law_303 c2 hp_1000 rfl ⟨Nat.le_of_ble_eq_true rfl, Nat.le_of_ble_eq_true rfl⟩ ⟨(show 40 + 11 * r + 0 + 0 ≤ 600000 by omega), (show 2092 + 196 * r + 0 + 0 ≤ 7302250 by omega)⟩ (Nat.le_of_ble_eq_true rfl) ?_
  rintro _ _ ⟨rfl, rfl⟩
  refine s_La_law_306 (fun _ => ?_) (fun c => absurd rfl c)
  exact k L I r d v (by omega)
set_option maxRecDepth 100000 in
set_option maxHeartbeats 4000000 in
theorem law_7 (hS : G.2.2.2.2[1]? = some (.int, N, fun j => .int (xs j))) (hN : N ≤ 3072) {i : Nat} (hi : i + 6 ≤ N) {L : LT} {I : IT} {r d : Nat} (v : Inv L I r d) (hd : d ≤ 5 * i) (k : ∀ (L : LT) (I : IT) (r d : Nat), Inv L I r d → d ≤ 5 * (i + 6) → lwE G E 449 i L I r) : lwE G E 311 i L I r := by
  have hr : r ≤ 40 := v.2.2.1.choose_spec.choose_spec.1.2.1.2.1
  obtain ⟨x, c1, c2⟩ := p_own (G := G) v (xs (nI i + 1).toNatClampNeg) (xs (nI i + 2).toNatClampNeg)
  unfold lwE at *
  refine s_La_law_311 rfl ?_
  refine s_La_law_312 rfl ?_
  refine s_La_law_313 rfl ?_
  refine s_La_law_314 ?_
  refine s_La_law_315 ?_
  refine s_La_law_316t hS (ixk (k := 1) rfl (by omega) hN) rfl ?_
  refine s_La_law_317 rfl ?_
  refine s_La_law_318 rfl ?_
  refine s_La_law_319 ?_
  refine s_La_law_320 ?_
  refine s_La_law_321t hS (ixk (k := 2) rfl (by omega) hN) rfl ?_
  refine s_La_law_322 c1 hp_0 rfl ⟨Nat.le_of_ble_eq_true rfl, Nat.le_of_ble_eq_true rfl⟩ ⟨(show 40 + 11 * r + 0 ≤ 600000 by omega), (show 2092 + 196 * r + 0 ≤ 7302250 by omega)⟩ (Nat.le_of_ble_eq_true rfl) ?_
  rintro _ _ ⟨rfl, rfl⟩
  refine s_La_law_325 rfl ?_
  refine s_La_law_326 rfl ?_
  refine s_La_law_327 rfl ?_
  refine s_La_law_328 ?_
  refine s_La_law_329 ?_
  refine s_La_law_330t hS (ixk (k := 1) rfl (by omega) hN) rfl ?_
  refine s_La_law_331 rfl ?_
  refine s_La_law_332 rfl ?_
  refine s_La_law_333 ?_
  refine s_La_law_334 ?_
  refine s_La_law_335t hS (ixk (k := 2) rfl (by omega) hN) rfl ?_
  refine s_La_law_336 c2 hp_1000 rfl ⟨Nat.le_of_ble_eq_true rfl, Nat.le_of_ble_eq_true rfl⟩ ⟨(show 40 + 11 * r + 0 + 0 ≤ 600000 by omega), (show 2092 + 196 * r + 0 + 0 ≤ 7302250 by omega)⟩ (Nat.le_of_ble_eq_true rfl) ?_
  rintro _ _ ⟨rfl, rfl⟩
  refine s_La_law_339 (fun _ => ?_) (fun c => absurd rfl c)
  exact k L I r d v (by omega)
set_option maxRecDepth 100000 in
set_option maxHeartbeats 4000000 in
theorem law_8 (hS : G.2.2.2.2[1]? = some (.int, N, fun j => .int (xs j))) (hN : N ≤ 3072) {i : Nat} (hi : i + 6 ≤ N) {L : LT} {I : IT} {r d : Nat} (v : Inv L I r d) (hd : d ≤ 5 * i) (k : ∀ (L : LT) (I : IT) (r d : Nat), Inv L I r d → d ≤ 5 * (i + 6) → lwE G E 449 i L I r) : lwE G E 344 i L I r := by
  have hr : r ≤ 40 := v.2.2.1.choose_spec.choose_spec.1.2.1.2.1
  obtain ⟨x, c1, c2⟩ := p_cnt (G := G) v (xs (nI i + 1).toNatClampNeg)
  unfold lwE at *
  refine s_La_law_344 rfl ?_
  refine s_La_law_345 rfl ?_
  refine s_La_law_346 rfl ?_
  refine s_La_law_347 ?_
  refine s_La_law_348 ?_
  refine s_La_law_349t hS (ixk (k := 1) rfl (by omega) hN) rfl ?_
  refine s_La_law_350 c1 hp_0 rfl ⟨Nat.le_of_ble_eq_true rfl, Nat.le_of_ble_eq_true rfl⟩ ⟨(show 40 + 11 * r + 0 ≤ 600000 by omega), (show 2092 + 196 * r + 0 ≤ 7302250 by omega)⟩ (Nat.le_of_ble_eq_true rfl) ?_
  rintro _ _ ⟨rfl, rfl⟩
  refine s_La_law_353 rfl ?_
  refine s_La_law_354 rfl ?_
  refine s_La_law_355 rfl ?_
  refine s_La_law_356 ?_
  refine s_La_law_357 ?_
  refine s_La_law_358t hS (ixk (k := 1) rfl (by omega) hN) rfl ?_
  refine s_La_law_359 c2 hp_1000 rfl ⟨Nat.le_of_ble_eq_true rfl, Nat.le_of_ble_eq_true rfl⟩ ⟨(show 40 + 11 * r + 0 + 0 ≤ 600000 by omega), (show 2092 + 196 * r + 0 + 0 ≤ 7302250 by omega)⟩ (Nat.le_of_ble_eq_true rfl) ?_
  rintro _ _ ⟨rfl, rfl⟩
  refine s_La_law_362 (fun _ => ?_) (fun c => absurd rfl c)
  exact k L I r d v (by omega)
set_option maxRecDepth 100000 in
set_option maxHeartbeats 4000000 in
theorem law_9 (hS : G.2.2.2.2[1]? = some (.int, N, fun j => .int (xs j))) (hN : N ≤ 3072) {i : Nat} (hi : i + 6 ≤ N) {L : LT} {I : IT} {r d : Nat} (v : Inv L I r d) (hd : d ≤ 5 * i) (k : ∀ (L : LT) (I : IT) (r d : Nat), Inv L I r d → d ≤ 5 * (i + 6) → lwE G E 449 i L I r) : lwE G E 367 i L I r := by
  have hr : r ≤ 40 := v.2.2.1.choose_spec.choose_spec.1.2.1.2.1
  obtain ⟨x, c1, c2⟩ := p_gat (G := G) v (xs (nI i + 1).toNatClampNeg) (xs (nI i + 2).toNatClampNeg)
  unfold lwE at *
  refine s_La_law_367 rfl ?_
  refine s_La_law_368 rfl ?_
  refine s_La_law_369 rfl ?_
  refine s_La_law_370 ?_
  refine s_La_law_371 ?_
  refine s_La_law_372t hS (ixk (k := 1) rfl (by omega) hN) rfl ?_
  refine s_La_law_373 rfl ?_
  refine s_La_law_374 rfl ?_
  refine s_La_law_375 ?_
  refine s_La_law_376 ?_
  refine s_La_law_377t hS (ixk (k := 2) rfl (by omega) hN) rfl ?_
  refine s_La_law_378 c1 hp_0 rfl ⟨Nat.le_of_ble_eq_true rfl, Nat.le_of_ble_eq_true rfl⟩ ⟨(show 40 + 11 * r + 0 ≤ 600000 by omega), (show 2092 + 196 * r + 0 ≤ 7302250 by omega)⟩ (Nat.le_of_ble_eq_true rfl) ?_
  rintro _ _ ⟨rfl, rfl⟩
  refine s_La_law_381 rfl ?_
  refine s_La_law_382 rfl ?_
  refine s_La_law_383 rfl ?_
  refine s_La_law_384 ?_
  refine s_La_law_385 ?_
  refine s_La_law_386t hS (ixk (k := 1) rfl (by omega) hN) rfl ?_
  refine s_La_law_387 rfl ?_
  refine s_La_law_388 rfl ?_
  refine s_La_law_389 ?_
  refine s_La_law_390 ?_
  refine s_La_law_391t hS (ixk (k := 2) rfl (by omega) hN) rfl ?_
  refine s_La_law_392 c2 hp_1000 rfl ⟨Nat.le_of_ble_eq_true rfl, Nat.le_of_ble_eq_true rfl⟩ ⟨(show 40 + 11 * r + 0 + 0 ≤ 600000 by omega), (show 2092 + 196 * r + 0 + 0 ≤ 7302250 by omega)⟩ (Nat.le_of_ble_eq_true rfl) ?_
  rintro _ _ ⟨rfl, rfl⟩
  refine s_La_law_395 (fun _ => ?_) (fun c => absurd rfl c)
  exact k L I r d v (by omega)
set_option maxRecDepth 100000 in
set_option maxHeartbeats 4000000 in
theorem law_10 (hS : G.2.2.2.2[1]? = some (.int, N, fun j => .int (xs j))) (hN : N ≤ 3072) {i : Nat} (hi : i + 6 ≤ N) {L : LT} {I : IT} {r d : Nat} (v : Inv L I r d) (hd : d ≤ 5 * i) (k : ∀ (L : LT) (I : IT) (r d : Nat), Inv L I r d → d ≤ 5 * (i + 6) → lwE G E 449 i L I r) : lwE G E 400 i L I r := by
  have hr : r ≤ 40 := v.2.2.1.choose_spec.choose_spec.1.2.1.2.1
  obtain ⟨x, I', J', c1, c2, v'⟩ := p_reach (G := G) v 
  unfold lwE at *
  refine s_La_law_400 rfl ?_
  refine s_La_law_401 c1 hp_0 rfl ⟨Nat.le_of_ble_eq_true rfl, Nat.le_of_ble_eq_true rfl⟩ ⟨(show 40 + 11 * r + 0 ≤ 600000 by omega), (show 2092 + 196 * r + 0 ≤ 7302250 by omega)⟩ (Nat.le_of_ble_eq_true rfl) ?_
  rintro _ _ ⟨rfl, rfl⟩
  refine s_La_law_404 rfl ?_
  refine s_La_law_405 c2 hp_1000 rfl ⟨Nat.le_of_ble_eq_true rfl, Nat.le_of_ble_eq_true rfl⟩ ⟨(show 40 + 11 * r + 0 + 0 ≤ 600000 by omega), (show 2092 + 196 * r + 0 + 0 ≤ 7302250 by omega)⟩ (Nat.le_of_ble_eq_true rfl) ?_
  rintro _ _ ⟨rfl, rfl⟩
  refine s_La_law_408 (fun _ => ?_) (fun c => absurd rfl c)
  exact k L J' r d v' (by omega)
set_option maxRecDepth 100000 in
set_option maxHeartbeats 4000000 in
theorem law_11 (hS : G.2.2.2.2[1]? = some (.int, N, fun j => .int (xs j))) (hN : N ≤ 3072) {i : Nat} (hi : i + 6 ≤ N) {L : LT} {I : IT} {r d : Nat} (v : Inv L I r d) (hd : d ≤ 5 * i) (k : ∀ (L : LT) (I : IT) (r d : Nat), Inv L I r d → d ≤ 5 * (i + 6) → lwE G E 449 i L I r) : lwE G E 413 i L I r := by
  have hr : r ≤ 40 := v.2.2.1.choose_spec.choose_spec.1.2.1.2.1
  obtain ⟨x, I', J', c1, c2, v'⟩ := p_reaches (G := G) v (xs (nI i + 1).toNatClampNeg)
  unfold lwE at *
  refine s_La_law_413 rfl ?_
  refine s_La_law_414 rfl ?_
  refine s_La_law_415 rfl ?_
  refine s_La_law_416 ?_
  refine s_La_law_417 ?_
  refine s_La_law_418t hS (ixk (k := 1) rfl (by omega) hN) rfl ?_
  refine s_La_law_419 c1 hp_0 rfl ⟨Nat.le_of_ble_eq_true rfl, Nat.le_of_ble_eq_true rfl⟩ ⟨(show 40 + 11 * r + 0 ≤ 600000 by omega), (show 2092 + 196 * r + 0 ≤ 7302250 by omega)⟩ (Nat.le_of_ble_eq_true rfl) ?_
  rintro _ _ ⟨rfl, rfl⟩
  refine s_La_law_422 rfl ?_
  refine s_La_law_423 rfl ?_
  refine s_La_law_424 rfl ?_
  refine s_La_law_425 ?_
  refine s_La_law_426 ?_
  refine s_La_law_427t hS (ixk (k := 1) rfl (by omega) hN) rfl ?_
  refine s_La_law_428 c2 hp_1000 rfl ⟨Nat.le_of_ble_eq_true rfl, Nat.le_of_ble_eq_true rfl⟩ ⟨(show 40 + 11 * r + 0 + 0 ≤ 600000 by omega), (show 2092 + 196 * r + 0 + 0 ≤ 7302250 by omega)⟩ (Nat.le_of_ble_eq_true rfl) ?_
  rintro _ _ ⟨rfl, rfl⟩
  refine s_La_law_431 (fun _ => ?_) (fun c => absurd rfl c)
  exact k L J' r d v' (by omega)
set_option maxRecDepth 100000 in
set_option maxHeartbeats 4000000 in
theorem law_12 (hS : G.2.2.2.2[1]? = some (.int, N, fun j => .int (xs j))) (hN : N ≤ 3072) {i : Nat} (hi : i + 6 ≤ N) {L : LT} {I : IT} {r d : Nat} (v : Inv L I r d) (hd : d ≤ 5 * i) (k : ∀ (L : LT) (I : IT) (r d : Nat), Inv L I r d → d ≤ 5 * (i + 6) → lwE G E 449 i L I r) : lwE G E 436 i L I r := by
  have hr : r ≤ 40 := v.2.2.1.choose_spec.choose_spec.1.2.1.2.1
  obtain ⟨x, I', c1, c2, v'⟩ := p_cons (G := G) v
  unfold lwE at *
  refine s_La_law_436 rfl ?_
  refine s_La_law_437 c1 hp_0 rfl ⟨Nat.le_of_ble_eq_true rfl, Nat.le_of_ble_eq_true rfl⟩ ⟨(show 40 + 11 * r + 0 ≤ 600000 by omega), (show 2092 + 196 * r + 0 ≤ 7302250 by omega)⟩ (Nat.le_of_ble_eq_true rfl) ?_
  rintro _ _ ⟨rfl, rfl⟩
  refine s_La_law_440 rfl ?_
  refine s_La_law_441 c2 hp_1000 rfl ⟨Nat.le_of_ble_eq_true rfl, Nat.le_of_ble_eq_true rfl⟩ ⟨(show 40 + 11 * r + 0 + 0 ≤ 600000 by omega), (show 2092 + 196 * r + 0 + 0 ≤ 7302250 by omega)⟩ (Nat.le_of_ble_eq_true rfl) ?_
  rintro _ _ ⟨rfl, rfl⟩
  refine s_La_law_444 (fun _ => ?_) (fun c => absurd rfl c)
  exact k L I' r d v' (by omega)
set_option maxRecDepth 100000 in
set_option maxHeartbeats 4000000 in
theorem l_law (hG : G.2.2.2.2[0]? = some (.int, 19, nmd)) (hS : G.2.2.2.2[1]? = some (.int, N, fun j => .int (xs j))) (hN : N ≤ 3072) (hE : ∀ lv h cells slots, cells ≤ 600000 → slots ≤ 7302250 → E 456 lv [.int 1] h cells slots) : ∀ (k i : Nat) (L : LT) (I : IT) (r d : Nat), i ≤ 4000 → N < i + 6 * k + 6 → Inv L I r d → d ≤ 5 * i → lwE G E 18 i L I r := by
  intro k
  induction k with
  | zero =>
    intro i L I r d hi hk v hd
    have hr : r ≤ 40 := v.2.2.1.choose_spec.choose_spec.1.2.1.2.1
    unfold lwE
    refine s_La_law_18 rfl ?_
    refine s_La_law_19 rfl ?_
    refine s_La_law_20 hS ?_
    refine s_La_law_21 ?_
    refine s_La_law_23 ?_
    refine s_La_law_24 (fun _ => ?_) (fun c => absurd (law_c hN (by omega) c) (by omega))
    refine s_La_law_455 ?_
    exact ev_exit (hE _ _ _ _ (by omega) (by omega))
  | succ k ih =>
    intro i L I r d hi hk v hd
    have hr : r ≤ 40 := v.2.2.1.choose_spec.choose_spec.1.2.1.2.1
    unfold lwE
    refine s_La_law_18 rfl ?_
    refine s_La_law_19 rfl ?_
    refine s_La_law_20 hS ?_
    refine s_La_law_21 ?_
    refine s_La_law_23 ?_
    refine s_La_law_24 (fun _ => ?_) (fun c => ?_)
    · refine s_La_law_455 ?_
      exact ev_exit (hE _ _ _ _ (by omega) (by omega))
    have h6 := law_c hN (by omega) c
    have nx : ∀ (L : LT) (I : IT) (r d : Nat), Inv L I r d → d ≤ 5 * (i + 6) → lwE G E 449 i L I r := by
      intro L I r d v hd
      unfold lwE
      refine s_La_law_449 rfl ?_
      rw [show nI i + 6 = nI (i + 6) from nI_add i 6]
      refine s_La_law_452 ?_
      refine ev_pick (lv' := [(3, .int (nI (i + 6))), (2, .ref 1000), (1, .ref 0), (0, .ref (tB + 1))]) [0, 1, 2, 3] rfl ?_
      exact ih (i + 6) L I r d (by omega) (by omega) v hd
    refine s_La_law_27 rfl ?_
    refine s_La_law_28 rfl ?_
    refine s_La_law_29t hS (vp_in_nI (by omega) (by omega)) rfl ?_
    refine s_La_law_30 ?_
    refine s_La_law_32 ?_
    obtain ⟨z, hz, ez⟩ := pk_andE (xs (nI i).toNatClampNeg) (m := 15) 4 (by decide)
    rw [ez]
    rcases (by omega : z = 0 ∨ z = 1 ∨ z = 2 ∨ z = 3 ∨ z = 4 ∨ z = 5 ∨ z = 6 ∨ z = 7 ∨ z = 8 ∨ z = 9 ∨ z = 10 ∨ z = 11 ∨ z = 12 ∨ z = 13 ∨ z = 14 ∨ z = 15) with rfl | rfl | rfl | rfl | rfl | rfl | rfl | rfl | rfl | rfl | rfl | rfl | rfl | rfl | rfl | rfl
    · refine s_La_law_33_0 ?_
      exact law_0 hS hN h6 v hd nx
    · refine s_La_law_33_1 ?_
      exact law_1 hS hN h6 v hd nx
    · refine s_La_law_33_2 ?_
      exact law_2 hG hS hN h6 v hd nx
    · refine s_La_law_33_3 ?_
      exact law_3 hS hN h6 v hd nx
    · refine s_La_law_33_4 ?_
      exact law_4 hS hN h6 v hd nx
    · refine s_La_law_33_5 ?_
      exact law_5 hS hN h6 v hd nx
    · refine s_La_law_33_6 ?_
      exact law_6 hS hN h6 v hd nx
    · refine s_La_law_33_7 ?_
      exact law_7 hS hN h6 v hd nx
    · refine s_La_law_33_8 ?_
      exact law_8 hS hN h6 v hd nx
    · refine s_La_law_33_9 ?_
      exact law_9 hS hN h6 v hd nx
    · refine s_La_law_33_10 ?_
      exact law_10 hS hN h6 v hd nx
    · refine s_La_law_33_11 ?_
      exact law_11 hS hN h6 v hd nx
    · refine s_La_law_33_12 ?_
      exact law_12 hS hN h6 v hd nx
    · refine s_La_law_33_d (by decide) ?_
      exact nx L I r d v (by omega)
    · refine s_La_law_33_d (by decide) ?_
      exact nx L I r d v (by omega)
    · refine s_La_law_33_d (by decide) ?_
      exact nx L I r d v (by omega)
theorem upI_z {a j : Nat} : upI zI a j 0 = zI := upI_idN (I := zI)
theorem clr_z {p : Nat} : mClr zI p = zI := by unfold mClr mPut; rw [upI_z, upI_z, upI_z, upI_z, upI_z]
theorem bgl_z : ∀ n j, mBgl zI j n = zI
  | 0, _ => rfl
  | n + 1, j => by rw [mBgl, clr_z, bgl_z n]
theorem bg2_z : ∀ n j, mBg2 zI j n = zI
  | 0, _ => rfl
  | n + 1, j => by rw [mBg2, upI_z, upI_z, bg2_z n]
theorem begN_z {M : Nat} : mBegN M zI = zI := by
  unfold mBegN mB5
  rw [if_pos (show zI 1000 0 = 0 from rfl), bgl_z, bg2_z, upI_z, upI_z, upI_z, upI_z, upI_z]
theorem inv_0 : Inv zL zI 0 0 := by
  have kb : ∀ J0 : IT, J0 1000 0 = 0 → KK zL zI (mBeg J0) := fun J0 e => beg_KK e (fun p _ => by rw [if_neg (fun y => y.1 rfl)]; rfl) (fun c _ => ⟨rfl, rfl, rfl, rfl⟩) ⟨rfl, rfl, rfl, rfl, rfl⟩
  have kk := kb zI rfl
  have e : mBeg zI = zI := begN_z
  rw [e] at kk
  have s25 : sm 0 25 := ⟨by decide, by decide⟩
  exact fresh (b := 0) rfl rfl (Or.inl rfl) ⟨rfl, rfl⟩ rfl ⟨fun m _ => ⟨rfl, s25⟩, fun i _ => rfl⟩ (by decide) kb kk
set_option maxRecDepth 100000 in
set_option maxHeartbeats 4000000 in
theorem t_law (hG : G.2.2.2.2[0]? = some (.int, 19, nmd)) (hS : G.2.2.2.2[1]? = some (.int, N, fun j => .int (xs j))) (hN : N ≤ 3072) (hE : ∀ lv h cells slots, cells ≤ 600000 → slots ≤ 7302250 → E 456 lv [.int 1] h cells slots) : ev G M_La_law room_1 E 0 [(0, .ref (tB + 1))] [] (fun _ => mF) 0 0 := by
  refine s_La_law_0 (kn := 0) (Nat.le_of_ble_eq_true rfl) (Nat.le_of_ble_eq_true rfl) rfl (by decide) ?_
  refine s_La_law_3 rfl ?_
  refine s_La_law_4 (t_Um_init (va_up_self _ _ _) (fun q h1 h2 => va_up_ne _ _ (by omega))) ⟨Nat.le_of_ble_eq_true rfl, Nat.le_of_ble_eq_true rfl⟩ ⟨Nat.le_of_ble_eq_true rfl, Nat.le_of_ble_eq_true rfl⟩ (Nat.le_of_ble_eq_true rfl) ?_
  rintro _ _ ⟨rfl, rfl⟩
  refine s_La_law_7 ?_
  refine s_La_law_8 (kn := 1000) (Nat.le_of_ble_eq_true rfl) (Nat.le_of_ble_eq_true rfl) rfl (by decide) ?_
  refine s_La_law_11 rfl ?_
  refine s_La_law_12 (t_Mo_init (va_up_self _ _ _) rfl rfl rfl rfl rfl rfl rfl rfl rfl rfl rfl rfl rfl) ⟨Nat.le_of_ble_eq_true rfl, Nat.le_of_ble_eq_true rfl⟩ ⟨Nat.le_of_ble_eq_true rfl, Nat.le_of_ble_eq_true rfl⟩ (Nat.le_of_ble_eq_true rfl) ?_
  rintro _ _ ⟨rfl, rfl⟩
  rw [start_hp]
  refine s_La_law_15 ?_
  refine s_La_law_16 ?_
  refine s_La_law_17 ?_
  refine ev_pick (lv' := [(3, .int (nI 0)), (2, .ref 1000), (1, .ref 0), (0, .ref (tB + 1))]) [0, 1, 2, 3] rfl ?_
  refine ev_cs (c' := 40 + 11 * 0) (s' := 2092 + 196 * 0) rfl rfl ?_
  exact l_law hG hS hN hE 512 0 zL zI 0 0 (by decide) (by omega) inv_0 (by decide)
end LAW

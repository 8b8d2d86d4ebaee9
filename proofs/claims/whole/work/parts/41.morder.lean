/-! one order of the reference: its contract -/
section MON
variable {G : GW} {L L' : LT} {I' J : IT} {r : Nat}
abbrev oAt (m x : Nat) : Nat := 96 * m + 4 * x
def moC (G : GW) (L : LT) (J J' : IT) (r : Nat) : Prop := mt G M_Mo_order 5 0 0 [.ref 1000] (hp L J r) (dt none (hp L J' r))
theorem mo_0 (h : K1 L' I' (mD J)) {m x : Nat} (em : J 1000 13 = nI m) (hm : m < 3) (ex : J 1000 14 = nI x) (hx : x < 24) (hlt : nI x < J 1001 m) (ho : J 1002 (96 * m + 4 * x) = 0) (ha : inz (J 1002 (96 * m + 4 * x + 1)) 0 7 = true) : moC G L J (mQ 0 (mPf (mD J) 0 (J 1002 (96 * m + 4 * x + 1)) (J 1002 (96 * m + 4 * x + 2)) (J 1002 (96 * m + 4 * x + 3)))) r := by
  rw [mPf_0]
  have sa := sm8 ha
  exact t_ord_0 em hm ex hx hlt ho rfl rfl rfl ha (t_simple_0 sa.1 sa.2)

theorem mo_1 (h : K1 L' I' (mD J)) {m x : Nat} (em : J 1000 13 = nI m) (hm : m < 3) (ex : J 1000 14 = nI x) (hx : x < 24) (hlt : nI x < J 1001 m) (ho : J 1002 (96 * m + 4 * x) = 1) (ha : inz (J 1002 (96 * m + 4 * x + 1)) 0 7 = true) (hb : inz (J 1002 (96 * m + 4 * x + 2)) 0 7 = true) : moC G L J (mQ 1 (mPf (mD J) 1 (J 1002 (96 * m + 4 * x + 1)) (J 1002 (96 * m + 4 * x + 2)) (J 1002 (96 * m + 4 * x + 3)))) r := by
  rw [mPf_1]
  have sa := sm8 ha
  have sb := sm8 hb
  refine t_ord_1 em hm ex hx hlt ho rfl rfl rfl ha hb ?_
  by_cases e : tn (J 1002 (96 * m + 4 * x + 1)) = tn (J 1002 (96 * m + 4 * x + 2))
  · have e2 : (J 1002 (96 * m + 4 * x + 2)) = (J 1002 (96 * m + 4 * x + 1)) := sb.1.trans ((congrArg nI e.symm).trans sa.1.symm)
    rw [e2]
    exact t_simple_1s sa.1 sa.2
  · exact t_simple_1 sa.1 sa.2 sb.1 sb.2 (Ne.symm e) (fun z => hk2 h (by omega) z)
theorem mo_2 (h : K1 L' I' (mD J)) {m x : Nat} (em : J 1000 13 = nI m) (hm : m < 3) (ex : J 1000 14 = nI x) (hx : x < 24) (hlt : nI x < J 1001 m) (ho : J 1002 (96 * m + 4 * x) = 2) (ha : inz (J 1002 (96 * m + 4 * x + 1)) 0 7 = true) (hb : inz (J 1002 (96 * m + 4 * x + 2)) 0 7 = true) : moC G L J (mQ 2 (mPf (mD J) 2 (J 1002 (96 * m + 4 * x + 1)) (J 1002 (96 * m + 4 * x + 2)) (J 1002 (96 * m + 4 * x + 3)))) r := by
  rw [mPf_2]
  have sa := sm8 ha
  have sb := sm8 hb
  exact t_ord_2 em hm ex hx hlt ho rfl rfl rfl ha hb (t_simple_2 sa.1 sa.2 sb.1 sb.2)
theorem mo_3 (h : K1 L' I' (mD J)) {m x : Nat} (em : J 1000 13 = nI m) (hm : m < 3) (ex : J 1000 14 = nI x) (hx : x < 24) (hlt : nI x < J 1001 m) (ho : J 1002 (96 * m + 4 * x) = 3) (ha : inz (J 1002 (96 * m + 4 * x + 1)) 0 7 = true) (hb : inz (J 1002 (96 * m + 4 * x + 2)) 0 7 = true) : moC G L J (mQ 3 (mPf (mD J) 3 (J 1002 (96 * m + 4 * x + 1)) (J 1002 (96 * m + 4 * x + 2)) (J 1002 (96 * m + 4 * x + 3)))) r := by
  rw [mPf_3]
  have sa := sm8 ha
  have sb := sm8 hb
  exact t_ord_3 em hm ex hx hlt ho rfl rfl rfl ha hb (t_simple_3 sa.1 sa.2 sb.1 sb.2)
theorem mo_4 (h : K1 L' I' (mD J)) {m x : Nat} (em : J 1000 13 = nI m) (hm : m < 3) (ex : J 1000 14 = nI x) (hx : x < 24) (hlt : nI x < J 1001 m) (ho : J 1002 (96 * m + 4 * x) = 4) (ha : inz (J 1002 (96 * m + 4 * x + 1)) 0 7 = true) (hb : inz (J 1002 (96 * m + 4 * x + 2)) 0 7 = true) : moC G L J (mQ 4 (mPf (mD J) 4 (J 1002 (96 * m + 4 * x + 1)) (J 1002 (96 * m + 4 * x + 2)) (J 1002 (96 * m + 4 * x + 3)))) r := by
  rw [mPf_4]
  have sa := sm8 ha
  have sb := sm8 hb
  exact t_ord_4 em hm ex hx hlt ho rfl rfl rfl ha hb (t_ranges_4 sa.1 sa.2 sb.1 sb.2)
theorem mo_5 (h : K1 L' I' (mD J)) {m x : Nat} (em : J 1000 13 = nI m) (hm : m < 3) (ex : J 1000 14 = nI x) (hx : x < 24) (hlt : nI x < J 1001 m) (ho : J 1002 (96 * m + 4 * x) = 5) (ha : inz (J 1002 (96 * m + 4 * x + 1)) 0 7 = true) (hb : inz (J 1002 (96 * m + 4 * x + 2)) 0 7 = true) : moC G L J (mQ 5 (mPf (mD J) 5 (J 1002 (96 * m + 4 * x + 1)) (J 1002 (96 * m + 4 * x + 2)) (J 1002 (96 * m + 4 * x + 3)))) r := by
  rw [mPf_5]
  have sa := sm8 ha
  have sb := sm8 hb
  refine t_ord_5 em hm ex hx hlt ho rfl rfl rfl ha hb ?_
  by_cases e : tn (J 1002 (96 * m + 4 * x + 1)) = tn (J 1002 (96 * m + 4 * x + 2))
  · have e2 : (J 1002 (96 * m + 4 * x + 2)) = (J 1002 (96 * m + 4 * x + 1)) := sb.1.trans ((congrArg nI e.symm).trans sa.1.symm)
    rw [e2]
    exact t_ranges_5s sa.1 sa.2
  · exact t_ranges_5 sa.1 sa.2 sb.1 sb.2 e
theorem mo_6 (h : K1 L' I' (mD J)) {m x : Nat} (em : J 1000 13 = nI m) (hm : m < 3) (ex : J 1000 14 = nI x) (hx : x < 24) (hlt : nI x < J 1001 m) (ho : J 1002 (96 * m + 4 * x) = 6) (ha : inz (J 1002 (96 * m + 4 * x + 1)) 0 7 = true) (hb : inz (J 1002 (96 * m + 4 * x + 2)) 0 7 = true) : moC G L J (mQ 6 (mPf (mD J) 6 (J 1002 (96 * m + 4 * x + 1)) (J 1002 (96 * m + 4 * x + 2)) (J 1002 (96 * m + 4 * x + 3)))) r := by
  rw [mPf_6]
  have sa := sm8 ha
  have sb := sm8 hb
  exact t_ord_6 em hm ex hx hlt ho rfl rfl rfl ha hb (t_ranges_6 sa.1 sa.2 sb.1 sb.2)
theorem mo_7 (h : K1 L' I' (mD J)) {m x : Nat} (em : J 1000 13 = nI m) (hm : m < 3) (ex : J 1000 14 = nI x) (hx : x < 24) (hlt : nI x < J 1001 m) (ho : J 1002 (96 * m + 4 * x) = 7) (ha : inz (J 1002 (96 * m + 4 * x + 1)) 0 7 = true) : moC G L J (mQ 7 (mPf (mD J) 7 (J 1002 (96 * m + 4 * x + 1)) (J 1002 (96 * m + 4 * x + 2)) (J 1002 (96 * m + 4 * x + 3)))) r := by
  rw [mPf_7]
  have sa := sm8 ha
  exact t_ord_7 em hm ex hx hlt ho rfl rfl rfl ha (t_cells_7 sa.1 sa.2)
theorem mo_8 (h : K1 L' I' (mD J)) {m x : Nat} (em : J 1000 13 = nI m) (hm : m < 3) (ex : J 1000 14 = nI x) (hx : x < 24) (hlt : nI x < J 1001 m) (ho : J 1002 (96 * m + 4 * x) = 8) (ha : inz (J 1002 (96 * m + 4 * x + 1)) 0 7 = true) : moC G L J (mQ 8 (mPf (mD J) 8 (J 1002 (96 * m + 4 * x + 1)) (J 1002 (96 * m + 4 * x + 2)) (J 1002 (96 * m + 4 * x + 3)))) r := by
  rw [mPf_8]
  have sa := sm8 ha
  exact t_ord_8 em hm ex hx hlt ho rfl rfl rfl ha (t_cells_8 sa.1 sa.2 (fun z => K_cs h (by omega) (Or.inl z)))
theorem mo_9 (h : K1 L' I' (mD J)) {m x : Nat} (em : J 1000 13 = nI m) (hm : m < 3) (ex : J 1000 14 = nI x) (hx : x < 24) (hlt : nI x < J 1001 m) (ho : J 1002 (96 * m + 4 * x) = 9) (ha : inz (J 1002 (96 * m + 4 * x + 1)) 0 7 = true) : moC G L J (mQ 9 (mPf (mD J) 9 (J 1002 (96 * m + 4 * x + 1)) (J 1002 (96 * m + 4 * x + 2)) (J 1002 (96 * m + 4 * x + 3)))) r := by
  rw [mPf_9]
  have sa := sm8 ha
  exact t_ord_9 em hm ex hx hlt ho rfl rfl rfl ha (t_cells_9 sa.1 sa.2 (fun z => K_cs h (by omega) (Or.inl z)))
theorem mo_10 (h : K1 L' I' (mD J)) {m x : Nat} (em : J 1000 13 = nI m) (hm : m < 3) (ex : J 1000 14 = nI x) (hx : x < 24) (hlt : nI x < J 1001 m) (ho : J 1002 (96 * m + 4 * x) = 10) (ha : inz (J 1002 (96 * m + 4 * x + 1)) 0 7 = true) (hb : inz (J 1002 (96 * m + 4 * x + 2)) 0 7 = true) : moC G L J (mQ 10 (mPf (mD J) 10 (J 1002 (96 * m + 4 * x + 1)) (J 1002 (96 * m + 4 * x + 2)) (J 1002 (96 * m + 4 * x + 3)))) r := by
  rw [mPf_10]
  have sa := sm8 ha
  have sb := sm8 hb
  exact t_ord_10 em hm ex hx hlt ho rfl rfl rfl ha hb (t_memory_10 sa.1 sa.2 sb.1 sb.2 (fun z1 z2 z3 => K_w h (by omega) (fun z => z.elim z1 z2) z3) (fun z1 z2 z3 z4 => hk2 h (by have := (K_w h (show tn (J 1002 (96 * m + 4 * x + 2)) < 102 by omega) (fun z => z.elim z1 z2) z3).2.1; omega) z4))
theorem mo_11 (h : K1 L' I' (mD J)) {m x : Nat} (em : J 1000 13 = nI m) (hm : m < 3) (ex : J 1000 14 = nI x) (hx : x < 24) (hlt : nI x < J 1001 m) (ho : J 1002 (96 * m + 4 * x) = 11) (ha : inz (J 1002 (96 * m + 4 * x + 1)) 0 7 = true) (hb : inz (J 1002 (96 * m + 4 * x + 2)) 0 7 = true) : moC G L J (mQ 11 (mPf (mD J) 11 (J 1002 (96 * m + 4 * x + 1)) (J 1002 (96 * m + 4 * x + 2)) (J 1002 (96 * m + 4 * x + 3)))) r := by
  rw [mPf_11]
  have sa := sm8 ha
  have sb := sm8 hb
  exact t_ord_11 em hm ex hx hlt ho rfl rfl rfl ha hb (t_memory_11 sa.1 sa.2 sb.1 sb.2 (fun z1 z2 z3 => K_w h (by omega) (fun z => z.elim z1 z2) z3) (fun z => hk2 h (by omega) z))
theorem mo_12 (h : K1 L' I' (mD J)) {m x : Nat} (em : J 1000 13 = nI m) (hm : m < 3) (ex : J 1000 14 = nI x) (hx : x < 24) (hlt : nI x < J 1001 m) (ho : J 1002 (96 * m + 4 * x) = 12) : moC G L J (mQ 12 (mPf (mD J) 12 (J 1002 (96 * m + 4 * x + 1)) (J 1002 (96 * m + 4 * x + 2)) (J 1002 (96 * m + 4 * x + 3)))) r := by
  rw [mPf_12]
  exact t_ord_12 em hm ex hx hlt ho rfl rfl rfl t_jumps_12
theorem mo_13 (h : K1 L' I' (mD J)) {m x : Nat} (em : J 1000 13 = nI m) (hm : m < 3) (ex : J 1000 14 = nI x) (hx : x < 24) (hlt : nI x < J 1001 m) (ho : J 1002 (96 * m + 4 * x) = 13) (ha : inz (J 1002 (96 * m + 4 * x + 1)) 0 7 = true) : moC G L J (mQ 13 (mPf (mD J) 13 (J 1002 (96 * m + 4 * x + 1)) (J 1002 (96 * m + 4 * x + 2)) (J 1002 (96 * m + 4 * x + 3)))) r := by
  rw [mPf_13]
  have sa := sm8 ha
  exact t_ord_13 em hm ex hx hlt ho rfl rfl rfl ha (t_jumps_13 sa.1 sa.2)
theorem mo_14 (h : K1 L' I' (mD J)) {m x : Nat} (em : J 1000 13 = nI m) (hm : m < 3) (ex : J 1000 14 = nI x) (hx : x < 24) (hlt : nI x < J 1001 m) (ho : J 1002 (96 * m + 4 * x) = 14) (ha : inz (J 1002 (96 * m + 4 * x + 1)) 0 7 = true) (hb : inz (J 1002 (96 * m + 4 * x + 2)) 0 7 = true) : moC G L J (mQ 14 (mPf (mD J) 14 (J 1002 (96 * m + 4 * x + 1)) (J 1002 (96 * m + 4 * x + 2)) (J 1002 (96 * m + 4 * x + 3)))) r := by
  rw [mPf_14]
  have sa := sm8 ha
  have sb := sm8 hb
  exact t_ord_14 em hm ex hx hlt ho rfl rfl rfl ha hb (t_jumps_14 sa.1 sa.2 sb.1 sb.2)
theorem mo_15 (h : K1 L' I' (mD J)) {m x : Nat} (em : J 1000 13 = nI m) (hm : m < 3) (ex : J 1000 14 = nI x) (hx : x < 24) (hlt : nI x < J 1001 m) (ho : J 1002 (96 * m + 4 * x) = 15) (ha : inz (J 1002 (96 * m + 4 * x + 1)) 0 7 = true) (hb : inz (J 1002 (96 * m + 4 * x + 2)) 0 2 = true) (hc : inz (J 1002 (96 * m + 4 * x + 3)) 0 63 = true) : moC G L J (mQ 15 (mPf (mD J) 15 (J 1002 (96 * m + 4 * x + 1)) (J 1002 (96 * m + 4 * x + 2)) (J 1002 (96 * m + 4 * x + 3)))) r := by
  rw [mPf_15]
  have sa := sm8 ha
  exact t_ord_15 em hm ex hx hlt ho rfl rfl rfl ha hb hc (t_seal sa.1 sa.2)
theorem mo_16 (h : K1 L' I' (mD J)) {m x : Nat} (em : J 1000 13 = nI m) (hm : m < 3) (ex : J 1000 14 = nI x) (hx : x < 24) (hlt : nI x < J 1001 m) (ho : J 1002 (96 * m + 4 * x) = 16) (ha : inz (J 1002 (96 * m + 4 * x + 1)) 0 7 = true) (hb : inz (J 1002 (96 * m + 4 * x + 2)) 0 6 = true) : moC G L J (mQ 16 (mPf (mD J) 16 (J 1002 (96 * m + 4 * x + 1)) (J 1002 (96 * m + 4 * x + 2)) (J 1002 (96 * m + 4 * x + 3)))) r := by
  rw [mPf_16]
  have sa := sm8 ha
  exact t_ord_16 em hm ex hx hlt ho rfl rfl rfl ha hb (t_Mo_call sa.1 sa.2 (fun z => K_cs h (by omega) (Or.inr z)) h.1.2.2.2.1.2.1 (by have := h.1.2.2.2.1.2.2; omega))
theorem mo_17 (h : K1 L' I' (mD J)) {m x : Nat} (em : J 1000 13 = nI m) (hm : m < 3) (ex : J 1000 14 = nI x) (hx : x < 24) (hlt : nI x < J 1001 m) (ho : J 1002 (96 * m + 4 * x) = 17) : moC G L J (mQ 17 (mPf (mD J) 17 (J 1002 (96 * m + 4 * x + 1)) (J 1002 (96 * m + 4 * x + 2)) (J 1002 (96 * m + 4 * x + 3)))) r := by
  rw [mPf_17]
  have hd := h.1.2.2.2.1
  by_cases h0 : mD J 1000 10 = 0
  · rw [if_pos h0]
    exact t_ord_17 em hm ex hx hlt ho rfl rfl rfl (w := (8, mD J)) (t_Mo_comeBack0 h0)
  · rw [if_neg h0]
    obtain ⟨f, ef⟩ : ∃ f, tn (mD J 1000 10) = f + 1 := by
      cases e : tn (mD J 1000 10) with
      | zero => exact absurd (by rw [hd.2.1, e]; rfl) h0
      | succ f => exact ⟨f, rfl⟩
    have e10 : mD J 1000 10 = nI (f + 1) := by rw [← ef]; exact hd.2.1
    have hf6 := hd.2.2
    rw [ef, show f + 1 - 1 = f from rfl]
    have hfr := h.1.2.2.2.2.1 f (by unfold dpt; omega)
    exact t_ord_17 em hm ex hx hlt ho rfl rfl rfl (t_Mo_comeBack e10 (by omega) hfr.2.2.1.1 hfr.2.2.1.2 hfr.2.2.2.1.1 (by have := hfr.2.2.2.1.2; omega))
theorem mo_18 (h : K1 L' I' (mD J)) {m x : Nat} (em : J 1000 13 = nI m) (hm : m < 3) (ex : J 1000 14 = nI x) (hx : x < 24) (hlt : nI x < J 1001 m) (ho : J 1002 (96 * m + 4 * x) = 18) : moC G L J (mQ 18 (mPf (mD J) 18 (J 1002 (96 * m + 4 * x + 1)) (J 1002 (96 * m + 4 * x + 2)) (J 1002 (96 * m + 4 * x + 3)))) r := by
  rw [mPf_18]
  exact t_ord_18 em hm ex hx hlt ho rfl rfl rfl
def mord (J : IT) : IT :=
  if hasM J (tn (J 1000 13)) (J 1000 14) = true then
    mQ (J 1002 (96 * tn (J 1000 13) + 4 * tn (J 1000 14))) (if wfo (J 1002 (96 * tn (J 1000 13) + 4 * tn (J 1000 14))) (J 1002 (96 * tn (J 1000 13) + 4 * tn (J 1000 14) + 1)) (J 1002 (96 * tn (J 1000 13) + 4 * tn (J 1000 14) + 2)) (J 1002 (96 * tn (J 1000 13) + 4 * tn (J 1000 14) + 3)) = true
      then mPf (mD J) (J 1002 (96 * tn (J 1000 13) + 4 * tn (J 1000 14))) (J 1002 (96 * tn (J 1000 13) + 4 * tn (J 1000 14) + 1)) (J 1002 (96 * tn (J 1000 13) + 4 * tn (J 1000 14) + 2)) (J 1002 (96 * tn (J 1000 13) + 4 * tn (J 1000 14) + 3))
      else (5, mD J))
  else mQ (-1) (5, mD J)
theorem hasM_x {m : Nat} {y : Int32} (hs : sm (J 1001 m) 25) (h : hasM J m y = true) : y = nI (tn y) ∧ tn y < 24 ∧ y < J 1001 m := by
  unfold hasM at h
  have h1 : ¬ y < 0 ∧ ¬ J 1001 m ≤ y := by simpa using h
  have h2 := Int32.not_le.mp h1.2
  obtain ⟨j, hj, e⟩ := in24 (Int32.not_lt.mp h1.1) h2 (show J 1001 m ≤ 24 by rw [hs.1, show (24 : Int32) = nI 24 from rfl, nI_leI (by have := hs.2; omega) (by decide)]; have := hs.2; omega)
  refine ⟨?_, ?_, h2⟩
  · rw [e, sm_tn (by omega)]
  · rw [e, sm_tn (by omega)]; exact hj

theorem t_mord (hk : KK L' I' J) (hc : Cd I' J) : moC G L J (mord J) r := by
  have h : K1 L' I' (mD J) := K1_upJ (by decide) hk.1
  have hm := hk.2.2.1.2
  have hs := (hc.1 (tn (J 1000 13)) hm.2).2
  unfold mord
  by_cases hh : hasM J (tn (J 1000 13)) (J 1000 14) = true
  · rw [if_pos hh]
    have hx := hasM_x hs hh
    have em := hm.1
    have hm3 : tn (J 1000 13) < 3 := hm.2
    have ex := hx.1
    have hlt : nI (tn (J 1000 14)) < J 1001 (tn (J 1000 13)) := by rw [← hx.1]; exact hx.2.2
    generalize tn (J 1000 13) = m at *
    generalize tn (J 1000 14) = x at *
    cases hi : inz (J 1002 (96 * m + 4 * x)) 0 18 with
    | false =>
      rw [wfo_out hi, if_neg (by decide)]
      have on := out_n hi
      exact t_ord_out em hm3 ex hx.2.1 hlt rfl rfl rfl rfl hi on.1 on.2.1 on.2.2.1 on.2.2.2.1 on.2.2.2.2
    | true =>
      rcases ix18 hi with ho | ho | ho | ho | ho | ho | ho | ho | ho | ho | ho | ho | ho | ho | ho | ho | ho | ho | ho
      · rw [ho, wfo_0]
        cases hw : (inz (J 1002 (96 * m + 4 * x + 1)) 0 7) with
        | false => rw [if_neg (by decide)]; exact t_ordb_0 em hm3 ex hx.2.1 hlt ho rfl rfl rfl hw
        | true => rw [if_pos rfl]; exact mo_0 h em hm3 ex hx.2.1 hlt ho hw
      · rw [ho, wfo_1]
        cases hw : (inz (J 1002 (96 * m + 4 * x + 1)) 0 7 && inz (J 1002 (96 * m + 4 * x + 2)) 0 7) with
        | false => rw [if_neg (by decide)]; exact t_ordb_1 em hm3 ex hx.2.1 hlt ho rfl rfl rfl hw
        | true => rw [if_pos rfl]; exact mo_1 h em hm3 ex hx.2.1 hlt ho (and_t hw).1 (and_t hw).2
      · rw [ho, wfo_2]
        cases hw : (inz (J 1002 (96 * m + 4 * x + 1)) 0 7 && inz (J 1002 (96 * m + 4 * x + 2)) 0 7) with
        | false => rw [if_neg (by decide)]; exact t_ordb_2 em hm3 ex hx.2.1 hlt ho rfl rfl rfl hw
        | true => rw [if_pos rfl]; exact mo_2 h em hm3 ex hx.2.1 hlt ho (and_t hw).1 (and_t hw).2
      · rw [ho, wfo_3]
        cases hw : (inz (J 1002 (96 * m + 4 * x + 1)) 0 7 && inz (J 1002 (96 * m + 4 * x + 2)) 0 7) with
        | false => rw [if_neg (by decide)]; exact t_ordb_3 em hm3 ex hx.2.1 hlt ho rfl rfl rfl hw
        | true => rw [if_pos rfl]; exact mo_3 h em hm3 ex hx.2.1 hlt ho (and_t hw).1 (and_t hw).2
      · rw [ho, wfo_4]
        cases hw : (inz (J 1002 (96 * m + 4 * x + 1)) 0 7 && inz (J 1002 (96 * m + 4 * x + 2)) 0 7) with
        | false => rw [if_neg (by decide)]; exact t_ordb_4 em hm3 ex hx.2.1 hlt ho rfl rfl rfl hw
        | true => rw [if_pos rfl]; exact mo_4 h em hm3 ex hx.2.1 hlt ho (and_t hw).1 (and_t hw).2
      · rw [ho, wfo_5]
        cases hw : (inz (J 1002 (96 * m + 4 * x + 1)) 0 7 && inz (J 1002 (96 * m + 4 * x + 2)) 0 7) with
        | false => rw [if_neg (by decide)]; exact t_ordb_5 em hm3 ex hx.2.1 hlt ho rfl rfl rfl hw
        | true => rw [if_pos rfl]; exact mo_5 h em hm3 ex hx.2.1 hlt ho (and_t hw).1 (and_t hw).2
      · rw [ho, wfo_6]
        cases hw : (inz (J 1002 (96 * m + 4 * x + 1)) 0 7 && inz (J 1002 (96 * m + 4 * x + 2)) 0 7) with
        | false => rw [if_neg (by decide)]; exact t_ordb_6 em hm3 ex hx.2.1 hlt ho rfl rfl rfl hw
        | true => rw [if_pos rfl]; exact mo_6 h em hm3 ex hx.2.1 hlt ho (and_t hw).1 (and_t hw).2
      · rw [ho, wfo_7]
        cases hw : (inz (J 1002 (96 * m + 4 * x + 1)) 0 7) with
        | false => rw [if_neg (by decide)]; exact t_ordb_7 em hm3 ex hx.2.1 hlt ho rfl rfl rfl hw
        | true => rw [if_pos rfl]; exact mo_7 h em hm3 ex hx.2.1 hlt ho hw
      · rw [ho, wfo_8]
        cases hw : (inz (J 1002 (96 * m + 4 * x + 1)) 0 7) with
        | false => rw [if_neg (by decide)]; exact t_ordb_8 em hm3 ex hx.2.1 hlt ho rfl rfl rfl hw
        | true => rw [if_pos rfl]; exact mo_8 h em hm3 ex hx.2.1 hlt ho hw
      · rw [ho, wfo_9]
        cases hw : (inz (J 1002 (96 * m + 4 * x + 1)) 0 7) with
        | false => rw [if_neg (by decide)]; exact t_ordb_9 em hm3 ex hx.2.1 hlt ho rfl rfl rfl hw
        | true => rw [if_pos rfl]; exact mo_9 h em hm3 ex hx.2.1 hlt ho hw
      · rw [ho, wfo_10]
        cases hw : (inz (J 1002 (96 * m + 4 * x + 1)) 0 7 && inz (J 1002 (96 * m + 4 * x + 2)) 0 7) with
        | false => rw [if_neg (by decide)]; exact t_ordb_10 em hm3 ex hx.2.1 hlt ho rfl rfl rfl hw
        | true => rw [if_pos rfl]; exact mo_10 h em hm3 ex hx.2.1 hlt ho (and_t hw).1 (and_t hw).2
      · rw [ho, wfo_11]
        cases hw : (inz (J 1002 (96 * m + 4 * x + 1)) 0 7 && inz (J 1002 (96 * m + 4 * x + 2)) 0 7) with
        | false => rw [if_neg (by decide)]; exact t_ordb_11 em hm3 ex hx.2.1 hlt ho rfl rfl rfl hw
        | true => rw [if_pos rfl]; exact mo_11 h em hm3 ex hx.2.1 hlt ho (and_t hw).1 (and_t hw).2
      · rw [ho, wfo_12]
        rw [if_pos rfl]; exact mo_12 h em hm3 ex hx.2.1 hlt ho
      · rw [ho, wfo_13]
        cases hw : (inz (J 1002 (96 * m + 4 * x + 1)) 0 7) with
        | false => rw [if_neg (by decide)]; exact t_ordb_13 em hm3 ex hx.2.1 hlt ho rfl rfl rfl hw
        | true => rw [if_pos rfl]; exact mo_13 h em hm3 ex hx.2.1 hlt ho hw
      · rw [ho, wfo_14]
        cases hw : (inz (J 1002 (96 * m + 4 * x + 1)) 0 7 && inz (J 1002 (96 * m + 4 * x + 2)) 0 7) with
        | false => rw [if_neg (by decide)]; exact t_ordb_14 em hm3 ex hx.2.1 hlt ho rfl rfl rfl hw
        | true => rw [if_pos rfl]; exact mo_14 h em hm3 ex hx.2.1 hlt ho (and_t hw).1 (and_t hw).2
      · rw [ho, wfo_15]
        cases hw : (inz (J 1002 (96 * m + 4 * x + 1)) 0 7 && inz (J 1002 (96 * m + 4 * x + 2)) 0 2 && inz (J 1002 (96 * m + 4 * x + 3)) 0 63) with
        | false => rw [if_neg (by decide)]; exact t_ordb_15 em hm3 ex hx.2.1 hlt ho rfl rfl rfl hw
        | true => rw [if_pos rfl]; exact mo_15 h em hm3 ex hx.2.1 hlt ho (and_t (and_t hw).1).1 (and_t (and_t hw).1).2 (and_t hw).2
      · rw [ho, wfo_16]
        cases hw : (inz (J 1002 (96 * m + 4 * x + 1)) 0 7 && inz (J 1002 (96 * m + 4 * x + 2)) 0 6) with
        | false => rw [if_neg (by decide)]; exact t_ordb_16 em hm3 ex hx.2.1 hlt ho rfl rfl rfl hw
        | true => rw [if_pos rfl]; exact mo_16 h em hm3 ex hx.2.1 hlt ho (and_t hw).1 (and_t hw).2
      · rw [ho, wfo_17]
        rw [if_pos rfl]; exact mo_17 h em hm3 ex hx.2.1 hlt ho
      · rw [ho, wfo_18]
        rw [if_pos rfl]; exact mo_18 h em hm3 ex hx.2.1 hlt ho
  · rw [if_neg hh]
    exact t_ord_none hm.1 hm.2 hh
end MON

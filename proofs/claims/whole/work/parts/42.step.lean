/-! one order of both sides: it keeps the relation; what it leaves alone -/
def cOrd (L : LT) (I : IT) : LT × IT :=
  if hasO I (tn (I 4 11)) (I 4 12) = true ∧ wfm (fI I (tn (I 4 11))) = true then ((cPf L (fI I (tn (I 4 11)))).2.1, rF (cPf L (fI I (tn (I 4 11))))) else (L, rF (5, L, fI I (tn (I 4 11))))
theorem fI_o {I : IT} {m x : Nat} (h : x ≠ 17) : fI I m x = I x := by unfold fI; rw [upI_b h, upI_b h, upI_b h, upI_b h]
theorem fI_2 {I : IT} {m : Nat} : fI I m 17 2 = prt I m (I 4 12) 0 := by unfold fI; rw [upI_j (by decide), upI_j (by decide), upI_j (by decide), upI_s]
theorem fI_3 {I : IT} {m : Nat} : fI I m 17 3 = prt I m (I 4 12) 1 := by unfold fI; rw [upI_j (by decide), upI_j (by decide), upI_s]
theorem fI_4 {I : IT} {m : Nat} : fI I m 17 4 = prt I m (I 4 12) 2 := by unfold fI; rw [upI_j (by decide), upI_s]
theorem fI_5 {I : IT} {m : Nat} : fI I m 17 5 = prt I m (I 4 12) 3 := by unfold fI; rw [upI_s]
section STP
variable {G : GW} {L : LT} {I J : IT} {r : Nat}
theorem has_eq {m : Nat} (hc : Cd I J) (hm : m < 3) {y : Int32} : hasO I m y = hasM J m y := by
  unfold hasO hasM
  rw [(hc.1 m hm).1]
  by_cases a : y < 0 <;> by_cases b : y < J 1001 m
  · simp [a, b, Int32.not_le.mpr a]
  · simp [a, b, Int32.not_le.mpr a]
  · simp [a, b, Int32.not_lt.mp a, Int32.not_le.mpr b]
  · simp [a, b, Int32.not_lt.mp a, Int32.not_lt.mp b]
theorem prt_eq {m j : Nat} (hc : Cd I J) (hm : m < 3) {y : Int32} (hj : j < 4) (hh : hasM J m y = true) : prt I m y j = J 1002 (96 * m + 4 * tn y + j) := by
  have hx := hasM_x (hc.1 m hm).2 hh
  have hy : y.toNatClampNeg < 24 := hx.2.1
  unfold prt
  rw [has_eq hc hm, if_pos hh, hc.2 _ (by omega)]
  congr 1
  show (m * 24 + tn y) * 4 + j = _
  omega
theorem KR_of (hk : KK L I J) (h14 : I 4 14 = 0) {m : Nat} : KR L (fI I m) (mD J) := by
  refine ⟨K1_I (fI_o (by decide)) (fI_o (by decide)) (fI_o (by decide)) (fI_o (by decide)) (fI_o (by decide)) (fI_o (by decide)) (fI_o (by decide)) (fI_o (by decide)) (by rw [fI_o (by decide)]) (K1_upJ (by decide) hk.1), Ct_upJ hk.2.1, ⟨?_, ?_⟩, ?_, ?_, ?_⟩
  · rw [fI_o (by decide), mD, upI_j (by decide)]; exact hk.2.2.1.1
  · rw [mD, upI_j (by decide)]; exact hk.2.2.1.2
  · rw [fI_o (by decide), mD, upI_j (by decide)]; exact hk.2.2.2.1
  · rw [fI_o (by decide), mD, upI_s, hk.2.2.2.2.1]
  · rw [fI_o (by decide)]; exact h14
theorem t_cord (hk : KK L I J) (hc : Cd I J) (h14 : I 4 14 = 0) (hG : G.2.2.2.2[0]? = some (.int, 19, nmd)) : mt G M_Pr_runOne 5 0 0 [.ref 17] (hp L I r) (dt none (hp (cOrd L I).1 (cOrd L I).2 r)) ∧ KK (cOrd L I).1 (cOrd L I).2 (mord J) := by
  have hm := hk.2.2.1.2
  have em : tn (I 4 11) = tn (J 1000 13) := by rw [hk.2.2.1.1]
  have hs := hc.1 (tn (J 1000 13)) hm.2
  have hs24 : I 3 (tn (J 1000 13)) ≤ 24 := by
    rw [hs.1, hs.2.1, show (24 : Int32) = nI 24 from rfl, nI_leI (by have := hs.2.2; omega) (by decide)]; have := hs.2.2; omega
  have e411 : I 4 11 = nI (tn (J 1000 13)) := by rw [hk.2.2.1.1]; exact hm.1
  have hr := KR_of hk h14 (m := tn (J 1000 13))
  unfold cOrd mord
  rw [em, hk.2.2.2.1]
  have h12 := hk.2.2.2.1
  rw [has_eq hc hm.2]
  by_cases hh : hasM J (tn (J 1000 13)) (J 1000 14) = true
  · have hx := hasM_x hs.2 hh
    have p0 := prt_eq (j := 0) hc hm.2 (by decide) hh
    have p1 := prt_eq (j := 1) hc hm.2 (by decide) hh
    have p2 := prt_eq (j := 2) hc hm.2 (by decide) hh
    have p3 := prt_eq (j := 3) hc hm.2 (by decide) hh
    have hho : hasO I (tn (J 1000 13)) (I 4 12) = true := by rw [has_eq hc hm.2, h12]; exact hh
    rw [wfm_o, fI_2, fI_3, fI_4, fI_5, h12, p0, p1, p2, p3, Nat.add_zero, if_pos hh]
    have f2 : fI I (tn (J 1000 13)) 17 2 = J 1002 (96 * tn (J 1000 13) + 4 * tn (J 1000 14)) := by rw [fI_2, h12, p0, Nat.add_zero]
    have f3 : fI I (tn (J 1000 13)) 17 3 = J 1002 (96 * tn (J 1000 13) + 4 * tn (J 1000 14) + 1) := by rw [fI_3, h12, p1]
    have f4 : fI I (tn (J 1000 13)) 17 4 = J 1002 (96 * tn (J 1000 13) + 4 * tn (J 1000 14) + 2) := by rw [fI_4, h12, p2]
    have f5 : fI I (tn (J 1000 13)) 17 5 = J 1002 (96 * tn (J 1000 13) + 4 * tn (J 1000 14) + 3) := by rw [fI_5, h12, p3]
    have hwf : wfm (fI I (tn (J 1000 13))) = wfo (J 1002 (96 * tn (J 1000 13) + 4 * tn (J 1000 14))) (J 1002 (96 * tn (J 1000 13) + 4 * tn (J 1000 14) + 1)) (J 1002 (96 * tn (J 1000 13) + 4 * tn (J 1000 14) + 2)) (J 1002 (96 * tn (J 1000 13) + 4 * tn (J 1000 14) + 3)) := by rw [wfm_o, f2, f3, f4, f5]
    cases hw : wfo (J 1002 (96 * tn (J 1000 13) + 4 * tn (J 1000 14))) (J 1002 (96 * tn (J 1000 13) + 4 * tn (J 1000 14) + 1)) (J 1002 (96 * tn (J 1000 13) + 4 * tn (J 1000 14) + 2)) (J 1002 (96 * tn (J 1000 13) + 4 * tn (J 1000 14) + 3)) with
    | false =>
      rw [if_neg (fun z => absurd z.2 (by decide)), if_neg (by decide)]
      exact ⟨t_runOne_bad e411 hm.2 hs24 hG hho (by rw [hwf]; exact hw), finF hr (by decide)⟩
    | true =>
      rw [if_pos ⟨hh, rfl⟩, if_pos rfl]
      have main : pfC G L (fI I (tn (J 1000 13))) r (cPf L (fI I (tn (J 1000 13)))) ∧ KK (cPf L (fI I (tn (J 1000 13)))).2.1 (rF (cPf L (fI I (tn (J 1000 13))))) (mQ (J 1002 (96 * tn (J 1000 13) + 4 * tn (J 1000 14))) (mPf (mD J) (J 1002 (96 * tn (J 1000 13) + 4 * tn (J 1000 14))) (J 1002 (96 * tn (J 1000 13) + 4 * tn (J 1000 14) + 1)) (J 1002 (96 * tn (J 1000 13) + 4 * tn (J 1000 14) + 2)) (J 1002 (96 * tn (J 1000 13) + 4 * tn (J 1000 14) + 3)))) := by
        rw [← f2, ← f3, ← f4, ← f5] at hw ⊢
        generalize fI I (tn (J 1000 13)) = I1 at *
        cases hi : inz (I1 17 2) 0 18 with
        | false => rw [wfo_out hi] at hw; exact absurd hw (by decide)
        | true =>
          rcases ix18 hi with ho | ho | ho | ho | ho | ho | ho | ho | ho | ho | ho | ho | ho | ho | ho | ho | ho | ho | ho
          · rw [ho, wfo_0] at hw; rw [ho]; exact one_0 hr ho hw
          · rw [ho, wfo_1] at hw; rw [ho]; exact one_1 hr ho (and_t hw).1 (and_t hw).2
          · rw [ho, wfo_2] at hw; rw [ho]; exact one_2 hr ho (and_t hw).1 (and_t hw).2
          · rw [ho, wfo_3] at hw; rw [ho]; exact one_3 hr ho (and_t hw).1 (and_t hw).2
          · rw [ho, wfo_4] at hw; rw [ho]; exact one_4 hr ho (and_t hw).1 (and_t hw).2
          · rw [ho, wfo_5] at hw; rw [ho]; exact one_5 hr ho (and_t hw).1 (and_t hw).2
          · rw [ho, wfo_6] at hw; rw [ho]; exact one_6 hr ho (and_t hw).1 (and_t hw).2
          · rw [ho, wfo_7] at hw; rw [ho]; exact one_7 hr ho hw
          · rw [ho, wfo_8] at hw; rw [ho]; exact one_8 hr ho hw
          · rw [ho, wfo_9] at hw; rw [ho]; exact one_9 hr ho hw
          · rw [ho, wfo_10] at hw; rw [ho]; exact one_10 hr ho (and_t hw).1 (and_t hw).2
          · rw [ho, wfo_11] at hw; rw [ho]; exact one_11 hr ho (and_t hw).1 (and_t hw).2
          · rw [ho] ; exact one_12 hr ho
          · rw [ho, wfo_13] at hw; rw [ho]; exact one_13 hr ho hw
          · rw [ho, wfo_14] at hw; rw [ho]; exact one_14 hr ho (and_t hw).1 (and_t hw).2
          · rw [ho, wfo_15] at hw; rw [ho]; exact one_15 hr ho (and_t (and_t hw).1).1 (and_t (and_t hw).1).2
          · rw [ho, wfo_16] at hw; rw [ho]; exact one_16 hr ho (and_t hw).1 (and_t hw).2
          · rw [ho] ; exact one_17 hr ho
          · rw [ho] ; exact one_18 hr ho
      exact ⟨t_runOne e411 hm.2 hs24 hG hho (by rw [hwf]; exact hw) main.1, main.2⟩
  · rw [if_neg hh, if_neg (fun z => hh z.1)]
    have hho : hasO I (tn (J 1000 13)) (I 4 12) = false := by
      rw [has_eq hc hm.2, h12]
      cases e : hasM J (tn (J 1000 13)) (J 1000 14)
      · rfl
      · exact absurd e hh
    exact ⟨t_runOne_none e411 hm.2 hs24 hG hho, finF hr (by decide)⟩
/-- the cells of the class that an order may change -/
def cI (x : Nat) : Prop := x = 4 ∨ x = 7 ∨ x = 8 ∨ x = 9 ∨ x = 10 ∨ x = 11 ∨ x = 12 ∨ x = 13 ∨ x = 14 ∨ x = 17
theorem rF_o {q : OR} {x : Nat} (h : x ≠ 4) : rF q x = q.2.2 x := by
  unfold rF
  rw [upI_b h]
  split
  · rfl
  · rw [upI_b h]
theorem sAs_o {t f x : Nat} (h : x ≠ 7) : (sAs L I t f).2 x = I x := by
  unfold sAs
  split
  · rfl
  · dsimp only
    split
    · rw [upI_b h]
    · rfl
theorem sAs_L {t f x : Nat} (h : x ≠ 5) : (sAs L I t f).1 x = L x := by
  unfold sAs
  split
  · dsimp only; rw [upL_b h, upL_b h]
  · dsimp only; rw [upL_b h]
theorem oFl_o {dp : Nat} {k : Int32} {x : Nat} (h : x ≠ 5) : ∀ (n q : Nat) (L : LT), oFl dp k L q n x = L x
  | 0, _, _ => rfl
  | n + 1, q, L => by
    rw [oFl, oFl_o h n (q + 1)]
    split
    · rw [upL_b h, upL_b h]
    · rfl
theorem cFl_o {f : Nat} {x : Nat} (h : x ≠ 5) : ∀ (n q : Nat) (L : LT), cFl f L q n x = L x
  | 0, _, _ => rfl
  | n + 1, q, L => by rw [cFl, cFl_o h n (q + 1), upL_b h, upL_b h]
theorem wNl_o {I : IT} {g dp : Nat} {k : Int32} {x : Nat} (h : x ≠ 6) : ∀ (n q : Nat) (L : LT), wNl I g k dp L q n x = L x
  | 0, _, _ => rfl
  | n + 1, q, L => by rw [wNl, wNl_o h n (q + 1), upL_b h]
theorem oFJ_o {g dp : Nat} {k ob : Int32} {x : Nat} (h4 : x ≠ 4) (h8 : x ≠ 8) (h11 : x ≠ 11) (h12 : x ≠ 12) (h13 : x ≠ 13) (h14 : x ≠ 14) : oFJ I g k ob dp x = I x := by
  unfold oFJ oFI; rw [upI_b h4, upI_b h4, upI_b h4, upI_b h8, upI_b h14, upI_b h13, upI_b h12, upI_b h11]
theorem cFJ_o {f g : Nat} {x : Nat} (h4 : x ≠ 4) (h8 : x ≠ 8) : cFJ I f g x = I x := by
  unfold cFJ; rw [upI_b h4, upI_b h4, upI_b h4, upI_b h8]
theorem oFL_o {g dp : Nat} {k ob : Int32} {x : Nat} (h5 : x ≠ 5) (h6 : x ≠ 6) : oFL L I g k ob dp x = L x := by
  unfold oFL oFM wNo; rw [upL_b h5, upL_b h5, oFl_o h5, wNl_o h6, upL_b h6]
theorem cFL_o {f g k : Nat} {x : Nat} (h5 : x ≠ 5) : cFL L f g k x = L x := by
  unfold cFL; rw [upL_b h5, cFl_o h5, upL_b h5, upL_b h5]
theorem oNum_o {a : Nat} {x : Nat} (h4 : x ≠ 4) (h7 : x ≠ 7) (h8 : x ≠ 8) (h9 : x ≠ 9) (h10 : x ≠ 10) (h11 : x ≠ 11) (h12 : x ≠ 12) (h13 : x ≠ 13) (h14 : x ≠ 14) : (oNum L I a).2.2 x = I x := by
  unfold oNum
  repeat' split
  all_goals (try dsimp only)
  all_goals (first | rfl | (simp only [gO, upI_b h4, upI_b h7, upI_b h8, upI_b h9, upI_b h10, sAs_o h7, oFJ_o h4 h8 h11 h12 h13 h14, cFJ_o h4 h8]; done))
theorem oNum_L {a : Nat} {x : Nat} (h5 : x ≠ 5) (h6 : x ≠ 6) : (oNum L I a).2.1 x = L x := by
  unfold oNum
  repeat' split
  all_goals (try dsimp only)
  all_goals (first | rfl | (simp only [upL_b h5, sAs_L h5, oFL_o h5 h6, cFL_o h5]; done))
theorem oMov_o {a b : Nat} {x : Nat} (h4 : x ≠ 4) (h7 : x ≠ 7) (h8 : x ≠ 8) (h9 : x ≠ 9) (h10 : x ≠ 10) (h11 : x ≠ 11) (h12 : x ≠ 12) (h13 : x ≠ 13) (h14 : x ≠ 14) : (oMov L I a b).2.2 x = I x := by
  unfold oMov
  repeat' split
  all_goals (try dsimp only)
  all_goals (first | rfl | (simp only [gO, upI_b h4, upI_b h7, upI_b h8, upI_b h9, upI_b h10, sAs_o h7, oFJ_o h4 h8 h11 h12 h13 h14, cFJ_o h4 h8]; done))
theorem oMov_L {a b : Nat} {x : Nat} (h5 : x ≠ 5) (h6 : x ≠ 6) : (oMov L I a b).2.1 x = L x := by
  unfold oMov
  repeat' split
  all_goals (try dsimp only)
  all_goals (first | rfl | (simp only [upL_b h5, sAs_L h5, oFL_o h5 h6, cFL_o h5]; done))
theorem oAdd_o {s : Int32} {a b : Nat} {x : Nat} (h4 : x ≠ 4) (h7 : x ≠ 7) (h8 : x ≠ 8) (h9 : x ≠ 9) (h10 : x ≠ 10) (h11 : x ≠ 11) (h12 : x ≠ 12) (h13 : x ≠ 13) (h14 : x ≠ 14) : (oAdd L I s a b).2.2 x = I x := by
  unfold oAdd
  repeat' split
  all_goals (try dsimp only)
  all_goals (first | rfl | (simp only [gO, upI_b h4, upI_b h7, upI_b h8, upI_b h9, upI_b h10, sAs_o h7, oFJ_o h4 h8 h11 h12 h13 h14, cFJ_o h4 h8]; done))
theorem oAdd_L {s : Int32} {a b : Nat} {x : Nat} (h5 : x ≠ 5) (h6 : x ≠ 6) : (oAdd L I s a b).2.1 x = L x := by
  unfold oAdd
  repeat' split
  all_goals (try dsimp only)
  all_goals (first | rfl | (simp only [upL_b h5, sAs_L h5, oFL_o h5 h6, cFL_o h5]; done))
theorem oSpl_o {a b : Nat} {x : Nat} (h4 : x ≠ 4) (h7 : x ≠ 7) (h8 : x ≠ 8) (h9 : x ≠ 9) (h10 : x ≠ 10) (h11 : x ≠ 11) (h12 : x ≠ 12) (h13 : x ≠ 13) (h14 : x ≠ 14) : (oSpl L I a b).2.2 x = I x := by
  unfold oSpl
  repeat' split
  all_goals (try dsimp only)
  all_goals (first | rfl | (simp only [gO, upI_b h4, upI_b h7, upI_b h8, upI_b h9, upI_b h10, sAs_o h7, oFJ_o h4 h8 h11 h12 h13 h14, cFJ_o h4 h8]; done))
theorem oSpl_L {a b : Nat} {x : Nat} (h5 : x ≠ 5) (h6 : x ≠ 6) : (oSpl L I a b).2.1 x = L x := by
  unfold oSpl
  repeat' split
  all_goals (try dsimp only)
  all_goals (first | rfl | (simp only [upL_b h5, sAs_L h5, oFL_o h5 h6, cFL_o h5]; done))
theorem oMer_o {a b : Nat} {x : Nat} (h4 : x ≠ 4) (h7 : x ≠ 7) (h8 : x ≠ 8) (h9 : x ≠ 9) (h10 : x ≠ 10) (h11 : x ≠ 11) (h12 : x ≠ 12) (h13 : x ≠ 13) (h14 : x ≠ 14) : (oMer L I a b).2.2 x = I x := by
  unfold oMer
  repeat' split
  all_goals (try dsimp only)
  all_goals (first | rfl | (simp only [gO, upI_b h4, upI_b h7, upI_b h8, upI_b h9, upI_b h10, sAs_o h7, oFJ_o h4 h8 h11 h12 h13 h14, cFJ_o h4 h8]; done))
theorem oMer_L {a b : Nat} {x : Nat} (h5 : x ≠ 5) (h6 : x ≠ 6) : (oMer L I a b).2.1 x = L x := by
  unfold oMer
  repeat' split
  all_goals (try dsimp only)
  all_goals (first | rfl | (simp only [upL_b h5, sAs_L h5, oFL_o h5 h6, cFL_o h5]; done))
theorem oRes_o {a b : Nat} {x : Nat} (h4 : x ≠ 4) (h7 : x ≠ 7) (h8 : x ≠ 8) (h9 : x ≠ 9) (h10 : x ≠ 10) (h11 : x ≠ 11) (h12 : x ≠ 12) (h13 : x ≠ 13) (h14 : x ≠ 14) : (oRes L I a b).2.2 x = I x := by
  unfold oRes
  repeat' split
  all_goals (try dsimp only)
  all_goals (first | rfl | (simp only [gO, upI_b h4, upI_b h7, upI_b h8, upI_b h9, upI_b h10, sAs_o h7, oFJ_o h4 h8 h11 h12 h13 h14, cFJ_o h4 h8]; done))
theorem oRes_L {a b : Nat} {x : Nat} (h5 : x ≠ 5) (h6 : x ≠ 6) : (oRes L I a b).2.1 x = L x := by
  unfold oRes
  repeat' split
  all_goals (try dsimp only)
  all_goals (first | rfl | (simp only [upL_b h5, sAs_L h5, oFL_o h5 h6, cFL_o h5]; done))
theorem oFre_o {a : Nat} {x : Nat} (h4 : x ≠ 4) (h7 : x ≠ 7) (h8 : x ≠ 8) (h9 : x ≠ 9) (h10 : x ≠ 10) (h11 : x ≠ 11) (h12 : x ≠ 12) (h13 : x ≠ 13) (h14 : x ≠ 14) : (oFre L I a).2.2 x = I x := by
  unfold oFre
  repeat' split
  all_goals (try dsimp only)
  all_goals (first | rfl | (simp only [gO, upI_b h4, upI_b h7, upI_b h8, upI_b h9, upI_b h10, sAs_o h7, oFJ_o h4 h8 h11 h12 h13 h14, cFJ_o h4 h8]; done))
theorem oFre_L {a : Nat} {x : Nat} (h5 : x ≠ 5) (h6 : x ≠ 6) : (oFre L I a).2.1 x = L x := by
  unfold oFre
  repeat' split
  all_goals (try dsimp only)
  all_goals (first | rfl | (simp only [upL_b h5, sAs_L h5, oFL_o h5 h6, cFL_o h5]; done))
theorem oTha_o {a : Nat} {x : Nat} (h4 : x ≠ 4) (h7 : x ≠ 7) (h8 : x ≠ 8) (h9 : x ≠ 9) (h10 : x ≠ 10) (h11 : x ≠ 11) (h12 : x ≠ 12) (h13 : x ≠ 13) (h14 : x ≠ 14) : (oTha L I a).2.2 x = I x := by
  unfold oTha
  repeat' split
  all_goals (try dsimp only)
  all_goals (first | rfl | (simp only [gO, upI_b h4, upI_b h7, upI_b h8, upI_b h9, upI_b h10, sAs_o h7, oFJ_o h4 h8 h11 h12 h13 h14, cFJ_o h4 h8]; done))
theorem oTha_L {a : Nat} {x : Nat} (h5 : x ≠ 5) (h6 : x ≠ 6) : (oTha L I a).2.1 x = L x := by
  unfold oTha
  repeat' split
  all_goals (try dsimp only)
  all_goals (first | rfl | (simp only [upL_b h5, sAs_L h5, oFL_o h5 h6, cFL_o h5]; done))
theorem oDro_o {a : Nat} {x : Nat} (h4 : x ≠ 4) (h7 : x ≠ 7) (h8 : x ≠ 8) (h9 : x ≠ 9) (h10 : x ≠ 10) (h11 : x ≠ 11) (h12 : x ≠ 12) (h13 : x ≠ 13) (h14 : x ≠ 14) : (oDro L I a).2.2 x = I x := by
  unfold oDro
  repeat' split
  all_goals (try dsimp only)
  all_goals (first | rfl | (simp only [gO, upI_b h4, upI_b h7, upI_b h8, upI_b h9, upI_b h10, sAs_o h7, oFJ_o h4 h8 h11 h12 h13 h14, cFJ_o h4 h8]; done))
theorem oDro_L {a : Nat} {x : Nat} (h5 : x ≠ 5) (h6 : x ≠ 6) : (oDro L I a).2.1 x = L x := by
  unfold oDro
  repeat' split
  all_goals (try dsimp only)
  all_goals (first | rfl | (simp only [upL_b h5, sAs_L h5, oFL_o h5 h6, cFL_o h5]; done))
theorem oLoa_o {a b w : Nat} {x : Nat} (h4 : x ≠ 4) (h7 : x ≠ 7) (h8 : x ≠ 8) (h9 : x ≠ 9) (h10 : x ≠ 10) (h11 : x ≠ 11) (h12 : x ≠ 12) (h13 : x ≠ 13) (h14 : x ≠ 14) : (oLoa L I a b w).2.2 x = I x := by
  unfold oLoa
  repeat' split
  all_goals (try dsimp only)
  all_goals (first | rfl | (simp only [gO, upI_b h4, upI_b h7, upI_b h8, upI_b h9, upI_b h10, sAs_o h7, oFJ_o h4 h8 h11 h12 h13 h14, cFJ_o h4 h8]; done))
theorem oLoa_L {a b w : Nat} {x : Nat} (h5 : x ≠ 5) (h6 : x ≠ 6) : (oLoa L I a b w).2.1 x = L x := by
  unfold oLoa
  repeat' split
  all_goals (try dsimp only)
  all_goals (first | rfl | (simp only [upL_b h5, sAs_L h5, oFL_o h5 h6, cFL_o h5]; done))
theorem oSto_o {a b w : Nat} {x : Nat} (h4 : x ≠ 4) (h7 : x ≠ 7) (h8 : x ≠ 8) (h9 : x ≠ 9) (h10 : x ≠ 10) (h11 : x ≠ 11) (h12 : x ≠ 12) (h13 : x ≠ 13) (h14 : x ≠ 14) : (oSto L I a b w).2.2 x = I x := by
  unfold oSto
  repeat' split
  all_goals (try dsimp only)
  all_goals (first | rfl | (simp only [gO, upI_b h4, upI_b h7, upI_b h8, upI_b h9, upI_b h10, sAs_o h7, oFJ_o h4 h8 h11 h12 h13 h14, cFJ_o h4 h8]; done))
theorem oSto_L {a b w : Nat} {x : Nat} (h5 : x ≠ 5) (h6 : x ≠ 6) : (oSto L I a b w).2.1 x = L x := by
  unfold oSto
  repeat' split
  all_goals (try dsimp only)
  all_goals (first | rfl | (simp only [upL_b h5, sAs_L h5, oFL_o h5 h6, cFL_o h5]; done))
theorem oZer_o {a : Nat} {x : Nat} (h4 : x ≠ 4) (h7 : x ≠ 7) (h8 : x ≠ 8) (h9 : x ≠ 9) (h10 : x ≠ 10) (h11 : x ≠ 11) (h12 : x ≠ 12) (h13 : x ≠ 13) (h14 : x ≠ 14) : (oZer L I a).2.2 x = I x := by
  unfold oZer
  repeat' split
  all_goals (try dsimp only)
  all_goals (first | rfl | (simp only [gO, upI_b h4, upI_b h7, upI_b h8, upI_b h9, upI_b h10, sAs_o h7, oFJ_o h4 h8 h11 h12 h13 h14, cFJ_o h4 h8]; done))
theorem oZer_L {a : Nat} {x : Nat} (h5 : x ≠ 5) (h6 : x ≠ 6) : (oZer L I a).2.1 x = L x := by
  unfold oZer
  repeat' split
  all_goals (try dsimp only)
  all_goals (first | rfl | (simp only [upL_b h5, sAs_L h5, oFL_o h5 h6, cFL_o h5]; done))
theorem oLes_o {a b : Nat} {x : Nat} (h4 : x ≠ 4) (h7 : x ≠ 7) (h8 : x ≠ 8) (h9 : x ≠ 9) (h10 : x ≠ 10) (h11 : x ≠ 11) (h12 : x ≠ 12) (h13 : x ≠ 13) (h14 : x ≠ 14) : (oLes L I a b).2.2 x = I x := by
  unfold oLes
  repeat' split
  all_goals (try dsimp only)
  all_goals (first | rfl | (simp only [gO, upI_b h4, upI_b h7, upI_b h8, upI_b h9, upI_b h10, sAs_o h7, oFJ_o h4 h8 h11 h12 h13 h14, cFJ_o h4 h8]; done))
theorem oLes_L {a b : Nat} {x : Nat} (h5 : x ≠ 5) (h6 : x ≠ 6) : (oLes L I a b).2.1 x = L x := by
  unfold oLes
  repeat' split
  all_goals (try dsimp only)
  all_goals (first | rfl | (simp only [upL_b h5, sAs_L h5, oFL_o h5 h6, cFL_o h5]; done))
theorem oSea_o {a : Nat} {x : Nat} (h4 : x ≠ 4) (h7 : x ≠ 7) (h8 : x ≠ 8) (h9 : x ≠ 9) (h10 : x ≠ 10) (h11 : x ≠ 11) (h12 : x ≠ 12) (h13 : x ≠ 13) (h14 : x ≠ 14) : (oSea L I a).2.2 x = I x := by
  unfold oSea
  repeat' split
  all_goals (try dsimp only)
  all_goals (first | rfl | (simp only [gO, upI_b h4, upI_b h7, upI_b h8, upI_b h9, upI_b h10, sAs_o h7, oFJ_o h4 h8 h11 h12 h13 h14, cFJ_o h4 h8]; done))
theorem oSea_L {a : Nat} {x : Nat} (h5 : x ≠ 5) (h6 : x ≠ 6) : (oSea L I a).2.1 x = L x := by
  unfold oSea
  repeat' split
  all_goals (try dsimp only)
  all_goals (first | rfl | (simp only [upL_b h5, sAs_L h5, oFL_o h5 h6, cFL_o h5]; done))
theorem oHal_o  {x : Nat} (h4 : x ≠ 4) (h7 : x ≠ 7) (h8 : x ≠ 8) (h9 : x ≠ 9) (h10 : x ≠ 10) (h11 : x ≠ 11) (h12 : x ≠ 12) (h13 : x ≠ 13) (h14 : x ≠ 14) : (oHal L I ).2.2 x = I x := by
  unfold oHal
  repeat' split
  all_goals (try dsimp only)
  all_goals (first | rfl | (simp only [gO, upI_b h4, upI_b h7, upI_b h8, upI_b h9, upI_b h10, sAs_o h7, oFJ_o h4 h8 h11 h12 h13 h14, cFJ_o h4 h8]; done))
theorem oHal_L  {x : Nat} (h5 : x ≠ 5) (h6 : x ≠ 6) : (oHal L I ).2.1 x = L x := by
  unfold oHal
  repeat' split
  all_goals (try dsimp only)
  all_goals (first | rfl | (simp only [upL_b h5, sAs_L h5, oFL_o h5 h6, cFL_o h5]; done))
theorem oGo_o  {x : Nat} (h4 : x ≠ 4) (h7 : x ≠ 7) (h8 : x ≠ 8) (h9 : x ≠ 9) (h10 : x ≠ 10) (h11 : x ≠ 11) (h12 : x ≠ 12) (h13 : x ≠ 13) (h14 : x ≠ 14) : (oGo L I ).2.2 x = I x := by
  unfold oGo
  repeat' split
  all_goals (try dsimp only)
  all_goals (first | rfl | (simp only [gO, upI_b h4, upI_b h7, upI_b h8, upI_b h9, upI_b h10, sAs_o h7, oFJ_o h4 h8 h11 h12 h13 h14, cFJ_o h4 h8]; done))
theorem oGo_L  {x : Nat} (h5 : x ≠ 5) (h6 : x ≠ 6) : (oGo L I ).2.1 x = L x := by
  unfold oGo
  repeat' split
  all_goals (try dsimp only)
  all_goals (first | rfl | (simp only [upL_b h5, sAs_L h5, oFL_o h5 h6, cFL_o h5]; done))
theorem oCal_o {a d : Nat} {x : Nat} (h4 : x ≠ 4) (h7 : x ≠ 7) (h8 : x ≠ 8) (h9 : x ≠ 9) (h10 : x ≠ 10) (h11 : x ≠ 11) (h12 : x ≠ 12) (h13 : x ≠ 13) (h14 : x ≠ 14) : (oCal L I a d).2.2 x = I x := by
  unfold oCal
  repeat' split
  all_goals (try dsimp only)
  all_goals (first | rfl | (simp only [gO, upI_b h4, upI_b h7, upI_b h8, upI_b h9, upI_b h10, sAs_o h7, oFJ_o h4 h8 h11 h12 h13 h14, cFJ_o h4 h8]; done))
theorem oCal_L {a d : Nat} {x : Nat} (h5 : x ≠ 5) (h6 : x ≠ 6) : (oCal L I a d).2.1 x = L x := by
  unfold oCal
  repeat' split
  all_goals (try dsimp only)
  all_goals (first | rfl | (simp only [upL_b h5, sAs_L h5, oFL_o h5 h6, cFL_o h5]; done))
theorem oRet_o {f g k : Nat} {x : Nat} (h4 : x ≠ 4) (h7 : x ≠ 7) (h8 : x ≠ 8) (h9 : x ≠ 9) (h10 : x ≠ 10) (h11 : x ≠ 11) (h12 : x ≠ 12) (h13 : x ≠ 13) (h14 : x ≠ 14) : (oRet L I f g k).2.2 x = I x := by
  unfold oRet
  repeat' split
  all_goals (try dsimp only)
  all_goals (first | rfl | (simp only [gO, upI_b h4, upI_b h7, upI_b h8, upI_b h9, upI_b h10, sAs_o h7, oFJ_o h4 h8 h11 h12 h13 h14, cFJ_o h4 h8]; done))
theorem oRet_L {f g k : Nat} {x : Nat} (h5 : x ≠ 5) (h6 : x ≠ 6) : (oRet L I f g k).2.1 x = L x := by
  unfold oRet
  repeat' split
  all_goals (try dsimp only)
  all_goals (first | rfl | (simp only [upL_b h5, sAs_L h5, oFL_o h5 h6, cFL_o h5]; done))
theorem cPf_o {x : Nat} (h : ¬ cI x) : (cPf L I).2.2 x = I x := by
  have h4 : x ≠ 4 := fun e => h (by simp [cI, e])
  have h7 : x ≠ 7 := fun e => h (by simp [cI, e])
  have h8 : x ≠ 8 := fun e => h (by simp [cI, e])
  have h9 : x ≠ 9 := fun e => h (by simp [cI, e])
  have h10 : x ≠ 10 := fun e => h (by simp [cI, e])
  have h11 : x ≠ 11 := fun e => h (by simp [cI, e])
  have h12 : x ≠ 12 := fun e => h (by simp [cI, e])
  have h13 : x ≠ 13 := fun e => h (by simp [cI, e])
  have h14 : x ≠ 14 := fun e => h (by simp [cI, e])
  by_cases e0 : I 17 2 = 0
  · rw [cPf_0 e0]; exact oNum_o h4 h7 h8 h9 h10 h11 h12 h13 h14
  by_cases e1 : I 17 2 = 1
  · rw [cPf_1 e1]; exact oMov_o h4 h7 h8 h9 h10 h11 h12 h13 h14
  by_cases e2 : I 17 2 = 2
  · rw [cPf_2 e2]; exact oAdd_o h4 h7 h8 h9 h10 h11 h12 h13 h14
  by_cases e3 : I 17 2 = 3
  · rw [cPf_3 e3]; exact oAdd_o h4 h7 h8 h9 h10 h11 h12 h13 h14
  by_cases e4 : I 17 2 = 4
  · rw [cPf_4 e4]; exact oSpl_o h4 h7 h8 h9 h10 h11 h12 h13 h14
  by_cases e5 : I 17 2 = 5
  · rw [cPf_5 e5]; exact oMer_o h4 h7 h8 h9 h10 h11 h12 h13 h14
  by_cases e6 : I 17 2 = 6
  · rw [cPf_6 e6]; exact oRes_o h4 h7 h8 h9 h10 h11 h12 h13 h14
  by_cases e7 : I 17 2 = 7
  · rw [cPf_7 e7]; exact oFre_o h4 h7 h8 h9 h10 h11 h12 h13 h14
  by_cases e8 : I 17 2 = 8
  · rw [cPf_8 e8]; exact oTha_o h4 h7 h8 h9 h10 h11 h12 h13 h14
  by_cases e9 : I 17 2 = 9
  · rw [cPf_9 e9]; exact oDro_o h4 h7 h8 h9 h10 h11 h12 h13 h14
  by_cases e10 : I 17 2 = 10
  · rw [cPf_10 e10]; exact oLoa_o h4 h7 h8 h9 h10 h11 h12 h13 h14
  by_cases e11 : I 17 2 = 11
  · rw [cPf_11 e11]; exact oSto_o h4 h7 h8 h9 h10 h11 h12 h13 h14
  by_cases e12 : I 17 2 = 12
  · rw [cPf_12 e12]; exact oGo_o h4 h7 h8 h9 h10 h11 h12 h13 h14
  by_cases e13 : I 17 2 = 13
  · rw [cPf_13 e13]; exact oZer_o h4 h7 h8 h9 h10 h11 h12 h13 h14
  by_cases e14 : I 17 2 = 14
  · rw [cPf_14 e14]; exact oLes_o h4 h7 h8 h9 h10 h11 h12 h13 h14
  by_cases e15 : I 17 2 = 15
  · rw [cPf_15 e15]; exact oSea_o h4 h7 h8 h9 h10 h11 h12 h13 h14
  by_cases e16 : I 17 2 = 16
  · rw [cPf_16 e16]; exact oCal_o h4 h7 h8 h9 h10 h11 h12 h13 h14
  by_cases e17 : I 17 2 = 17
  · rw [cPf_17 e17]
    split
    · rfl
    · exact oRet_o h4 h7 h8 h9 h10 h11 h12 h13 h14
  rw [cPf, if_neg e0, if_neg e1, if_neg e2, if_neg e3, if_neg e4, if_neg e5, if_neg e6, if_neg e7, if_neg e8, if_neg e9, if_neg e10, if_neg e11, if_neg e12, if_neg e13, if_neg e14, if_neg e15, if_neg e16, if_neg e17]; exact oHal_o h4 h7 h8 h9 h10 h11 h12 h13 h14
theorem cPf_L {x : Nat} (h5 : x ≠ 5) (h6 : x ≠ 6) : (cPf L I).2.1 x = L x := by
  by_cases e0 : I 17 2 = 0
  · rw [cPf_0 e0]; exact oNum_L h5 h6
  by_cases e1 : I 17 2 = 1
  · rw [cPf_1 e1]; exact oMov_L h5 h6
  by_cases e2 : I 17 2 = 2
  · rw [cPf_2 e2]; exact oAdd_L h5 h6
  by_cases e3 : I 17 2 = 3
  · rw [cPf_3 e3]; exact oAdd_L h5 h6
  by_cases e4 : I 17 2 = 4
  · rw [cPf_4 e4]; exact oSpl_L h5 h6
  by_cases e5 : I 17 2 = 5
  · rw [cPf_5 e5]; exact oMer_L h5 h6
  by_cases e6 : I 17 2 = 6
  · rw [cPf_6 e6]; exact oRes_L h5 h6
  by_cases e7 : I 17 2 = 7
  · rw [cPf_7 e7]; exact oFre_L h5 h6
  by_cases e8 : I 17 2 = 8
  · rw [cPf_8 e8]; exact oTha_L h5 h6
  by_cases e9 : I 17 2 = 9
  · rw [cPf_9 e9]; exact oDro_L h5 h6
  by_cases e10 : I 17 2 = 10
  · rw [cPf_10 e10]; exact oLoa_L h5 h6
  by_cases e11 : I 17 2 = 11
  · rw [cPf_11 e11]; exact oSto_L h5 h6
  by_cases e12 : I 17 2 = 12
  · rw [cPf_12 e12]; exact oGo_L h5 h6
  by_cases e13 : I 17 2 = 13
  · rw [cPf_13 e13]; exact oZer_L h5 h6
  by_cases e14 : I 17 2 = 14
  · rw [cPf_14 e14]; exact oLes_L h5 h6
  by_cases e15 : I 17 2 = 15
  · rw [cPf_15 e15]; exact oSea_L h5 h6
  by_cases e16 : I 17 2 = 16
  · rw [cPf_16 e16]; exact oCal_L h5 h6
  by_cases e17 : I 17 2 = 17
  · rw [cPf_17 e17]
    split
    · rfl
    · exact oRet_L h5 h6
  rw [cPf, if_neg e0, if_neg e1, if_neg e2, if_neg e3, if_neg e4, if_neg e5, if_neg e6, if_neg e7, if_neg e8, if_neg e9, if_neg e10, if_neg e11, if_neg e12, if_neg e13, if_neg e14, if_neg e15, if_neg e16, if_neg e17]; exact oHal_L h5 h6
theorem cOrd_o {x : Nat} (h : ¬ cI x) : (cOrd L I).2 x = I x := by
  have h4 : x ≠ 4 := fun e => h (by simp [cI, e])
  have h17 : x ≠ 17 := fun e => h (by simp [cI, e])
  unfold cOrd
  split
  · dsimp only; rw [rF_o h4, cPf_o h, fI_o h17]
  · dsimp only; rw [rF_o h4]; exact fI_o h17
theorem cOrd_L {x : Nat} (h5 : x ≠ 5) (h6 : x ≠ 6) : (cOrd L I).1 x = L x := by
  unfold cOrd
  split
  · exact cPf_L h5 h6
  · rfl
theorem mAsg_o {t f x : Nat} (h3 : x ≠ 1003) (h4 : x ≠ 1004) : mAsg J t f x = J x := by
  unfold mAsg
  split
  · exact mShf_o h3
  · split
    · rw [upI_b h4]; exact mPut_o h3
    · exact mPut_o h3
def mI' (x : Nat) : Prop := x = 1000 ∨ x = 1003 ∨ x = 1004 ∨ x = 1005 ∨ x = 1006 ∨ x = 1007 ∨ x = 1008 ∨ x = 1009 ∨ x = 1010 ∨ x = 1011
theorem mQ_o {w : MR} {o : Int32} {x : Nat} (h : x ≠ 1000) : mQ o w x = w.2 x := by unfold mQ; rw [upI_b h, upI_b h]
theorem mNum_o {a : Nat} {q : Int32} {x : Nat} (h1000 : x ≠ 1000) (h1003 : x ≠ 1003) (h1004 : x ≠ 1004) (h1005 : x ≠ 1005) (h1006 : x ≠ 1006) (h1007 : x ≠ 1007) (h1008 : x ≠ 1008) (h1009 : x ≠ 1009) (h1010 : x ≠ 1010) (h1011 : x ≠ 1011) : (mNum J a q).2 x = J x := by
  unfold mNum
  repeat' split
  all_goals (try dsimp only)
  all_goals (first | rfl | (simp only [mCd, mClr, mNx, mEn, mLv, mPut_o h1003, upI_b h1000, upI_b h1004, upI_b h1005, upI_b h1006, upI_b h1007, upI_b h1008, upI_b h1009, mShf_o h1003, mAsg_o h1003 h1004, mMv_o h1003 h1010 h1011, mRl_o h1003]; done))
theorem mNum_f {a : Nat} {q : Int32} {i : Nat} (h10 : i ≠ 10) (h13 : i ≠ 13) (h14 : i ≠ 14) : (mNum J a q).2 1000 i = J 1000 i := by
  unfold mNum
  repeat' split
  all_goals (try dsimp only)
  all_goals (first | rfl | (simp only [mCd, mClr, mNx, mEn, mLv, mPut_o (show (1000 : Nat) ≠ 1003 by decide), upI_j h10, upI_j h13, upI_j h14, upI_b (show (1000 : Nat) ≠ 1004 by decide), upI_b (show (1000 : Nat) ≠ 1005 by decide), upI_b (show (1000 : Nat) ≠ 1006 by decide), upI_b (show (1000 : Nat) ≠ 1007 by decide), upI_b (show (1000 : Nat) ≠ 1008 by decide), upI_b (show (1000 : Nat) ≠ 1009 by decide), mShf_o (show (1000 : Nat) ≠ 1003 by decide), mAsg_o (show (1000 : Nat) ≠ 1003 by decide) (show (1000 : Nat) ≠ 1004 by decide), mMv_o (show (1000 : Nat) ≠ 1003 by decide) (show (1000 : Nat) ≠ 1010 by decide) (show (1000 : Nat) ≠ 1011 by decide), mRl_o (show (1000 : Nat) ≠ 1003 by decide)]; done))
theorem mMov_o {a b : Nat} {x : Nat} (h1000 : x ≠ 1000) (h1003 : x ≠ 1003) (h1004 : x ≠ 1004) (h1005 : x ≠ 1005) (h1006 : x ≠ 1006) (h1007 : x ≠ 1007) (h1008 : x ≠ 1008) (h1009 : x ≠ 1009) (h1010 : x ≠ 1010) (h1011 : x ≠ 1011) : (mMov J a b).2 x = J x := by
  unfold mMov
  repeat' split
  all_goals (try dsimp only)
  all_goals (first | rfl | (simp only [mCd, mClr, mNx, mEn, mLv, mPut_o h1003, upI_b h1000, upI_b h1004, upI_b h1005, upI_b h1006, upI_b h1007, upI_b h1008, upI_b h1009, mShf_o h1003, mAsg_o h1003 h1004, mMv_o h1003 h1010 h1011, mRl_o h1003]; done))
theorem mMov_f {a b : Nat} {i : Nat} (h10 : i ≠ 10) (h13 : i ≠ 13) (h14 : i ≠ 14) : (mMov J a b).2 1000 i = J 1000 i := by
  unfold mMov
  repeat' split
  all_goals (try dsimp only)
  all_goals (first | rfl | (simp only [mCd, mClr, mNx, mEn, mLv, mPut_o (show (1000 : Nat) ≠ 1003 by decide), upI_j h10, upI_j h13, upI_j h14, upI_b (show (1000 : Nat) ≠ 1004 by decide), upI_b (show (1000 : Nat) ≠ 1005 by decide), upI_b (show (1000 : Nat) ≠ 1006 by decide), upI_b (show (1000 : Nat) ≠ 1007 by decide), upI_b (show (1000 : Nat) ≠ 1008 by decide), upI_b (show (1000 : Nat) ≠ 1009 by decide), mShf_o (show (1000 : Nat) ≠ 1003 by decide), mAsg_o (show (1000 : Nat) ≠ 1003 by decide) (show (1000 : Nat) ≠ 1004 by decide), mMv_o (show (1000 : Nat) ≠ 1003 by decide) (show (1000 : Nat) ≠ 1010 by decide) (show (1000 : Nat) ≠ 1011 by decide), mRl_o (show (1000 : Nat) ≠ 1003 by decide)]; done))
theorem mAdd_o {a b : Nat} {x : Nat} (h1000 : x ≠ 1000) (h1003 : x ≠ 1003) (h1004 : x ≠ 1004) (h1005 : x ≠ 1005) (h1006 : x ≠ 1006) (h1007 : x ≠ 1007) (h1008 : x ≠ 1008) (h1009 : x ≠ 1009) (h1010 : x ≠ 1010) (h1011 : x ≠ 1011) : (mAdd J a b).2 x = J x := by
  unfold mAdd
  repeat' split
  all_goals (try dsimp only)
  all_goals (first | rfl | (simp only [mCd, mClr, mNx, mEn, mLv, mPut_o h1003, upI_b h1000, upI_b h1004, upI_b h1005, upI_b h1006, upI_b h1007, upI_b h1008, upI_b h1009, mShf_o h1003, mAsg_o h1003 h1004, mMv_o h1003 h1010 h1011, mRl_o h1003]; done))
theorem mAdd_f {a b : Nat} {i : Nat} (h10 : i ≠ 10) (h13 : i ≠ 13) (h14 : i ≠ 14) : (mAdd J a b).2 1000 i = J 1000 i := by
  unfold mAdd
  repeat' split
  all_goals (try dsimp only)
  all_goals (first | rfl | (simp only [mCd, mClr, mNx, mEn, mLv, mPut_o (show (1000 : Nat) ≠ 1003 by decide), upI_j h10, upI_j h13, upI_j h14, upI_b (show (1000 : Nat) ≠ 1004 by decide), upI_b (show (1000 : Nat) ≠ 1005 by decide), upI_b (show (1000 : Nat) ≠ 1006 by decide), upI_b (show (1000 : Nat) ≠ 1007 by decide), upI_b (show (1000 : Nat) ≠ 1008 by decide), upI_b (show (1000 : Nat) ≠ 1009 by decide), mShf_o (show (1000 : Nat) ≠ 1003 by decide), mAsg_o (show (1000 : Nat) ≠ 1003 by decide) (show (1000 : Nat) ≠ 1004 by decide), mMv_o (show (1000 : Nat) ≠ 1003 by decide) (show (1000 : Nat) ≠ 1010 by decide) (show (1000 : Nat) ≠ 1011 by decide), mRl_o (show (1000 : Nat) ≠ 1003 by decide)]; done))
theorem mSub_o {a b : Nat} {x : Nat} (h1000 : x ≠ 1000) (h1003 : x ≠ 1003) (h1004 : x ≠ 1004) (h1005 : x ≠ 1005) (h1006 : x ≠ 1006) (h1007 : x ≠ 1007) (h1008 : x ≠ 1008) (h1009 : x ≠ 1009) (h1010 : x ≠ 1010) (h1011 : x ≠ 1011) : (mSub J a b).2 x = J x := by
  unfold mSub
  repeat' split
  all_goals (try dsimp only)
  all_goals (first | rfl | (simp only [mCd, mClr, mNx, mEn, mLv, mPut_o h1003, upI_b h1000, upI_b h1004, upI_b h1005, upI_b h1006, upI_b h1007, upI_b h1008, upI_b h1009, mShf_o h1003, mAsg_o h1003 h1004, mMv_o h1003 h1010 h1011, mRl_o h1003]; done))
theorem mSub_f {a b : Nat} {i : Nat} (h10 : i ≠ 10) (h13 : i ≠ 13) (h14 : i ≠ 14) : (mSub J a b).2 1000 i = J 1000 i := by
  unfold mSub
  repeat' split
  all_goals (try dsimp only)
  all_goals (first | rfl | (simp only [mCd, mClr, mNx, mEn, mLv, mPut_o (show (1000 : Nat) ≠ 1003 by decide), upI_j h10, upI_j h13, upI_j h14, upI_b (show (1000 : Nat) ≠ 1004 by decide), upI_b (show (1000 : Nat) ≠ 1005 by decide), upI_b (show (1000 : Nat) ≠ 1006 by decide), upI_b (show (1000 : Nat) ≠ 1007 by decide), upI_b (show (1000 : Nat) ≠ 1008 by decide), upI_b (show (1000 : Nat) ≠ 1009 by decide), mShf_o (show (1000 : Nat) ≠ 1003 by decide), mAsg_o (show (1000 : Nat) ≠ 1003 by decide) (show (1000 : Nat) ≠ 1004 by decide), mMv_o (show (1000 : Nat) ≠ 1003 by decide) (show (1000 : Nat) ≠ 1010 by decide) (show (1000 : Nat) ≠ 1011 by decide), mRl_o (show (1000 : Nat) ≠ 1003 by decide)]; done))
theorem mSpl_o {a b : Nat} {n : Int32} {x : Nat} (h1000 : x ≠ 1000) (h1003 : x ≠ 1003) (h1004 : x ≠ 1004) (h1005 : x ≠ 1005) (h1006 : x ≠ 1006) (h1007 : x ≠ 1007) (h1008 : x ≠ 1008) (h1009 : x ≠ 1009) (h1010 : x ≠ 1010) (h1011 : x ≠ 1011) : (mSpl J a b n).2 x = J x := by
  unfold mSpl
  repeat' split
  all_goals (try dsimp only)
  all_goals (first | rfl | (simp only [mCd, mClr, mNx, mEn, mLv, mPut_o h1003, upI_b h1000, upI_b h1004, upI_b h1005, upI_b h1006, upI_b h1007, upI_b h1008, upI_b h1009, mShf_o h1003, mAsg_o h1003 h1004, mMv_o h1003 h1010 h1011, mRl_o h1003]; done))
theorem mSpl_f {a b : Nat} {n : Int32} {i : Nat} (h10 : i ≠ 10) (h13 : i ≠ 13) (h14 : i ≠ 14) : (mSpl J a b n).2 1000 i = J 1000 i := by
  unfold mSpl
  repeat' split
  all_goals (try dsimp only)
  all_goals (first | rfl | (simp only [mCd, mClr, mNx, mEn, mLv, mPut_o (show (1000 : Nat) ≠ 1003 by decide), upI_j h10, upI_j h13, upI_j h14, upI_b (show (1000 : Nat) ≠ 1004 by decide), upI_b (show (1000 : Nat) ≠ 1005 by decide), upI_b (show (1000 : Nat) ≠ 1006 by decide), upI_b (show (1000 : Nat) ≠ 1007 by decide), upI_b (show (1000 : Nat) ≠ 1008 by decide), upI_b (show (1000 : Nat) ≠ 1009 by decide), mShf_o (show (1000 : Nat) ≠ 1003 by decide), mAsg_o (show (1000 : Nat) ≠ 1003 by decide) (show (1000 : Nat) ≠ 1004 by decide), mMv_o (show (1000 : Nat) ≠ 1003 by decide) (show (1000 : Nat) ≠ 1010 by decide) (show (1000 : Nat) ≠ 1011 by decide), mRl_o (show (1000 : Nat) ≠ 1003 by decide)]; done))
theorem mMg_o {a b : Nat} {x : Nat} (h1000 : x ≠ 1000) (h1003 : x ≠ 1003) (h1004 : x ≠ 1004) (h1005 : x ≠ 1005) (h1006 : x ≠ 1006) (h1007 : x ≠ 1007) (h1008 : x ≠ 1008) (h1009 : x ≠ 1009) (h1010 : x ≠ 1010) (h1011 : x ≠ 1011) : (mMg J a b).2 x = J x := by
  unfold mMg
  repeat' split
  all_goals (try dsimp only)
  all_goals (first | rfl | (simp only [mCd, mClr, mNx, mEn, mLv, mPut_o h1003, upI_b h1000, upI_b h1004, upI_b h1005, upI_b h1006, upI_b h1007, upI_b h1008, upI_b h1009, mShf_o h1003, mAsg_o h1003 h1004, mMv_o h1003 h1010 h1011, mRl_o h1003]; done))
theorem mMg_f {a b : Nat} {i : Nat} (h10 : i ≠ 10) (h13 : i ≠ 13) (h14 : i ≠ 14) : (mMg J a b).2 1000 i = J 1000 i := by
  unfold mMg
  repeat' split
  all_goals (try dsimp only)
  all_goals (first | rfl | (simp only [mCd, mClr, mNx, mEn, mLv, mPut_o (show (1000 : Nat) ≠ 1003 by decide), upI_j h10, upI_j h13, upI_j h14, upI_b (show (1000 : Nat) ≠ 1004 by decide), upI_b (show (1000 : Nat) ≠ 1005 by decide), upI_b (show (1000 : Nat) ≠ 1006 by decide), upI_b (show (1000 : Nat) ≠ 1007 by decide), upI_b (show (1000 : Nat) ≠ 1008 by decide), upI_b (show (1000 : Nat) ≠ 1009 by decide), mShf_o (show (1000 : Nat) ≠ 1003 by decide), mAsg_o (show (1000 : Nat) ≠ 1003 by decide) (show (1000 : Nat) ≠ 1004 by decide), mMv_o (show (1000 : Nat) ≠ 1003 by decide) (show (1000 : Nat) ≠ 1010 by decide) (show (1000 : Nat) ≠ 1011 by decide), mRl_o (show (1000 : Nat) ≠ 1003 by decide)]; done))
theorem mMer_o {a b : Nat} {x : Nat} (h1000 : x ≠ 1000) (h1003 : x ≠ 1003) (h1004 : x ≠ 1004) (h1005 : x ≠ 1005) (h1006 : x ≠ 1006) (h1007 : x ≠ 1007) (h1008 : x ≠ 1008) (h1009 : x ≠ 1009) (h1010 : x ≠ 1010) (h1011 : x ≠ 1011) : (mMer J a b).2 x = J x := by
  unfold mMer
  repeat' split
  all_goals (try dsimp only)
  all_goals (first | rfl | (simp only [mCd, mClr, mNx, mEn, mLv, mPut_o h1003, upI_b h1000, upI_b h1004, upI_b h1005, upI_b h1006, upI_b h1007, upI_b h1008, upI_b h1009, mShf_o h1003, mAsg_o h1003 h1004, mMv_o h1003 h1010 h1011, mRl_o h1003]; done) | exact mMg_o h1000 h1003 h1004 h1005 h1006 h1007 h1008 h1009 h1010 h1011)
theorem mMer_f {a b : Nat} {i : Nat} (h10 : i ≠ 10) (h13 : i ≠ 13) (h14 : i ≠ 14) : (mMer J a b).2 1000 i = J 1000 i := by
  unfold mMer
  repeat' split
  all_goals (try dsimp only)
  all_goals (first | rfl | (simp only [mCd, mClr, mNx, mEn, mLv, mPut_o (show (1000 : Nat) ≠ 1003 by decide), upI_j h10, upI_j h13, upI_j h14, upI_b (show (1000 : Nat) ≠ 1004 by decide), upI_b (show (1000 : Nat) ≠ 1005 by decide), upI_b (show (1000 : Nat) ≠ 1006 by decide), upI_b (show (1000 : Nat) ≠ 1007 by decide), upI_b (show (1000 : Nat) ≠ 1008 by decide), upI_b (show (1000 : Nat) ≠ 1009 by decide), mShf_o (show (1000 : Nat) ≠ 1003 by decide), mAsg_o (show (1000 : Nat) ≠ 1003 by decide) (show (1000 : Nat) ≠ 1004 by decide), mMv_o (show (1000 : Nat) ≠ 1003 by decide) (show (1000 : Nat) ≠ 1010 by decide) (show (1000 : Nat) ≠ 1011 by decide), mRl_o (show (1000 : Nat) ≠ 1003 by decide)]; done) | exact mMg_f h10 h13 h14)
theorem mRes_o {a b : Nat} {n : Int32} {x : Nat} (h1000 : x ≠ 1000) (h1003 : x ≠ 1003) (h1004 : x ≠ 1004) (h1005 : x ≠ 1005) (h1006 : x ≠ 1006) (h1007 : x ≠ 1007) (h1008 : x ≠ 1008) (h1009 : x ≠ 1009) (h1010 : x ≠ 1010) (h1011 : x ≠ 1011) : (mRes J a b n).2 x = J x := by
  unfold mRes
  repeat' split
  all_goals (try dsimp only)
  all_goals (first | rfl | (simp only [mCd, mClr, mNx, mEn, mLv, mPut_o h1003, upI_b h1000, upI_b h1004, upI_b h1005, upI_b h1006, upI_b h1007, upI_b h1008, upI_b h1009, mShf_o h1003, mAsg_o h1003 h1004, mMv_o h1003 h1010 h1011, mRl_o h1003]; done))
theorem mRes_f {a b : Nat} {n : Int32} {i : Nat} (h10 : i ≠ 10) (h13 : i ≠ 13) (h14 : i ≠ 14) : (mRes J a b n).2 1000 i = J 1000 i := by
  unfold mRes
  repeat' split
  all_goals (try dsimp only)
  all_goals (first | rfl | (simp only [mCd, mClr, mNx, mEn, mLv, mPut_o (show (1000 : Nat) ≠ 1003 by decide), upI_j h10, upI_j h13, upI_j h14, upI_b (show (1000 : Nat) ≠ 1004 by decide), upI_b (show (1000 : Nat) ≠ 1005 by decide), upI_b (show (1000 : Nat) ≠ 1006 by decide), upI_b (show (1000 : Nat) ≠ 1007 by decide), upI_b (show (1000 : Nat) ≠ 1008 by decide), upI_b (show (1000 : Nat) ≠ 1009 by decide), mShf_o (show (1000 : Nat) ≠ 1003 by decide), mAsg_o (show (1000 : Nat) ≠ 1003 by decide) (show (1000 : Nat) ≠ 1004 by decide), mMv_o (show (1000 : Nat) ≠ 1003 by decide) (show (1000 : Nat) ≠ 1010 by decide) (show (1000 : Nat) ≠ 1011 by decide), mRl_o (show (1000 : Nat) ≠ 1003 by decide)]; done))
theorem mFre_o {a : Nat} {x : Nat} (h1000 : x ≠ 1000) (h1003 : x ≠ 1003) (h1004 : x ≠ 1004) (h1005 : x ≠ 1005) (h1006 : x ≠ 1006) (h1007 : x ≠ 1007) (h1008 : x ≠ 1008) (h1009 : x ≠ 1009) (h1010 : x ≠ 1010) (h1011 : x ≠ 1011) : (mFre J a).2 x = J x := by
  unfold mFre
  repeat' split
  all_goals (try dsimp only)
  all_goals (first | rfl | (simp only [mCd, mClr, mNx, mEn, mLv, mPut_o h1003, upI_b h1000, upI_b h1004, upI_b h1005, upI_b h1006, upI_b h1007, upI_b h1008, upI_b h1009, mShf_o h1003, mAsg_o h1003 h1004, mMv_o h1003 h1010 h1011, mRl_o h1003]; done))
theorem mFre_f {a : Nat} {i : Nat} (h10 : i ≠ 10) (h13 : i ≠ 13) (h14 : i ≠ 14) : (mFre J a).2 1000 i = J 1000 i := by
  unfold mFre
  repeat' split
  all_goals (try dsimp only)
  all_goals (first | rfl | (simp only [mCd, mClr, mNx, mEn, mLv, mPut_o (show (1000 : Nat) ≠ 1003 by decide), upI_j h10, upI_j h13, upI_j h14, upI_b (show (1000 : Nat) ≠ 1004 by decide), upI_b (show (1000 : Nat) ≠ 1005 by decide), upI_b (show (1000 : Nat) ≠ 1006 by decide), upI_b (show (1000 : Nat) ≠ 1007 by decide), upI_b (show (1000 : Nat) ≠ 1008 by decide), upI_b (show (1000 : Nat) ≠ 1009 by decide), mShf_o (show (1000 : Nat) ≠ 1003 by decide), mAsg_o (show (1000 : Nat) ≠ 1003 by decide) (show (1000 : Nat) ≠ 1004 by decide), mMv_o (show (1000 : Nat) ≠ 1003 by decide) (show (1000 : Nat) ≠ 1010 by decide) (show (1000 : Nat) ≠ 1011 by decide), mRl_o (show (1000 : Nat) ≠ 1003 by decide)]; done))
theorem mTha_o {a c : Nat} {x : Nat} (h1000 : x ≠ 1000) (h1003 : x ≠ 1003) (h1004 : x ≠ 1004) (h1005 : x ≠ 1005) (h1006 : x ≠ 1006) (h1007 : x ≠ 1007) (h1008 : x ≠ 1008) (h1009 : x ≠ 1009) (h1010 : x ≠ 1010) (h1011 : x ≠ 1011) : (mTha J a c).2 x = J x := by
  unfold mTha
  repeat' split
  all_goals (try dsimp only)
  all_goals (first | rfl | (simp only [mCd, mClr, mNx, mEn, mLv, mPut_o h1003, upI_b h1000, upI_b h1004, upI_b h1005, upI_b h1006, upI_b h1007, upI_b h1008, upI_b h1009, mShf_o h1003, mAsg_o h1003 h1004, mMv_o h1003 h1010 h1011, mRl_o h1003]; done))
theorem mTha_f {a c : Nat} {i : Nat} (h10 : i ≠ 10) (h13 : i ≠ 13) (h14 : i ≠ 14) : (mTha J a c).2 1000 i = J 1000 i := by
  unfold mTha
  repeat' split
  all_goals (try dsimp only)
  all_goals (first | rfl | (simp only [mCd, mClr, mNx, mEn, mLv, mPut_o (show (1000 : Nat) ≠ 1003 by decide), upI_j h10, upI_j h13, upI_j h14, upI_b (show (1000 : Nat) ≠ 1004 by decide), upI_b (show (1000 : Nat) ≠ 1005 by decide), upI_b (show (1000 : Nat) ≠ 1006 by decide), upI_b (show (1000 : Nat) ≠ 1007 by decide), upI_b (show (1000 : Nat) ≠ 1008 by decide), upI_b (show (1000 : Nat) ≠ 1009 by decide), mShf_o (show (1000 : Nat) ≠ 1003 by decide), mAsg_o (show (1000 : Nat) ≠ 1003 by decide) (show (1000 : Nat) ≠ 1004 by decide), mMv_o (show (1000 : Nat) ≠ 1003 by decide) (show (1000 : Nat) ≠ 1010 by decide) (show (1000 : Nat) ≠ 1011 by decide), mRl_o (show (1000 : Nat) ≠ 1003 by decide)]; done))
theorem mDro_o {a c : Nat} {x : Nat} (h1000 : x ≠ 1000) (h1003 : x ≠ 1003) (h1004 : x ≠ 1004) (h1005 : x ≠ 1005) (h1006 : x ≠ 1006) (h1007 : x ≠ 1007) (h1008 : x ≠ 1008) (h1009 : x ≠ 1009) (h1010 : x ≠ 1010) (h1011 : x ≠ 1011) : (mDro J a c).2 x = J x := by
  unfold mDro
  repeat' split
  all_goals (try dsimp only)
  all_goals (first | rfl | (simp only [mCd, mClr, mNx, mEn, mLv, mPut_o h1003, upI_b h1000, upI_b h1004, upI_b h1005, upI_b h1006, upI_b h1007, upI_b h1008, upI_b h1009, mShf_o h1003, mAsg_o h1003 h1004, mMv_o h1003 h1010 h1011, mRl_o h1003]; done))
theorem mDro_f {a c : Nat} {i : Nat} (h10 : i ≠ 10) (h13 : i ≠ 13) (h14 : i ≠ 14) : (mDro J a c).2 1000 i = J 1000 i := by
  unfold mDro
  repeat' split
  all_goals (try dsimp only)
  all_goals (first | rfl | (simp only [mCd, mClr, mNx, mEn, mLv, mPut_o (show (1000 : Nat) ≠ 1003 by decide), upI_j h10, upI_j h13, upI_j h14, upI_b (show (1000 : Nat) ≠ 1004 by decide), upI_b (show (1000 : Nat) ≠ 1005 by decide), upI_b (show (1000 : Nat) ≠ 1006 by decide), upI_b (show (1000 : Nat) ≠ 1007 by decide), upI_b (show (1000 : Nat) ≠ 1008 by decide), upI_b (show (1000 : Nat) ≠ 1009 by decide), mShf_o (show (1000 : Nat) ≠ 1003 by decide), mAsg_o (show (1000 : Nat) ≠ 1003 by decide) (show (1000 : Nat) ≠ 1004 by decide), mMv_o (show (1000 : Nat) ≠ 1003 by decide) (show (1000 : Nat) ≠ 1010 by decide) (show (1000 : Nat) ≠ 1011 by decide), mRl_o (show (1000 : Nat) ≠ 1003 by decide)]; done))
theorem mLoa_o {a b w : Nat} {n : Int32} {x : Nat} (h1000 : x ≠ 1000) (h1003 : x ≠ 1003) (h1004 : x ≠ 1004) (h1005 : x ≠ 1005) (h1006 : x ≠ 1006) (h1007 : x ≠ 1007) (h1008 : x ≠ 1008) (h1009 : x ≠ 1009) (h1010 : x ≠ 1010) (h1011 : x ≠ 1011) : (mLoa J a b w n).2 x = J x := by
  unfold mLoa
  repeat' split
  all_goals (try dsimp only)
  all_goals (first | rfl | (simp only [mCd, mClr, mNx, mEn, mLv, mPut_o h1003, upI_b h1000, upI_b h1004, upI_b h1005, upI_b h1006, upI_b h1007, upI_b h1008, upI_b h1009, mShf_o h1003, mAsg_o h1003 h1004, mMv_o h1003 h1010 h1011, mRl_o h1003]; done))
theorem mLoa_f {a b w : Nat} {n : Int32} {i : Nat} (h10 : i ≠ 10) (h13 : i ≠ 13) (h14 : i ≠ 14) : (mLoa J a b w n).2 1000 i = J 1000 i := by
  unfold mLoa
  repeat' split
  all_goals (try dsimp only)
  all_goals (first | rfl | (simp only [mCd, mClr, mNx, mEn, mLv, mPut_o (show (1000 : Nat) ≠ 1003 by decide), upI_j h10, upI_j h13, upI_j h14, upI_b (show (1000 : Nat) ≠ 1004 by decide), upI_b (show (1000 : Nat) ≠ 1005 by decide), upI_b (show (1000 : Nat) ≠ 1006 by decide), upI_b (show (1000 : Nat) ≠ 1007 by decide), upI_b (show (1000 : Nat) ≠ 1008 by decide), upI_b (show (1000 : Nat) ≠ 1009 by decide), mShf_o (show (1000 : Nat) ≠ 1003 by decide), mAsg_o (show (1000 : Nat) ≠ 1003 by decide) (show (1000 : Nat) ≠ 1004 by decide), mMv_o (show (1000 : Nat) ≠ 1003 by decide) (show (1000 : Nat) ≠ 1010 by decide) (show (1000 : Nat) ≠ 1011 by decide), mRl_o (show (1000 : Nat) ≠ 1003 by decide)]; done))
theorem mSto_o {a b w : Nat} {n : Int32} {x : Nat} (h1000 : x ≠ 1000) (h1003 : x ≠ 1003) (h1004 : x ≠ 1004) (h1005 : x ≠ 1005) (h1006 : x ≠ 1006) (h1007 : x ≠ 1007) (h1008 : x ≠ 1008) (h1009 : x ≠ 1009) (h1010 : x ≠ 1010) (h1011 : x ≠ 1011) : (mSto J a b w n).2 x = J x := by
  unfold mSto
  repeat' split
  all_goals (try dsimp only)
  all_goals (first | rfl | (simp only [mCd, mClr, mNx, mEn, mLv, mPut_o h1003, upI_b h1000, upI_b h1004, upI_b h1005, upI_b h1006, upI_b h1007, upI_b h1008, upI_b h1009, mShf_o h1003, mAsg_o h1003 h1004, mMv_o h1003 h1010 h1011, mRl_o h1003]; done))
theorem mSto_f {a b w : Nat} {n : Int32} {i : Nat} (h10 : i ≠ 10) (h13 : i ≠ 13) (h14 : i ≠ 14) : (mSto J a b w n).2 1000 i = J 1000 i := by
  unfold mSto
  repeat' split
  all_goals (try dsimp only)
  all_goals (first | rfl | (simp only [mCd, mClr, mNx, mEn, mLv, mPut_o (show (1000 : Nat) ≠ 1003 by decide), upI_j h10, upI_j h13, upI_j h14, upI_b (show (1000 : Nat) ≠ 1004 by decide), upI_b (show (1000 : Nat) ≠ 1005 by decide), upI_b (show (1000 : Nat) ≠ 1006 by decide), upI_b (show (1000 : Nat) ≠ 1007 by decide), upI_b (show (1000 : Nat) ≠ 1008 by decide), upI_b (show (1000 : Nat) ≠ 1009 by decide), mShf_o (show (1000 : Nat) ≠ 1003 by decide), mAsg_o (show (1000 : Nat) ≠ 1003 by decide) (show (1000 : Nat) ≠ 1004 by decide), mMv_o (show (1000 : Nat) ≠ 1003 by decide) (show (1000 : Nat) ≠ 1010 by decide) (show (1000 : Nat) ≠ 1011 by decide), mRl_o (show (1000 : Nat) ≠ 1003 by decide)]; done))
theorem mGo_o {n : Int32} {x : Nat} (h1000 : x ≠ 1000) (h1003 : x ≠ 1003) (h1004 : x ≠ 1004) (h1005 : x ≠ 1005) (h1006 : x ≠ 1006) (h1007 : x ≠ 1007) (h1008 : x ≠ 1008) (h1009 : x ≠ 1009) (h1010 : x ≠ 1010) (h1011 : x ≠ 1011) : (mGo J n).2 x = J x := by
  unfold mGo
  repeat' split
  all_goals (try dsimp only)
  all_goals (first | rfl | (simp only [mCd, mClr, mNx, mEn, mLv, mPut_o h1003, upI_b h1000, upI_b h1004, upI_b h1005, upI_b h1006, upI_b h1007, upI_b h1008, upI_b h1009, mShf_o h1003, mAsg_o h1003 h1004, mMv_o h1003 h1010 h1011, mRl_o h1003]; done))
theorem mGo_f {n : Int32} {i : Nat} (h10 : i ≠ 10) (h13 : i ≠ 13) (h14 : i ≠ 14) : (mGo J n).2 1000 i = J 1000 i := by
  unfold mGo
  repeat' split
  all_goals (try dsimp only)
  all_goals (first | rfl | (simp only [mCd, mClr, mNx, mEn, mLv, mPut_o (show (1000 : Nat) ≠ 1003 by decide), upI_j h10, upI_j h13, upI_j h14, upI_b (show (1000 : Nat) ≠ 1004 by decide), upI_b (show (1000 : Nat) ≠ 1005 by decide), upI_b (show (1000 : Nat) ≠ 1006 by decide), upI_b (show (1000 : Nat) ≠ 1007 by decide), upI_b (show (1000 : Nat) ≠ 1008 by decide), upI_b (show (1000 : Nat) ≠ 1009 by decide), mShf_o (show (1000 : Nat) ≠ 1003 by decide), mAsg_o (show (1000 : Nat) ≠ 1003 by decide) (show (1000 : Nat) ≠ 1004 by decide), mMv_o (show (1000 : Nat) ≠ 1003 by decide) (show (1000 : Nat) ≠ 1010 by decide) (show (1000 : Nat) ≠ 1011 by decide), mRl_o (show (1000 : Nat) ≠ 1003 by decide)]; done))
theorem mZer_o {a : Nat} {n : Int32} {x : Nat} (h1000 : x ≠ 1000) (h1003 : x ≠ 1003) (h1004 : x ≠ 1004) (h1005 : x ≠ 1005) (h1006 : x ≠ 1006) (h1007 : x ≠ 1007) (h1008 : x ≠ 1008) (h1009 : x ≠ 1009) (h1010 : x ≠ 1010) (h1011 : x ≠ 1011) : (mZer J a n).2 x = J x := by
  unfold mZer
  repeat' split
  all_goals (try dsimp only)
  all_goals (first | rfl | (simp only [mCd, mClr, mNx, mEn, mLv, mPut_o h1003, upI_b h1000, upI_b h1004, upI_b h1005, upI_b h1006, upI_b h1007, upI_b h1008, upI_b h1009, mShf_o h1003, mAsg_o h1003 h1004, mMv_o h1003 h1010 h1011, mRl_o h1003]; done))
theorem mZer_f {a : Nat} {n : Int32} {i : Nat} (h10 : i ≠ 10) (h13 : i ≠ 13) (h14 : i ≠ 14) : (mZer J a n).2 1000 i = J 1000 i := by
  unfold mZer
  repeat' split
  all_goals (try dsimp only)
  all_goals (first | rfl | (simp only [mCd, mClr, mNx, mEn, mLv, mPut_o (show (1000 : Nat) ≠ 1003 by decide), upI_j h10, upI_j h13, upI_j h14, upI_b (show (1000 : Nat) ≠ 1004 by decide), upI_b (show (1000 : Nat) ≠ 1005 by decide), upI_b (show (1000 : Nat) ≠ 1006 by decide), upI_b (show (1000 : Nat) ≠ 1007 by decide), upI_b (show (1000 : Nat) ≠ 1008 by decide), upI_b (show (1000 : Nat) ≠ 1009 by decide), mShf_o (show (1000 : Nat) ≠ 1003 by decide), mAsg_o (show (1000 : Nat) ≠ 1003 by decide) (show (1000 : Nat) ≠ 1004 by decide), mMv_o (show (1000 : Nat) ≠ 1003 by decide) (show (1000 : Nat) ≠ 1010 by decide) (show (1000 : Nat) ≠ 1011 by decide), mRl_o (show (1000 : Nat) ≠ 1003 by decide)]; done))
theorem mLes_o {a b : Nat} {n : Int32} {x : Nat} (h1000 : x ≠ 1000) (h1003 : x ≠ 1003) (h1004 : x ≠ 1004) (h1005 : x ≠ 1005) (h1006 : x ≠ 1006) (h1007 : x ≠ 1007) (h1008 : x ≠ 1008) (h1009 : x ≠ 1009) (h1010 : x ≠ 1010) (h1011 : x ≠ 1011) : (mLes J a b n).2 x = J x := by
  unfold mLes
  repeat' split
  all_goals (try dsimp only)
  all_goals (first | rfl | (simp only [mCd, mClr, mNx, mEn, mLv, mPut_o h1003, upI_b h1000, upI_b h1004, upI_b h1005, upI_b h1006, upI_b h1007, upI_b h1008, upI_b h1009, mShf_o h1003, mAsg_o h1003 h1004, mMv_o h1003 h1010 h1011, mRl_o h1003]; done))
theorem mLes_f {a b : Nat} {n : Int32} {i : Nat} (h10 : i ≠ 10) (h13 : i ≠ 13) (h14 : i ≠ 14) : (mLes J a b n).2 1000 i = J 1000 i := by
  unfold mLes
  repeat' split
  all_goals (try dsimp only)
  all_goals (first | rfl | (simp only [mCd, mClr, mNx, mEn, mLv, mPut_o (show (1000 : Nat) ≠ 1003 by decide), upI_j h10, upI_j h13, upI_j h14, upI_b (show (1000 : Nat) ≠ 1004 by decide), upI_b (show (1000 : Nat) ≠ 1005 by decide), upI_b (show (1000 : Nat) ≠ 1006 by decide), upI_b (show (1000 : Nat) ≠ 1007 by decide), upI_b (show (1000 : Nat) ≠ 1008 by decide), upI_b (show (1000 : Nat) ≠ 1009 by decide), mShf_o (show (1000 : Nat) ≠ 1003 by decide), mAsg_o (show (1000 : Nat) ≠ 1003 by decide) (show (1000 : Nat) ≠ 1004 by decide), mMv_o (show (1000 : Nat) ≠ 1003 by decide) (show (1000 : Nat) ≠ 1010 by decide) (show (1000 : Nat) ≠ 1011 by decide), mRl_o (show (1000 : Nat) ≠ 1003 by decide)]; done))
theorem mSea_o {a : Nat} {m n : Int32} {x : Nat} (h1000 : x ≠ 1000) (h1003 : x ≠ 1003) (h1004 : x ≠ 1004) (h1005 : x ≠ 1005) (h1006 : x ≠ 1006) (h1007 : x ≠ 1007) (h1008 : x ≠ 1008) (h1009 : x ≠ 1009) (h1010 : x ≠ 1010) (h1011 : x ≠ 1011) : (mSea J a m n).2 x = J x := by
  unfold mSea
  repeat' split
  all_goals (try dsimp only)
  all_goals (first | rfl | (simp only [mCd, mClr, mNx, mEn, mLv, mPut_o h1003, upI_b h1000, upI_b h1004, upI_b h1005, upI_b h1006, upI_b h1007, upI_b h1008, upI_b h1009, mShf_o h1003, mAsg_o h1003 h1004, mMv_o h1003 h1010 h1011, mRl_o h1003]; done))
theorem mSea_f {a : Nat} {m n : Int32} {i : Nat} (h10 : i ≠ 10) (h13 : i ≠ 13) (h14 : i ≠ 14) : (mSea J a m n).2 1000 i = J 1000 i := by
  unfold mSea
  repeat' split
  all_goals (try dsimp only)
  all_goals (first | rfl | (simp only [mCd, mClr, mNx, mEn, mLv, mPut_o (show (1000 : Nat) ≠ 1003 by decide), upI_j h10, upI_j h13, upI_j h14, upI_b (show (1000 : Nat) ≠ 1004 by decide), upI_b (show (1000 : Nat) ≠ 1005 by decide), upI_b (show (1000 : Nat) ≠ 1006 by decide), upI_b (show (1000 : Nat) ≠ 1007 by decide), upI_b (show (1000 : Nat) ≠ 1008 by decide), upI_b (show (1000 : Nat) ≠ 1009 by decide), mShf_o (show (1000 : Nat) ≠ 1003 by decide), mAsg_o (show (1000 : Nat) ≠ 1003 by decide) (show (1000 : Nat) ≠ 1004 by decide), mMv_o (show (1000 : Nat) ≠ 1003 by decide) (show (1000 : Nat) ≠ 1010 by decide) (show (1000 : Nat) ≠ 1011 by decide), mRl_o (show (1000 : Nat) ≠ 1003 by decide)]; done))
theorem mCal_o {a : Nat} {k : Int32} {d g : Nat} {x : Nat} (h1000 : x ≠ 1000) (h1003 : x ≠ 1003) (h1004 : x ≠ 1004) (h1005 : x ≠ 1005) (h1006 : x ≠ 1006) (h1007 : x ≠ 1007) (h1008 : x ≠ 1008) (h1009 : x ≠ 1009) (h1010 : x ≠ 1010) (h1011 : x ≠ 1011) : (mCal J a k d g).2 x = J x := by
  unfold mCal
  repeat' split
  all_goals (try dsimp only)
  all_goals (first | rfl | (simp only [mCd, mClr, mNx, mEn, mLv, mPut_o h1003, upI_b h1000, upI_b h1004, upI_b h1005, upI_b h1006, upI_b h1007, upI_b h1008, upI_b h1009, mShf_o h1003, mAsg_o h1003 h1004, mMv_o h1003 h1010 h1011, mRl_o h1003]; done))
theorem mCal_f {a : Nat} {k : Int32} {d g : Nat} {i : Nat} (h10 : i ≠ 10) (h13 : i ≠ 13) (h14 : i ≠ 14) : (mCal J a k d g).2 1000 i = J 1000 i := by
  unfold mCal
  repeat' split
  all_goals (try dsimp only)
  all_goals (first | rfl | (simp only [mCd, mClr, mNx, mEn, mLv, mPut_o (show (1000 : Nat) ≠ 1003 by decide), upI_j h10, upI_j h13, upI_j h14, upI_b (show (1000 : Nat) ≠ 1004 by decide), upI_b (show (1000 : Nat) ≠ 1005 by decide), upI_b (show (1000 : Nat) ≠ 1006 by decide), upI_b (show (1000 : Nat) ≠ 1007 by decide), upI_b (show (1000 : Nat) ≠ 1008 by decide), upI_b (show (1000 : Nat) ≠ 1009 by decide), mShf_o (show (1000 : Nat) ≠ 1003 by decide), mAsg_o (show (1000 : Nat) ≠ 1003 by decide) (show (1000 : Nat) ≠ 1004 by decide), mMv_o (show (1000 : Nat) ≠ 1003 by decide) (show (1000 : Nat) ≠ 1010 by decide) (show (1000 : Nat) ≠ 1011 by decide), mRl_o (show (1000 : Nat) ≠ 1003 by decide)]; done))
theorem mRet_o {f g k : Nat} {x : Nat} (h1000 : x ≠ 1000) (h1003 : x ≠ 1003) (h1004 : x ≠ 1004) (h1005 : x ≠ 1005) (h1006 : x ≠ 1006) (h1007 : x ≠ 1007) (h1008 : x ≠ 1008) (h1009 : x ≠ 1009) (h1010 : x ≠ 1010) (h1011 : x ≠ 1011) : (mRet J f g k).2 x = J x := by
  unfold mRet
  repeat' split
  all_goals (try dsimp only)
  all_goals (first | rfl | (simp only [mCd, mClr, mNx, mEn, mLv, mPut_o h1003, upI_b h1000, upI_b h1004, upI_b h1005, upI_b h1006, upI_b h1007, upI_b h1008, upI_b h1009, mShf_o h1003, mAsg_o h1003 h1004, mMv_o h1003 h1010 h1011, mRl_o h1003]; done))
theorem mRet_f {f g k : Nat} {i : Nat} (h10 : i ≠ 10) (h13 : i ≠ 13) (h14 : i ≠ 14) : (mRet J f g k).2 1000 i = J 1000 i := by
  unfold mRet
  repeat' split
  all_goals (try dsimp only)
  all_goals (first | rfl | (simp only [mCd, mClr, mNx, mEn, mLv, mPut_o (show (1000 : Nat) ≠ 1003 by decide), upI_j h10, upI_j h13, upI_j h14, upI_b (show (1000 : Nat) ≠ 1004 by decide), upI_b (show (1000 : Nat) ≠ 1005 by decide), upI_b (show (1000 : Nat) ≠ 1006 by decide), upI_b (show (1000 : Nat) ≠ 1007 by decide), upI_b (show (1000 : Nat) ≠ 1008 by decide), upI_b (show (1000 : Nat) ≠ 1009 by decide), mShf_o (show (1000 : Nat) ≠ 1003 by decide), mAsg_o (show (1000 : Nat) ≠ 1003 by decide) (show (1000 : Nat) ≠ 1004 by decide), mMv_o (show (1000 : Nat) ≠ 1003 by decide) (show (1000 : Nat) ≠ 1010 by decide) (show (1000 : Nat) ≠ 1011 by decide), mRl_o (show (1000 : Nat) ≠ 1003 by decide)]; done))
theorem mPf_o {o p q c : Int32} {x : Nat} (h : ¬ mI' x) : (mPf J o p q c).2 x = J x := by
  have h1000 : x ≠ 1000 := fun e => h (by simp [mI', e])
  have h1003 : x ≠ 1003 := fun e => h (by simp [mI', e])
  have h1004 : x ≠ 1004 := fun e => h (by simp [mI', e])
  have h1005 : x ≠ 1005 := fun e => h (by simp [mI', e])
  have h1006 : x ≠ 1006 := fun e => h (by simp [mI', e])
  have h1007 : x ≠ 1007 := fun e => h (by simp [mI', e])
  have h1008 : x ≠ 1008 := fun e => h (by simp [mI', e])
  have h1009 : x ≠ 1009 := fun e => h (by simp [mI', e])
  have h1010 : x ≠ 1010 := fun e => h (by simp [mI', e])
  have h1011 : x ≠ 1011 := fun e => h (by simp [mI', e])
  by_cases e0 : o = 0
  · rw [e0, mPf_0]; exact mNum_o h1000 h1003 h1004 h1005 h1006 h1007 h1008 h1009 h1010 h1011
  by_cases e1 : o = 1
  · rw [e1, mPf_1]; exact mMov_o h1000 h1003 h1004 h1005 h1006 h1007 h1008 h1009 h1010 h1011
  by_cases e2 : o = 2
  · rw [e2, mPf_2]; exact mAdd_o h1000 h1003 h1004 h1005 h1006 h1007 h1008 h1009 h1010 h1011
  by_cases e3 : o = 3
  · rw [e3, mPf_3]; exact mSub_o h1000 h1003 h1004 h1005 h1006 h1007 h1008 h1009 h1010 h1011
  by_cases e4 : o = 4
  · rw [e4, mPf_4]; exact mSpl_o h1000 h1003 h1004 h1005 h1006 h1007 h1008 h1009 h1010 h1011
  by_cases e5 : o = 5
  · rw [e5, mPf_5]; exact mMer_o h1000 h1003 h1004 h1005 h1006 h1007 h1008 h1009 h1010 h1011
  by_cases e6 : o = 6
  · rw [e6, mPf_6]; exact mRes_o h1000 h1003 h1004 h1005 h1006 h1007 h1008 h1009 h1010 h1011
  by_cases e7 : o = 7
  · rw [e7, mPf_7]; exact mFre_o h1000 h1003 h1004 h1005 h1006 h1007 h1008 h1009 h1010 h1011
  by_cases e8 : o = 8
  · rw [e8, mPf_8]; exact mTha_o h1000 h1003 h1004 h1005 h1006 h1007 h1008 h1009 h1010 h1011
  by_cases e9 : o = 9
  · rw [e9, mPf_9]; exact mDro_o h1000 h1003 h1004 h1005 h1006 h1007 h1008 h1009 h1010 h1011
  by_cases e10 : o = 10
  · rw [e10, mPf_10]; exact mLoa_o h1000 h1003 h1004 h1005 h1006 h1007 h1008 h1009 h1010 h1011
  by_cases e11 : o = 11
  · rw [e11, mPf_11]; exact mSto_o h1000 h1003 h1004 h1005 h1006 h1007 h1008 h1009 h1010 h1011
  by_cases e12 : o = 12
  · rw [e12, mPf_12]; exact mGo_o h1000 h1003 h1004 h1005 h1006 h1007 h1008 h1009 h1010 h1011
  by_cases e13 : o = 13
  · rw [e13, mPf_13]; exact mZer_o h1000 h1003 h1004 h1005 h1006 h1007 h1008 h1009 h1010 h1011
  by_cases e14 : o = 14
  · rw [e14, mPf_14]; exact mLes_o h1000 h1003 h1004 h1005 h1006 h1007 h1008 h1009 h1010 h1011
  by_cases e15 : o = 15
  · rw [e15, mPf_15]; exact mSea_o h1000 h1003 h1004 h1005 h1006 h1007 h1008 h1009 h1010 h1011
  by_cases e16 : o = 16
  · rw [e16, mPf_16]; exact mCal_o h1000 h1003 h1004 h1005 h1006 h1007 h1008 h1009 h1010 h1011
  by_cases e17 : o = 17
  · rw [e17, mPf_17]
    split
    · rfl
    · exact mRet_o h1000 h1003 h1004 h1005 h1006 h1007 h1008 h1009 h1010 h1011
  rw [mPf, if_neg e0, if_neg e1, if_neg e2, if_neg e3, if_neg e4, if_neg e5, if_neg e6, if_neg e7, if_neg e8, if_neg e9, if_neg e10, if_neg e11, if_neg e12, if_neg e13, if_neg e14, if_neg e15, if_neg e16, if_neg e17]
theorem mPf_f {o p q c : Int32} {i : Nat} (h10 : i ≠ 10) (h13 : i ≠ 13) (h14 : i ≠ 14) : (mPf J o p q c).2 1000 i = J 1000 i := by
  by_cases e0 : o = 0
  · rw [e0, mPf_0]; exact mNum_f h10 h13 h14
  by_cases e1 : o = 1
  · rw [e1, mPf_1]; exact mMov_f h10 h13 h14
  by_cases e2 : o = 2
  · rw [e2, mPf_2]; exact mAdd_f h10 h13 h14
  by_cases e3 : o = 3
  · rw [e3, mPf_3]; exact mSub_f h10 h13 h14
  by_cases e4 : o = 4
  · rw [e4, mPf_4]; exact mSpl_f h10 h13 h14
  by_cases e5 : o = 5
  · rw [e5, mPf_5]; exact mMer_f h10 h13 h14
  by_cases e6 : o = 6
  · rw [e6, mPf_6]; exact mRes_f h10 h13 h14
  by_cases e7 : o = 7
  · rw [e7, mPf_7]; exact mFre_f h10 h13 h14
  by_cases e8 : o = 8
  · rw [e8, mPf_8]; exact mTha_f h10 h13 h14
  by_cases e9 : o = 9
  · rw [e9, mPf_9]; exact mDro_f h10 h13 h14
  by_cases e10 : o = 10
  · rw [e10, mPf_10]; exact mLoa_f h10 h13 h14
  by_cases e11 : o = 11
  · rw [e11, mPf_11]; exact mSto_f h10 h13 h14
  by_cases e12 : o = 12
  · rw [e12, mPf_12]; exact mGo_f h10 h13 h14
  by_cases e13 : o = 13
  · rw [e13, mPf_13]; exact mZer_f h10 h13 h14
  by_cases e14 : o = 14
  · rw [e14, mPf_14]; exact mLes_f h10 h13 h14
  by_cases e15 : o = 15
  · rw [e15, mPf_15]; exact mSea_f h10 h13 h14
  by_cases e16 : o = 16
  · rw [e16, mPf_16]; exact mCal_f h10 h13 h14
  by_cases e17 : o = 17
  · rw [e17, mPf_17]
    split
    · rfl
    · exact mRet_f h10 h13 h14
  rw [mPf, if_neg e0, if_neg e1, if_neg e2, if_neg e3, if_neg e4, if_neg e5, if_neg e6, if_neg e7, if_neg e8, if_neg e9, if_neg e10, if_neg e11, if_neg e12, if_neg e13, if_neg e14, if_neg e15, if_neg e16, if_neg e17]
theorem mord_o {x : Nat} (h : ¬ mI' x) : mord J x = J x := by
  have h0 : x ≠ 1000 := fun e => h (by simp [mI', e])
  unfold mord
  split
  · rw [mQ_o h0]
    split
    · rw [mPf_o h, mD, upI_b h0]
    · show mD J x = J x; rw [mD, upI_b h0]
  · rw [mQ_o h0]; show mD J x = J x; rw [mD, upI_b h0]
theorem mQ_f {w : MR} {o : Int32} {i : Nat} (h14 : i ≠ 14) (h15 : i ≠ 15) : mQ o w 1000 i = w.2 1000 i := by unfold mQ; rw [upI_j h14, upI_j h15]
theorem mord_f {i : Nat} (h10 : i ≠ 10) (h13 : i ≠ 13) (h14 : i ≠ 14) (h15 : i ≠ 15) (h16 : i ≠ 16) : mord J 1000 i = J 1000 i := by
  unfold mord
  split
  · rw [mQ_f h14 h15]
    split
    · rw [mPf_f h10 h13 h14, mD, upI_j h16]
    · show mD J 1000 i = J 1000 i; rw [mD, upI_j h16]
  · rw [mQ_f h14 h15]; show mD J 1000 i = J 1000 i; rw [mD, upI_j h16]
end STP

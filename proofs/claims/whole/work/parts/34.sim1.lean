/-! the orders of both sides agree, order by order -/
theorem rng {f e n : Int32} (h1 : sm f 49) (h2 : sm e 49) (h3 : tn f < tn e) : n < e - f ↔ ¬ e - f - 1 < n := by
  obtain ⟨a1, a2⟩ := h1
  obtain ⟨b1, b2⟩ := h2
  obtain ⟨k, hk⟩ : ∃ k, tn e - tn f = k + 1 := ⟨tn e - tn f - 1, by omega⟩
  rw [a1, b1, pk_sub (by omega), hk, nI_pred, Int32.lt_iff_toInt_lt, Int32.lt_iff_toInt_lt, nI_toInt (by omega), nI_toInt (by omega)]
  omega
theorem i31 {x : Int32} : x < 0 ↔ x.toInt < 0 := by rw [Int32.lt_iff_toInt_lt]; rfl
theorem sm_and {q n : Int32} (h : sm q 16) : sm (q &&& n) 16 := by
  obtain ⟨h1, h2⟩ := h
  have e : (q &&& n).toBitVec.toNat ≤ q.toBitVec.toNat := by
    show (q.toBitVec &&& n.toBitVec).toNat ≤ _
    rw [BitVec.toNat_and]; exact Nat.and_le_left
  have e2 : q.toBitVec.toNat = tn q := by
    have := pk_tn (n := tn q) (by omega)
    rw [← h1] at this; exact this
  have e3 := i32_tn (x := q &&& n) rfl
  rw [e3]; exact sm_nI (by omega) (by decide)
theorem sm_or {q n : Int32} (h : sm q 16) (h' : sm n 16) : sm (q ||| n) 16 := by
  obtain ⟨h1, h2⟩ := h
  obtain ⟨h3, h4⟩ := h'
  have e2 : q.toBitVec.toNat = tn q := by
    have := pk_tn (n := tn q) (by omega)
    rw [← h1] at this; exact this
  have e4 : n.toBitVec.toNat = tn n := by
    have := pk_tn (n := tn n) (by omega)
    rw [← h3] at this; exact this
  have e : (q ||| n).toBitVec.toNat < 2 ^ 4 := by
    show (q.toBitVec ||| n.toBitVec).toNat < _
    rw [BitVec.toNat_or]; exact Nat.or_lt_two_pow (by omega) (by omega)
  have e3 := i32_tn (x := q ||| n) rfl
  rw [e3]; exact sm_nI (by omega) (by decide)
section SIMS
variable {L : LT} {I J : IT} {a b : Nat}
theorem sim_0 (h : KR L I J) (ha : a < 8) : KK (oNum L I a).2.1 (rF (oNum L I a)) (mQ 0 (mNum J a (I 17 4))) := by
  unfold oNum mNum
  rw [K_k h.1 (by omega)]
  by_cases h0 : gt J a 0 = 0
  · rw [if_pos h0, if_pos h0]
    exact finG h (K1_num h.1 (by omega)) (Ct_put h.2.1 (by omega) (by rw [h0]; decide) (by decide)) rfl (mPut_o (by decide)) (by decide)
  · rw [if_neg h0, if_neg h0]; exact finF h (by decide)
theorem sim_1 (h : KR L I J) (ha : a < 8) (hb : b < 8) : KK (oMov L I a b).2.1 (rF (oMov L I a b)) (mQ 1 (mMov J a b)) := by
  unfold oMov mMov
  rw [K_k h.1 (by omega)]
  by_cases h0 : gt J a 0 = 0
  · rw [if_pos h0, if_pos h0]
    by_cases e : a = b
    · subst e
      rw [if_pos rfl]
      have hk : vKd (L 5 a) = 0 := by rw [K_k h.1 (by omega)]; exact h0
      have e1 : sAs L I a a = (L, I) := by
        unfold sAs vMov
        rw [hk, if_neg (by decide), if_neg (by decide), upL_id]
      rw [e1]
      exact finG h h.1 h.2.1 rfl rfl (by decide)
    · rw [if_neg e]
      have := asg h.1 h.2.1 (show a < 56 by omega) (show b < 56 by omega) (Ne.symm e) h0
      exact finG h this.1 this.2.1 this.2.2.1 this.2.2.2 (by decide)
  · rw [if_neg h0, if_neg h0]; exact finF h (by decide)
theorem sim_2 (h : KR L I J) (ha : a < 8) (hb : b < 8) : KK (oAdd L I 1 a b).2.1 (rF (oAdd L I 1 a b)) (mQ 2 (mAdd J a b)) := by
  unfold oAdd mAdd
  rw [K_k h.1 (by omega), K_k h.1 (by omega)]
  by_cases h0 : gt J a 0 = 0 ∧ gt J b 0 = 0
  · rw [if_pos h0, if_pos h0, K_n h.1 (by omega) h0.1, K_n h.1 (by omega) h0.2, Int32.one_mul]
    exact finG h (K1_num h.1 (by omega)) (Ct_put h.2.1 (by omega) (by rw [h0.1]; decide) (by decide)) rfl (mPut_o (by decide)) (by decide)
  · rw [if_neg h0, if_neg h0]; exact finF h (by decide)
theorem sim_3 (h : KR L I J) (ha : a < 8) (hb : b < 8) : KK (oAdd L I (-1) a b).2.1 (rF (oAdd L I (-1) a b)) (mQ 3 (mSub J a b)) := by
  unfold oAdd mSub
  rw [K_k h.1 (by omega), K_k h.1 (by omega)]
  by_cases h0 : gt J a 0 = 0 ∧ gt J b 0 = 0
  · rw [if_pos h0, if_pos h0, K_n h.1 (by omega) h0.1, K_n h.1 (by omega) h0.2, show gt J a 1 + -1 * gt J b 1 = gt J a 1 - gt J b 1 by rw [Int32.neg_mul, Int32.one_mul, Int32.sub_eq_add_neg]]
    exact finG h (K1_num h.1 (by omega)) (Ct_put h.2.1 (by omega) (by rw [h0.1]; decide) (by decide)) rfl (mPut_o (by decide)) (by decide)
  · rw [if_neg h0, if_neg h0]; exact finF h (by decide)
theorem sim_4 (h : KR L I J) (ha : a < 8) (hb : b < 8) : KK (oSpl L I a b).2.1 (rF (oSpl L I a b)) (mQ 4 (mSpl J a b (I 17 5))) := by
  unfold oSpl mSpl
  rw [K_k h.1 (by omega), K_k h.1 (by omega)]
  by_cases h1 : gt J a 0 = 1
  · rw [if_neg (not_not_intro h1), if_neg (not_not_intro h1)]
    have h1n : ¬ gt J a 0 = 0 := by rw [h1]; decide
    have v := vl_1 (K_v h.1 (show a < 102 by omega)).1 h1
    rw [K_e h.1 (by omega) h1n, K_f h.1 (by omega) h1n, K_q h.1 (by omega) h1n]
    have hr := rng (n := I 17 5) v.1 v.2.1 v.2.2.1
    have hi : inz (I 17 5) 1 (gt J a 2 - gt J a 1 - 1) = false ↔ (I 17 5 < 1 ∨ ¬ I 17 5 < gt J a 2 - gt J a 1) := by
      rw [hr]; unfold inz
      by_cases x : I 17 5 < 1 <;> by_cases y : gt J a 2 - gt J a 1 - 1 < I 17 5 <;> simp [x, y]
    by_cases hc : I 17 5 < 1 ∨ ¬ I 17 5 < gt J a 2 - gt J a 1
    · rw [if_pos hc, if_pos (hi.mpr hc)]
      exact finF h (by decide)
    · rw [if_neg hc, if_neg (show ¬ inz (I 17 5) 1 (gt J a 2 - gt J a 1 - 1) = false from fun z => hc (hi.mp z))]
      by_cases h0 : gt J b 0 = 0
      · rw [if_neg (not_not_intro h0), if_neg (not_not_intro h0)]
        have hab : a ≠ b := fun e => h1n (by rw [e]; exact h0)
        obtain ⟨c1, c2⟩ : 1 ≤ I 17 5 ∧ I 17 5 < gt J a 2 - gt J a 1 := ⟨Int32.not_lt.mp (fun q => hc (Or.inl q)), Classical.not_not.mp (fun q => hc (Or.inr q))⟩
        obtain ⟨f1, f2⟩ := v.1
        obtain ⟨e1, e2⟩ := v.2.1
        have hlt := v.2.2.1
        have cn : ∃ n : Nat, I 17 5 = nI n ∧ 1 ≤ n ∧ n < tn (gt J a 2) - tn (gt J a 1) := by
          rw [f1, e1, pk_sub (by omega)] at c2
          have x1 := Int32.le_iff_toInt_le.mp c1
          have x2 := Int32.lt_iff_toInt_lt.mp c2
          rw [nI_toInt (by omega)] at x2
          have : (1 : Int32).toInt = 1 := rfl
          refine ⟨(I 17 5).toInt.toNat, ?_, by omega, by omega⟩
          apply Int32.toInt_inj.mp
          rw [nI_toInt (by omega)]; omega
        obtain ⟨n, en, n1, n2⟩ := cn
        have ecut : gt J a 1 + I 17 5 = nI (tn (gt J a 1) + n) := by rw [f1, en, nI_add, sm_tn (by omega)]
        have scut : sm (gt J a 1 + I 17 5) 49 := by rw [ecut]; exact sm_nI (by omega) (by decide)
        have tcut : tn (gt J a 1 + I 17 5) = tn (gt J a 1) + n := by rw [ecut]; exact sm_tn (by omega)
        have k1 := K1_exc h.1 (show a < 56 by omega) v.1 scut (by omega) v.2.2.2.1
        have k2 := K1_exc k1 (show b < 56 by omega) scut v.2.1 (by omega) v.2.2.2.1
        refine finG h k2 (Ct_put (Ct_put h.2.1 (by omega) (by rw [h1]; decide) (by decide)) (by omega) ?_ (by decide)) rfl ?_ (by decide)
        · rw [gt_ne (by decide) (Ne.symm hab), h0]; decide
        · rw [mPut_o (by decide), mPut_o (by decide)]
      · rw [if_pos h0, if_pos h0]; exact finF h (by decide)
  · rw [if_pos h1, if_pos h1]; exact finF h (by decide)
theorem sim_6 (h : KR L I J) (ha : a < 8) (hb : b < 8) : KK (oRes L I a b).2.1 (rF (oRes L I a b)) (mQ 6 (mRes J a b (I 17 5))) := by
  unfold oRes mRes
  rw [K_k h.1 (by omega), K_k h.1 (by omega)]
  by_cases h1 : gt J a 0 = 1
  · rw [if_neg (not_not_intro h1), if_neg (not_not_intro h1)]
    have h1n : ¬ gt J a 0 = 0 := by rw [h1]; decide
    have v := vl_1 (K_v h.1 (show a < 102 by omega)).1 h1
    rw [K_e h.1 (by omega) h1n, K_f h.1 (by omega) h1n, K_q h.1 (by omega) h1n]
    by_cases hc : gt J a 3 &&& I 17 5 = 0 ∨ gt J a 3 &&& (I 17 5 ^^^ (-1)) = 0
    · rw [if_pos hc, if_pos hc]; exact finF h (by decide)
    · rw [if_neg hc, if_neg hc]
      by_cases h0 : gt J b 0 = 0
      · rw [if_neg (not_not_intro h0), if_neg (not_not_intro h0)]
        have hab : a ≠ b := fun e => h1n (by rw [e]; exact h0)
        have k1 := K1_exc h.1 (show a < 56 by omega) v.1 v.2.1 v.2.2.1 (sm_and (n := I 17 5) v.2.2.2.1)
        have k2 := K1_exc k1 (show b < 56 by omega) v.1 v.2.1 v.2.2.1 (sm_and (n := I 17 5 ^^^ (-1)) v.2.2.2.1)
        refine finG h k2 (Ct_put (Ct_put h.2.1 (by omega) (by rw [h1]; decide) (by decide)) (by omega) ?_ (by decide)) rfl ?_ (by decide)
        · rw [gt_ne (by decide) (Ne.symm hab), h0]; decide
        · rw [mPut_o (by decide), mPut_o (by decide)]
      · rw [if_pos h0, if_pos h0]; exact finF h (by decide)
  · rw [if_pos h1, if_pos h1]; exact finF h (by decide)
theorem sim_12 (h : KR L I J) : KK (oGo L I).2.1 (rF (oGo L I)) (mQ 12 (mGo J (I 17 3))) := by
  obtain ⟨k1, ct, h11, h12, h13, h14⟩ := h
  unfold oGo mGo mNx
  refine finS (K1_up4 (by decide) (K1_upJ (by decide) k1)) (Ct_upJ ct) ⟨?_, ?_⟩ ?_ ?_ ?_
  · rw [upI_j (by decide), upI_j (by decide)]; exact h11.1
  · rw [upI_j (by decide)]; exact h11.2
  · rw [if_neg (by decide), upI_s, upI_s, Int32.sub_add_cancel]
  · rw [upI_j (by decide), upI_j (by decide)]; exact h13
  · rw [upI_j (by decide)]; exact h14
theorem jmp {x o : Int32} (h : KR L I J) (ho : ¬ (o = 17 ∨ o = 16)) : KK L (rF (0, L, upI I 4 12 x)) (mQ o (0, mNx J (x - 1))) := by
  obtain ⟨k1, ct, h11, h12, h13, h14⟩ := h
  unfold mNx
  refine finS (K1_up4 (by decide) (K1_upJ (by decide) k1)) (Ct_upJ ct) ⟨?_, ?_⟩ ?_ ?_ ?_
  · rw [upI_j (by decide), upI_j (by decide)]; exact h11.1
  · rw [upI_j (by decide)]; exact h11.2
  · rw [if_neg ho, upI_s, upI_s, Int32.sub_add_cancel]
  · rw [upI_j (by decide), upI_j (by decide)]; exact h13
  · rw [upI_j (by decide)]; exact h14
theorem upI_id {I : IT} {a j : Nat} : upI I a j (I a j) = I := by
  funext x
  by_cases h : x = a
  · subst h; funext i; rw [upI_at]; split
    · rename_i e; rw [e]
    · rfl
  · rw [upI_b h]
theorem sim_13 (h : KR L I J) (ha : a < 8) : KK (oZer L I a).2.1 (rF (oZer L I a)) (mQ 13 (mZer J a (I 17 4))) := by
  unfold oZer mZer
  rw [K_k h.1 (by omega)]
  by_cases h0 : gt J a 0 = 0
  · rw [if_neg (not_not_intro h0), if_neg (not_not_intro h0), K_n h.1 (by omega) h0]
    by_cases z : gt J a 1 = 0
    · rw [if_pos z, if_pos z]; exact jmp h (by decide)
    · rw [if_neg z, if_neg z, mNx, upI_id]; exact finG h h.1 h.2.1 rfl rfl (by decide)
  · rw [if_pos h0, if_pos h0]; exact finF h (by decide)
theorem sim_14 (h : KR L I J) (ha : a < 8) (hb : b < 8) : KK (oLes L I a b).2.1 (rF (oLes L I a b)) (mQ 14 (mLes J a b (I 17 5))) := by
  unfold oLes mLes
  rw [K_k h.1 (by omega), K_k h.1 (by omega)]
  by_cases h0 : ¬ gt J a 0 = 0 ∨ ¬ gt J b 0 = 0
  · rw [if_pos h0, if_pos h0]; exact finF h (by decide)
  · rw [if_neg h0, if_neg h0]
    have ha0 : gt J a 0 = 0 := Classical.not_not.mp (fun q => h0 (Or.inl q))
    have hb0 : gt J b 0 = 0 := Classical.not_not.mp (fun q => h0 (Or.inr q))
    rw [K_n h.1 (by omega) ha0, K_n h.1 (by omega) hb0]
    by_cases z : gt J b 1 ≤ gt J a 1
    · rw [if_pos z, if_pos z, mNx, upI_id]; exact finG h h.1 h.2.1 rfl rfl (by decide)
    · rw [if_neg z, if_neg z]; exact jmp h (by decide)
theorem sim_18 (h : KR L I J) : KK (oHal L I).2.1 (rF (oHal L I)) (mQ 18 (-1, J)) := by
  obtain ⟨k1, ct, h11, h12, h13, h14⟩ := h
  unfold oHal
  rw [rF_0 (q := (0, L, gO (upI I 4 14 (-1)))) rfl]
  show KK L (upI (upI (upI I 4 14 (-1)) 4 12 (upI I 4 14 (-1) 4 12 + 1)) 4 13 (upI (upI I 4 14 (-1)) 4 12 (upI I 4 14 (-1) 4 12 + 1) 4 13 + 1)) (mQ 18 (-1, J))
  refine ⟨K1_mQ (K1_up4 (by decide) (K1_up4 (by decide) (K1_up4 (by decide) k1))), Ct_mQ ct, ⟨?_, ?_⟩, ?_, ?_, ?_⟩
  · rw [mQ_13, upI_j (by decide), upI_j (by decide), upI_j (by decide)]; exact h11.1
  · rw [mQ_13]; exact h11.2
  · rw [mQ_14, upI_j (by decide), upI_s, upI_j (by decide), if_neg (by decide), h12]
  · rw [mQ_16, upI_s, upI_j (by decide), upI_j (by decide)]; exact h13
  · rw [mQ_15, upI_j (by decide), upI_j (by decide), upI_s]
end SIMS

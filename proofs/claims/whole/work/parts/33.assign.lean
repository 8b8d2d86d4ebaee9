/-! the orders of both sides agree: the simple ones -/
def KR (L : LT) (I J : IT) : Prop := K1 L I J ∧ Ct J ∧ (I 4 11 = J 1000 13 ∧ sm (J 1000 13) 3) ∧ I 4 12 = J 1000 14 ∧ I 4 13 + 1 = J 1000 16 ∧ I 4 14 = 0
theorem upI_f {I : IT} {a j i : Nat} {x : Int32} (h : i ≠ j) : upI I a j x a i = I a i := upI_j h
theorem K1_up4 {L : LT} {I J : IT} {j : Nat} {x : Int32} (hj : j ≠ 10) (h : K1 L I J) : K1 L (upI I 4 j x) J :=
  K1_I (upI_b (by decide)) (upI_b (by decide)) (upI_b (by decide)) (upI_b (by decide)) (upI_b (by decide)) (upI_b (by decide)) (upI_b (by decide)) (upI_b (by decide)) (upI_j (Ne.symm hj)) h
theorem K1_upJ {L : LT} {I J : IT} {j : Nat} {x : Int32} (hj : j ≠ 10) (h : K1 L I J) : K1 L I (upI J 1000 j x) :=
  K1_J (upI_b (by decide)) (upI_b (by decide)) (upI_b (by decide)) (upI_b (by decide)) (upI_b (by decide)) (upI_b (by decide)) (upI_b (by decide)) (upI_b (by decide)) (upI_b (by decide)) (upI_j (Ne.symm hj)) h
theorem Ct_upJ {J : IT} {j : Nat} {x : Int32} (h : Ct J) : Ct (upI J 1000 j x) := Ct_J (upI_b (by decide)) (upI_b (by decide)) h
theorem K1_mQ {L : LT} {I J : IT} {o x : Int32} (h : K1 L I J) : K1 L I (mQ o (x, J)) := K1_upJ (by decide) (K1_upJ (by decide) h)
theorem Ct_mQ {J : IT} {o x : Int32} (h : Ct J) : Ct (mQ o (x, J)) := Ct_upJ (Ct_upJ h)
theorem mQ_13 {J : IT} {o x : Int32} : mQ o (x, J) 1000 13 = J 1000 13 := by unfold mQ; rw [upI_j (by decide), upI_j (by decide)]
theorem mQ_14 {J : IT} {o x : Int32} : mQ o (x, J) 1000 14 = if 0 < x ∨ o = 17 ∨ o = 16 then J 1000 14 else J 1000 14 + 1 := by unfold mQ; rw [upI_s]
theorem mQ_15 {J : IT} {o x : Int32} : mQ o (x, J) 1000 15 = x := by unfold mQ; rw [upI_j (by decide), upI_s]
theorem mQ_16 {J : IT} {o x : Int32} : mQ o (x, J) 1000 16 = J 1000 16 := by unfold mQ; rw [upI_j (by decide), upI_j (by decide)]
theorem finF {L : LT} {I J : IT} {o x : Int32} (h : KR L I J) (hx : 0 < x) : KK L (rF (x, L, I)) (mQ o (x, J)) := by
  obtain ⟨k1, ct, h11, h12, h13, h14⟩ := h
  have hx0 : ¬ x = 0 := fun e => absurd hx (by rw [e]; decide)
  rw [rF_n (q := (x, L, I)) hx0]
  refine ⟨K1_mQ (K1_up4 (by decide) (K1_up4 (by decide) k1)), Ct_mQ ct, ⟨?_, ?_⟩, ?_, ?_, ?_⟩
  · rw [mQ_13, upI_j (by decide), upI_j (by decide)]; exact h11.1
  · rw [mQ_13]; exact h11.2
  · rw [mQ_14, if_pos (Or.inl hx), upI_j (by decide), upI_j (by decide)]; exact h12
  · rw [mQ_16, upI_s, upI_j (by decide)]; exact h13
  · rw [mQ_15, upI_j (by decide), upI_s]
theorem finS {L : LT} {I J : IT} {o : Int32} (k1 : K1 L I J) (ct : Ct J) (h11 : I 4 11 = J 1000 13 ∧ sm (J 1000 13) 3) (h12 : I 4 12 = if o = 17 ∨ o = 16 then J 1000 14 else J 1000 14 + 1) (h13 : I 4 13 + 1 = J 1000 16) (h14 : I 4 14 = 0) : KK L (rF (0, L, I)) (mQ o (0, J)) := by
  rw [rF_0 (q := (0, L, I)) rfl]
  refine ⟨K1_mQ (K1_up4 (by decide) k1), Ct_mQ ct, ⟨?_, ?_⟩, ?_, ?_, ?_⟩
  · rw [mQ_13, upI_j (by decide)]; exact h11.1
  · rw [mQ_13]; exact h11.2
  · rw [mQ_14, upI_j (by decide)]
    show I 4 12 = _
    rw [h12]
    by_cases e : o = 17 ∨ o = 16
    · rw [if_pos e, if_pos (Or.inr e)]
    · rw [if_neg e, if_neg (fun h => h.elim (fun h => absurd h (by decide)) e)]
  · rw [mQ_16, upI_s]; exact h13
  · rw [mQ_15, upI_j (by decide)]; exact h14
theorem finG {L L' : LT} {I I' J J' : IT} {o : Int32} (h : KR L I J) (k1 : K1 L' I' J') (ct : Ct J') (e4 : I' 4 = I 4) (eJ : J' 1000 = J 1000) (ho : ¬ (o = 17 ∨ o = 16)) : KK L' (rF (0, L', gO I')) (mQ o (0, J')) := by
  obtain ⟨-, -, h11, h12, h13, h14⟩ := h
  refine finS (K1_up4 (by decide) k1) ct ⟨?_, ?_⟩ ?_ ?_ ?_
  · rw [gO, upI_j (by decide), e4, eJ]; exact h11.1
  · rw [eJ]; exact h11.2
  · rw [if_neg ho, gO, upI_s, e4, eJ, h12]
  · rw [gO, upI_j (by decide), e4, eJ]; exact h13
  · rw [gO, upI_j (by decide), e4]; exact h14
theorem Ct_put {J : IT} {p : Nat} {w f e q c : Int32} (h : Ct J) (hp : p < 102) (h1 : ¬ gt J p 0 = 2) (h2 : ¬ w = 2) : Ct (mPut J p w f e q c) := by
  intro x hx
  rw [mPut_o (by decide), h x hx]
  have := ccn_put (J := J) (w := w) (f := f) (e := e) (q := q) (c := c) (x := x) hp
  rw [if_neg (fun h => h2 h.1), show isS J x p = 0 from if_neg (fun h => h1 h.1)] at this
  exact congrArg nI (by omega)
theorem en_1 {f e q c : Int32} : en 1 f e q c = vPk 1 f e q c := if_neg ne01
theorem en_2 {f e q c : Int32} : en 2 f e q c = vPk 2 f e q c := if_neg ne02
theorem en_3 {f e q c : Int32} : en 3 f e q c = vPk 3 f e q c := if_neg ne03
theorem en_n {f : Int32} : en 0 f 0 0 0 = vNu f := en_0 rfl
theorem K1_num {L : LT} {I J : IT} {p : Nat} {n : Int32} (h : K1 L I J) (hp : p < 56) : K1 (upL L 5 p (vNu n)) I (mPut J p 0 n 0 0 0) := by
  have := K1_put h hp (vl_num n) (fun e => absurd e (by decide)) (fun e => absurd e (by decide))
  rw [en_n] at this; exact this
theorem K1_clr {L : LT} {I J : IT} {p : Nat} (h : K1 L I J) (hp : p < 56) : K1 (upL L 5 p 0) I (mClr J p) := by
  have := K1_put h hp (vl_num 0) (fun e => absurd e (by decide)) (fun e => absurd e (by decide))
  rw [en_zero] at this; exact this
theorem K1_exc {L : LT} {I J : IT} {p : Nat} {f e q : Int32} (h : K1 L I J) (hp : p < 56) (h1 : sm f 49) (h2 : sm e 49) (h3 : tn f < tn e) (h4 : sm q 16) : K1 (upL L 5 p (vPk 1 f e q 0)) I (mPut J p 1 f e q 0) := by
  have := K1_put h hp (vl_ex1 h1 h2 h3 h4) (fun e => absurd e (by decide)) (fun e => absurd e (by decide))
  rw [en_1] at this; exact this
/-! := -/
theorem K1_cnt {L : LT} {I J : IT} {c : Nat} {x : Int32} (h : K1 L I J) : K1 L (upI I 7 c x) (upI J 1004 c x) := by
  obtain ⟨⟨kp, kc, kg, kd, kf, kn⟩, ku⟩ := h
  refine ⟨⟨kp, fun d hd => ?_, kg, kd, kf, kn⟩, ku⟩
  rw [upI_at, upI_at, kc d hd]
theorem asg {L : LT} {I J : IT} {t f : Nat} (h : K1 L I J) (ct : Ct J) (ht : t < 56) (hf : f < 56) (hne : f ≠ t) (h0 : gt J t 0 = 0) : K1 (sAs L I t f).1 (sAs L I t f).2 (mAsg J t f) ∧ Ct (mAsg J t f) ∧ (sAs L I t f).2 4 = I 4 ∧ mAsg J t f 1000 = J 1000 := by
  have hv := K_v h (show f < 102 by omega)
  have hk := K_k h (show f < 102 by omega)
  have h0t : ¬ gt J t 0 = 2 := by rw [h0]; decide
  have kc1 : K1 (upL L 5 t (L 5 f)) I (mCpy J t f) := by
    rw [hv.2]
    exact K1_put h ht hv.1 (h.2.2.1 f (by omega)) (h.2.2.2.1 f (by omega))
  have ge : gt (mCpy J t f) f 0 = gt J f 0 := gt_ne (by decide) hne
  unfold sAs mAsg vMov
  rw [hk]
  by_cases hm : gt J f 0 = 1 ∨ gt J f 0 = 3
  · rw [if_pos (by simpa using hm), if_pos hm]
    have hn2 : ¬ gt J f 0 = 2 := by rcases hm with e | e <;> rw [e] <;> decide
    refine ⟨K1_clr kc1 hf, ?_, rfl, ?_⟩
    · exact Ct_put (Ct_put ct (by omega) h0t hn2) (by omega) (by rw [ge]; exact hn2) (by decide)
    · unfold mShf mClr mCpy; rw [mPut_o (by decide), mPut_o (by decide)]
  · rw [if_neg (by simpa using hm), if_neg hm]
    by_cases h2 : gt J f 0 = 2
    · simp only [if_pos h2]
      have hs := K_cs h (show f < 102 by omega) (Or.inl h2)
      have hlk := K_lk h (show f < 102 by omega) (by rw [h2]; decide)
      obtain ⟨c, hc6, ec⟩ : ∃ c, c < 6 ∧ gt J f 4 = nI c := ⟨_, hs.2, hs.1⟩
      have e1 : (gt J f 4).toNatClampNeg = c := by rw [ec]; exact nI_clamp (by omega)
      rw [hlk]
      unfold tn
      rw [e1, h.1.2.1 _ hc6]
      refine ⟨K1_cnt kc1, ?_, upI_b (by decide), ?_⟩
      · intro x hx
        have hc : ccn (mCpy J t f) x 102 + isS J x t = ccn J x 102 + (if gt J f 0 = 2 ∧ gt J f 4 = nI x then 1 else 0) := ccn_put (by omega)
        rw [show isS J x t = 0 from if_neg (fun h => h0t h.1)] at hc
        have hcc : ccn (upI (mCpy J t f) 1004 c (J 1004 c + 1)) x 102 = ccn (mCpy J t f) x 102 := ccn_ext 102 (fun p _ => by unfold isS gt; rw [upI_b (by decide)])
        rw [hcc, upI_at]
        by_cases e : x = c
        · rw [if_pos e, ct _ hc6, nI_1]
          rw [if_pos ⟨h2, by rw [e]; exact ec⟩] at hc
          rw [← e]
          exact congrArg nI (by omega)
        · rw [if_neg e]
          rw [if_neg (fun h => e ((nI_eq (by omega) (by omega)).mp (h.2.symm.trans ec)))] at hc
          rw [show mCpy J t f 1004 = J 1004 from mPut_o (by decide), ct x hx]
          exact congrArg nI (by omega)
      · rw [upI_b (by decide)]; exact mPut_o (by decide)
    · simp only [if_neg h2]
      exact ⟨kc1, Ct_put ct (by omega) h0t h2, trivial, mPut_o (by decide)⟩
theorem upL_id {L : LT} {a j : Nat} : upL L a j (L a j) = L := by
  funext x
  by_cases h : x = a
  · subst h; funext i; rw [upL_at]; split
    · rename_i e; rw [e]
    · rfl
  · rw [upL_b h]

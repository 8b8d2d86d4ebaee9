/-! the orders of both sides agree: merge, cells, memory, seal -/
theorem fz_congr {f g : Nat → Int32} : ∀ n i, (∀ j, i ≤ j → j < i + n → f j = g j) → fz f i n = fz g i n
  | 0, _, _ => rfl
  | n + 1, i, h => by rw [fz, fz, h i (Nat.le_refl i) (by omega), fz_congr n (i + 1) (fun j h1 h2 => h j (by omega) (by omega))]
theorem Ct_zero {J : IT} {c : Nat} (h : Ct J) (hc : c < 6) (h0 : J 1004 c = 0) : ccn J c 102 = 0 := by
  have e := h c hc
  rw [h0] at e
  have hl := ccn_le (J := J) (c := c) 102
  exact ((nI_eq (a := 0) (b := ccn J c 102) (by decide) (by omega)).mp e).symm
theorem K1_cel {L : LT} {I J : IT} {c : Nat} {x f e : Int32} (h : K1 L I J) (ct : Ct J) (hc : c < 6) (h0 : J 1004 c = 0) : K1 L (upI I 7 c x) (upI (upI (upI J 1004 c x) 1005 c f) 1006 c e) := by
  have hz := Ct_zero ct hc h0
  obtain ⟨⟨kp, kc, kg, kd, kf, kn⟩, ku, ks, kl, kt, kr⟩ := h
  refine ⟨⟨kp, fun d hd => ?_, kg, kd, kf, kn⟩, ku, ks, fun p hp h2 => ?_, kt, kr⟩
  · show upI I 7 c x 7 d = upI J 1004 c x 1004 d
    rw [upI_at, upI_at, kc d hd]
  · have h2' : gt J p 0 = 2 := h2
    have hs := (vl_2 (kp p hp).1 h2').2.2.2.2
    have hne : tn (gt J p 4) ≠ c := by
      intro e'
      have hpos := (ccn_pos (J := J) (c := c) 102).mpr ⟨p, hp, if_pos ⟨h2', by rw [← e']; exact hs.1⟩⟩
      omega
    have := kl p hp h2'
    show gt J p 1 = upI J 1005 c f 1005 (tn (gt J p 4)) ∧ gt J p 2 = upI J 1006 c e 1006 (tn (gt J p 4))
    rw [upI_j hne, upI_j hne]
    exact this
theorem mCd_eq {J : IT} {c : Nat} : mCd J c = upI J 1004 c (J 1004 c - 1) := by
  unfold mCd
  have e1 : upI (upI J 1004 c (J 1004 c - 1)) 1005 c (J 1005 c) = upI J 1004 c (J 1004 c - 1) := by
    have := upI_id (I := upI J 1004 c (J 1004 c - 1)) (a := 1005) (j := c)
    rw [show upI J 1004 c (J 1004 c - 1) 1005 c = J 1005 c from rfl] at this
    exact this
  have e2 : upI (upI J 1004 c (J 1004 c - 1)) 1006 c (J 1006 c) = upI J 1004 c (J 1004 c - 1) := by
    have := upI_id (I := upI J 1004 c (J 1004 c - 1)) (a := 1006) (j := c)
    rw [show upI J 1004 c (J 1004 c - 1) 1006 c = J 1006 c from rfl] at this
    exact this
  rw [e1, e2]
theorem ccn_up {J : IT} {c d x : Nat} {v : Int32} (hd : d ≠ 1003) (n : Nat) : ccn (upI J d c v) x n = ccn J x n := ccn_ext n (fun p _ => by unfold isS gt; rw [upI_b (Ne.symm hd)])
theorem Ct_dec {J : IT} {p c : Nat} {w f e q k : Int32} (h : Ct J) (hp : p < 102) (h2 : gt J p 0 = 2) (h4 : gt J p 4 = nI c) (hc : c < 6) (hw : ¬ w = 2) : Ct (mPut (upI J 1004 c (J 1004 c - 1)) p w f e q k) := by
  intro x hx
  have e1 := ccn_put (J := upI J 1004 c (J 1004 c - 1)) (p := p) (w := w) (f := f) (e := e) (q := q) (c := k) (x := x) hp
  rw [if_neg (fun z => hw z.1), ccn_up (by decide)] at e1
  have e2 : isS (upI J 1004 c (J 1004 c - 1)) x p = isS J x p := rfl
  rw [e2] at e1
  rw [mPut_o (by decide), upI_at]
  by_cases e : x = c
  · subst e
    have e3 : isS J x p = 1 := if_pos ⟨h2, h4⟩
    rw [e3] at e1
    rw [if_pos rfl]
    have e6 := h x hx
    generalize ccn (mPut (upI J 1004 x (J 1004 x - 1)) p w f e q k) x 102 = N at e1 ⊢
    rw [e6, show ccn J x 102 = N + 1 by omega, nI_pred]
  · have e3 : isS J x p = 0 := if_neg (fun z => e ((nI_eq (by omega) (by omega)).mp (z.2.symm.trans h4)))
    rw [e3] at e1
    rw [if_neg e, h x hx]
    exact congrArg nI (by omega)
section SIMT
variable {L : LT} {I J : IT} {a b : Nat}
theorem sim_7 (h : KR L I J) (ha : a < 8) : KK (oFre L I a).2.1 (rF (oFre L I a)) (mQ 7 (mFre J a)) := by
  unfold oFre mFre
  rw [K_k h.1 (by omega), fz_congr (f := I 7) (g := J 1004) 6 0 (fun j _ hj => h.1.1.2.1 j (by omega))]
  by_cases h1 : gt J a 0 = 1
  · rw [if_neg (not_not_intro h1), if_neg (not_not_intro h1)]
    have h1n : ¬ gt J a 0 = 0 := by rw [h1]; decide
    have v := vl_1 (K_v h.1 (show a < 102 by omega)).1 h1
    rw [K_q h.1 (by omega) h1n, K_e h.1 (by omega) h1n, K_f h.1 (by omega) h1n]
    by_cases h3 : gt J a 3 = 1
    · rw [if_neg (not_not_intro h3), if_neg (not_not_intro h3)]
      by_cases h0 : 0 ≤ fz (J 1004) 0 6
      · rw [if_neg (not_not_intro h0), if_neg (not_not_intro h0)]
        rcases fz_in (J 1004) 6 0 with z | ⟨c, c1, c2, c3, c4⟩
        · rw [z] at h0; exact absurd h0 (by decide)
        · rw [c3, nI_clamp (by omega), h.1.1.2.1 c (by omega), c4, show (0 : Int32) + 1 = 1 from rfl]
          have k1 := K1_cel (x := 1) (f := gt J a 1) (e := gt J a 2) h.1 h.2.1 (show c < 6 by omega) c4
          have k2 := K1_put (p := a) (w := 2) (f := gt J a 1) (e := gt J a 2) (q := 1) (c := nI c) k1 (by omega) (vl_sh2 v.1 v.2.1 v.2.2.1 (sm_nI (by omega) (by decide))) (fun e => absurd e (by decide)) (fun _ => ⟨?_, ?_⟩)
          · rw [en_2] at k2
            refine finG h k2 ?_ (upI_b (by decide)) ?_ (by decide)
            · intro x hx
              have e1 := ccn_put (J := upI (upI (upI J 1004 c 1) 1005 c (gt J a 1)) 1006 c (gt J a 2)) (p := a) (w := 2) (f := gt J a 1) (e := gt J a 2) (q := 1) (c := nI c) (x := x) (by omega)
              rw [ccn_up (by decide), ccn_up (by decide), ccn_up (by decide)] at e1
              have e2 : isS (upI (upI (upI J 1004 c 1) 1005 c (gt J a 1)) 1006 c (gt J a 2)) x a = 0 := if_neg (fun z => absurd (z.1 : gt J a 0 = 2) (by rw [h1]; decide))
              rw [e2] at e1
              rw [mPut_o (by decide), upI_b (by decide), upI_b (by decide), upI_at]
              by_cases e : x = c
              · subst e
                rw [if_pos ⟨rfl, rfl⟩, Ct_zero h.2.1 hx c4] at e1
                rw [if_pos rfl]
                have e5 : ccn (mPut (upI (upI (upI J 1004 x 1) 1005 x (gt J a 1)) 1006 x (gt J a 2)) a 2 (gt J a 1) (gt J a 2) 1 (nI x)) x 102 = 1 := by omega
                rw [e5]; rfl
              · rw [if_neg (fun z => e ((nI_eq (by omega) (by omega)).mp z.2).symm)] at e1
                rw [if_neg e, h.2.1 x hx]
                exact congrArg nI (by omega)
            · rw [mPut_o (by decide)]; rfl
          · rw [upI_b (by decide), sm_tn (by omega), upI_s]
          · rw [sm_tn (by omega), upI_s]
      · rw [if_pos h0, if_pos h0]; exact finF h (by decide)
    · rw [if_pos h3, if_pos h3]; exact finF h (by decide)
  · rw [if_pos h1, if_pos h1]; exact finF h (by decide)
theorem sim_8 (h : KR L I J) (ha : a < 8) : KK (oTha L I a).2.1 (rF (oTha L I a)) (mQ 8 (mTha J a (gt J a 4).toNatClampNeg)) := by
  unfold oTha mTha
  rw [K_k h.1 (by omega)]
  by_cases h2 : gt J a 0 = 2
  · rw [if_neg (not_not_intro h2), if_neg (not_not_intro h2)]
    have h2n : ¬ gt J a 0 = 0 := by rw [h2]; decide
    have v := vl_2 (K_v h.1 (show a < 102 by omega)).1 h2
    obtain ⟨c, hc, ec⟩ : ∃ c, c < 6 ∧ gt J a 4 = nI c := ⟨_, v.2.2.2.2.2, v.2.2.2.2.1⟩
    have el : lk (L 5 a) = c := by rw [K_lk h.1 (by omega) h2n, tn, ec]; exact nI_clamp (by omega)
    rw [el, h.1.1.2.1 c hc, ec, nI_clamp (by omega), K_e h.1 (by omega) h2n, K_f h.1 (by omega) h2n]
    by_cases h1 : J 1004 c = 1
    · rw [if_neg (not_not_intro h1), if_neg (not_not_intro h1), mCd_eq, dec1]
      exact finG h (K1_exc (K1_cnt h.1) (by omega) v.1 v.2.1 v.2.2.1 (sm_nI (j := 1) (by decide) (by decide))) (Ct_dec h.2.1 (by omega) h2 ec hc (by decide)) (upI_b (by decide)) (by rw [mPut_o (by decide)]; exact upI_b (by decide)) (by decide)
    · rw [if_pos h1, if_pos h1]; exact finF h (by decide)
  · rw [if_pos h2, if_pos h2]; exact finF h (by decide)
theorem sim_9 (h : KR L I J) (ha : a < 8) : KK (oDro L I a).2.1 (rF (oDro L I a)) (mQ 9 (mDro J a (gt J a 4).toNatClampNeg)) := by
  unfold oDro mDro
  rw [K_k h.1 (by omega)]
  by_cases h2 : gt J a 0 = 2
  · rw [if_neg (not_not_intro h2), if_neg (not_not_intro h2)]
    have h2n : ¬ gt J a 0 = 0 := by rw [h2]; decide
    have v := vl_2 (K_v h.1 (show a < 102 by omega)).1 h2
    obtain ⟨c, hc, ec⟩ : ∃ c, c < 6 ∧ gt J a 4 = nI c := ⟨_, v.2.2.2.2.2, v.2.2.2.2.1⟩
    have el : lk (L 5 a) = c := by rw [K_lk h.1 (by omega) h2n, tn, ec]; exact nI_clamp (by omega)
    rw [el, h.1.1.2.1 c hc, ec, nI_clamp (by omega)]
    have hi : ¬ 1 < J 1004 c ↔ J 1004 c < 2 := by
      rw [Int32.lt_iff_toInt_lt, Int32.lt_iff_toInt_lt, show (1 : Int32).toInt = 1 from rfl, show (2 : Int32).toInt = 2 from rfl]; omega
    by_cases h1 : J 1004 c < 2
    · rw [if_pos (hi.mpr h1), if_pos h1]; exact finF h (by decide)
    · rw [if_neg (fun z => h1 (hi.mp z)), if_neg h1, mCd_eq, dec1]
      exact finG h (K1_clr (K1_cnt h.1) (by omega)) (Ct_dec h.2.1 (by omega) h2 ec hc (by decide)) (upI_b (by decide)) (by unfold mClr; rw [mPut_o (by decide)]; exact upI_b (by decide)) (by decide)
  · rw [if_pos h2, if_pos h2]; exact finF h (by decide)
theorem K_cap {p : Nat} (h : K1 L I J) (hp : p < 102) : vCap (L 5 p) = false ↔ (gt J p 0 = 0 ∨ gt J p 0 = 3) := by
  unfold vCap
  rw [K_k h hp]
  rcases vl_k (K_v h hp).1 with e | e | e | e <;> rw [e] <;> decide
theorem K_has {p : Nat} {q : Int32} (h : K1 L I J) (hp : p < 102) (h0 : ¬ (gt J p 0 = 0 ∨ gt J p 0 = 3)) : vHas (L 5 p) q = mHas J p q := by
  unfold vHas mHas
  have hv : vCap (L 5 p) = true := by
    cases hh : vCap (L 5 p)
    · exact absurd ((K_cap h hp).mp hh) h0
    · rfl
  rw [hv, K_q h hp (fun z => h0 (Or.inl z)), Bool.true_and]
theorem K_rg {p : Nat} (h : K1 L I J) (hp : p < 102) (h0 : ¬ (gt J p 0 = 0 ∨ gt J p 0 = 3)) : sm (gt J p 1) 49 ∧ sm (gt J p 2) 49 ∧ tn (gt J p 1) < tn (gt J p 2) := by
  rcases vl_k (K_v h hp).1 with e | e | e | e
  · exact absurd (Or.inl e) h0
  · have := vl_1 (K_v h hp).1 e; exact ⟨this.1, this.2.1, this.2.2.1⟩
  · have := vl_2 (K_v h hp).1 e; exact ⟨this.1, this.2.1, this.2.2.1⟩
  · exact absurd (Or.inr e) h0
theorem K_in {p : Nat} (h : K1 L I J) (hp : p < 102) (h0 : ¬ (gt J p 0 = 0 ∨ gt J p 0 = 3)) : vIn I (L 5 p) = mIn J p (I 17 5) := by
  have v := K_rg h hp h0
  have hn := rng (n := I 17 5) v.1 v.2.1 v.2.2
  unfold vIn mIn inz
  rw [K_e h hp (fun z => h0 (Or.inl z)), K_f h hp (fun z => h0 (Or.inl z))]
  by_cases x : I 17 5 < 0 <;> by_cases y : I 17 5 < gt J p 2 - gt J p 1
  · simp [x, y, Int32.not_le.mpr x]
  · simp [x, y, Int32.not_le.mpr x]
  · have y' := hn.mp y
    simp [x, y, y', Int32.not_lt.mp x]
  · have y' : gt J p 2 - gt J p 1 - 1 < I 17 5 := Classical.not_not.mp (fun z => y (hn.mpr z))
    simp [x, y, y', Int32.not_lt.mp x]
theorem K_tk {p : Nat} (h : K1 L I J) (hp : p < 102) : vMov (L 5 p) = true ↔ mTk J p := by
  unfold vMov mTk
  rw [K_k h hp]; simp
/-- the word that a capability and an offset name -/
theorem K_w {p : Nat} {n : Int32} (h : K1 L I J) (hp : p < 102) (h0 : ¬ (gt J p 0 = 0 ∨ gt J p 0 = 3)) (hi : mIn J p n = true) : 8 + (gt J p 1 + n) = nI (tn (8 + (gt J p 1 + n))) ∧ tn (8 + (gt J p 1 + n)) < 56 ∧ 8 ≤ tn (8 + (gt J p 1 + n)) := by
  have v := K_rg h hp h0
  obtain ⟨x, y⟩ := inz_p hi
  have y' := (rng (n := n) v.1 v.2.1 v.2.2).mpr y
  obtain ⟨f1, f2⟩ := v.1
  obtain ⟨e1, e2⟩ := v.2.1
  have cn : ∃ k : Nat, n = nI k ∧ k < tn (gt J p 2) - tn (gt J p 1) := by
    rw [f1, e1, pk_sub (by omega)] at y'
    have x1 := Int32.le_iff_toInt_le.mp (Int32.not_lt.mp x)
    have x2 := Int32.lt_iff_toInt_lt.mp y'
    have : (0 : Int32).toInt = 0 := rfl
    rw [nI_toInt (by omega)] at x2
    refine ⟨n.toInt.toNat, ?_, by omega⟩
    apply Int32.toInt_inj.mp
    rw [nI_toInt (by omega)]; omega
  obtain ⟨k, ek, hk⟩ := cn
  have e : 8 + (gt J p 1 + n) = nI (8 + (tn (gt J p 1) + k)) := by
    rw [ek, show gt J p 1 + nI k = nI (tn (gt J p 1) + k) by rw [← nI_add, ← f1]]; exact nI_add 8 _
  rw [e, sm_tn (by omega)]
  exact ⟨rfl, by omega, by omega⟩
theorem sim_10 (h : KR L I J) (ha : a < 8) (hb : b < 8) {w : Nat} (hw : w = tn (8 + (gt J b 1 + I 17 5))) : KK (oLoa L I a b w).2.1 (rF (oLoa L I a b w)) (mQ 10 (mLoa J a b w (I 17 5))) := by
  unfold oLoa mLoa
  have hc := K_cap h.1 (show b < 102 by omega)
  by_cases h0 : gt J b 0 = 0 ∨ gt J b 0 = 3
  · rw [if_pos (hc.mpr h0), if_pos h0]; exact finF h (by decide)
  · rw [if_neg (fun z => h0 (hc.mp z)), if_neg h0, K_in h.1 (by omega) h0, K_has h.1 (by omega) h0, K_has h.1 (by omega) h0]
    by_cases h1 : mIn J b (I 17 5) = false ∨ mHas J b 1 = false
    · rw [if_pos h1, if_pos h1]; exact finF h (by decide)
    · rw [if_neg h1, if_neg h1]
      have hi : mIn J b (I 17 5) = true := by
        cases hh : mIn J b (I 17 5)
        · exact absurd (Or.inl hh) h1
        · rfl
      have kw := K_w h.1 (show b < 102 by omega) h0 hi
      rw [← hw] at kw
      have ht := K_tk h.1 (show w < 102 by omega)
      by_cases h2 : mTk J w ∧ mHas J b 2 = false
      · rw [if_pos (show vMov (L 5 w) = true ∧ mHas J b 2 = false from ⟨ht.mpr h2.1, h2.2⟩), if_pos h2]; exact finF h (by decide)
      · rw [if_neg (show ¬ (vMov (L 5 w) = true ∧ mHas J b 2 = false) from fun z => h2 ⟨ht.mp z.1, z.2⟩), if_neg h2, K_k h.1 (by omega)]
        by_cases h3 : gt J a 0 = 0
        · rw [if_neg (not_not_intro h3), if_neg (not_not_intro h3)]
          have := asg h.1 h.2.1 (show a < 56 by omega) (show w < 56 by omega) (by omega) h3
          exact finG h this.1 this.2.1 this.2.2.1 this.2.2.2 (by decide)
        · rw [if_pos h3, if_pos h3]; exact finF h (by decide)
theorem sim_11 (h : KR L I J) (ha : a < 8) (hb : b < 8) {w : Nat} (hw : w = tn (8 + (gt J b 1 + I 17 5))) : KK (oSto L I a b w).2.1 (rF (oSto L I a b w)) (mQ 11 (mSto J a b w (I 17 5))) := by
  unfold oSto mSto
  have hc := K_cap h.1 (show b < 102 by omega)
  by_cases h0 : gt J b 0 = 0 ∨ gt J b 0 = 3
  · rw [if_pos (hc.mpr h0), if_pos h0]; exact finF h (by decide)
  · rw [if_neg (fun z => h0 (hc.mp z)), if_neg h0, K_in h.1 (by omega) h0, K_has h.1 (by omega) h0]
    by_cases h1 : mIn J b (I 17 5) = false ∨ mHas J b 2 = false
    · rw [if_pos h1, if_pos h1]; exact finF h (by decide)
    · rw [if_neg h1, if_neg h1]
      have hi : mIn J b (I 17 5) = true := by
        cases hh : mIn J b (I 17 5)
        · exact absurd (Or.inl hh) h1
        · rfl
      have kw := K_w h.1 (show b < 102 by omega) h0 hi
      rw [← hw] at kw
      rw [K_k h.1 (by omega)]
      by_cases h3 : gt J w 0 = 0
      · rw [if_neg (not_not_intro h3), if_neg (not_not_intro h3)]
        have := asg h.1 h.2.1 (show w < 56 by omega) (show a < 56 by omega) (by omega) h3
        exact finG h this.1 this.2.1 this.2.2.1 this.2.2.2 (by decide)
      · rw [if_pos h3, if_pos h3]; exact finF h (by decide)
theorem sim_5 (h : KR L I J) (ha : a < 8) (hb : b < 8) (hab : I 17 3 = I 17 4 ↔ a = b) : KK (oMer L I a b).2.1 (rF (oMer L I a b)) (mQ 5 (mMer J a b)) := by
  unfold oMer mMer
  rw [K_k h.1 (by omega), K_k h.1 (by omega)]
  by_cases h1 : ¬ gt J a 0 = 1 ∨ ¬ gt J b 0 = 1
  · rw [if_pos h1, if_pos h1]; exact finF h (by decide)
  · rw [if_neg h1, if_neg h1]
    have ha1 : gt J a 0 = 1 := Classical.not_not.mp (fun z => h1 (Or.inl z))
    have hb1 : gt J b 0 = 1 := Classical.not_not.mp (fun z => h1 (Or.inr z))
    have han : ¬ gt J a 0 = 0 := by rw [ha1]; decide
    have hbn : ¬ gt J b 0 = 0 := by rw [hb1]; decide
    have va := vl_1 (K_v h.1 (show a < 102 by omega)).1 ha1
    have vb := vl_1 (K_v h.1 (show b < 102 by omega)).1 hb1
    unfold mMg
    have hra : jRa (L 5 a) (L 5 b) = false ↔ (¬ mBh J a b ∧ ¬ mBf J a b) := by
      unfold jRa mBh mBf
      rw [K_e h.1 (by omega) han, K_e h.1 (by omega) hbn, K_f h.1 (by omega) han, K_f h.1 (by omega) hbn, K_q h.1 (by omega) han, K_q h.1 (by omega) hbn]
      rw [show (gt J b 1 = gt J a 2) ↔ (gt J a 2 = gt J b 1) from eq_comm, show (gt J a 1 = gt J b 2) ↔ (gt J b 2 = gt J a 1) from eq_comm]
      by_cases x : gt J a 3 = gt J b 3 <;> by_cases y : gt J a 2 = gt J b 1 <;> by_cases z : gt J b 2 = gt J a 1 <;> simp [x, y, z]
    have hri : jRi (L 5 a) (L 5 b) = false ↔ ¬ mOv J a b := by
      unfold jRi mOv
      rw [K_e h.1 (by omega) han, K_e h.1 (by omega) hbn, K_f h.1 (by omega) han, K_f h.1 (by omega) hbn, K_q h.1 (by omega) han, K_q h.1 (by omega) hbn]
      by_cases x : gt J a 1 = gt J b 1 <;> by_cases y : gt J a 2 = gt J b 2 <;> by_cases z : gt J a 3 &&& gt J b 3 = 0 <;> simp [x, y, z]
    have hcond : (I 17 3 = I 17 4 ∨ (jRa (L 5 a) (L 5 b) = false ∧ jRi (L 5 a) (L 5 b) = false)) ↔ (a = b ∨ (¬ mBh J a b ∧ ¬ mBf J a b ∧ ¬ mOv J a b)) := by
      rw [hab, hra, hri, and_assoc]
    by_cases hc : a = b ∨ (¬ mBh J a b ∧ ¬ mBf J a b ∧ ¬ mOv J a b)
    · rw [if_pos (hcond.mpr hc), if_pos hc]; exact finF h (by decide)
    · rw [if_neg (fun z => hc (hcond.mp z)), if_neg hc]
      have hne : a ≠ b := fun z => hc (Or.inl z)
      rw [K_e h.1 (by omega) han, K_e h.1 (by omega) hbn, K_f h.1 (by omega) han, K_f h.1 (by omega) hbn, K_q h.1 (by omega) han, K_q h.1 (by omega) hbn]
      obtain ⟨fa1, fa2⟩ := va.1
      obtain ⟨ea1, ea2⟩ := va.2.1
      have la := va.2.2.1
      obtain ⟨fb1, fb2⟩ := vb.1
      obtain ⟨eb1, eb2⟩ := vb.2.1
      have lb := vb.2.2.1
      have ltI : ∀ x y : Int32, sm x 49 → sm y 49 → (x < y ↔ tn x < tn y) := fun x y hx hy => by
        have := nI_ltI (a := tn x) (b := tn y) (by have := hx.2; omega) (by have := hy.2; omega)
        rw [← hx.1, ← hy.1] at this; exact this
      have eqI : ∀ x y : Int32, x = y → tn x = tn y := fun x y e => by rw [e]
      have hfr : (if gt J b 1 < gt J a 1 then gt J b 1 else gt J a 1) = (if mBf J a b then gt J b 1 else gt J a 1) := by
        by_cases x : mBf J a b
        · rw [if_pos x, if_pos]
          rw [ltI _ _ vb.1 va.1]; have := eqI _ _ x.2; omega
        · rw [if_neg x]
          by_cases y : mBh J a b
          · rw [if_neg]; rw [ltI _ _ vb.1 va.1]; have := eqI _ _ y.2; omega
          · have z : mOv J a b := Classical.not_not.mp (fun z => hc (Or.inr ⟨y, x, z⟩))
            rw [z.1]; split <;> rfl
      have her : (if gt J a 2 < gt J b 2 then gt J b 2 else gt J a 2) = (if mBh J a b then gt J b 2 else gt J a 2) := by
        by_cases x : mBh J a b
        · rw [if_pos x, if_pos]
          rw [ltI _ _ va.2.1 vb.2.1]; have := eqI _ _ x.2; omega
        · rw [if_neg x]
          by_cases y : mBf J a b
          · rw [if_neg]; rw [ltI _ _ va.2.1 vb.2.1]; have := eqI _ _ y.2; omega
          · have z : mOv J a b := Classical.not_not.mp (fun z => hc (Or.inr ⟨x, y, z⟩))
            rw [z.2.1]; split <;> rfl
      rw [hfr, her]
      have s1 : sm (if mBf J a b then gt J b 1 else gt J a 1) 49 := by split; exact vb.1; exact va.1
      have s2 : sm (if mBh J a b then gt J b 2 else gt J a 2) 49 := by split; exact vb.2.1; exact va.2.1
      have s3 : tn (if mBf J a b then gt J b 1 else gt J a 1) < tn (if mBh J a b then gt J b 2 else gt J a 2) := by
        by_cases x : mBf J a b
        · have e1 := eqI _ _ x.2
          rw [if_pos x]
          split <;> omega
        · rw [if_neg x]
          by_cases y : mBh J a b
          · have e1 := eqI _ _ y.2
            rw [if_pos y]; omega
          · rw [if_neg y]; omega
      have k1 := K1_exc h.1 (show a < 56 by omega) s1 s2 s3 (sm_or va.2.2.2.1 vb.2.2.2.1)
      refine finG h (K1_clr k1 (show b < 56 by omega)) (Ct_put (Ct_put h.2.1 (by omega) (by rw [ha1]; decide) (by decide)) (by omega) ?_ (by decide)) rfl ?_ (by decide)
      · rw [gt_ne (by decide) (Ne.symm hne), hb1]; decide
      · unfold mClr; rw [mPut_o (by decide), mPut_o (by decide)]
end SIMT

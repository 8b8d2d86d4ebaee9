/-! return agrees -/
section SIMW
variable {L : LT} {I J : IT}
theorem asl_eq {f k p : Nat} {b : Bool} (h0 : ¬ gt J p 0 = 0) : asl J f k p b 1 4 = (b && decide (gt J p 1 = nt J f k 1) && decide (gt J p 2 = nt J f k 2) && decide (gt J p 3 = nt J f k 3) && decide (gt J p 4 = nt J f k 4)) := by
  rw [asl, if_neg h0, asl, if_neg h0, asl, if_neg h0, asl, if_neg h0, asl]
/-- a place is as noted, where the note is of no number -/
theorem asN_n {f k p : Nat} (hn : ¬ nt J f k 0 = 0) (hv : vlp J p) (hv' : vln J f k) : asN J f k p = decide (enp J p = enn J f k) := by
  have hi := en_inj hv hv' hn
  unfold asN
  by_cases h0 : gt J p 0 = 0
  · have e1 : ¬ gt J p 0 = nt J f k 0 := fun e => hn (by rw [← e]; exact h0)
    rw [decide_eq_false e1, asl, if_pos h0, decide_eq_false]
    exact fun e => e1 (hi.mp e).1
  · rw [asl_eq h0]
    by_cases e : enp J p = enn J f k
    · obtain ⟨a, b, c, d, g⟩ := hi.mp e
      rw [decide_eq_true e, decide_eq_true a, decide_eq_true b, decide_eq_true c, decide_eq_true d, decide_eq_true g]; rfl
    · rw [decide_eq_false e]
      by_cases a : gt J p 0 = nt J f k 0
      · by_cases b : gt J p 1 = nt J f k 1
        · by_cases c : gt J p 2 = nt J f k 2
          · by_cases d : gt J p 3 = nt J f k 3
            · by_cases g : gt J p 4 = nt J f k 4
              · exact absurd (hi.mpr ⟨a, b, c, d, g⟩) e
              · rw [decide_eq_false g, Bool.and_false]
            · rw [decide_eq_false d, Bool.and_false, Bool.false_and]
          · rw [decide_eq_false c, Bool.and_false, Bool.false_and, Bool.false_and]
        · rw [decide_eq_false b, Bool.and_false, Bool.false_and, Bool.false_and, Bool.false_and]
      · rw [decide_eq_false a, Bool.false_and, Bool.false_and, Bool.false_and, Bool.false_and]
theorem asN_0 {f k p : Nat} (hn : nt J f k 0 = 0) : asN J f k p = decide (gt J p 0 = 0) := by
  unfold asN
  by_cases h0 : gt J p 0 = 0
  · rw [asl, if_pos h0, hn]
  · rw [asl_eq h0, hn, decide_eq_false h0]; rfl
theorem vKd0 : vKd 0 = 0 := by decide
theorem okr_eq {f q : Nat} (h : K1 L I J) (hf : f < dpt J) (h1 : 1 ≤ q) (h2 : q ≤ 6) : okr L f q = if lnM J (fgt J f) (J 1010 (4 * f + 3)) q = true then asN J f q q else decide (gt J q 0 = 0) := by
  have hn := (h.1.2.2.2.2.2 f hf).2 q h1 h2
  have hv := K_v h (show q < 102 by omega)
  unfold okr
  rw [hn.2, K_k h (by omega)]
  by_cases hl : lnM J (fgt J f) (J 1010 (4 * f + 3)) q = true
  · rw [if_pos hl, if_pos hl]
    rw [show vKd (enn J f q) = nt J f q 0 from en_k hn.1]
    by_cases h0 : nt J f q 0 = 0
    · rw [if_pos h0, asN_0 h0]
    · rw [if_neg h0, asN_n h0 hv.1 hn.1, hv.2]
  · rw [if_neg hl, if_neg hl, if_pos vKd0]
theorem cCl_f {f : Nat} : ∀ n q, cCl L f false q n = false
  | 0, _ => rfl
  | n + 1, q => by rw [cCl, Bool.false_and]; exact cCl_f n (q + 1)
theorem cCl_eq {f g : Nat} {k : Int32} : ∀ (n q : Nat) (b : Bool), (∀ y, q ≤ y → y < q + n → okr L f y = if lnM J g k y = true then asN J f y y else decide (gt J y 0 = 0)) → cCl L f b q n = mGd J f g k b q n
  | 0, _, _, _ => rfl
  | n + 1, q, b, h => by
    rw [cCl, mGd, h q (Nat.le_refl q) (by omega)]
    exact cCl_eq n (q + 1) _ (fun y h1 h2 => h y (by omega) (by omega))
/-- what a good return knows -/
theorem mGd_t {f g : Nat} {k : Int32} : ∀ (n q : Nat) (b : Bool), mGd J f g k b q n = true → b = true ∧ ∀ y, q ≤ y → y < q + n → (if lnM J g k y = true then asN J f y y else decide (gt J y 0 = 0)) = true
  | 0, q, b, h => ⟨h, fun y h1 h2 => absurd h2 (by omega)⟩
  | n + 1, q, b, h => by
    rw [mGd] at h
    have ih := mGd_t n (q + 1) _ h
    rw [Bool.and_eq_true] at ih
    refine ⟨ih.1.1, fun y h1 h2 => ?_⟩
    by_cases e : y = q
    · rw [e]; exact ih.1.2
    · exact ih.2 y (by omega) (by omega)
def mB4 (J : IT) (f g k : Nat) : IT := mClr (mRl f (upI (mShf J 7 (96 + g)) 1007 g 1) (k + 1) (7 - k)) (56 + 8 * f)
theorem mB4_gt {f g k : Nat} (hf : f < 5) (hg : g < 6) (hk : k ≤ 6) : ∀ j, j < 5 →
    gt (mB4 J f g k) (96 + g) j = gt J 7 j ∧
    (∀ x, x < k + 1 → gt (mB4 J f g k) x j = gt J x j) ∧
    (∀ x, k + 1 ≤ x → x < 8 → gt (mB4 J f g k) x j = gt J (56 + 8 * f + x) j) ∧
    (∀ y, y < 8 → (y = 0 ∨ k < y) → gt (mB4 J f g k) (56 + 8 * f + y) j = 0) ∧
    (∀ y, 1 ≤ y → y ≤ k → gt (mB4 J f g k) (56 + 8 * f + y) j = gt J (56 + 8 * f + y) j) ∧
    (∀ x, 8 ≤ x → x ≠ 96 + g → (∀ y, y < 8 → x ≠ 56 + 8 * f + y) → gt (mB4 J f g k) x j = gt J x j) := by
  intro j hj
  unfold mB4
  have e2 : ∀ x, gt (upI (mShf J 7 (96 + g)) 1007 g 1) x j = if x = 7 then 0 else if x = 96 + g then gt J 7 j else gt J x j := fun x => by rw [gt_up (by decide), gt_shf hj]
  generalize upI (mShf J 7 (96 + g)) 1007 g 1 = J2 at e2 ⊢
  have hs := fun x => mRl_gt hf (7 - k) (k + 1) J2 (by omega) x j hj
  refine ⟨?_, fun x hx => ?_, fun x h1 h2 => ?_, fun y hy h => ?_, fun y h1 h2 => ?_, fun x h1 h2 h3 => ?_⟩
  · rw [gt_clr hj, if_neg (by omega), (hs (96 + g)).2.2 (fun z => absurd z.2 (by omega)) (fun y _ _ => by omega), e2, if_neg (by omega), if_pos rfl]
  · rw [gt_clr hj, if_neg (by omega), (hs x).2.2 (fun z => absurd z.1 (by omega)) (fun y _ _ => by omega), e2, if_neg (by omega), if_neg (by omega)]
  · rw [gt_clr hj, if_neg (by omega), (hs 0).1 x h1 h2, e2, if_neg (by omega), if_neg (by omega)]
  · rw [gt_clr hj]
    by_cases z : y = 0
    · rw [if_pos (by omega)]
    · rw [if_neg (by omega), (hs 0).2.1 y (by omega) hy]
  · rw [gt_clr hj, if_neg (by omega), (hs (56 + 8 * f + y)).2.2 (fun z => absurd z.2 (by omega)) (fun z _ _ => by omega), e2, if_neg (by omega), if_neg (by omega)]
  · rw [gt_clr hj, if_neg (show ¬ x = 56 + 8 * f from h3 0 (by decide)), (hs x).2.2 (fun z => absurd z.2 (by omega)) (fun y _ hy => h3 y hy), e2, if_neg (by omega), if_neg h2]
theorem mB4_o {f g k x : Nat} (h3 : x ≠ 1003) (h7 : x ≠ 1007) : mB4 J f g k x = J x := by
  unfold mB4 mClr
  rw [mPut_o h3, mRl_o h3, upI_b h7, mShf_o h3]
theorem mB4_7 {f g k : Nat} (x : Nat) : mB4 J f g k 1007 x = if x = g then 1 else J 1007 x := by
  unfold mB4 mClr
  rw [mPut_o (by decide), mRl_o (by decide), upI_at, mShf_o (by decide)]
theorem ret_K {f g k : Nat} (h : K1 L I J) (ct : Ct J) (hdp : J 1000 10 = nI (f + 1)) (hf : f < 5) (eg : J 1010 (4 * f + 2) = nI g) (hg : g < 6) (ek : J 1010 (4 * f + 3) = nI k) (hk : k ≤ 6) (hgood : mGd J f g (nI k) (asN J f 0 7) 1 6 = true) :
    K1 (cFL L f g k) (cFJ I f g) (mLv (mB4 J f g k) f) ∧ Ct (mLv (mB4 J f g k) f) := by
  obtain ⟨⟨kp, kc, kg, kd, kf, kn⟩, ku, ks, kl, kt, kr⟩ := h
  have edp : dpt J = f + 1 := by unfold dpt; rw [hdp]; exact sm_tn (by omega)
  have efg : fgt J f = g := by unfold fgt; rw [eg]; exact sm_tn (by omega)
  have hgd := mGd_t 6 1 _ hgood
  have h2 : J 1007 g = 2 := by have := (kf f (by omega)).2.2.2.2; rw [efg] at this; exact this
  have h17 : gt J 7 0 = 1 := by
    have hn := (kn f (by omega)).1
    have h0n : ¬ nt J f 0 0 = 0 := by rw [hn.1]; decide
    have := hgd.1
    rw [asN_n h0n (kp 7 (by decide)).1 hn.2.1] at this
    have hh := (en_inj (kp 7 (by decide)).1 hn.2.1 h0n).mp (of_decide_eq_true this)
    rw [hh.1]; exact hn.1
  have hnum : ∀ q, k < q → q ≤ 6 → gt J q 0 = 0 := by
    intro q h1 h6
    have := hgd.2 q (by omega) (by omega)
    have nl : lnM J g (nI k) q = false := by
      unfold lnM
      rw [decide_eq_true ((nI_ltI (a := k) (b := q) (by omega) (by omega)).mpr h1)]; rfl
    rw [nl, if_neg (by decide)] at this
    exact of_decide_eq_true this
  have gm := mB4_gt (J := J) hf hg hk
  have hkp : Kp (cFL L f g k) (mB4 J f g k) := by
    unfold cFL mB4
    refine Kp_clr (cFl_K hf (7 - k) (k + 1) _ _ (by omega) ?_).1
    exact Kp_c rfl (upI_b (by decide)) (Kp_shf (t := 96 + g) kp (show 7 < 102 by decide))
  have h6 : cFL L f g k 6 = L 6 := by
    unfold cFL
    rw [upL_b (by decide), (cFl_K hf (7 - k) (k + 1) _ _ (by omega) (Kp_shf (t := 96 + g) kp (show 7 < 102 by decide))).2, upL_b (by decide), upL_b (by decide)]
  have o5 : ∀ x, x ≠ 1003 → x ≠ 1007 → x ≠ 1000 → mLv (mB4 J f g k) f x = J x := by
    intro x h3 h7 h0
    unfold mLv
    rw [upI_b h0, upI_b h0, upI_b h0, mB4_o h3 h7]
  have o7 : ∀ x, mLv (mB4 J f g k) f 1007 x = if x = g then 1 else J 1007 x := by
    intro x; unfold mLv; rw [upI_b (by decide), upI_b (by decide), upI_b (by decide), mB4_7]
  have o3 : mLv (mB4 J f g k) f 1003 = mB4 J f g k 1003 := by unfold mLv; rw [upI_b (by decide), upI_b (by decide), upI_b (by decide)]
  have od : mLv (mB4 J f g k) f 1000 10 = nI f := by unfold mLv; rw [upI_j (by decide), upI_j (by decide), upI_s]
  have hgt : ∀ x j, gt (mLv (mB4 J f g k) f) x j = gt (mB4 J f g k) x j := fun x j => by unfold gt; rw [o3]
  have hcc : ∀ c, ccn (mB4 J f g k) c 102 = ccn J c 102 := by
    intro c
    have z96 : gt J (96 + g) 0 = 0 := (kt g hg).2 (by rw [h2]; decide)
    have e1 : ccn (upI (mShf J 7 (96 + g)) 1007 g 1) c 102 = ccn J c 102 := by rw [ccn_up (by decide)]; exact ccn_shf (by decide) (by omega) (by omega) z96
    have e2 : ccn (mRl f (upI (mShf J 7 (96 + g)) 1007 g 1) (k + 1) (7 - k)) c 102 = ccn J c 102 := by
      rw [← e1]
      refine mRl_c hf (7 - k) (k + 1) _ (by omega) (fun y h1 h2 => ?_)
      rw [gt_up (by decide), gt_shf (by decide)]
      by_cases e : y = 7
      · rw [if_pos e]
      · rw [if_neg e, if_neg (by omega)]; exact hnum y (by omega) (by omega)
    have e3 : ccn (mB4 J f g k) c 102 + isS (mRl f (upI (mShf J 7 (96 + g)) 1007 g 1) (k + 1) (7 - k)) c (56 + 8 * f) = ccn (mRl f (upI (mShf J 7 (96 + g)) 1007 g 1) (k + 1) (7 - k)) c 102 + 0 := ccn_put (by omega)
    have e4 : isS (mRl f (upI (mShf J 7 (96 + g)) 1007 g 1) (k + 1) (7 - k)) c (56 + 8 * f) = 0 := by
      refine if_neg (fun z => ?_)
      have z1 := z.1
      rw [(mRl_gt hf (7 - k) (k + 1) _ (by omega) (56 + 8 * f) 0 (by decide)).2.2 (fun z => absurd z.2 (by omega)) (fun y h1 _ => by omega), gt_up (by decide), gt_shf (by decide), if_neg (by omega), if_neg (by omega)] at z1
      have := kr f hf 0 (by decide) (Or.inr (Nat.zero_le _))
      rw [Nat.add_zero] at this
      rw [this] at z1; exact absurd z1 (by decide)
    omega
  generalize hL' : cFL L f g k = L' at *
  generalize hJ' : mLv (mB4 J f g k) f = J' at *
  have ed : dpt J' = f := by unfold dpt; rw [od]; exact sm_tn (by omega)
  have o10 := o5 1010 (by decide) (by decide) (by decide)
  have o11 := o5 1011 (by decide) (by decide) (by decide)
  have o9 := o5 1009 (by decide) (by decide) (by decide)
  have I4 : cFJ I f g 4 10 = nI f := by unfold cFJ; rw [upI_s]
  have I8 : ∀ x, cFJ I f g 8 x = if x = g then 1 else I 8 x := by
    intro x; unfold cFJ; rw [upI_b (by decide), upI_b (by decide), upI_b (by decide), upI_at]
  have Io : ∀ x, x ≠ 4 → x ≠ 8 → cFJ I f g x = I x := by
    intro x h4 h8; unfold cFJ; rw [upI_b h4, upI_b h4, upI_b h4, upI_b h8]
  have hfg : ∀ f', f' < f → fgt J f' ≠ g := by
    intro f' hf' e
    have e1 : J 1010 (4 * f' + 2) = J 1010 (4 * f + 2) := by
      rw [eg]; have := (kf f' (by omega)).2.2.1.1; rw [this]; exact congrArg nI e
    have := ku f' f (by omega) (by omega) e1
    omega
  have hor : orig J J' := by
    intro x hx
    by_cases c1 : x = 96 + g
    · right; exact ⟨7, by decide, fun j hj => by rw [hgt, c1]; exact (gm j hj).1⟩
    by_cases c2 : x < k + 1
    · right; exact ⟨x, hx, fun j hj => by rw [hgt]; exact (gm j hj).2.1 x c2⟩
    by_cases c3 : x < 8
    · right; exact ⟨56 + 8 * f + x, by omega, fun j hj => by rw [hgt]; exact (gm j hj).2.2.1 x (by omega) c3⟩
    by_cases c5 : ∃ y, y < 8 ∧ x = 56 + 8 * f + y
    · obtain ⟨y, hy, rfl⟩ := c5
      by_cases c6 : y = 0 ∨ k < y
      · left; rw [hgt]; exact (gm 0 (by decide)).2.2.2.1 y hy c6
      · right; exact ⟨_, hx, fun j hj => by rw [hgt]; exact (gm j hj).2.2.2.2.1 y (by omega) (by omega)⟩
    · right; exact ⟨x, hx, fun j hj => by rw [hgt]; exact (gm j hj).2.2.2.2.2 x (by omega) c1 (fun y hy e => c5 ⟨y, hy, e⟩)⟩
  refine ⟨⟨⟨?_, ?_, fun x hx => ?_, ⟨?_, ?_⟩, fun f' hf' => ?_, fun f' hf' => ?_⟩, ?_, ?_, ?_, fun x hx => ?_, fun f' hf' q hq => ?_⟩, ?_⟩
  · exact Kp_c rfl o3 hkp
  · unfold Kc; rw [Io 7 (by decide) (by decide), o5 1004 (by decide) (by decide) (by decide)]; exact kc
  · rw [I8, Io 9 (by decide) (by decide), Io 10 (by decide) (by decide), o7, o5 1008 (by decide) (by decide) (by decide), o9]
    by_cases e : x = g
    · rw [if_pos e, if_pos e, e]
      refine ⟨rfl, Or.inr ⟨Or.inl rfl, ?_⟩⟩
      rcases (kg g hg).2 with z | z
      · rw [h2] at z; exact absurd z.1 (by decide)
      · exact z.2
    · rw [if_neg e, if_neg e]; exact kg x hx
  · rw [I4, od]
  · rw [od]; exact sm_nI (by omega) (by decide)
  · rw [ed] at hf'
    have e1 : fgt J' f' = fgt J f' := by unfold fgt; rw [o10]
    rw [Io 11 (by decide) (by decide), Io 12 (by decide) (by decide), Io 13 (by decide) (by decide), Io 14 (by decide) (by decide), e1, o10, o7, if_neg (hfg f' hf')]
    exact kf f' (by omega)
  · rw [ed] at hf'
    have e1 : fgt J' f' = fgt J f' := by unfold fgt; rw [o10]
    have hn := kn f' (by omega)
    have el : ∀ q, lnM J' (fgt J f') (J 1010 (4 * f' + 3)) q = lnM J (fgt J f') (J 1010 (4 * f' + 3)) q := fun q => by unfold lnM; rw [o9]
    rw [e1, o10]
    unfold vln enn nt at *
    rw [o11, h6]
    refine ⟨hn.1, fun q q1 q2 => ⟨(hn.2 q q1 q2).1, ?_⟩⟩
    rw [el]; exact (hn.2 q q1 q2).2
  · intro x y hx hy
    rw [ed] at hx hy
    rw [o10]; exact ku x y (by omega) (by omega)
  · refine orig_s hor (fun x hx hn => ?_) kp ks
    rw [o7]; split
    · decide
    · exact hn
  · exact orig_l hor (o5 1005 (by decide) (by decide) (by decide)) (o5 1006 (by decide) (by decide) (by decide)) kl
  · rw [o7, hgt]
    by_cases e : x = g
    · rw [if_pos e, e, (gm 0 (by decide)).1]
      exact ⟨fun _ => h17, fun z => absurd rfl z⟩
    · rw [if_neg e, (gm 0 (by decide)).2.2.2.2.2 (96 + x) (by omega) (by omega) (fun y hy => by omega)]
      exact kt x hx
  · rw [ed, hgt, o10]
    intro z
    by_cases e : f' = f
    · subst e
      by_cases c6 : q = 0 ∨ k < q
      · exact (gm 0 (by decide)).2.2.2.1 q hq c6
      · rw [(gm 0 (by decide)).2.2.2.2.1 q (by omega) (by omega)]
        exact kr f' hf q hq (Or.inr (by rw [ek, sm_tn (by omega)]; omega))
    · rw [(gm 0 (by decide)).2.2.2.2.2 (56 + 8 * f' + q) (by omega) (by omega) (fun y hy => by omega)]
      exact kr f' hf' q hq (z.elim (fun z => Or.inl (by omega)) Or.inr)
  · intro c hc
    rw [o5 1004 (by decide) (by decide) (by decide), ct c hc, ← hcc c]
    exact congrArg nI (ccn_ext 102 (fun p _ => by unfold isS; rw [hgt, hgt])).symm
theorem sim_17 {f g k : Nat} (h : KR L I J) (hdp : J 1000 10 = nI (f + 1)) (hf : f < 5) (eg : J 1010 (4 * f + 2) = nI g) (hg : g < 6) (ek : J 1010 (4 * f + 3) = nI k) (hk : k ≤ 6) : KK (oRet L I f g k).2.1 (rF (oRet L I f g k)) (mQ 17 (mRet J f g k)) := by
  have edp : dpt J = f + 1 := by unfold dpt; rw [hdp]; exact sm_tn (by omega)
  have efg : fgt J f = g := by unfold fgt; rw [eg]; exact sm_tn (by omega)
  have hn := (h.1.1.2.2.2.2.2 f (by omega)).1
  have h0n : ¬ nt J f 0 0 = 0 := by rw [hn.1]; decide
  have hv7 := K_v h.1 (show 7 < 102 by decide)
  unfold oRet mRet
  rw [K_k h.1 (by decide), hv7.2, hn.2.2, ← asN_n h0n hv7.1 hn.2.1]
  by_cases h0 : gt J 0 0 = 0
  · rw [if_neg (not_not_intro h0), decide_eq_true h0, Bool.true_and]
    have e1 : cCl L f (asN J f 0 7) 1 6 = mGd J f g (nI k) (asN J f 0 7) 1 6 := cCl_eq 6 1 _ (fun y h1 h2 => by
      have := okr_eq h.1 (f := f) (q := y) (by omega) h1 (by omega)
      rw [efg, ek] at this; exact this)
    rw [e1]
    cases hgood : mGd J f g (nI k) (asN J f 0 7) 1 6
    · rw [if_pos rfl, if_pos rfl]; exact finF h (by decide)
    · rw [if_neg (by decide), if_neg (by decide)]
      have kk := ret_K h.1 h.2.1 hdp hf eg hg ek hk hgood
      have hfr := h.1.1.2.2.2.2.1 f (by omega)
      refine finS kk.1 kk.2 ⟨?_, ?_⟩ ?_ ?_ ?_
      · show cFJ I f g 4 11 = mLv (mB4 J f g k) f 1000 13
        unfold cFJ mLv
        rw [upI_j (by decide), upI_j (by decide), upI_s, upI_j (by decide), upI_s, mB4_o (by decide) (by decide)]
        exact hfr.1.2.1
      · show sm (mLv (mB4 J f g k) f 1000 13) 3
        unfold mLv
        rw [upI_j (by decide), upI_s, mB4_o (by decide) (by decide)]
        exact hfr.2.1
      · rw [if_pos (Or.inl rfl)]
        show cFJ I f g 4 12 = mLv (mB4 J f g k) f 1000 14
        unfold cFJ mLv
        rw [upI_j (by decide), upI_s, upI_s, mB4_o (by decide) (by decide)]
        exact hfr.1.1
      · show cFJ I f g 4 13 + 1 = mLv (mB4 J f g k) f 1000 16
        unfold cFJ mLv
        rw [upI_j (by decide), upI_j (by decide), upI_j (by decide), upI_b (by decide), upI_j (by decide), upI_j (by decide), upI_j (by decide), mB4_o (by decide) (by decide)]
        exact h.2.2.2.2.1
      · unfold cFJ
        rw [upI_j (by decide), upI_j (by decide), upI_j (by decide), upI_b (by decide)]
        exact h.2.2.2.2.2
  · rw [if_pos h0, decide_eq_false h0, Bool.false_and, cCl_f, if_pos rfl]; exact finF h (by decide)
end SIMW

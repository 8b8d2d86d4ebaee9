/-! call agrees -/
section SIMV
variable {L : LT} {I J : IT} {a : Nat}
/-- where the values of the places come from -/
def orig (J J' : IT) : Prop := ∀ x, x < 102 → gt J' x 0 = 0 ∨ ∃ y, y < 102 ∧ ∀ j, j < 5 → gt J' x j = gt J y j
theorem orig_s {J J' : IT} (h : orig J J') (h7 : ∀ g, g < 6 → ¬ J 1007 g = 0 → ¬ J' 1007 g = 0) (kp : Kp L J) (ks : Ks J) : Ks J' := by
  intro x hx h3
  rcases h x hx with z | ⟨y, hy, e⟩
  · rw [z] at h3; exact absurd h3 (by decide)
  · rw [e 0 (by decide)] at h3
    rw [e 4 (by decide)]
    exact h7 _ (vl_3 (kp y hy).1 h3).2.2.2.2 (ks y hy h3)
theorem orig_l {J J' : IT} (h : orig J J') (h5 : J' 1005 = J 1005) (h6 : J' 1006 = J 1006) (kl : Kl J) : Kl J' := by
  intro x hx h2
  rcases h x hx with z | ⟨y, hy, e⟩
  · rw [z] at h2; exact absurd h2 (by decide)
  · rw [e 0 (by decide)] at h2
    rw [e 1 (by decide), e 2 (by decide), e 4 (by decide), h5, h6]
    exact kl y hy h2
theorem mMv_gt {g dp k' : Nat} (hd : dp < 5) (hg : g < 6) (hk : k' ≤ 6) : ∀ j, j < 5 →
    gt (mMv J g (nI k') dp) (96 + g) j = 0 ∧ gt (mMv J g (nI k') dp) 7 j = gt J (96 + g) j ∧
    (∀ x, x < 7 → mv (nI k') x → gt (mMv J g (nI k') dp) x j = 0) ∧ (∀ x, x < 7 → ¬ mv (nI k') x → gt (mMv J g (nI k') dp) x j = gt J x j) ∧
    (∀ y, y < 8 → mv (nI k') y → gt (mMv J g (nI k') dp) (56 + 8 * dp + y) j = gt J y j) ∧
    (∀ y, y < 8 → ¬ mv (nI k') y → gt (mMv J g (nI k') dp) (56 + 8 * dp + y) j = gt J (56 + 8 * dp + y) j) ∧
    (∀ x, 8 ≤ x → x ≠ 96 + g → (∀ y, y < 8 → x ≠ 56 + 8 * dp + y) → gt (mMv J g (nI k') dp) x j = gt J x j) := by
  intro j hj
  unfold mMv
  have e0 : ∀ x, gt (mNr dp (mNot (mFr J g (nI k') dp) dp 0 (96 + g)) 1 6) x j = gt J x j := by
    intro x
    unfold gt mFr
    rw [mNr_o (by decide), mNot_o (by decide), upI_b (by decide), upI_b (by decide), upI_b (by decide), upI_b (by decide)]
  generalize mNr dp (mNot (mFr J g (nI k') dp) dp 0 (96 + g)) 1 6 = J3 at e0 ⊢
  have hs := fun x => mSl_gt (k := nI k') hd 8 0 J3 rfl x j hj
  have hs' := fun x => mSl_gt (k := nI k') hd 8 0 J3 rfl x j hj
  have m7 : mv (nI k') 7 := Or.inr ((nI_ltI (by omega) (by decide)).mpr (by omega))
  have eg : gt (mSl dp (nI k') J3 0 8) (96 + g) j = gt J (96 + g) j := by
    rw [(hs (96 + g)).2.2 (fun z => absurd z.2.1 (by omega)) (fun y _ _ _ => by omega), e0]
  refine ⟨?_, ?_, fun x hx hm => ?_, fun x hx hm => ?_, fun y hy hm => ?_, fun y hy hm => ?_, fun x hx h1 h2 => ?_⟩
  · rw [gt_shf hj, if_pos rfl]
  · rw [gt_shf hj, if_neg (by omega), if_pos rfl, eg]
  · rw [gt_shf hj, if_neg (by omega), if_neg (by omega), (hs x).1 ⟨Nat.zero_le x, by omega, hm⟩]
  · rw [gt_shf hj, if_neg (by omega), if_neg (by omega), (hs x).2.2 (fun z => hm z.2.2) (fun y _ _ _ => by omega), e0]
  · rw [gt_shf hj, if_neg (by omega), if_neg (by omega), (hs 0).2.1 y (Nat.zero_le y) hy hm, e0]
  · rw [gt_shf hj, if_neg (by omega), if_neg (by omega), (hs (56 + 8 * dp + y)).2.2 (fun z => absurd z.2.1 (by omega)) (fun z _ _ hz e => hm (by rw [show y = z by omega]; exact hz)), e0]
  · rw [gt_shf hj, if_neg h1, if_neg (by omega), (hs x).2.2 (fun z => absurd z.2.1 (by omega)) (fun y _ hy _ => h2 y hy), e0]
theorem mMv_o {g dp : Nat} {k : Int32} {x : Nat} (h3 : x ≠ 1003) (h10 : x ≠ 1010) (h11 : x ≠ 1011) : mMv J g k dp x = J x := by
  unfold mMv mFr
  rw [mShf_o h3, mSl_o h3, mNr_o h11, mNot_o h11, upI_b h10, upI_b h10, upI_b h10, upI_b h10]
theorem mMv_10 {g dp : Nat} {k : Int32} (i : Nat) : mMv J g k dp 1010 i = if i = 4 * dp + 3 then k else if i = 4 * dp + 2 then nI g else if i = 4 * dp + 1 then J 1000 13 else if i = 4 * dp then J 1000 14 + 1 else J 1010 i := by
  unfold mMv mFr
  rw [mShf_o (by decide), mSl_o (by decide), mNr_o (by decide), mNot_o (by decide), upI_at, upI_at, upI_at, upI_at]
theorem mMv_nt {g dp : Nat} {k : Int32} {f q j : Nat} (hj : j < 5) (hq : q < 7) : nt (mMv J g k dp) f q j = if f = dp then (if q = 0 then gt J (96 + g) j else gt J q j) else nt J f q j := by
  have e1 : nt (mMv J g k dp) f q j = nt (mNr dp (mNot (mFr J g k dp) dp 0 (96 + g)) 1 6) f q j := by
    unfold nt mMv; rw [mShf_o (by decide), mSl_o (by decide)]
  have e2 : ∀ x, gt (mNot (mFr J g k dp) dp 0 (96 + g)) x j = gt J x j := by
    intro x; unfold gt mFr; rw [mNot_o (by decide), upI_b (by decide), upI_b (by decide), upI_b (by decide), upI_b (by decide)]
  have e3 : ∀ x, gt (mFr J g k dp) x j = gt J x j := by
    intro x; unfold gt mFr; rw [upI_b (by decide), upI_b (by decide), upI_b (by decide), upI_b (by decide)]
  have e4 : nt (mFr J g k dp) f q j = nt J f q j := by
    unfold nt mFr; rw [upI_b (by decide), upI_b (by decide), upI_b (by decide), upI_b (by decide)]
  rw [e1, nt_nr 6 1 _ f q j hj hq rfl, nt_not hj (by decide) hq, e2, e3, e4]
  by_cases e : f = dp
  · rw [if_pos e]
    by_cases z : q = 0
    · rw [if_neg (by omega), if_pos ⟨e, z⟩, if_pos z]
    · rw [if_pos ⟨e, by omega⟩, if_neg z]
  · rw [if_neg e, if_neg (fun z => e z.1), if_neg (fun z => e z.1)]
theorem call_K {g dp k' : Nat} {ob : Int32} (h : K1 L I J) (ct : Ct J) (hm : I 4 11 = J 1000 13 ∧ sm (J 1000 13) 3) (hob : ob = J 1000 14 + 1) (hg : g < 6) (h7 : J 1007 g = 1) (hdp : J 1000 10 = nI dp) (hd : dp < 5) (hk : k' ≤ 6) (h0 : gt J 0 0 = 0) :
    K1 (oFL L I g (nI k') ob dp) (oFJ I g (nI k') ob dp) (mEn (mMv J g (nI k') dp) g) ∧ Ct (mEn (mMv J g (nI k') dp) g) := by
  obtain ⟨⟨kp, kc, kg, kd, kf, kn⟩, ku, ks, kl, kt, kr⟩ := h
  have edp : dpt J = dp := by unfold dpt; rw [hdp]; exact sm_tn (by omega)
  have gm := mMv_gt (J := J) (k' := k') hd hg hk
  have m7 : mv (nI k') 7 := Or.inr ((nI_ltI (by omega) (by decide)).mpr (by omega))
  -- places of both
  have hkp : Kp (oFL L I g (nI k') ob dp) (mMv J g (nI k') dp) := by
    unfold oFL mMv
    have k3 : Kp (wNo L (oFI I g (nI k') ob dp) g (nI k') dp) (mNr dp (mNot (mFr J g (nI k') dp) dp 0 (96 + g)) 1 6) := by
      refine Kp_c ?_ ?_ kp
      · unfold wNo; rw [wNl_5, upL_b (by decide)]
      · unfold mFr; rw [mNr_o (by decide), mNot_o (by decide), upI_b (by decide), upI_b (by decide), upI_b (by decide), upI_b (by decide)]
    have k4 := (oFl_K (k := nI k') hd 8 0 _ _ rfl k3).1
    exact Kp_shf (t := 7) k4 (show 96 + g < 102 by omega)
  -- the notes of the class
  have h6 : oFL L I g (nI k') ob dp 6 = wNo L (oFI I g (nI k') ob dp) g (nI k') dp 6 := by
    unfold oFL oFM
    rw [upL_b (by decide), upL_b (by decide)]
    exact (oFl_K (k := nI k') hd 8 0 _ J rfl (Kp_c (by unfold wNo; rw [wNl_5, upL_b (by decide)]) rfl kp)).2
  have n0 : oFL L I g (nI k') ob dp 6 (7 * dp) = L 5 (96 + g) := by
    rw [h6]; unfold wNo
    rw [(wNl_6 6 1 _ (7 * dp)).2 (fun y _ _ => by omega), upL_at, if_pos rfl]
  have nq : ∀ q, 1 ≤ q → q ≤ 6 → oFL L I g (nI k') ob dp 6 (7 * dp + q) = if lnt (oFI I g (nI k') ob dp) g (nI k') q = true then L 5 q else 0 := by
    intro q h1 h2
    rw [h6]; unfold wNo
    rw [(wNl_6 6 1 _ 0).1 q h1 (by omega), upL_b (by decide)]
  have no : ∀ f q, f < dp → q < 7 → oFL L I g (nI k') ob dp 6 (7 * f + q) = L 6 (7 * f + q) := by
    intro f q hf hq
    rw [h6]; unfold wNo
    rw [(wNl_6 6 1 _ _).2 (fun y _ _ => by omega), upL_at, if_neg (by omega)]
  have hln : ∀ q, lnt (oFI I g (nI k') ob dp) g (nI k') q = lnM J g (nI k') q := by
    intro q
    have e1 : oFI I g (nI k') ob dp 10 g = I 10 g := by unfold oFI; rw [upI_b (by decide), upI_b (by decide), upI_b (by decide), upI_b (by decide)]
    have e2 : I 10 g = J 1009 g := by
      rcases (kg g hg).2 with z | z
      · rw [h7] at z; exact absurd z.1 (by decide)
      · exact z.2.2.1
    unfold lnt lnM
    rw [e1, e2]
  -- the reference's other cells
  have o5 : ∀ x, x ≠ 1003 → x ≠ 1010 → x ≠ 1011 → x ≠ 1007 → x ≠ 1000 → mEn (mMv J g (nI k') dp) g x = J x := by
    intro x h3 h10 h11 h7 h0
    unfold mEn
    rw [upI_b h0, upI_b h0, upI_b h0, upI_b h7, mMv_o h3 h10 h11]
  have o7 : ∀ x, mEn (mMv J g (nI k') dp) g 1007 x = if x = g then 2 else J 1007 x := by
    intro x; unfold mEn; rw [upI_b (by decide), upI_b (by decide), upI_b (by decide), upI_at, mMv_o (by decide) (by decide) (by decide)]
  have o10 : mEn (mMv J g (nI k') dp) g 1010 = mMv J g (nI k') dp 1010 := by unfold mEn; rw [upI_b (by decide), upI_b (by decide), upI_b (by decide), upI_b (by decide)]
  have o11 : mEn (mMv J g (nI k') dp) g 1011 = mMv J g (nI k') dp 1011 := by unfold mEn; rw [upI_b (by decide), upI_b (by decide), upI_b (by decide), upI_b (by decide)]
  have o3 : mEn (mMv J g (nI k') dp) g 1003 = mMv J g (nI k') dp 1003 := by unfold mEn; rw [upI_b (by decide), upI_b (by decide), upI_b (by decide), upI_b (by decide)]
  have od : mEn (mMv J g (nI k') dp) g 1000 10 = nI (dp + 1) := by
    unfold mEn; rw [upI_j (by decide), upI_j (by decide), upI_s, mMv_o (by decide) (by decide) (by decide), hdp, nI_1]
  have hgt : ∀ x j, gt (mEn (mMv J g (nI k') dp) g) x j = gt (mMv J g (nI k') dp) x j := fun x j => by unfold gt; rw [o3]
  have hnt : ∀ f q j, nt (mEn (mMv J g (nI k') dp) g) f q j = nt (mMv J g (nI k') dp) f q j := fun f q j => by unfold nt; rw [o11]
  have f10 : ∀ i, mEn (mMv J g (nI k') dp) g 1010 i = if i = 4 * dp + 3 then nI k' else if i = 4 * dp + 2 then nI g else if i = 4 * dp + 1 then J 1000 13 else if i = 4 * dp then J 1000 14 + 1 else J 1010 i := fun i => by rw [o10, mMv_10]
  have hcc : ∀ c, ccn (mMv J g (nI k') dp) c 102 = ccn J c 102 := by
    intro c
    have e3 : ∀ x j, gt (mNr dp (mNot (mFr J g (nI k') dp) dp 0 (96 + g)) 1 6) x j = gt J x j := by
      intro x j; unfold gt mFr
      rw [mNr_o (by decide), mNot_o (by decide), upI_b (by decide), upI_b (by decide), upI_b (by decide), upI_b (by decide)]
    have e4 : ccn (mNr dp (mNot (mFr J g (nI k') dp) dp 0 (96 + g)) 1 6) c 102 = ccn J c 102 := ccn_ext 102 (fun p _ => by unfold isS; rw [e3, e3])
    unfold mMv
    rw [← e4]
    rw [ccn_shf (by omega) (by decide) (by omega) ((mSl_gt hd 8 0 _ rfl 7 0 (by decide)).1 ⟨by omega, by omega, m7⟩)]
    exact mSl_c hd 8 0 _ rfl (fun y _ hy => by rw [e3]; exact kr dp hd y hy (Or.inl (by omega)))
  generalize hL' : oFL L I g (nI k') ob dp = L' at *
  generalize hJ' : mEn (mMv J g (nI k') dp) g = J' at *
  have ed : dpt J' = dp + 1 := by unfold dpt; rw [od]; exact sm_tn (by omega)
  have I4 : oFJ I g (nI k') ob dp 4 10 = nI (dp + 1) := by
    unfold oFJ; rw [upI_s, kd.1, hdp, nI_1]
  have I8 : ∀ x, oFJ I g (nI k') ob dp 8 x = if x = g then 2 else I 8 x := by
    intro x; unfold oFJ oFI; rw [upI_b (by decide), upI_b (by decide), upI_b (by decide), upI_at, upI_b (by decide), upI_b (by decide), upI_b (by decide), upI_b (by decide)]
  have I9 : oFJ I g (nI k') ob dp 9 = I 9 := by
    unfold oFJ oFI; rw [upI_b (by decide), upI_b (by decide), upI_b (by decide), upI_b (by decide), upI_b (by decide), upI_b (by decide), upI_b (by decide), upI_b (by decide)]
  have I10 : oFJ I g (nI k') ob dp 10 = I 10 := by
    unfold oFJ oFI; rw [upI_b (by decide), upI_b (by decide), upI_b (by decide), upI_b (by decide), upI_b (by decide), upI_b (by decide), upI_b (by decide), upI_b (by decide)]
  have I7 : oFJ I g (nI k') ob dp 7 = I 7 := by
    unfold oFJ oFI; rw [upI_b (by decide), upI_b (by decide), upI_b (by decide), upI_b (by decide), upI_b (by decide), upI_b (by decide), upI_b (by decide), upI_b (by decide)]
  have I11 : ∀ x, oFJ I g (nI k') ob dp 11 x = if x = dp then ob else I 11 x := by
    intro x; unfold oFJ oFI; rw [upI_b (by decide), upI_b (by decide), upI_b (by decide), upI_b (by decide), upI_b (by decide), upI_b (by decide), upI_b (by decide), upI_at]
  have I12 : ∀ x, oFJ I g (nI k') ob dp 12 x = if x = dp then I 4 11 else I 12 x := by
    intro x; unfold oFJ oFI; rw [upI_b (by decide), upI_b (by decide), upI_b (by decide), upI_b (by decide), upI_b (by decide), upI_b (by decide), upI_at, upI_b (by decide)]
  have I13 : ∀ x, oFJ I g (nI k') ob dp 13 x = if x = dp then nI g else I 13 x := by
    intro x; unfold oFJ oFI; rw [upI_b (by decide), upI_b (by decide), upI_b (by decide), upI_b (by decide), upI_b (by decide), upI_at, upI_b (by decide), upI_b (by decide)]
  have I14 : ∀ x, oFJ I g (nI k') ob dp 14 x = if x = dp then nI k' else I 14 x := by
    intro x; unfold oFJ oFI; rw [upI_b (by decide), upI_b (by decide), upI_b (by decide), upI_b (by decide), upI_at, upI_b (by decide), upI_b (by decide), upI_b (by decide)]
  have fa : ∀ f, f ≠ dp → J' 1010 (4 * f) = J 1010 (4 * f) ∧ J' 1010 (4 * f + 1) = J 1010 (4 * f + 1) ∧ J' 1010 (4 * f + 2) = J 1010 (4 * f + 2) ∧ J' 1010 (4 * f + 3) = J 1010 (4 * f + 3) := by
    intro f hf
    refine ⟨?_, ?_, ?_, ?_⟩ <;> rw [f10, if_neg (by omega), if_neg (by omega), if_neg (by omega), if_neg (by omega)]
  have fb : J' 1010 (4 * dp) = J 1000 14 + 1 ∧ J' 1010 (4 * dp + 1) = J 1000 13 ∧ J' 1010 (4 * dp + 2) = nI g ∧ J' 1010 (4 * dp + 3) = nI k' := by
    refine ⟨?_, ?_, ?_, ?_⟩
    · rw [f10, if_neg (by omega), if_neg (by omega), if_neg (by omega), if_pos rfl]
    · rw [f10, if_neg (by omega), if_neg (by omega), if_pos rfl]
    · rw [f10, if_neg (by omega), if_pos rfl]
    · rw [f10, if_pos rfl]
  have hor : orig J J' := by
    intro x hx
    by_cases c1 : x = 96 + g
    · left; rw [hgt, c1]; exact (gm 0 (by decide)).1
    by_cases c2 : x = 7
    · right; exact ⟨96 + g, by omega, fun j hj => by rw [hgt, c2]; exact (gm j hj).2.1⟩
    by_cases c3 : x < 7
    · by_cases c4 : mv (nI k') x
      · left; rw [hgt]; exact (gm 0 (by decide)).2.2.1 x c3 c4
      · right; exact ⟨x, hx, fun j hj => by rw [hgt]; exact (gm j hj).2.2.2.1 x c3 c4⟩
    by_cases c5 : ∃ y, y < 8 ∧ x = 56 + 8 * dp + y
    · obtain ⟨y, hy, rfl⟩ := c5
      by_cases c6 : mv (nI k') y
      · right; exact ⟨y, by omega, fun j hj => by rw [hgt]; exact (gm j hj).2.2.2.2.1 y hy c6⟩
      · right; exact ⟨_, hx, fun j hj => by rw [hgt]; exact (gm j hj).2.2.2.2.2.1 y hy c6⟩
    · right; exact ⟨x, hx, fun j hj => by rw [hgt]; exact (gm j hj).2.2.2.2.2.2 x (by omega) c1 (fun y hy e => c5 ⟨y, hy, e⟩)⟩
  refine ⟨⟨⟨?_, ?_, fun x hx => ?_, ⟨?_, ?_⟩, fun f hf => ?_, fun f hf => ?_⟩, ?_, ?_, ?_, fun x hx => ?_, fun f hf q hq => ?_⟩, ?_⟩
  · exact Kp_c rfl o3 hkp
  · unfold Kc; rw [I7, o5 1004 (by decide) (by decide) (by decide) (by decide) (by decide)]; exact kc
  · rw [I8, I9, I10, o7, o5 1008 (by decide) (by decide) (by decide) (by decide) (by decide), o5 1009 (by decide) (by decide) (by decide) (by decide) (by decide)]
    by_cases e : x = g
    · rw [if_pos e, if_pos e, e]
      refine ⟨rfl, Or.inr ⟨Or.inr rfl, ?_⟩⟩
      rcases (kg g hg).2 with z | z
      · rw [h7] at z; exact absurd z.1 (by decide)
      · exact z.2
    · rw [if_neg e, if_neg e]; exact kg x hx
  · rw [I4, od]
  · rw [od]; exact sm_nI (by omega) (by decide)
  · rw [ed] at hf
    by_cases e : f = dp
    · subst e
      have efg : fgt J' f = g := by unfold fgt; rw [fb.2.2.1]; exact sm_tn (by omega)
      rw [I11, I12, I13, I14, if_pos rfl, if_pos rfl, if_pos rfl, if_pos rfl, fb.1, fb.2.1, fb.2.2.1, fb.2.2.2, efg, o7, if_pos rfl]
      exact ⟨⟨hob, hm.1, rfl, rfl⟩, hm.2, sm_nI hg (by decide), sm_nI (by omega) (by decide), rfl⟩
    · have fe := fa f e
      have efg : fgt J' f = fgt J f := by unfold fgt; rw [fe.2.2.1]
      rw [I11, I12, I13, I14, if_neg e, if_neg e, if_neg e, if_neg e, fe.1, fe.2.1, fe.2.2.1, fe.2.2.2, efg, o7]
      have := kf f (by omega)
      refine ⟨this.1, this.2.1, this.2.2.1, this.2.2.2.1, ?_⟩
      split
      · rfl
      · exact this.2.2.2.2
  · rw [ed] at hf
    have hvn : ∀ q, q < 7 → vln J' f q = if f = dp then (if q = 0 then vlp J (96 + g) else vlp J q) else vln J f q := by
      intro q hq
      unfold vln vlp
      rw [hnt, hnt, hnt, hnt, hnt, mMv_nt (by decide) hq, mMv_nt (by decide) hq, mMv_nt (by decide) hq, mMv_nt (by decide) hq, mMv_nt (by decide) hq]
      by_cases e : f = dp
      · rw [if_pos e, if_pos e, if_pos e, if_pos e, if_pos e, if_pos e]
        by_cases z : q = 0
        · rw [if_pos z, if_pos z, if_pos z, if_pos z, if_pos z, if_pos z]
        · rw [if_neg z, if_neg z, if_neg z, if_neg z, if_neg z, if_neg z]
      · rw [if_neg e, if_neg e, if_neg e, if_neg e, if_neg e, if_neg e]
    have hen : ∀ q, q < 7 → enn J' f q = if f = dp then (if q = 0 then enp J (96 + g) else enp J q) else enn J f q := by
      intro q hq
      unfold enn enp
      rw [hnt, hnt, hnt, hnt, hnt, mMv_nt (by decide) hq, mMv_nt (by decide) hq, mMv_nt (by decide) hq, mMv_nt (by decide) hq, mMv_nt (by decide) hq]
      by_cases e : f = dp
      · rw [if_pos e, if_pos e, if_pos e, if_pos e, if_pos e, if_pos e]
        by_cases z : q = 0
        · rw [if_pos z, if_pos z, if_pos z, if_pos z, if_pos z, if_pos z]
        · rw [if_neg z, if_neg z, if_neg z, if_neg z, if_neg z, if_neg z]
      · rw [if_neg e, if_neg e, if_neg e, if_neg e, if_neg e, if_neg e]
    have hl9 : J' 1009 = J 1009 := o5 1009 (by decide) (by decide) (by decide) (by decide) (by decide)
    by_cases e : f = dp
    · subst e
      have efg : fgt J' f = g := by unfold fgt; rw [fb.2.2.1]; exact sm_tn (by omega)
      refine ⟨⟨?_, ?_, ?_⟩, fun q q1 q2 => ⟨?_, ?_⟩⟩
      · rw [hnt, mMv_nt (by decide) (by decide), if_pos rfl, if_pos rfl]
        exact (kt g hg).1 h7
      · rw [hvn 0 (by decide), if_pos rfl, if_pos rfl]; exact (kp _ (by omega)).1
      · rw [hen 0 (by decide), if_pos rfl, if_pos rfl, n0]; exact (kp _ (by omega)).2
      · have hvn' := hvn q (by omega)
        rw [if_pos rfl, if_neg (show ¬ q = 0 by omega)] at hvn'
        rw [hvn']; exact (kp _ (by omega)).1
      · have hen' := hen q (by omega)
        rw [if_pos rfl, if_neg (show ¬ q = 0 by omega)] at hen'
        rw [hen', nq q q1 q2, hln, efg, fb.2.2.2, (kp q (by omega)).2]
        unfold lnM; rw [hl9]
    · have fe := fa f e
      have efg : fgt J' f = fgt J f := by unfold fgt; rw [fe.2.2.1]
      have hn := kn f (by omega)
      refine ⟨⟨?_, ?_, ?_⟩, fun q q1 q2 => ⟨?_, ?_⟩⟩
      · rw [hnt, mMv_nt (by decide) (by decide), if_neg e]; exact hn.1.1
      · rw [hvn 0 (by decide), if_neg e]; exact hn.1.2.1
      · rw [hen 0 (by decide), if_neg e]
        have := no f 0 (by omega) (by decide)
        exact this.trans hn.1.2.2
      · rw [hvn q (by omega), if_neg e]; exact (hn.2 q q1 q2).1
      · rw [hen q (by omega), if_neg e, no f q (by omega) (by omega), (hn.2 q q1 q2).2, efg, fe.2.2.2]
        unfold lnM; rw [hl9]
  · intro f f' hf hf' he
    rw [ed] at hf hf'
    have hd2 : ∀ x, x < dp → J 1010 (4 * x + 2) ≠ nI g := by
      intro x hx e
      have := (kf x (by omega)).2.2.2.2
      unfold fgt at this
      rw [e, sm_tn (by omega), h7] at this; exact absurd this (by decide)
    by_cases e : f = dp
    · by_cases e' : f' = dp
      · omega
      · rw [e, fb.2.2.1, (fa f' e').2.2.1] at he
        exact absurd he.symm (hd2 f' (by omega))
    · by_cases e' : f' = dp
      · rw [e', fb.2.2.1, (fa f e).2.2.1] at he
        exact absurd he (hd2 f (by omega))
      · rw [(fa f e).2.2.1, (fa f' e').2.2.1] at he
        exact ku f f' (by omega) (by omega) he
  · refine orig_s hor (fun x hx hn => ?_) kp ks
    rw [o7]; split
    · decide
    · exact hn
  · exact orig_l hor (o5 1005 (by decide) (by decide) (by decide) (by decide) (by decide)) (o5 1006 (by decide) (by decide) (by decide) (by decide) (by decide)) kl
  · rw [o7, hgt]
    by_cases e : x = g
    · rw [if_pos e, e]
      exact ⟨fun z => absurd z (by decide), fun _ => (gm 0 (by decide)).1⟩
    · rw [if_neg e, (gm 0 (by decide)).2.2.2.2.2.2 (96 + x) (by omega) (by omega) (fun y hy => by omega)]
      exact kt x hx
  · rw [ed, hgt]
    by_cases e : f = dp
    · subst e
      rw [fb.2.2.2, sm_tn (by omega)]
      intro z
      have hq' : q ≤ k' := by omega
      by_cases q0 : q = 0
      · subst q0
        rw [(gm 0 (by decide)).2.2.2.2.1 0 (by decide) (Or.inl rfl)]; exact h0
      · have nm : ¬ mv (nI k') q := fun z => z.elim q0 (fun z => absurd ((nI_ltI (by omega) (by omega)).mp z) (by omega))
        rw [(gm 0 (by decide)).2.2.2.2.2.1 q hq nm]
        exact kr f hf q hq (Or.inl (by omega))
    · rw [(fa f e).2.2.2, (gm 0 (by decide)).2.2.2.2.2.2 (56 + 8 * f + q) (by omega) (by omega) (fun y hy => by omega)]
      intro z
      exact kr f hf q hq (z.elim (fun z => Or.inl (by omega)) Or.inr)
  · intro c hc
    rw [o5 1004 (by decide) (by decide) (by decide) (by decide) (by decide), ct c hc, ← hcc c]
    exact congrArg nI (ccn_ext 102 (fun p _ => by unfold isS; rw [hgt, hgt])).symm
theorem sim_16 {k' dp : Nat} (h : KR L I J) (ha : a < 8) (ek : I 17 4 = nI k') (hk : k' ≤ 6) (edt : dp = tn (J 1000 10)) : KK (oCal L I a dp).2.1 (rF (oCal L I a dp)) (mQ 16 (mCal J a (I 17 4) dp (gt J a 4).toNatClampNeg)) := by
  unfold oCal mCal
  rw [K_k h.1 (by omega), K_k h.1 (by omega)]
  by_cases h3 : gt J a 0 = 3
  · rw [if_neg (not_not_intro h3), if_neg (not_not_intro h3)]
    by_cases h0 : gt J 0 0 = 0
    · rw [if_neg (not_not_intro h0), if_neg (not_not_intro h0)]
      have h3n : ¬ gt J a 0 = 0 := by rw [h3]; decide
      have v := vl_3 (K_v h.1 (show a < 102 by omega)).1 h3
      have hsd := h.1.1.2.2.2.1
      have edp : J 1000 10 = nI dp := by rw [edt]; exact hsd.2.1
      have hd6 : dp < 6 := by rw [edt]; exact hsd.2.2
      obtain ⟨g, hg, eg⟩ : ∃ g, g < 6 ∧ gt J a 4 = nI g := ⟨_, v.2.2.2.2, v.2.2.2.1⟩
      have el : lk (L 5 a) = g := by rw [K_lk h.1 (by omega) h3n, tn, eg]; exact nI_clamp (by omega)
      rw [el, eg, nI_clamp (by omega)]
      have hne : ¬ J 1007 g = 0 := by have := h.1.2.2.1 a (by omega) h3; rw [tn, eg, nI_clamp (by omega)] at this; exact this
      have hst := Kg_st h.1.1.2.2.1 hg
      have hcond : cOp I g = false ↔ (J 1007 g = 2 ∨ J 1000 10 = 5) := by
        unfold cOp
        rw [(h.1.1.2.2.1 g hg).1, hsd.1, edp]
        have e5 : (nI dp < 5) ↔ ¬ nI dp = 5 := by
          rw [show (5 : Int32) = nI 5 from rfl, nI_ltI (by omega) (by decide), nI_eq (by omega) (by decide)]; omega
        rcases hst with z | z | z
        · exact absurd z hne
        · rw [z]; by_cases w : nI dp = 5 <;> simp [e5, w]
        · rw [z]; simp
      by_cases hc : J 1007 g = 2 ∨ J 1000 10 = 5
      · rw [if_pos (hcond.mpr hc), if_pos hc]; exact finF h (by decide)
      · rw [if_neg (fun z => hc (hcond.mp z)), if_neg hc, ek]
        have h71 : J 1007 g = 1 := (hst.resolve_left hne).resolve_right (fun z => hc (Or.inl z))
        have hd5 : dp < 5 := by
          rcases Nat.lt_or_ge dp 5 with z | z
          · exact z
          · exact absurd (Or.inr (by rw [edp, show dp = 5 by omega]; rfl)) hc
        have kk := call_K h.1 h.2.1 h.2.2.1 (show I 4 12 + 1 = J 1000 14 + 1 by rw [h.2.2.2.1]) hg h71 edp hd5 hk h0
        refine finS kk.1 kk.2 ⟨?_, ?_⟩ ?_ ?_ ?_
        · show oFJ I g (nI k') (I 4 12 + 1) dp 4 11 = mEn (mMv J g (nI k') dp) g 1000 13
          unfold oFJ mEn
          rw [upI_j (by decide), upI_j (by decide), upI_s, upI_j (by decide), upI_s, mMv_o (by decide) (by decide) (by decide)]
          rcases (h.1.1.2.2.1 g hg).2 with z | z
          · exact absurd z.1 hne
          · exact z.2.1
        · show sm (mEn (mMv J g (nI k') dp) g 1000 13) 3
          unfold mEn
          rw [upI_j (by decide), upI_s, mMv_o (by decide) (by decide) (by decide)]
          rcases (h.1.1.2.2.1 g hg).2 with z | z
          · exact absurd z.1 hne
          · exact z.2.2.2
        · rw [if_pos (Or.inr rfl)]
          unfold oFJ mEn
          rw [upI_j (by decide), upI_s, upI_s]
        · unfold oFJ oFI mEn
          rw [upI_j (by decide), upI_j (by decide), upI_j (by decide), upI_b (by decide), upI_b (by decide), upI_b (by decide), upI_b (by decide), upI_b (by decide), upI_j (by decide), upI_j (by decide), upI_j (by decide), upI_b (by decide), mMv_o (by decide) (by decide) (by decide)]
          exact h.2.2.2.2.1
        · unfold oFJ oFI
          rw [upI_j (by decide), upI_j (by decide), upI_j (by decide), upI_b (by decide), upI_b (by decide), upI_b (by decide), upI_b (by decide), upI_b (by decide)]
          exact h.2.2.2.2.2
    · rw [if_pos h0, if_pos h0]; exact finF h (by decide)
  · rw [if_pos h3, if_pos h3]; exact finF h (by decide)
end SIMV

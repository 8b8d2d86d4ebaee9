/-! the history: what the relation looks at -/
section HIS
variable {L : LT} {I J : IT}
theorem mord_16 : mord J 1000 16 = J 1000 16 + 1 := by
  unfold mord
  split
  · rw [mQ_f (by decide) (by decide)]
    split
    · rw [mPf_f (by decide) (by decide) (by decide), mD, upI_s]
    · show mD J 1000 16 = _; rw [mD, upI_s]
  · rw [mQ_f (by decide) (by decide)]; show mD J 1000 16 = _; rw [mD, upI_s]
theorem KK_J {J' : IT} (h : ∀ x, 1003 ≤ x → x ≤ 1011 → J' x = J x) (h0 : ∀ i, i = 10 ∨ i = 13 ∨ i = 14 ∨ i = 15 ∨ i = 16 → J' 1000 i = J 1000 i) (k : KK L I J) : KK L I J' := by
  refine ⟨K1_J (h 1003 (by decide) (by decide)) (h 1004 (by decide) (by decide)) (h 1005 (by decide) (by decide)) (h 1006 (by decide) (by decide)) (h 1007 (by decide) (by decide)) (h 1008 (by decide) (by decide)) (h 1009 (by decide) (by decide)) (h 1010 (by decide) (by decide)) (h 1011 (by decide) (by decide)) (h0 10 (by decide)) k.1, Ct_J (h 1003 (by decide) (by decide)) (h 1004 (by decide) (by decide)) k.2.1, ?_⟩
  unfold Kq
  rw [h0 13 (by decide), h0 14 (by decide), h0 15 (by decide), h0 16 (by decide)]
  exact k.2.2
theorem same_of {L' : LT} {I' : IT} (hL : ∀ x, 4 ≤ x → x ≤ 14 → L' x = L x) (hI : ∀ x, 4 ≤ x → x ≤ 14 → I' x = I x) : same L I L' I' := by
  have i4 := hI 4 (by decide) (by decide)
  refine ⟨fun p _ => by rw [hL 5 (by decide) (by decide)], fun p _ => by rw [hL 6 (by decide) (by decide)], fun c _ => ⟨by rw [hI 7 (by decide) (by decide)], by rw [hI 8 (by decide) (by decide)], by rw [hI 9 (by decide) (by decide)], by rw [hI 10 (by decide) (by decide)]⟩, fun c _ => ⟨by rw [hI 11 (by decide) (by decide)], by rw [hI 12 (by decide) (by decide)], by rw [hI 13 (by decide) (by decide)], by rw [hI 14 (by decide) (by decide)]⟩, by rw [i4], by rw [i4], by rw [i4], by rw [i4], by rw [i4]⟩
theorem KK_I {I' : IT} (h : ∀ x, 4 ≤ x → x ≤ 14 → I' x = I x) (k : KK L I J) : KK L I' J := KK_same (same_of (fun _ _ _ => rfl) h) k
theorem Cd_J {J' : IT} (h1 : J' 1001 = J 1001) (h2 : J' 1002 = J 1002) (c : Cd I J) : Cd I J' := by unfold Cd; rw [h1, h2]; exact c
theorem Cd_I {I' : IT} (h2 : I' 2 = I 2) (h3 : I' 3 = I 3) (c : Cd I J) : Cd I' J := by unfold Cd; rw [h2, h3]; exact c
/-! begin -/
theorem mBegN_o {N x : Nat} (h0 : x ≠ 1000) (h3 : x ≠ 1003) (h4 : x ≠ 1004) (h7 : x ≠ 1007) : mBegN N J x = J x := by
  unfold mBegN
  have e := mB_o (N := N) (J := J) h3 h4 h7
  generalize mBg2 (mBgl J 0 N) 0 6 = B at e ⊢
  have e5 : mB5 B x = B x := by unfold mB5; rw [upI_b h0, upI_b h0, upI_b h0, upI_b h0, upI_b h0]
  split
  · rw [e5, e]
  · rw [mPut_o h3, e5, e]
theorem mBegN_k {N : Nat} : mBegN N J 1000 = mB5 J 1000 := by
  unfold mBegN
  have e := mB_o (N := N) (J := J) (x := 1000) (by decide) (by decide) (by decide)
  generalize mBg2 (mBgl J 0 N) 0 6 = B at e ⊢
  have e5 : mB5 B 1000 = mB5 J 1000 := by unfold mB5 upI; simp only [va_up_self, e]
  split
  · exact e5
  · rw [mPut_o (by decide)]; exact e5
theorem gt_bgl {p i : Nat} (hi : i < 5) : ∀ (n j : Nat) (J : IT), gt (mBgl J j n) p i = if j ≤ p ∧ p < j + n then 0 else gt J p i
  | 0, j, J => by rw [mBgl, if_neg (by omega)]
  | n + 1, j, J => by
    rw [mBgl, gt_bgl hi n (j + 1), mClr, gt_put hi]
    by_cases e : p = j
    · rw [if_neg (show ¬ (j + 1 ≤ p ∧ p < j + 1 + n) by omega), if_pos e, if_pos (show j ≤ p ∧ p < j + (n + 1) by omega)]; simp
    · rw [if_neg e]
      by_cases f : j + 1 ≤ p ∧ p < j + 1 + n
      · rw [if_pos f, if_pos (by omega)]
      · rw [if_neg f, if_neg (by omega)]
theorem bg2_at {c : Nat} : ∀ (n j : Nat) (J : IT), c < j + n → (c < j → J 1004 c = 0 ∧ J 1007 c = 0) → mBg2 J j n 1004 c = 0 ∧ mBg2 J j n 1007 c = 0
  | 0, j, J, hc, h => h (by omega)
  | n + 1, j, J, hc, h => by
    rw [mBg2]
    refine bg2_at n (j + 1) _ (by omega) (fun hj => ?_)
    rw [upI_b (by decide), upI_at, upI_at, upI_b (by decide)]
    by_cases e : c = j
    · rw [if_pos e, if_pos e]; exact ⟨rfl, rfl⟩
    · rw [if_neg e, if_neg e]; exact h (by omega)
theorem mBegN_c {N c : Nat} (hc : c < 6) : mBegN N J 1004 c = 0 ∧ mBegN N J 1007 c = 0 := by
  unfold mBegN
  have e := bg2_at (c := c) 6 0 (mBgl J 0 N) (by omega) (fun z => absurd z (Nat.not_lt_zero c))
  generalize mBg2 (mBgl J 0 N) 0 6 = B at e ⊢
  have e5 : mB5 B 1004 = B 1004 ∧ mB5 B 1007 = B 1007 := by
    unfold mB5
    exact ⟨by rw [upI_b (by decide), upI_b (by decide), upI_b (by decide), upI_b (by decide), upI_b (by decide)], by rw [upI_b (by decide), upI_b (by decide), upI_b (by decide), upI_b (by decide), upI_b (by decide)]⟩
  split
  · rw [e5.1, e5.2]; exact e
  · rw [mPut_o (by decide), mPut_o (by decide), e5.1, e5.2]; exact e
theorem mBegN_g {N p i : Nat} (hp : p < N) (hi : i < 5) : gt (mBegN N J) p i = if ¬ J 1000 0 = 0 ∧ p = 1 then (if i = 0 then 1 else if i = 1 then 0 else if i = 2 then 48 else if i = 3 then 15 else 0) else 0 := by
  unfold mBegN
  have e : gt (mB5 (mBg2 (mBgl J 0 N) 0 6)) p i = 0 := by
    unfold gt mB5
    rw [upI_b (by decide), upI_b (by decide), upI_b (by decide), upI_b (by decide), upI_b (by decide), mBg2_o (by decide) (by decide)]
    have := gt_bgl (p := p) hi N 0 J
    rw [if_pos (by omega)] at this
    exact this
  generalize mB5 (mBg2 (mBgl J 0 N) 0 6) = B at e ⊢
  by_cases h : J 1000 0 = 0
  · rw [if_pos h, if_neg (fun z => z.1 h)]; exact e
  · rw [if_neg h, gt_put hi]
    by_cases z : p = 1
    · rw [if_pos z, if_pos (show ¬ J 1000 0 = 0 ∧ p = 1 from ⟨h, z⟩)]
    · rw [if_neg z, if_neg (fun y => z y.2)]; exact e
theorem ccn_z {c : Nat} : ∀ n, (∀ p, p < n → isS J c p = 0) → ccn J c n = 0
  | 0, _ => rfl
  | n + 1, h => by rw [ccn, ccn_z n (fun p hp => h p (by omega)), h n (by omega)]
/-- the cleared state and the reference's beginning -/
theorem beg_KK {b : Int32} (hb : J 1000 0 = b) (h5 : ∀ p, p < 102 → L 5 p = if ¬ b = 0 ∧ p = 1 then vPk 1 0 48 15 0 else 0) (h7 : ∀ c, c < 6 → I 7 c = 0 ∧ I 8 c = 0 ∧ I 9 c = 0 ∧ I 10 c = 0) (h4 : I 4 10 = 0 ∧ I 4 11 = 0 ∧ I 4 12 = 0 ∧ I 4 13 = 0 ∧ I 4 14 = 0) : KK L I (mBeg J) := by
  have g : ∀ p, p < 102 → ∀ i, i < 5 → gt (mBeg J) p i = if ¬ b = 0 ∧ p = 1 then (if i = 0 then 1 else if i = 1 then 0 else if i = 2 then 48 else if i = 3 then 15 else 0) else 0 := fun p hp i hi => by rw [← hb]; exact mBegN_g hp hi
  have c4 : ∀ c, c < 6 → mBeg J 1004 c = 0 ∧ mBeg J 1007 c = 0 := fun c hc => mBegN_c hc
  have f : mBeg J 1000 = mB5 J 1000 := mBegN_k
  generalize mBeg J = B at *
  have f10 : B 1000 10 = 0 := by rw [f]; rfl
  have f13 : B 1000 13 = 0 := by rw [f]; rfl
  have f14 : B 1000 14 = 0 := by rw [f]; rfl
  have f15 : B 1000 15 = 0 := by rw [f]; rfl
  have f16 : B 1000 16 = 0 := by rw [f]; rfl
  have d0 : dpt B = 0 := (congrArg tn f10).trans rfl
  have k01 : ∀ p, p < 102 → gt B p 0 = 0 ∨ gt B p 0 = 1 := fun p hp => by
    rw [g p hp 0 (by decide)]
    split
    · exact Or.inr rfl
    · exact Or.inl rfl
  have kz : ∀ p, p < 102 → p ≠ 1 → gt B p 0 = 0 := fun p hp hn => by rw [g p hp 0 (by decide), if_neg (fun z => hn z.2)]
  have s0 : sm 0 6 := ⟨by decide, by decide⟩
  have s3 : sm 0 3 := ⟨by decide, by decide⟩
  refine ⟨⟨⟨fun p hp => ?_, fun c hc => ?_, fun c hc => ?_, ?_, fun q hq => ?_, fun q hq => ?_⟩, fun q q' hq => ?_, fun p hp h3 => ?_, fun p hp h3 => ?_, fun q hq => ?_, fun q hq i hi _ => ?_⟩, fun c hc => ?_, ?_⟩
  · unfold vlp enp
    by_cases z : ¬ b = 0 ∧ p = 1
    · have g0 : gt B p 0 = 1 := (g p hp 0 (by decide)).trans (if_pos z)
      have g1 : gt B p 1 = 0 := (g p hp 1 (by decide)).trans (if_pos z)
      have g2 : gt B p 2 = 48 := (g p hp 2 (by decide)).trans (if_pos z)
      have g3 : gt B p 3 = 15 := (g p hp 3 (by decide)).trans (if_pos z)
      have g4 : gt B p 4 = 0 := (g p hp 4 (by decide)).trans (if_pos z)
      rw [h5 p hp, if_pos z, g0, g1, g2, g3, g4]
      exact ⟨vl_ex1 (f := 0) (e := 48) (q := 15) ⟨by decide, by decide⟩ ⟨by decide, by decide⟩ (by decide) ⟨by decide, by decide⟩, (if_neg (by decide)).symm⟩
    · have g0 : gt B p 0 = 0 := (g p hp 0 (by decide)).trans (if_neg z)
      have g1 : gt B p 1 = 0 := (g p hp 1 (by decide)).trans (if_neg z)
      have g2 : gt B p 2 = 0 := (g p hp 2 (by decide)).trans (if_neg z)
      have g3 : gt B p 3 = 0 := (g p hp 3 (by decide)).trans (if_neg z)
      have g4 : gt B p 4 = 0 := (g p hp 4 (by decide)).trans (if_neg z)
      rw [h5 p hp, if_neg z, g0, g1, g2, g3, g4]
      exact ⟨vl_num 0, en_zero.symm⟩
  · rw [(h7 c hc).1, (c4 c hc).1]
  · rw [(c4 c hc).2]
    exact ⟨(h7 c hc).2.1, Or.inl ⟨rfl, (h7 c hc).2.2.1, (h7 c hc).2.2.2⟩⟩
  · unfold Kd; rw [f10]; exact ⟨h4.1, s0⟩
  · rw [d0] at hq; exact absurd hq (Nat.not_lt_zero q)
  · rw [d0] at hq; exact absurd hq (Nat.not_lt_zero q)
  · rw [d0] at hq; exact absurd hq (Nat.not_lt_zero q)
  · rcases k01 p hp with z | z <;> rw [z] at h3 <;> exact absurd h3 (by decide)
  · rcases k01 p hp with z | z <;> rw [z] at h3 <;> exact absurd h3 (by decide)
  · rw [(c4 q hq).2]; exact ⟨fun z => absurd z (by decide), fun _ => kz _ (by omega) (by omega)⟩
  · exact kz _ (by omega) (by omega)
  · refine (c4 c hc).1.trans (congrArg nI (ccn_z 102 (fun p hp => ?_))).symm
    unfold isS
    exact if_neg (fun z => by rcases k01 p hp with y | y <;> rw [y] at z <;> exact absurd z.1 (by decide))
  · unfold Kq; rw [f13, f14, f15, f16]
    exact ⟨⟨h4.2.1, s3⟩, h4.2.2.1, h4.2.2.2.1, h4.2.2.2.2⟩
/-! the reference's states by the number of orders -/
def itm (J : IT) : Nat → IT
  | 0 => mBeg J
  | k + 1 => mord (itm J k)
theorem itm_o {x : Nat} (h : ¬ mI' x) : ∀ k, itm J k x = J x
  | 0 => mBegN_o (fun e => h (by simp [mI', e])) (fun e => h (by simp [mI', e])) (fun e => h (by simp [mI', e])) (fun e => h (by simp [mI', e]))
  | k + 1 => by rw [itm, mord_o h, itm_o h k]
theorem itm_f {i : Nat} (h : i = 0 ∨ i = 17) : ∀ k, itm J k 1000 i = J 1000 i
  | 0 => by
    show mBegN 102 J 1000 i = _
    rw [mBegN_k]; rcases h with rfl | rfl <;> rfl
  | k + 1 => by rw [itm, mord_f (by omega) (by omega) (by omega) (by omega) (by omega), itm_f h k]
theorem itm_16 : ∀ k, itm J k 1000 16 = nI k
  | 0 => by
    show mBegN 102 J 1000 16 = _
    rw [mBegN_k]; rfl
  | k + 1 => by rw [itm, mord_16, itm_16 k, nI_1]
def Rk (C : IT) (b : Int32) (L : LT) (I : IT) (k : Nat) : Prop := ∀ J0, Cd C J0 → J0 1000 0 = b → KK L I (itm J0 k)
def Hs (C : IT) (b : Int32) (k : Nat) : Prop := ∀ i, i < k → ∃ (A : LT) (B : IT), Rk C b A B i ∧ B 2 = C 2 ∧ B 3 = C 3
theorem Rk_C {C C' : IT} {b : Int32} {k : Nat} (h2 : C' 2 = C 2) (h3 : C' 3 = C 3) (h : Rk C b L I k) : Rk C' b L I k := fun J0 c hb => h J0 (Cd_I h2.symm h3.symm c) hb
theorem Rk_s {C : IT} {b : Int32} {k : Nat} {L' : LT} {I' : IT} (s : same L I L' I') (h : Rk C b L I k) : Rk C b L' I' k := fun J0 c hb => KK_same s (h J0 c hb)
theorem Hs_C {C C' : IT} {b : Int32} {k : Nat} (h2 : C' 2 = C 2) (h3 : C' 3 = C 3) (h : Hs C b k) : Hs C' b k := fun i hi => by
  obtain ⟨A, B, r, b2, b3⟩ := h i hi
  exact ⟨A, B, Rk_C h2 h3 r, b2.trans h2.symm, b3.trans h3.symm⟩
abbrev rwL (L : LT) (a : Nat) : LT := fun x => L (x + (22 + 11 * a))
abbrev rwI (I : IT) (a : Nat) : IT := fun x => I (x + (22 + 11 * a))
def His (L : LT) (I : IT) (r d n s : Nat) : Prop := (I 15 1 = nI n ∧ n < 40 ∧ I 15 2 = nI s ∧ s ≤ 40 ∧ s ≤ d) ∧ (n ≤ r ∧ r ≤ 40 ∧ (r < 40 → s ≤ n)) ∧ (∀ i, i < s → Rk I (I 0 6) (rwL L ((n + 39 - i) % 40)) (rwI I ((n + 39 - i) % 40)) (d - 1 - i)) ∧ Rk I (I 0 6) L I d ∧ Hs I (I 0 6) d
end HIS

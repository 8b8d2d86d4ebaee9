/-! reads agree -/
section RDA
variable {L : LT} {I J : IT}
theorem i5c {f : Int32} (h : inz f 0 4 = true) : f = 0 ∨ f = 1 ∨ f = 2 ∨ f = 3 ∨ f = 4 := by
  obtain ⟨e, hl⟩ := inz_nI (n := 4) rfl (by decide) h
  generalize f.toNatClampNeg = k at e hl
  subst e
  rcases (by omega : k = 0 ∨ k = 1 ∨ k = 2 ∨ k = 3 ∨ k = 4) with rfl | rfl | rfl | rfl | rfl <;> decide
theorem vFd_eq {p : Nat} {f : Int32} (h : K1 L I J) (hp : p < 102) (hf : inz f 0 4 = true) : vFd (L 5 p) f = gt J p (tn f) := by
  unfold vFd
  rw [K_k h hp]
  by_cases h0 : gt J p 0 = 0
  · rw [if_pos h0, K_n h hp h0]
    have v := vl_0 (K_v h hp).1 h0
    rcases i5c hf with rfl | rfl | rfl | rfl | rfl
    · exact h0.symm
    · rfl
    · exact v.1.symm
    · exact v.2.1.symm
    · exact v.2.2.symm
  · rw [if_neg h0, K_f h hp h0, K_e h hp h0, K_q h hp h0, K_c h hp h0]
    rcases i5c hf with rfl | rfl | rfl | rfl | rfl <;> rfl
theorem rgc {q f N M : Int32} {n m : Nat} (hN : N.toInt = n) (hM : M.toInt = (n : Int) - 1) (h5 : ¬ (q < 0 ∨ N ≤ q ∨ f < 0 ∨ ¬ f < 5)) : inz q 0 M = true ∧ inz f 0 4 = true := by
  have a : ¬ q < 0 := fun z => h5 (Or.inl z)
  have b : ¬ N ≤ q := fun z => h5 (Or.inr (Or.inl z))
  have c : ¬ f < 0 := fun z => h5 (Or.inr (Or.inr (Or.inl z)))
  have d : f < 5 := Classical.not_not.mp (fun z => h5 (Or.inr (Or.inr (Or.inr z))))
  have b' : ¬ M < q := by rw [Int32.lt_iff_toInt_lt]; rw [Int32.le_iff_toInt_le] at b; omega
  have d' : ¬ 4 < f := by
    rw [Int32.lt_iff_toInt_lt] at d ⊢
    have e5 : (5 : Int32).toInt = 5 := rfl
    have e4 : (4 : Int32).toInt = 4 := rfl
    omega
  exact ⟨by simp [inz, a, b'], by simp [inz, c, d']⟩
theorem rgn {q f N M : Int32} {n : Nat} (hN : N.toInt = n) (hM : M.toInt = (n : Int) - 1) (h5 : q < 0 ∨ N ≤ q ∨ f < 0 ∨ ¬ f < 5) : inz q 0 M = false ∨ inz f 0 4 = false := by
  rcases h5 with a | a | a | a
  · left; simp [inz, a]
  · left
    have : M < q := by rw [Int32.lt_iff_toInt_lt]; rw [Int32.le_iff_toInt_le] at a; omega
    simp [inz, this]
  · right; simp [inz, a]
  · right
    have : 4 < f := by
      rw [Int32.lt_iff_toInt_lt] at a ⊢
      have e5 : (5 : Int32).toInt = 5 := rfl
      have e4 : (4 : Int32).toInt = 4 := rfl
      omega
    simp [inz, this]
theorem reg_eq {q f : Int32} (h : K1 L I J) : uReg L q f = mReg J q f := by
  unfold uReg mReg mShn
  by_cases hc : q < 0 ∨ 8 ≤ q ∨ f < 0 ∨ ¬ f < 5
  · rw [if_pos hc]
    rcases rgn (N := 8) (M := 7) (n := 8) rfl rfl hc with e | e <;> rw [e] <;> simp
  · rw [if_neg hc]
    obtain ⟨a, b⟩ := rgc (N := 8) (M := 7) (n := 8) (m := 0) rfl rfl hc
    have hq := inz_nI (n := 7) rfl (by decide) a
    rw [if_pos a, if_pos b]
    exact vFd_eq h (by have := hq.2; omega) b
theorem wrd_eq {q f : Int32} (h : K1 L I J) : uWrd L q f = mWrd J q f := by
  unfold uWrd mWrd mShn
  by_cases hc : q < 0 ∨ 48 ≤ q ∨ f < 0 ∨ ¬ f < 5
  · rw [if_pos hc]
    rcases rgn (N := 48) (M := 47) (n := 48) rfl rfl hc with e | e <;> rw [e] <;> simp
  · rw [if_neg hc]
    obtain ⟨a, b⟩ := rgc (N := 48) (M := 47) (n := 48) (m := 0) rfl rfl hc
    have hq := inz_nI (n := 47) rfl (by decide) a
    rw [if_pos a, if_pos b]
    exact vFd_eq h (by have := hq.2; omega) b
theorem i57 {w : Int32} (h : inz w 5 7 = true) : w = 5 ∨ w = 6 ∨ w = 7 := by
  have h1 := inz_p h
  have a := Int32.le_iff_toInt_le.mp (Int32.not_lt.mp h1.1)
  have b := Int32.le_iff_toInt_le.mp (Int32.not_lt.mp h1.2)
  have c5 : (5 : Int32).toInt = 5 := rfl
  have c7 : (7 : Int32).toInt = 7 := rfl
  have e : w = nI w.toInt.toNat := by apply Int32.toInt_inj.mp; rw [nI_toInt (by omega)]; omega
  rcases (by omega : w.toInt.toNat = 5 ∨ w.toInt.toNat = 6 ∨ w.toInt.toNat = 7) with q | q | q
  · exact Or.inl (by rw [e, q]; rfl)
  · exact Or.inr (Or.inl (by rw [e, q]; rfl))
  · exact Or.inr (Or.inr (by rw [e, q]; rfl))
theorem lok_eq {w : Int32} (h : KK L I J) (hc : Cd I J) : uLok I w = mLok J w := by
  unfold uLok mLok
  have kd := h.1.1.2.2.2.1.1
  have kq := h.2.2
  by_cases e0 : w = 0
  · rw [if_pos e0, if_pos e0]; exact kd
  rw [if_neg e0, if_neg e0]
  by_cases e1 : w = 1
  · rw [if_pos e1, if_pos e1]; exact kq.1.1
  rw [if_neg e1, if_neg e1]
  by_cases e2 : w = 2
  · rw [if_pos e2, if_pos e2]; exact kq.2.1
  rw [if_neg e2, if_neg e2]
  by_cases e3 : w = 3
  · rw [if_pos e3, if_pos e3]; exact kq.2.2.1
  rw [if_neg e3, if_neg e3]
  by_cases e4 : w = 4
  · rw [if_pos e4, if_pos e4]; exact kq.2.2.2
  rw [if_neg e4, if_neg e4]
  cases hi : inz w 5 7 with
  | true =>
    rw [if_pos (show true = true from rfl)]
    rcases i57 hi with rfl | rfl | rfl
    · exact (hc.1 0 (by decide)).1
    · exact (hc.1 1 (by decide)).1
    · exact (hc.1 2 (by decide)).1
  | false =>
    have n5 : ¬ w = 5 := fun e => by rw [e] at hi; exact absurd hi (by decide)
    have n6 : ¬ w = 6 := fun e => by rw [e] at hi; exact absurd hi (by decide)
    have n7 : ¬ w = 7 := fun e => by rw [e] at hi; exact absurd hi (by decide)
    rw [if_neg n5, if_neg n6, if_neg n7, if_neg (show ¬ false = true by decide)]
theorem six {q : Int32} : (q < 0 ∨ ¬ q < 6) ↔ inz q 0 5 = false := by
  have e : q < 6 ↔ ¬ 5 < q := by rw [Int32.lt_iff_toInt_lt, Int32.lt_iff_toInt_lt, show (6 : Int32).toInt = 6 from rfl, show (5 : Int32).toInt = 5 from rfl]; omega
  rw [e]; unfold inz
  by_cases a : q < 0 <;> by_cases b : 5 < q <;> simp [a, b]
theorem cnt_eq {q : Int32} (h : K1 L I J) : uCnt I q = mCnt J q := by
  unfold uCnt mCnt
  cases hi : inz q 0 5 with
  | false => rw [if_pos (six.mpr hi), if_neg (by decide)]
  | true =>
    rw [if_neg (fun z => by rw [six.mp z] at hi; exact absurd hi (by decide)), if_pos rfl]
    have hq := inz_nI (n := 5) rfl (by decide) hi
    exact h.1.2.1 _ (by have := hq.2; omega)
theorem i02 {f : Int32} (h : inz f 0 2 = true) : f = 0 ∨ f = 1 ∨ f = 2 := by
  obtain ⟨e, hl⟩ := inz_nI (n := 2) rfl (by decide) h
  generalize f.toNatClampNeg = k at e hl
  subst e
  rcases (by omega : k = 0 ∨ k = 1 ∨ k = 2) with rfl | rfl | rfl <;> decide
theorem gat_eq {q f : Int32} (h : K1 L I J) : uGat I q f = mGat J q f := by
  unfold uGat mGat
  cases hi : inz q 0 5 with
  | false => rw [if_pos (six.mpr hi), if_pos (Or.inl rfl)]
  | true =>
    rw [if_neg (fun z => by rw [six.mp z] at hi; exact absurd hi (by decide))]
    have hq := inz_nI (n := 5) rfl (by decide) hi
    have kg := h.1.2.2.1 q.toNatClampNeg (by have := hq.2; omega)
    cases hf : inz f 0 2 with
    | false =>
      have n0 : ¬ f = 0 := fun e => by rw [e] at hf; exact absurd hf (by decide)
      have n1 : ¬ f = 1 := fun e => by rw [e] at hf; exact absurd hf (by decide)
      have n2 : ¬ f = 2 := fun e => by rw [e] at hf; exact absurd hf (by decide)
      rw [if_neg n0, if_neg n1, if_neg n2, if_pos (show true = false ∨ false = false from Or.inr rfl)]
    | true =>
      rw [if_neg (show ¬ (true = false ∨ true = false) by decide)]
      rcases i02 hf with rfl | rfl | rfl
      · rw [if_pos (show (0 : Int32) = 0 from rfl), if_pos (show (0 : Int32) = 0 from rfl)]; exact kg.1
      · rw [if_neg (show ¬ (1 : Int32) = 0 by decide), if_pos (show (1 : Int32) = 1 from rfl), if_neg (show ¬ (1 : Int32) = 0 by decide), if_pos (show (1 : Int32) = 1 from rfl)]
        rcases kg.2 with z | z
        · rw [if_pos (by rw [z.1]; decide)]; exact z.2.1
        · rw [if_neg (by rcases z.1 with y | y <;> rw [y] <;> decide)]; exact z.2.1
      · rw [if_neg (show ¬ (2 : Int32) = 0 by decide), if_neg (show ¬ (2 : Int32) = 1 by decide), if_pos (show (2 : Int32) = 2 from rfl), if_neg (show ¬ (2 : Int32) = 0 by decide), if_neg (show ¬ (2 : Int32) = 1 by decide)]
        rcases kg.2 with z | z
        · rw [if_pos (by rw [z.1]; decide)]; exact z.2.2
        · rw [if_neg (by rcases z.1 with y | y <;> rw [y] <;> decide)]; exact z.2.2.1
/-! owner -/
def sCv (J : IT) (a q : Int32) (p : Nat) : Bool := decide (gt J p 0 = 2) && (mHas J p q && inz a (gt J p 1) (gt J p 2 - 1))
theorem rngc {f e a : Int32} (h1 : sm f 49) (h2 : sm e 49) (h3 : tn f < tn e) : (decide (f ≤ a) && decide (a < e)) = inz a f (e - 1) := by
  obtain ⟨a1, a2⟩ := h1
  obtain ⟨b1, b2⟩ := h2
  obtain ⟨k, hk⟩ : ∃ k, tn e = k + 1 := ⟨tn e - 1, by omega⟩
  have e1 : e - 1 = nI k := by rw [b1, hk, nI_pred]
  have e2 : a < e ↔ ¬ e - 1 < a := by
    rw [e1, b1, hk, Int32.lt_iff_toInt_lt, Int32.lt_iff_toInt_lt, nI_toInt (by omega), nI_toInt (by omega)]; omega
  unfold inz
  have e3 : f ≤ a ↔ ¬ a < f := Int32.not_lt.symm
  by_cases x : a < f <;> by_cases y : e - 1 < a <;> simp [e2, e3, x, y]
theorem cov_eq {p : Nat} {a q : Int32} (h : K1 L I J) (hp : p < 102) : (cov (L 5 p) a = true ∧ vHas (L 5 p) q = true) ↔ (mOw J p a q = true ∨ sCv J a q p = true) := by
  by_cases h0 : gt J p 0 = 0 ∨ gt J p 0 = 3
  · have hc := (K_cap h hp).mpr h0
    unfold cov mOw sCv
    rw [hc]
    rcases h0 with e | e <;> rw [e] <;> simp
  · have v := K_rg h hp h0
    have hv : vCap (L 5 p) = true := by
      cases hh : vCap (L 5 p)
      · exact absurd ((K_cap h hp).mp hh) h0
      · rfl
    unfold cov mOw sCv
    rw [hv, K_has h hp h0, K_f h hp (fun z => h0 (Or.inl z)), K_e h hp (fun z => h0 (Or.inl z)), rngc v.1 v.2.1 v.2.2, Bool.true_and]
    rcases vl_k (K_v h hp).1 with e | e | e | e
    · exact absurd (Or.inl e) h0
    · rw [e]; cases mHas J p q <;> cases inz a (gt J p 1) (gt J p 2 - 1) <;> decide
    · rw [e]; cases mHas J p q <;> cases inz a (gt J p 1) (gt J p 2 - 1) <;> decide
    · exact absurd (Or.inr e) h0
def mOwx (J : IT) (a q X : Int32) : Nat → Nat → Int32
  | _, 0 => X
  | j, n + 1 => if mOw J j a q = true then oNbM j else mOwx J a q X (j + 1) n
theorem mOwl_x {a q : Int32} : ∀ n j, mOwl J a q j n = mOwx J a q (mOcl J a q 0 6) j n
  | 0, _ => rfl
  | n + 1, j => by rw [mOwl, mOwx, mOwl_x n (j + 1)]
def mcf (J : IT) (a q : Int32) : Nat → Nat → Nat → Nat
  | c, _, 0 => c
  | c, j, n + 1 => mcf J a q (if sCv J a q j = true then min (tn (gt J j 4)) c else c) (j + 1) n
theorem oNb_eq (j : Nat) : oNb j = oNbM j := by unfold oNb oNbM; rw [Int32.mul_comm 10]
theorem lst_eq {a q : Int32} (h : K1 L I J) : ∀ n j c, j + n ≤ 102 → c ≤ 6 → lst L a q (nI c) j n = mOwx J a q (if 6 ≤ mcf J a q c j n then -1 else 400 + nI (mcf J a q c j n)) j n
  | 0, j, c, hj, hc => by
    rw [lst, mOwx, mcf]
    have e : (6 : Int32) ≤ nI c ↔ 6 ≤ c := nI_leI (a := 6) (by decide) (by omega)
    by_cases x : 6 ≤ c
    · rw [if_pos (e.mpr x), if_pos x]
    · rw [if_neg (fun z => x (e.mp z)), if_neg x]
  | n + 1, j, c, hj, hc => by
    rw [lst, mOwx, mcf]
    have hcv := cov_eq (a := a) (q := q) h (show j < 102 by omega)
    have hk := K_k h (show j < 102 by omega)
    by_cases x : mOw J j a q = true
    · have k1 : gt J j 0 = 1 := by unfold mOw at x; exact of_decide_eq_true (by cases hh : decide (gt J j 0 = 1); rw [hh] at x; exact absurd x (by simp); rfl)
      rw [if_pos (hcv.mpr (Or.inl x)), if_pos (by rw [hk]; exact k1), if_pos x, oNb_eq]
    · rw [if_neg x]
      by_cases y : sCv J a q j = true
      · have k2 : gt J j 0 = 2 := by unfold sCv at y; exact of_decide_eq_true (by cases hh : decide (gt J j 0 = 2); rw [hh] at y; exact absurd y (by simp); rfl)
        have hs := K_cs h (show j < 102 by omega) (Or.inl k2)
        rw [if_pos (hcv.mpr (Or.inr y)), if_neg (by rw [hk, k2]; decide), if_pos y, K_c h (by omega) (by rw [k2]; decide)]
        have e1 : (if gt J j 4 < nI c then gt J j 4 else nI c) = nI (min (tn (gt J j 4)) c) := by
          have hl : gt J j 4 < nI c ↔ tn (gt J j 4) < c := by
            have := nI_ltI (a := tn (gt J j 4)) (b := c) (by have := hs.2; omega) (by omega)
            rw [← hs.1] at this; exact this
          by_cases z : tn (gt J j 4) < c
          · rw [if_pos (hl.mpr z), Nat.min_eq_left (by omega)]; exact hs.1
          · rw [if_neg (fun w => z (hl.mp w)), Nat.min_eq_right (by omega)]
        rw [e1]
        exact lst_eq h n (j + 1) _ (by omega) (by have := Nat.min_le_right (tn (gt J j 4)) c; omega)
      · rw [if_neg (fun z => (hcv.mp z).elim x y), if_neg y]
        exact lst_eq h n (j + 1) c (by omega) hc
theorem mcf_s {a q : Int32} : ∀ n j c, (mcf J a q c j n ≤ c) ∧ (∀ p, j ≤ p → p < j + n → sCv J a q p = true → mcf J a q c j n ≤ tn (gt J p 4)) ∧ (mcf J a q c j n = c ∨ ∃ p, j ≤ p ∧ p < j + n ∧ sCv J a q p = true ∧ tn (gt J p 4) = mcf J a q c j n)
  | 0, j, c => ⟨Nat.le_refl _, fun p h1 h2 => absurd h2 (by omega), Or.inl rfl⟩
  | n + 1, j, c => by
    rw [mcf]
    by_cases y : sCv J a q j = true
    · rw [if_pos y]
      obtain ⟨i1, i2, i3⟩ := mcf_s n (j + 1) (min (tn (gt J j 4)) c)
      have m1 := Nat.min_le_left (tn (gt J j 4)) c
      have m2 := Nat.min_le_right (tn (gt J j 4)) c
      refine ⟨Nat.le_trans i1 m2, fun p h1 h2 hs => ?_, ?_⟩
      · by_cases e : p = j
        · rw [e]; exact Nat.le_trans i1 m1
        · exact i2 p (by omega) (by omega) hs
      · rcases i3 with e | ⟨p, h1, h2, h3, h4⟩
        · rcases Nat.lt_or_ge (tn (gt J j 4)) c with z | z
          · right; exact ⟨j, by omega, by omega, y, by rw [e, Nat.min_eq_left (Nat.le_of_lt z)]⟩
          · left; rw [e, Nat.min_eq_right z]
        · right; exact ⟨p, by omega, by omega, h3, h4⟩
    · rw [if_neg y]
      obtain ⟨i1, i2, i3⟩ := mcf_s n (j + 1) c
      refine ⟨i1, fun p h1 h2 hs => ?_, ?_⟩
      · by_cases e : p = j
        · rw [e] at hs; exact absurd hs y
        · exact i2 p (by omega) (by omega) hs
      · rcases i3 with e | ⟨p, h1, h2, h3, h4⟩
        · exact Or.inl e
        · exact Or.inr ⟨p, by omega, by omega, h3, h4⟩
theorem nI_pos0 {n : Nat} (h : n < 2 ^ 31) : (0 : Int32) < nI n ↔ 0 < n := nI_ltI (a := 0) (by decide) h
/-- a cell owns a word where a place that shares it covers the word -/
theorem mCo_s {c : Nat} {a q : Int32} (h : K1 L I J) (ct : Ct J) (hq : q = 1 ∨ q = 2 ∨ q = 4 ∨ q = 8) (hc : c < 6) : mCo J c a q = true ↔ ∃ p, p < 102 ∧ sCv J a q p = true ∧ tn (gt J p 4) = c := by
  have hle := ccn_le (J := J) (c := c) 102
  constructor
  · intro hm
    unfold mCo at hm
    rw [Bool.and_eq_true, Bool.and_eq_true] at hm
    have h1 := of_decide_eq_true hm.1
    rw [ct c hc, nI_pos0 (by omega)] at h1
    obtain ⟨p, hp, hs⟩ := (ccn_pos 102).mp h1
    have hs2 : gt J p 0 = 2 ∧ gt J p 4 = nI c := by
      unfold isS at hs
      exact Classical.byContradiction (fun z => by rw [if_neg z] at hs; exact absurd hs (by decide))
    have et : tn (gt J p 4) = c := by rw [hs2.2]; exact sm_tn (by omega)
    have hl := h.2.2.2.1 p hp hs2.1
    rw [et] at hl
    refine ⟨p, hp, ?_, et⟩
    unfold sCv mHas
    rw [hs2.1, (vl_2 (K_v h hp).1 hs2.1).2.2.2.1, hl.1, hl.2, hm.2.2, of_decide_eq_true hm.2.1]
    decide
  · rintro ⟨p, hp, hs, et⟩
    unfold sCv at hs
    rw [Bool.and_eq_true, Bool.and_eq_true] at hs
    have k2 := of_decide_eq_true hs.1
    have hcs := K_cs h hp (Or.inl k2)
    have hl := h.2.2.2.1 p hp k2
    rw [et] at hl
    have h4 : gt J p 4 = nI c := by rw [← et]; exact hcs.1
    unfold mCo
    rw [← hl.1, ← hl.2, hs.2.2, ct c hc, decide_eq_true ((nI_pos0 (by omega)).mpr ((ccn_pos 102).mpr ⟨p, hp, if_pos ⟨k2, h4⟩⟩))]
    have hh := hs.2.1
    unfold mHas at hh
    rw [(vl_2 (K_v h hp).1 k2).2.2.2.1] at hh
    have hq1 : q = 1 := by rcases hq with e | e | e | e <;> rw [e] at hh ⊢ <;> first | rfl | exact absurd hh (by decide)
    rw [decide_eq_true hq1]; rfl
theorem mOcl_s {a q : Int32} : ∀ n c, (∀ d, c ≤ d → d < c + n → mCo J d a q = false) ∧ mOcl J a q c n = -1 ∨ ∃ d, c ≤ d ∧ d < c + n ∧ mCo J d a q = true ∧ (∀ e, c ≤ e → e < d → mCo J e a q = false) ∧ mOcl J a q c n = 400 + nI d
  | 0, c => Or.inl ⟨fun d h1 h2 => absurd h2 (by omega), rfl⟩
  | n + 1, c => by
    rw [mOcl]
    cases hc : mCo J c a q with
    | true => rw [if_pos rfl]; exact Or.inr ⟨c, Nat.le_refl c, by omega, hc, fun e h1 h2 => absurd h2 (by omega), rfl⟩
    | false =>
      rw [if_neg (by decide)]
      rcases mOcl_s n (c + 1) with ⟨h1, h2⟩ | ⟨d, h1, h2, h3, h4, h5⟩
      · refine Or.inl ⟨fun d d1 d2 => ?_, h2⟩
        by_cases e : d = c
        · rw [e]; exact hc
        · exact h1 d (by omega) (by omega)
      · refine Or.inr ⟨d, by omega, by omega, h3, fun e e1 e2 => ?_, h5⟩
        by_cases z : e = c
        · rw [z]; exact hc
        · exact h4 e (by omega) e2
theorem own_eq {a q : Int32} (h : KK L I J) : uOwn L a q = mOwn J a q := by
  unfold uOwn mOwn
  have ei : (a < 0 ∨ 48 ≤ a) ↔ inz a 0 47 = false := by
    have e : 48 ≤ a ↔ 47 < a := by rw [Int32.le_iff_toInt_le, Int32.lt_iff_toInt_lt, show (48 : Int32).toInt = 48 from rfl, show (47 : Int32).toInt = 47 from rfl]; omega
    rw [e]; unfold inz
    by_cases x : a < 0 <;> by_cases y : 47 < a <;> simp [x, y]
  by_cases hc : inz a 0 47 = false ∨ (¬ q = 1 ∧ ¬ q = 2 ∧ ¬ q = 4 ∧ ¬ q = 8)
  · rw [if_pos (by rw [← or_assoc, ei]; exact hc), if_pos hc]
  · rw [if_neg (by rw [← or_assoc, ei]; exact hc), if_neg hc, mOwl_x, show (6 : Int32) = nI 6 from rfl, lst_eq h.1 102 0 6 (by decide) (by decide)]
    have hq : q = 1 ∨ q = 2 ∨ q = 4 ∨ q = 8 := by
      refine Classical.byContradiction (fun z => hc (Or.inr ⟨fun e => z (Or.inl e), fun e => z (Or.inr (Or.inl e)), fun e => z (Or.inr (Or.inr (Or.inl e))), fun e => z (Or.inr (Or.inr (Or.inr e)))⟩))
    congr 1
    obtain ⟨i1, i2, i3⟩ := mcf_s (J := J) (a := a) (q := q) 102 0 6
    generalize mcf J a q 6 0 102 = M at *
    rcases mOcl_s (J := J) (a := a) (q := q) 6 0 with ⟨h1, h2⟩ | ⟨d, h1, h2, h3, h4, h5⟩
    · rw [h2]
      rcases i3 with e | ⟨p, p1, p2, p3, p4⟩
      · rw [if_pos (by omega)]
      · have k2 : gt J p 0 = 2 := by unfold sCv at p3; rw [Bool.and_eq_true] at p3; exact of_decide_eq_true p3.1
        have hs := (K_cs h.1 (show p < 102 by omega) (Or.inl k2)).2
        have := (mCo_s (c := M) (a := a) h.1 h.2.1 hq (by omega)).mpr ⟨p, by omega, p3, p4⟩
        rw [h1 M (by omega) (by omega)] at this; exact absurd this (by decide)
    · rw [h5]
      obtain ⟨p, p1, p2, p3⟩ := (mCo_s h.1 h.2.1 hq (by omega)).mp h3
      have hM := i2 p (by omega) (by omega) p2
      rw [p3] at hM
      have hMd : M = d := by
        rcases Nat.lt_or_ge M d with z | z
        · rcases i3 with e | ⟨p', q1, q2, q3, q4⟩
          · omega
          · have := (mCo_s (c := M) (a := a) h.1 h.2.1 hq (by omega)).mpr ⟨p', by omega, q3, q4⟩
            rw [h4 M (by omega) z] at this; exact absurd this (by decide)
        · omega
      rw [if_neg (by omega), hMd]
end RDA

/-! seal, call, return: what becomes of the places -/
theorem gt_up {J : IT} {d i : Nat} {v : Int32} (hd : d ≠ 1003) {x j : Nat} : gt (upI J d i v) x j = gt J x j := by unfold gt; rw [upI_b (Ne.symm hd)]
theorem gt_clr {J : IT} {p x j : Nat} (hj : j < 5) : gt (mClr J p) x j = if x = p then 0 else gt J x j := by
  unfold mClr
  rw [gt_put hj]
  by_cases h : x = p
  · rw [if_pos h, if_pos h]; split <;> (try split) <;> (try split) <;> (try split) <;> rfl
  · rw [if_neg h, if_neg h]
theorem gt_cpy {J : IT} {t f x j : Nat} (hj : j < 5) : gt (mCpy J t f) x j = if x = t then gt J f j else gt J x j := by
  unfold mCpy
  rw [gt_put hj]
  by_cases h : x = t
  · rw [if_pos h, if_pos h]
    rcases (by omega : j = 0 ∨ j = 1 ∨ j = 2 ∨ j = 3 ∨ j = 4) with rfl | rfl | rfl | rfl | rfl <;> rfl
  · rw [if_neg h, if_neg h]
theorem gt_shf {J : IT} {t f x j : Nat} (hj : j < 5) : gt (mShf J f t) x j = if x = f then 0 else if x = t then gt J f j else gt J x j := by
  unfold mShf
  rw [gt_clr hj, gt_cpy hj]
theorem mShf_o {J : IT} {t f x : Nat} (h : x ≠ 1003) : mShf J f t x = J x := by unfold mShf mClr mCpy; rw [mPut_o h, mPut_o h]
theorem Kp_put {L : LT} {J : IT} {p : Nat} {w f e q c : Int32} (kp : Kp L J) (hv : vl w f e q c) : Kp (upL L 5 p (en w f e q c)) (mPut J p w f e q c) := by
  intro x hx
  unfold vlp enp
  rw [upL_at]
  by_cases e : x = p
  · subst e
    rw [gt_s0, gt_s1, gt_s2, gt_s3, gt_s4, if_pos rfl]
    exact ⟨hv, rfl⟩
  · rw [gt_ne (by decide) e, gt_ne (by decide) e, gt_ne (by decide) e, gt_ne (by decide) e, gt_ne (by decide) e, if_neg e]
    exact kp x hx
theorem Kp_clr {L : LT} {J : IT} {p : Nat} (kp : Kp L J) : Kp (upL L 5 p 0) (mClr J p) := by
  have := Kp_put (p := p) kp (vl_num 0)
  rw [en_zero] at this; exact this
theorem Kp_shf {L : LT} {J : IT} {t f : Nat} (kp : Kp L J) (hf : f < 102) : Kp (upL (upL L 5 t (L 5 f)) 5 f 0) (mShf J f t) := by
  rw [(kp f hf).2]
  exact Kp_clr (Kp_put kp (kp f hf).1)
theorem Kp_c {L L' : LT} {J J' : IT} (hL : L' 5 = L 5) (hJ : J' 1003 = J 1003) (kp : Kp L J) : Kp L' J' := by
  unfold Kp vlp enp gt at *
  rw [hL, hJ]; exact kp
def mv (k : Int32) (q : Nat) : Prop := q = 0 ∨ k < nI q
theorem mSl_o {dp : Nat} {k : Int32} {x : Nat} (h : x ≠ 1003) : ∀ (n q : Nat) (J : IT), mSl dp k J q n x = J x
  | 0, _, _ => rfl
  | n + 1, q, J => by
    rw [mSl, mSl_o h n (q + 1)]
    split
    · exact mShf_o h
    · rfl
theorem mRl_o {f : Nat} {x : Nat} (h : x ≠ 1003) : ∀ (n q : Nat) (J : IT), mRl f J q n x = J x
  | 0, _, _ => rfl
  | n + 1, q, J => by rw [mRl, mRl_o h n (q + 1), mShf_o h]
theorem mSl_gt {dp : Nat} {k : Int32} (hd : dp < 5) : ∀ (n q : Nat) (J : IT), q + n = 8 → ∀ x j, j < 5 →
    ((q ≤ x ∧ x < 8 ∧ mv k x) → gt (mSl dp k J q n) x j = 0) ∧
    (∀ y, q ≤ y → y < 8 → mv k y → gt (mSl dp k J q n) (56 + 8 * dp + y) j = gt J y j) ∧
    (¬ (q ≤ x ∧ x < 8 ∧ mv k x) → (∀ y, q ≤ y → y < 8 → mv k y → x ≠ 56 + 8 * dp + y) → gt (mSl dp k J q n) x j = gt J x j)
  | 0, q, J, hq, x, j, hj => ⟨fun h => absurd h.2.1 (by omega), fun y h1 h2 => absurd h2 (by omega), fun _ _ => rfl⟩
  | n + 1, q, J, hq, x, j, hj => by
    rw [mSl]
    by_cases hm : q = 0 ∨ k < nI q
    · rw [if_pos hm]
      have ih := mSl_gt (k := k) hd n (q + 1) (mShf J q (56 + 8 * dp + q)) (by omega)
      refine ⟨fun h => ?_, fun y h1 h2 h3 => ?_, fun h h' => ?_⟩
      · by_cases e : x = q
        · subst e
          rw [(ih x j hj).2.2 (fun z => absurd z.1 (by omega)) (fun y _ _ _ => by omega), gt_shf hj, if_pos rfl]
        · exact (ih x j hj).1 ⟨by omega, h.2.1, h.2.2⟩
      · by_cases e : y = q
        · subst e
          rw [(ih (56 + 8 * dp + y) j hj).2.2 (fun z => absurd z.2.1 (by omega)) (fun z _ _ _ => by omega), gt_shf hj, if_neg (by omega), if_pos rfl]
        · rw [(ih x j hj).2.1 y (by omega) h2 h3, gt_shf hj, if_neg e, if_neg (by omega)]
      · have hx : x ≠ q := fun e => h ⟨by omega, by omega, by rw [e]; exact hm⟩
        have hx2 : x ≠ 56 + 8 * dp + q := h' q (Nat.le_refl q) (by omega) hm
        rw [(ih x j hj).2.2 (fun z => h ⟨by omega, z.2.1, z.2.2⟩) (fun y h1 h2 h3 => h' y (by omega) h2 h3), gt_shf hj, if_neg hx, if_neg hx2]
    · rw [if_neg hm]
      have ih := mSl_gt (k := k) hd n (q + 1) J (by omega)
      refine ⟨fun h => ?_, fun y h1 h2 h3 => ?_, fun h h' => ?_⟩
      · have hx : x ≠ q := fun e => hm (by rw [← e]; exact h.2.2)
        exact (ih x j hj).1 ⟨by omega, h.2.1, h.2.2⟩
      · have hy : y ≠ q := fun e => hm (by rw [← e]; exact h3)
        exact (ih x j hj).2.1 y (by omega) h2 h3
      · exact (ih x j hj).2.2 (fun z => h ⟨by omega, z.2.1, z.2.2⟩) (fun y h1 h2 h3 => h' y (by omega) h2 h3)
theorem mRl_gt {f : Nat} (hf : f < 5) : ∀ (n q : Nat) (J : IT), q + n = 8 → ∀ x j, j < 5 →
    (∀ y, q ≤ y → y < 8 → gt (mRl f J q n) y j = gt J (56 + 8 * f + y) j) ∧
    (∀ y, q ≤ y → y < 8 → gt (mRl f J q n) (56 + 8 * f + y) j = 0) ∧
    (¬ (q ≤ x ∧ x < 8) → (∀ y, q ≤ y → y < 8 → x ≠ 56 + 8 * f + y) → gt (mRl f J q n) x j = gt J x j)
  | 0, q, J, hq, x, j, hj => ⟨fun y h1 h2 => absurd h2 (by omega), fun y h1 h2 => absurd h2 (by omega), fun _ _ => rfl⟩
  | n + 1, q, J, hq, x, j, hj => by
    rw [mRl]
    have ih := mRl_gt hf n (q + 1) (mShf J (56 + 8 * f + q) q) (by omega)
    refine ⟨fun y h1 h2 => ?_, fun y h1 h2 => ?_, fun h h' => ?_⟩
    · by_cases e : y = q
      · subst e
        rw [(ih y j hj).2.2 (fun z => absurd z.1 (by omega)) (fun z _ _ => by omega), gt_shf hj, if_neg (by omega), if_pos rfl]
      · rw [(ih x j hj).1 y (by omega) h2, gt_shf hj, if_neg (by omega), if_neg (by omega)]
    · by_cases e : y = q
      · subst e
        rw [(ih (56 + 8 * f + y) j hj).2.2 (fun z => absurd z.2 (by omega)) (fun z _ _ => by omega), gt_shf hj, if_pos rfl]
      · exact (ih x j hj).2.1 y (by omega) h2
    · have hx : x ≠ q := fun e => h ⟨by omega, by omega⟩
      have hx2 : x ≠ 56 + 8 * f + q := h' q (Nat.le_refl q) (by omega)
      rw [(ih x j hj).2.2 (fun z => h ⟨by omega, z.2⟩) (fun y h1 h2 => h' y (by omega) h2), gt_shf hj, if_neg hx2, if_neg hx]
theorem oFl_K {dp : Nat} {k : Int32} (hd : dp < 5) : ∀ (n q : Nat) (L : LT) (J : IT), q + n = 8 → Kp L J → Kp (oFl dp k L q n) (mSl dp k J q n) ∧ oFl dp k L q n 6 = L 6
  | 0, _, _, _, _, h => ⟨h, rfl⟩
  | n + 1, q, L, J, hq, h => by
    rw [oFl, mSl]
    by_cases hm : q = 0 ∨ k < nI q
    · rw [if_pos hm, if_pos hm]
      have := oFl_K (k := k) hd n (q + 1) _ _ (by omega) (Kp_shf (t := 56 + 8 * dp + q) h (show q < 102 by omega))
      exact ⟨this.1, this.2.trans (by rw [upL_b (by decide), upL_b (by decide)])⟩
    · rw [if_neg hm, if_neg hm]
      exact oFl_K hd n (q + 1) L J (by omega) h
theorem cFl_K {f : Nat} (hf : f < 5) : ∀ (n q : Nat) (L : LT) (J : IT), q + n = 8 → Kp L J → Kp (cFl f L q n) (mRl f J q n) ∧ cFl f L q n 6 = L 6
  | 0, _, _, _, _, h => ⟨h, rfl⟩
  | n + 1, q, L, J, hq, h => by
    rw [cFl, mRl]
    have := cFl_K hf n (q + 1) _ _ (by omega) (Kp_shf (t := q) h (show 56 + 8 * f + q < 102 by omega))
    exact ⟨this.1, this.2.trans (by rw [upL_b (by decide), upL_b (by decide)])⟩
theorem wNl_5 {I : IT} {g dp : Nat} {k : Int32} : ∀ (n q : Nat) (L : LT), wNl I g k dp L q n 5 = L 5
  | 0, _, _ => rfl
  | n + 1, q, L => by rw [wNl, wNl_5 n (q + 1), upL_b (by decide)]
theorem wNl_6 {I : IT} {g dp : Nat} {k : Int32} : ∀ (n q : Nat) (L : LT) (i : Nat), (∀ y, q ≤ y → y < q + n → wNl I g k dp L q n 6 (7 * dp + y) = if lnt I g k y = true then L 5 y else 0) ∧ ((∀ y, q ≤ y → y < q + n → i ≠ 7 * dp + y) → wNl I g k dp L q n 6 i = L 6 i)
  | 0, q, L, i => ⟨fun y h1 h2 => absurd h2 (by omega), fun _ => rfl⟩
  | n + 1, q, L, i => by
    rw [wNl]
    have ih := wNl_6 (I := I) (g := g) (dp := dp) (k := k) n (q + 1) (upL L 6 (7 * dp + q) (if lnt I g k q = true then L 5 q else 0))
    refine ⟨fun y h1 h2 => ?_, fun h => ?_⟩
    · by_cases e : y = q
      · subst e
        rw [(ih (7 * dp + y)).2 (fun z _ _ => by omega), upL_at, if_pos rfl]
      · rw [(ih i).1 y (by omega) (by omega), upL_b (by decide)]
    · rw [(ih i).2 (fun y h1 h2 => h y (by omega) (by omega)), upL_at, if_neg (h q (Nat.le_refl q) (by omega))]
theorem mNtl_o {f k p x : Nat} (h : x ≠ 1011) : ∀ (n j : Nat) (J : IT), mNtl f k p J j n x = J x
  | 0, _, _ => rfl
  | n + 1, j, J => by rw [mNtl, mNtl_o h n (j + 1), upI_b h]
theorem mNtl_11 {f k p : Nat} : ∀ (n j : Nat) (J : IT) (i : Nat), (∀ y, j ≤ y → y < j + n → mNtl f k p J j n 1011 (35 * f + 5 * k + y) = gt J p y) ∧ ((∀ y, j ≤ y → y < j + n → i ≠ 35 * f + 5 * k + y) → mNtl f k p J j n 1011 i = J 1011 i)
  | 0, j, J, i => ⟨fun y h1 h2 => absurd h2 (by omega), fun _ => rfl⟩
  | n + 1, j, J, i => by
    rw [mNtl]
    have ih := mNtl_11 (f := f) (k := k) (p := p) n (j + 1) (upI J 1011 (35 * f + 5 * k + j) (gt J p j))
    refine ⟨fun y h1 h2 => ?_, fun h => ?_⟩
    · by_cases e : y = j
      · subst e
        rw [(ih (35 * f + 5 * k + y)).2 (fun z _ _ => by omega), upI_at, if_pos rfl]
      · rw [(ih i).1 y (by omega) (by omega), gt_up (by decide)]
    · rw [(ih i).2 (fun y h1 h2 => h y (by omega) (by omega)), upI_at, if_neg (h j (Nat.le_refl j) (by omega))]
theorem nt_not {J : IT} {f k p f' k' j : Nat} (hj : j < 5) (hk : k < 7) (hk' : k' < 7) : nt (mNot J f k p) f' k' j = if f' = f ∧ k' = k then gt J p j else nt J f' k' j := by
  unfold nt mNot
  by_cases e : f' = f ∧ k' = k
  · rw [if_pos e, e.1, e.2, (mNtl_11 5 0 J 0).1 j (by omega) (by omega)]
  · rw [if_neg e, (mNtl_11 5 0 J _).2 (fun y _ h2 => by omega)]
theorem mNot_o {J : IT} {f k p x : Nat} (h : x ≠ 1011) : mNot J f k p x = J x := mNtl_o h 5 0 J
theorem mNr_o {dp x : Nat} (h : x ≠ 1011) : ∀ (n q : Nat) (J : IT), mNr dp J q n x = J x
  | 0, _, _ => rfl
  | n + 1, q, J => by rw [mNr, mNr_o h n (q + 1), mNot_o h]
theorem nt_nr {dp : Nat} : ∀ (n q : Nat) (J : IT) (f' k' j : Nat), j < 5 → k' < 7 → q + n = 7 → nt (mNr dp J q n) f' k' j = if f' = dp ∧ q ≤ k' then gt J k' j else nt J f' k' j
  | 0, q, J, f', k', j, hj, hk, hq => by rw [mNr, if_neg (by omega)]
  | n + 1, q, J, f', k', j, hj, hk, hq => by
    rw [mNr, nt_nr n (q + 1) _ f' k' j hj hk (by omega), nt_not hj (by omega) hk]
    have e1 : gt (mNot J dp q q) k' j = gt J k' j := by unfold gt; rw [mNot_o (by decide)]
    rw [e1]
    by_cases e : f' = dp ∧ q ≤ k'
    · rw [if_pos e]
      by_cases e2 : k' = q
      · rw [if_neg (by omega), if_pos ⟨e.1, e2⟩, e2]
      · rw [if_pos ⟨e.1, by omega⟩]
    · rw [if_neg e, if_neg (fun z => e ⟨z.1, by omega⟩), if_neg (fun z => e ⟨z.1, by omega⟩)]
theorem ccn_shf {J : IT} {f t c : Nat} (hf : f < 102) (ht : t < 102) (hne : f ≠ t) (h0 : gt J t 0 = 0) : ccn (mShf J f t) c 102 = ccn J c 102 := by
  have e1 : ccn (mCpy J t f) c 102 + isS J c t = ccn J c 102 + isS J c f := ccn_put ht
  have e2 : ccn (mShf J f t) c 102 + isS (mCpy J t f) c f = ccn (mCpy J t f) c 102 + 0 := ccn_put hf
  have e3 : isS J c t = 0 := if_neg (fun z => absurd z.1 (by rw [h0]; decide))
  have e4 : isS (mCpy J t f) c f = isS J c f := by unfold isS; rw [gt_cpy (by decide), gt_cpy (by decide), if_neg hne, if_neg hne]
  omega
theorem mSl_c {dp : Nat} {k : Int32} {c : Nat} (hd : dp < 5) : ∀ (n q : Nat) (J : IT), q + n = 8 → (∀ y, q ≤ y → y < 8 → gt J (56 + 8 * dp + y) 0 = 0) → ccn (mSl dp k J q n) c 102 = ccn J c 102
  | 0, _, _, _, _ => rfl
  | n + 1, q, J, hq, h => by
    rw [mSl]
    by_cases hm : q = 0 ∨ k < nI q
    · rw [if_pos hm, mSl_c hd n (q + 1) _ (by omega) (fun y h1 h2 => by rw [gt_shf (by decide), if_neg (by omega), if_neg (by omega)]; exact h y (by omega) h2)]
      exact ccn_shf (by omega) (by omega) (by omega) (h q (Nat.le_refl q) (by omega))
    · rw [if_neg hm]; exact mSl_c hd n (q + 1) J (by omega) (fun y h1 h2 => h y (by omega) h2)
theorem mRl_c {f c : Nat} (hf : f < 5) : ∀ (n q : Nat) (J : IT), q + n = 8 → (∀ y, q ≤ y → y < 8 → gt J y 0 = 0) → ccn (mRl f J q n) c 102 = ccn J c 102
  | 0, _, _, _, _ => rfl
  | n + 1, q, J, hq, h => by
    rw [mRl, mRl_c hf n (q + 1) _ (by omega) (fun y h1 h2 => by rw [gt_shf (by decide), if_neg (by omega), if_neg (by omega)]; exact h y (by omega) h2)]
    exact ccn_shf (by omega) (by omega) (by omega) (h q (Nat.le_refl q) (by omega))

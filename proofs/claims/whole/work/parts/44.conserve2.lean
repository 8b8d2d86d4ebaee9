/-! conserve agrees -/
section CNA
variable {L : LT} {I J : IT}
abbrev btq (q : Int32) (b : Nat) : Int32 := (q >>> (nI b &&& 31)) &&& 1
theorem txi_at {q : Int32} {a x y : Nat} (hy : y < 4) : ∀ (n b : Nat) (I : IT), b + n ≤ 4 → txi q a I b n 19 (x * 4 + y) = if x = a ∧ b ≤ y ∧ y < b + n then I 19 (x * 4 + y) + btq q y else I 19 (x * 4 + y)
  | 0, b, I, _ => by rw [txi, if_neg (by omega)]
  | n + 1, b, I, hb => by
    rw [txi, txi_at hy n (b + 1) _ (by omega), upI_at]
    by_cases e : x = a ∧ y = b
    · obtain ⟨rfl, rfl⟩ := e
      rw [if_pos (show x * 4 + y = x * 4 + y from rfl), if_neg (show ¬ (x = x ∧ y + 1 ≤ y ∧ y < y + 1 + n) by omega), if_pos (show x = x ∧ y ≤ y ∧ y < y + (n + 1) by omega)]
    · rw [if_neg (show ¬ x * 4 + y = a * 4 + b by omega)]
      by_cases f : x = a ∧ b + 1 ≤ y ∧ y < b + 1 + n
      · rw [if_pos f, if_pos (show x = a ∧ b ≤ y ∧ y < b + (n + 1) by omega)]
      · rw [if_neg f, if_neg (show ¬ (x = a ∧ b ≤ y ∧ y < b + (n + 1)) by omega)]
theorem txo_at {q : Int32} {x y : Nat} (hy : y < 4) : ∀ (n a : Nat) (I : IT), txo q I a n 19 (x * 4 + y) = if a ≤ x ∧ x < a + n then I 19 (x * 4 + y) + btq q y else I 19 (x * 4 + y)
  | 0, a, I => by rw [txo, if_neg (by omega)]
  | n + 1, a, I => by
    rw [txo, txo_at hy n (a + 1), txi_at hy 4 0 I (by decide)]
    by_cases e : x = a
    · subst e
      rw [if_neg (show ¬ (x + 1 ≤ x ∧ x < x + 1 + n) by omega), if_pos (show x = x ∧ 0 ≤ y ∧ y < 0 + 4 by omega), if_pos (show x ≤ x ∧ x < x + (n + 1) by omega)]
    · rw [if_neg (show ¬ (x = a ∧ 0 ≤ y ∧ y < 0 + 4) by omega)]
      by_cases f : a + 1 ≤ x ∧ x < a + 1 + n
      · rw [if_pos f, if_pos (show a ≤ x ∧ x < a + (n + 1) by omega)]
      · rw [if_neg f, if_neg (show ¬ (a ≤ x ∧ x < a + (n + 1)) by omega)]
theorem tsh_at {c x : Nat} : ∀ (n a : Nat) (I : IT), tsh c I a n 20 x = if a ≤ x ∧ x < a + n then I 20 x ||| (1 <<< (nI c &&& 31)) else I 20 x
  | 0, a, I => by rw [tsh, if_neg (by omega)]
  | n + 1, a, I => by
    rw [tsh, tsh_at n (a + 1), upI_at]
    by_cases e : x = a
    · subst e
      rw [if_neg (show ¬ (x + 1 ≤ x ∧ x < x + 1 + n) by omega), if_pos (show x = x from rfl), if_pos (show x ≤ x ∧ x < x + (n + 1) by omega)]
    · rw [if_neg e]
      by_cases f : a + 1 ≤ x ∧ x < a + 1 + n
      · rw [if_pos f, if_pos (show a ≤ x ∧ x < a + (n + 1) by omega)]
      · rw [if_neg f, if_neg (show ¬ (a ≤ x ∧ x < a + (n + 1)) by omega)]
theorem inzr {f e : Int32} {a : Nat} (h1 : sm f 49) (h2 : sm e 49) (h3 : tn f < tn e) (ha : a < 48) : inz (nI a) f (e - 1) = decide (tn f ≤ a ∧ a < tn e) := by
  rw [← rngc h1 h2 h3]
  have e1 : f ≤ nI a ↔ tn f ≤ a := by
    have := nI_leI (a := tn f) (b := a) (by have := h1.2; omega) (by omega)
    rw [← h1.1] at this; exact this
  have e2 : nI a < e ↔ a < tn e := by
    have := nI_ltI (a := a) (b := tn e) (by omega) (by have := h2.2; omega)
    rw [← h2.1] at this; exact this
  by_cases x : tn f ≤ a <;> by_cases y : a < tn e <;> simp [e1, e2, x, y]
set_option maxRecDepth 100000 in
theorem btq_k : ∀ k, k < 16 → ∀ b, b < 4 → btq (nI k) b = if (!decide (nI k &&& nI (2 ^ b) = 0)) = true then 1 else 0 := by decide
theorem btq_h {q : Int32} {b : Nat} (hq : sm q 16) (hb : b < 4) : btq q b = if (!decide (q &&& nI (2 ^ b) = 0)) = true then 1 else 0 := by
  have := btq_k (tn q) hq.2 b hb
  rw [← hq.1] at this; exact this
theorem tl1_19 {j a b : Nat} (h : K1 L I J) (hj : j < 102) (ha : a < 48) (hb : b < 4) (T : IT) : tl1 T (L 5 j) 19 (a * 4 + b) = if mOw J j (nI a) (nI (2 ^ b)) = true then T 19 (a * 4 + b) + 1 else T 19 (a * 4 + b) := by
  unfold tl1
  rw [K_k h hj]
  by_cases e1 : gt J j 0 = 1
  · have v := vl_1 (K_v h hj).1 e1
    have e0 : ¬ gt J j 0 = 0 := by rw [e1]; decide
    have v3 : (gt J j 1).toNatClampNeg < (gt J j 2).toNatClampNeg := v.2.2.1
    rw [if_pos e1, tlX, txo_at hb, K_f h hj e0, K_e h hj e0, K_q h hj e0, btq_h v.2.2.2.1 hb]
    unfold mOw mHas
    rw [inzr v.1 v.2.1 v.2.2.1 ha, decide_eq_true e1, Bool.true_and]
    by_cases x : (gt J j 1).toNatClampNeg ≤ a ∧ a < (gt J j 2).toNatClampNeg
    · rw [if_pos (by omega), decide_eq_true (show tn (gt J j 1) ≤ a ∧ a < tn (gt J j 2) from x), Bool.and_true]
      generalize (!decide (gt J j 3 &&& nI (2 ^ b) = 0)) = z
      cases z
      · simp
      · simp
    · rw [if_neg (by omega), decide_eq_false (show ¬ (tn (gt J j 1) ≤ a ∧ a < tn (gt J j 2)) from x), Bool.and_false, if_neg (by decide)]
  · rw [if_neg e1]
    unfold mOw
    rw [decide_eq_false e1, Bool.false_and, if_neg (show ¬ false = true by decide)]
    split
    · rw [tlS, tsh_o (by decide), upI_b (by decide)]
    · rfl
theorem tal_19 {a b : Nat} (h : K1 L I J) (ha : a < 48) (hb : b < 4) : ∀ (n j : Nat) (T : IT), j + n ≤ 102 → tal L T j n 19 (a * 4 + b) = cn1 J (nI a) (nI (2 ^ b)) (T 19 (a * 4 + b)) j n
  | 0, j, T, _ => by rw [tal, cn1]
  | n + 1, j, T, hj => by rw [tal, cn1, tal_19 h ha hb n (j + 1) _ (by omega), tl1_19 h (by omega) ha hb]
def m6b (b0 b1 b2 b3 b4 b5 : Bool) : Int32 := nI (b0.toNat + 2 * b1.toNat + 4 * b2.toNat + 8 * b3.toNat + 16 * b4.toNat + 32 * b5.toNat)
def m6 (f : Nat → Bool) : Int32 := m6b (f 0) (f 1) (f 2) (f 3) (f 4) (f 5)
theorem m6_ext {f g : Nat → Bool} (h : ∀ c, c < 6 → f c = g c) : m6 f = m6 g := by
  unfold m6
  rw [h 0 (by decide), h 1 (by decide), h 2 (by decide), h 3 (by decide), h 4 (by decide), h 5 (by decide)]
set_option maxRecDepth 100000 in
theorem m6b_or : ∀ b0 b1 b2 b3 b4 b5 : Bool, (m6b b0 b1 b2 b3 b4 b5 ||| (1 <<< (nI 0 &&& 31)) = m6b true b1 b2 b3 b4 b5 ∧ m6b b0 b1 b2 b3 b4 b5 ||| (1 <<< (nI 1 &&& 31)) = m6b b0 true b2 b3 b4 b5 ∧ m6b b0 b1 b2 b3 b4 b5 ||| (1 <<< (nI 2 &&& 31)) = m6b b0 b1 true b3 b4 b5) ∧ m6b b0 b1 b2 b3 b4 b5 ||| (1 <<< (nI 3 &&& 31)) = m6b b0 b1 b2 true b4 b5 ∧ m6b b0 b1 b2 b3 b4 b5 ||| (1 <<< (nI 4 &&& 31)) = m6b b0 b1 b2 b3 true b5 ∧ m6b b0 b1 b2 b3 b4 b5 ||| (1 <<< (nI 5 &&& 31)) = m6b b0 b1 b2 b3 b4 true := by decide
theorem m6_or {f : Nat → Bool} {c : Nat} (hc : c < 6) : m6 f ||| (1 <<< (nI c &&& 31)) = m6 (fun x => f x || decide (c = x)) := by
  have h := m6b_or (f 0) (f 1) (f 2) (f 3) (f 4) (f 5)
  unfold m6
  rcases (by omega : c = 0 ∨ c = 1 ∨ c = 2 ∨ c = 3 ∨ c = 4 ∨ c = 5) with rfl | rfl | rfl | rfl | rfl | rfl
  · rw [h.1.1]; simp
  · rw [h.1.2.1]; simp
  · rw [h.1.2.2]; simp
  · rw [h.2.1]; simp
  · rw [h.2.2.1]; simp
  · rw [h.2.2.2]; simp
def exs (J : IT) (a c : Nat) : Nat → Nat → Bool
  | _, 0 => false
  | j, n + 1 => (sCv J (nI a) 1 j && decide (tn (gt J j 4) = c)) || exs J a c (j + 1) n
theorem exs_iff {a c : Nat} : ∀ n j, exs J a c j n = true ↔ ∃ p, j ≤ p ∧ p < j + n ∧ sCv J (nI a) 1 p = true ∧ tn (gt J p 4) = c
  | 0, j => by
    rw [exs]
    exact ⟨fun h => absurd h (by decide), fun ⟨p, h1, h2, _⟩ => absurd h2 (by omega)⟩
  | n + 1, j => by
    rw [exs, Bool.or_eq_true, Bool.and_eq_true, decide_eq_true_eq, exs_iff n (j + 1)]
    constructor
    · rintro (⟨h1, h2⟩ | ⟨p, h1, h2, h3, h4⟩)
      · exact ⟨j, by omega, by omega, h1, h2⟩
      · exact ⟨p, by omega, by omega, h3, h4⟩
    · rintro ⟨p, h1, h2, h3, h4⟩
      by_cases e : p = j
      · subst e; exact Or.inl ⟨h3, h4⟩
      · exact Or.inr ⟨p, by omega, by omega, h3, h4⟩
theorem tl1_20 {j a : Nat} (h : K1 L I J) (hj : j < 102) (ha : a < 48) (T : IT) {f : Nat → Bool} (hT : T 20 a = m6 f) : tl1 T (L 5 j) 20 a = m6 (fun c => f c || (sCv J (nI a) 1 j && decide (tn (gt J j 4) = c))) := by
  unfold tl1
  rw [K_k h hj]
  by_cases e2 : gt J j 0 = 2
  · have v := vl_2 (K_v h hj).1 e2
    have e0 : ¬ gt J j 0 = 0 := by rw [e2]; decide
    have v3 : (gt J j 1).toNatClampNeg < (gt J j 2).toNatClampNeg := v.2.2.1
    rw [if_neg (by rw [e2]; decide), if_pos e2, tlS, tsh_at, upI_b (by decide), K_f h hj e0, K_e h hj e0, K_lk h hj e0, hT, m6_or v.2.2.2.2.2]
    unfold sCv mHas
    rw [inzr v.1 v.2.1 v.2.2.1 ha, decide_eq_true e2, Bool.true_and, v.2.2.2.1, show (!decide ((1 : Int32) &&& 1 = 0)) = true by decide, Bool.true_and]
    by_cases x : (gt J j 1).toNatClampNeg ≤ a ∧ a < (gt J j 2).toNatClampNeg
    · rw [if_pos (by omega), decide_eq_true (show tn (gt J j 1) ≤ a ∧ a < tn (gt J j 2) from x)]
      exact m6_ext (fun c _ => by rw [Bool.true_and])
    · rw [if_neg (by omega), decide_eq_false (show ¬ (tn (gt J j 1) ≤ a ∧ a < tn (gt J j 2)) from x)]
      exact m6_ext (fun c _ => by rw [Bool.false_and, Bool.or_false])
  · have : sCv J (nI a) 1 j = false := by unfold sCv; rw [decide_eq_false e2, Bool.false_and]
    rw [this, if_neg e2]
    have e : m6 (fun c => f c || (false && decide (tn (gt J j 4) = c))) = m6 f := m6_ext (fun c _ => by rw [Bool.false_and, Bool.or_false])
    rw [e, ← hT]
    split
    · rw [tlX, txo_o (by decide)]
    · rfl
theorem tal_20 {a : Nat} (h : K1 L I J) (ha : a < 48) : ∀ (n j : Nat) (T : IT) (f : Nat → Bool), j + n ≤ 102 → T 20 a = m6 f → tal L T j n 20 a = m6 (fun c => f c || exs J a c j n)
  | 0, j, T, f, _, hT => by
    rw [tal, hT]
    exact m6_ext (fun c _ => by rw [exs, Bool.or_false])
  | n + 1, j, T, f, hj, hT => by
    rw [tal, tal_20 h ha n (j + 1) _ _ (by omega) (tl1_20 h (by omega) ha T hT)]
    exact m6_ext (fun c _ => by rw [exs, Bool.or_assoc])
theorem tl1_21 {j c : Nat} (h : K1 L I J) (hj : j < 102) (hc : c < 6) (T : IT) : tl1 T (L 5 j) 21 c = if gt J j 0 = 2 ∧ gt J j 4 = nI c then T 21 c + 1 else T 21 c := by
  unfold tl1
  rw [K_k h hj]
  by_cases e2 : gt J j 0 = 2
  · have v := vl_2 (K_v h hj).1 e2
    have e0 : ¬ gt J j 0 = 0 := by rw [e2]; decide
    rw [if_neg (by rw [e2]; decide), if_pos e2, tlS, tsh_o (by decide), upI_at, K_lk h hj e0]
    by_cases x : c = tn (gt J j 4)
    · rw [if_pos x, if_pos ⟨e2, by rw [x]; exact v.2.2.2.2.1⟩, x]
    · rw [if_neg x, if_neg (fun z => x (by rw [z.2]; exact (sm_tn (by omega)).symm))]
  · rw [if_neg e2, if_neg (show ¬ (gt J j 0 = 2 ∧ gt J j 4 = nI c) from fun z => e2 z.1)]
    split
    · rw [tlX, txo_o (by decide)]
    · rfl
theorem tal_21 {c : Nat} (h : K1 L I J) (hc : c < 6) : ∀ (n j : Nat) (T : IT), j + n ≤ 102 → tal L T j n 21 c = shc J c (T 21 c) j n
  | 0, j, T, _ => by rw [tal, shc]
  | n + 1, j, T, hj => by rw [tal, shc, tal_21 h hc n (j + 1) _ (by omega), tl1_21 h (by omega) hc]
theorem cn2_x {a q : Int32} : ∀ (n j : Nat) (x : Int32), cn2 J a q x j n = x + cn2 J a q 0 j n
  | 0, j, x => by rw [cn2, cn2, Int32.add_zero]
  | n + 1, j, x => by
    rw [cn2, cn2]
    by_cases h : mCo J j a q = true
    · rw [if_pos h, if_pos h, cn2_x n (j + 1) (x + 1), cn2_x n (j + 1) (0 + 1), Int32.zero_add, Int32.add_assoc]
    · rw [if_neg h, if_neg h]
      exact cn2_x n (j + 1) x
set_option maxRecDepth 100000 in
theorem m6b_bt : ∀ b0 b1 b2 b3 b4 b5 : Bool, btC (m6b b0 b1 b2 b3 b4 b5) = nI (b0.toNat + b1.toNat + b2.toNat + b3.toNat + b4.toNat + b5.toNat) := by decide
theorem bcN {b : Bool} {x : Nat} : (if b = true then nI x + 1 else nI x) = nI (x + b.toNat) := by cases b <;> simp [nI_1]
theorem cn2_6 {a q : Int32} : cn2 J a q 0 0 6 = btC (m6 (fun c => mCo J c a q)) := by
  unfold m6
  rw [m6b_bt, show (0 : Int32) = nI 0 from rfl]
  rw [cn2, bcN, cn2, bcN, cn2, bcN, cn2, bcN, cn2, bcN, cn2, bcN, cn2, Nat.zero_add]
theorem tl0_19 {j : Nat} (hj : j < 192) : tl0 I 19 j = 0 := if_pos hj
theorem tl0_20 {j : Nat} (hj : j < 48) : tl0 I 20 j = 0 := if_pos hj
theorem tl0_21 {j : Nat} (hj : j < 6) : tl0 I 21 j = 0 := if_pos hj
theorem tlA_20 {a : Nat} (h : KK L I J) (ha : a < 48) : tlA L I 20 a = m6 (fun c => mCo J c (nI a) 1) := by
  unfold tlA
  rw [tal_20 h.1 ha 102 0 _ (fun _ => false) (by decide) (by rw [tl0_20 ha]; rfl)]
  refine m6_ext (fun c hc => ?_)
  rw [Bool.false_or]
  refine Bool.eq_iff_iff.mpr ((exs_iff 102 0).trans (Iff.trans ?_ (mCo_s h.1 h.2.1 (Or.inl rfl) hc).symm))
  constructor
  · rintro ⟨p, _, h2, h3⟩; exact ⟨p, by omega, h3⟩
  · rintro ⟨p, h2, h3⟩; exact ⟨p, by omega, by omega, h3⟩
theorem hoe_f {T : IT} {a : Nat} : ∀ n q, hoe T a false q n = false
  | 0, _ => rfl
  | n + 1, q => by rw [hoe, Bool.false_and, hoe_f n]
theorem hoe_c {T : IT} {a : Nat} : ∀ n q, (∀ b, q ≤ b → b < q + n → (T 19 (a * 4 + b) + (if (1 : Int32) <<< (nI b &&& 31) = 1 then btC (T 20 a) else 0)) = cn3 J (nI a) (nI (2 ^ b))) → hoe T a true q n = cvr J (nI a) q n
  | 0, _, _ => rfl
  | n + 1, q, h => by
    rw [hoe, cvr, h q (by omega) (by omega), Bool.true_and]
    by_cases e : cn3 J (nI a) (nI (2 ^ q)) = 1
    · rw [decide_eq_true e, if_pos e]
      exact hoe_c n (q + 1) (fun b h1 h2 => h b (by omega) (by omega))
    · rw [decide_eq_false e, if_neg e, hoe_f]
theorem mCo_1 {c : Nat} {a q : Int32} (h : ¬ q = 1) : mCo J c a q = false := by unfold mCo; rw [decide_eq_false h, Bool.false_and, Bool.and_false]
theorem own_one {a b : Nat} (h : KK L I J) (ha : a < 48) (hb : b < 4) : (tlA L I 19 (a * 4 + b) + (if (1 : Int32) <<< (nI b &&& 31) = 1 then btC (tlA L I 20 a) else 0)) = cn3 J (nI a) (nI (2 ^ b)) := by
  have e1 : tlA L I 19 (a * 4 + b) = cn1 J (nI a) (nI (2 ^ b)) 0 0 102 := by
    unfold tlA
    rw [tal_19 h.1 ha hb 102 0 _ (by decide), tl0_19 (by omega)]
  unfold cn3
  rw [e1, cn2_x, cn2_6, tlA_20 h ha]
  congr 1
  by_cases e : b = 0
  · subst e
    rw [if_pos (by decide)]; rfl
  · have ne : ¬ nI (2 ^ b) = 1 := by
      rcases (by omega : b = 1 ∨ b = 2 ∨ b = 3) with rfl | rfl | rfl <;> decide
    rw [if_neg (by rcases (by omega : b = 1 ∨ b = 2 ∨ b = 3) with rfl | rfl | rfl <;> decide), m6_ext (g := fun _ => false) (fun c _ => mCo_1 ne)]
    decide
theorem fw2_eq (h : KK L I J) : ∀ n c, c + n ≤ 6 → fw2 (tlA L I) c n = cv2 J c n
  | 0, _, _ => rfl
  | n + 1, c, hc => by
    have e1 : tlA L I 7 c = J 1004 c := by rw [tlA_o (by decide) (by decide) (by decide)]; exact h.1.1.2.1 c (by omega)
    have e2 : tlA L I 21 c = shc J c 0 0 102 := by
      unfold tlA
      rw [tal_21 h.1 (by omega) 102 0 _ (by decide), tl0_21 (by omega)]
    rw [fw2, cv2, e1, e2, fw2_eq h n (c + 1) (by omega)]
    generalize shc J c 0 0 102 = x
    by_cases e : J 1004 c = x
    · rw [if_pos e, if_pos e.symm]
    · rw [if_neg e, if_neg (fun z => e z.symm)]
theorem fw1_eq (h : KK L I J) : ∀ n a, a + n ≤ 48 → fw1 (tlA L I) a n = cv1 J a n
  | 0, _, _ => fw2_eq h 6 0 (by decide)
  | n + 1, a, ha => by
    rw [fw1, cv1, hoe_c 4 0 (fun b _ h2 => own_one h (by omega) (by omega)), fw1_eq h n (a + 1) (by omega)]
theorem cons_eq (h : KK L I J) : fw1 (tlA L I) 0 48 = cv1 J 0 48 := fw1_eq h 48 0 (by decide)
theorem shc_c {c : Nat} : ∀ n j, shc J c (nI (ccn J c j)) j n = nI (ccn J c (j + n))
  | 0, j => rfl
  | n + 1, j => by
    rw [shc, show j + (n + 1) = j + 1 + n by omega, ← shc_c n (j + 1), ccn]
    unfold isS
    split
    · rw [nI_1]
    · rfl
theorem cv2_z (h : Ct J) : ∀ n c, c + n ≤ 6 → cv2 J c n = 0
  | 0, _, _ => rfl
  | n + 1, c, hc => by
    have e : shc J c 0 0 102 = J 1004 c := by
      rw [h c (by omega)]
      have := shc_c (J := J) (c := c) 102 0
      rw [Nat.zero_add] at this
      exact this
    rw [cv2, if_pos e, cv2_z h n (c + 1) (by omega)]
theorem K_rok {p : Nat} (h : K1 L I J) (hp : p < 102) : rk2 (L 5 p) := by
  constructor
  · intro hc
    have h0 : ¬ (gt J p 0 = 0 ∨ gt J p 0 = 3) := fun z => by rw [(K_cap h hp).mpr z] at hc; exact absurd hc (by decide)
    have v := K_rg h hp h0
    have e0 : ¬ gt J p 0 = 0 := fun z => h0 (Or.inl z)
    rw [K_f h hp e0, K_e h hp e0]
    have v2 : (gt J p 2).toNatClampNeg < 49 := v.2.1.2
    have v3 : (gt J p 1).toNatClampNeg < (gt J p 2).toNatClampNeg := v.2.2
    omega
  · intro h2; exact K_lt h hp (Or.inl h2)
end CNA

/-! the history: keep, one order -/
section HI2
variable {G : GW} {L : LT} {I J : IT} {r d n s : Nat}
theorem cpy_in {α : Type} {f g : Nat → α} {n p : Nat} (h : p < n) : cpy f g n p = f p := by simp [cpy, va_cpy, h]
theorem cpI_o {k x : Nat} (h : ¬ (k ≤ x ∧ x ≤ k + 10)) {y : Nat} : cpI I k y x = I x := by
  unfold cpI cpA upI
  simp (disch := omega) only [va_up_ne]
theorem cpL_o {k x : Nat} (h : ¬ (k ≤ x ∧ x ≤ k + 10)) {y : Nat} : cpL L k y x = L x := by
  unfold cpL
  simp (disch := omega) only [va_up_ne]
/-- what a copy holds -/
theorem cp_same {k y : Nat} : (∀ p, p < 102 → cpL L k y (k + 1) p = L (y + 1) p) ∧ (∀ p, p < 35 → cpL L k y (k + 2) p = L (y + 2) p) ∧ (∀ c, c < 6 → cpI I k y (k + 3) c = I (y + 3) c ∧ cpI I k y (k + 4) c = I (y + 4) c ∧ cpI I k y (k + 5) c = I (y + 5) c ∧ cpI I k y (k + 6) c = I (y + 6) c) ∧ (∀ f, f < 5 → cpI I k y (k + 7) f = I (y + 7) f ∧ cpI I k y (k + 8) f = I (y + 8) f ∧ cpI I k y (k + 9) f = I (y + 9) f ∧ cpI I k y (k + 10) f = I (y + 10) f) ∧ (cpI I k y k 10 = I y 10 ∧ cpI I k y k 11 = I y 11 ∧ cpI I k y k 12 = I y 12 ∧ cpI I k y k 13 = I y 13 ∧ cpI I k y k 14 = I y 14) := by
  refine ⟨fun p hp => ?_, fun p hp => ?_, fun c hc => ⟨?_, ?_, ?_, ?_⟩, fun c hc => ⟨?_, ?_, ?_, ?_⟩, ?_, ?_, ?_, ?_, ?_⟩
  · unfold cpL
    rw [va_up_ne _ _ (by omega), va_up_self, cpy_in hp]
  · unfold cpL
    rw [va_up_self, cpy_in hp]
  · unfold cpI cpA
    rw [upI_b (by omega), upI_b (by omega), upI_b (by omega), upI_b (by omega), upI_b (by omega)]
    simp (disch := omega) only [va_up_ne, va_up_self]
    exact cpy_in hc
  · unfold cpI cpA
    rw [upI_b (by omega), upI_b (by omega), upI_b (by omega), upI_b (by omega), upI_b (by omega)]
    simp (disch := omega) only [va_up_ne, va_up_self]
    exact cpy_in hc
  · unfold cpI cpA
    rw [upI_b (by omega), upI_b (by omega), upI_b (by omega), upI_b (by omega), upI_b (by omega)]
    simp (disch := omega) only [va_up_ne, va_up_self]
    exact cpy_in hc
  · unfold cpI cpA
    rw [upI_b (by omega), upI_b (by omega), upI_b (by omega), upI_b (by omega), upI_b (by omega)]
    simp (disch := omega) only [va_up_ne, va_up_self]
    exact cpy_in hc
  · unfold cpI cpA
    rw [upI_b (by omega), upI_b (by omega), upI_b (by omega), upI_b (by omega), upI_b (by omega)]
    simp (disch := omega) only [va_up_ne, va_up_self]
    exact cpy_in hc
  · unfold cpI cpA
    rw [upI_b (by omega), upI_b (by omega), upI_b (by omega), upI_b (by omega), upI_b (by omega)]
    simp (disch := omega) only [va_up_ne, va_up_self]
    exact cpy_in hc
  · unfold cpI cpA
    rw [upI_b (by omega), upI_b (by omega), upI_b (by omega), upI_b (by omega), upI_b (by omega)]
    simp (disch := omega) only [va_up_ne, va_up_self]
    exact cpy_in hc
  · unfold cpI cpA
    rw [upI_b (by omega), upI_b (by omega), upI_b (by omega), upI_b (by omega), upI_b (by omega)]
    simp (disch := omega) only [va_up_ne, va_up_self]
    exact cpy_in hc
  · unfold cpI; rw [upI_j (by decide), upI_j (by decide), upI_j (by decide), upI_j (by decide), upI_s]
  · unfold cpI; rw [upI_j (by decide), upI_j (by decide), upI_j (by decide), upI_s]
  · unfold cpI; rw [upI_j (by decide), upI_j (by decide), upI_s]
  · unfold cpI; rw [upI_j (by decide), upI_s]
  · unfold cpI; rw [upI_s]
theorem rw_4 {α : Type} {T : Nat → α} {a : Nat} : T (4 + (22 + 11 * a)) = T (26 + 11 * a) := congrArg T (by omega)
theorem rw_id {α : Type} {T : Nat → α} {x a : Nat} (h : 4 ≤ x) : T (x + (22 + 11 * a)) = T (26 + 11 * a + (x - 4)) := congrArg T (by omega)
/-- a row that holds a copy of the state -/
theorem same_keep {a : Nat} : same L I (rwL (cpL L (26 + 11 * a) 4) a) (rwI (cpI I (26 + 11 * a) 4) a) := by
  obtain ⟨h1, h2, h3, h4, h5⟩ := cp_same (L := L) (I := I) (k := 26 + 11 * a) (y := 4)
  refine ⟨fun p hp => ?_, fun p hp => ?_, fun c hc => ?_, fun c hc => ?_, ?_⟩
  · show cpL L (26 + 11 * a) 4 (5 + (22 + 11 * a)) p = _
    rw [rw_id (T := cpL L (26 + 11 * a) 4) (by decide)]; exact h1 p hp
  · show cpL L (26 + 11 * a) 4 (6 + (22 + 11 * a)) p = _
    rw [rw_id (T := cpL L (26 + 11 * a) 4) (by decide)]; exact h2 p hp
  · show cpI I (26 + 11 * a) 4 (7 + (22 + 11 * a)) c = _ ∧ cpI I (26 + 11 * a) 4 (8 + (22 + 11 * a)) c = _ ∧ cpI I (26 + 11 * a) 4 (9 + (22 + 11 * a)) c = _ ∧ cpI I (26 + 11 * a) 4 (10 + (22 + 11 * a)) c = _
    rw [rw_id (T := cpI I (26 + 11 * a) 4) (by decide), rw_id (T := cpI I (26 + 11 * a) 4) (by decide), rw_id (T := cpI I (26 + 11 * a) 4) (by decide), rw_id (T := cpI I (26 + 11 * a) 4) (by decide)]; exact h3 c hc
  · show cpI I (26 + 11 * a) 4 (11 + (22 + 11 * a)) c = _ ∧ cpI I (26 + 11 * a) 4 (12 + (22 + 11 * a)) c = _ ∧ cpI I (26 + 11 * a) 4 (13 + (22 + 11 * a)) c = _ ∧ cpI I (26 + 11 * a) 4 (14 + (22 + 11 * a)) c = _
    rw [rw_id (T := cpI I (26 + 11 * a) 4) (by decide), rw_id (T := cpI I (26 + 11 * a) 4) (by decide), rw_id (T := cpI I (26 + 11 * a) 4) (by decide), rw_id (T := cpI I (26 + 11 * a) 4) (by decide)]; exact h4 c hc
  · show cpI I (26 + 11 * a) 4 (4 + (22 + 11 * a)) 10 = _ ∧ cpI I (26 + 11 * a) 4 (4 + (22 + 11 * a)) 11 = _ ∧ cpI I (26 + 11 * a) 4 (4 + (22 + 11 * a)) 12 = _ ∧ cpI I (26 + 11 * a) 4 (4 + (22 + 11 * a)) 13 = _ ∧ cpI I (26 + 11 * a) 4 (4 + (22 + 11 * a)) 14 = _
    rw [rw_4 (T := cpI I (26 + 11 * a) 4)]; exact h5
/-- the state that holds a copy of a row -/
theorem same_back {a : Nat} : same (rwL L a) (rwI I a) (cpL L 4 (26 + 11 * a)) (cpI I 4 (26 + 11 * a)) := by
  obtain ⟨h1, h2, h3, h4, h5⟩ := cp_same (L := L) (I := I) (k := 4) (y := 26 + 11 * a)
  refine ⟨fun p hp => ?_, fun p hp => ?_, fun c hc => ?_, fun c hc => ?_, ?_⟩
  · show _ = L (5 + (22 + 11 * a)) p
    rw [rw_id (T := L) (by decide)]; exact h1 p hp
  · show _ = L (6 + (22 + 11 * a)) p
    rw [rw_id (T := L) (by decide)]; exact h2 p hp
  · show _ = I (7 + (22 + 11 * a)) c ∧ _ = I (8 + (22 + 11 * a)) c ∧ _ = I (9 + (22 + 11 * a)) c ∧ _ = I (10 + (22 + 11 * a)) c
    rw [rw_id (T := I) (by decide), rw_id (T := I) (by decide), rw_id (T := I) (by decide), rw_id (T := I) (by decide)]; exact h3 c hc
  · show _ = I (11 + (22 + 11 * a)) c ∧ _ = I (12 + (22 + 11 * a)) c ∧ _ = I (13 + (22 + 11 * a)) c ∧ _ = I (14 + (22 + 11 * a)) c
    rw [rw_id (T := I) (by decide), rw_id (T := I) (by decide), rw_id (T := I) (by decide), rw_id (T := I) (by decide)]; exact h4 c hc
  · show _ = I (4 + (22 + 11 * a)) 10 ∧ _ = I (4 + (22 + 11 * a)) 11 ∧ _ = I (4 + (22 + 11 * a)) 12 ∧ _ = I (4 + (22 + 11 * a)) 13 ∧ _ = I (4 + (22 + 11 * a)) 14
    rw [rw_4 (T := I)]; exact h5
def Kep (L : LT) (I : IT) (L1 : LT) (I1 : IT) (n s : Nat) : Prop := (∀ x, x ≠ 15 → (x < 26 ∨ 1000 ≤ x) → I1 x = I x) ∧ (∀ x, x < 26 → L1 x = L x) ∧ (I1 15 1 = nI ((n + 1) % 40) ∧ I1 15 2 = nI (min 40 (s + 1))) ∧ same L I (rwL L1 n) (rwI I1 n) ∧ (∀ a, a < 40 → a ≠ n → ∀ x, 4 ≤ x → x ≤ 14 → L1 (x + (22 + 11 * a)) = L (x + (22 + 11 * a)) ∧ I1 (x + (22 + 11 * a)) = I (x + (22 + 11 * a)))
theorem same_tr {L1 L2 L3 : LT} {I1 I2 I3 : IT} (h : same L1 I1 L2 I2) (h' : same L2 I2 L3 I3) : same L1 I1 L3 I3 := by
  obtain ⟨a1, a2, a3, a4, a5, a6, a7, a8, a9⟩ := h
  obtain ⟨b1, b2, b3, b4, b5, b6, b7, b8, b9⟩ := h'
  exact ⟨fun p hp => (b1 p hp).trans (a1 p hp), fun p hp => (b2 p hp).trans (a2 p hp), fun c hc => ⟨(b3 c hc).1.trans (a3 c hc).1, (b3 c hc).2.1.trans (a3 c hc).2.1, (b3 c hc).2.2.1.trans (a3 c hc).2.2.1, (b3 c hc).2.2.2.trans (a3 c hc).2.2.2⟩, fun c hc => ⟨(b4 c hc).1.trans (a4 c hc).1, (b4 c hc).2.1.trans (a4 c hc).2.1, (b4 c hc).2.2.1.trans (a4 c hc).2.2.1, (b4 c hc).2.2.2.trans (a4 c hc).2.2.2⟩, b5.trans a5, b6.trans a6, b7.trans a7, b8.trans a8, b9.trans a9⟩
theorem min40_n : ∀ s, s < 41 → min40 (nI s + 1) = nI (min 40 (s + 1)) := by decide
theorem kep_of {L0 : LT} {I0 : IT} (hL : ∀ x, ¬ (26 + 11 * n ≤ x ∧ x < 37 + 11 * n) → L0 x = L x) (hI : ∀ x, ¬ (26 + 11 * n ≤ x ∧ x < 37 + 11 * n) → I0 x = I x) (hn : n < 40) (es : I 15 2 = nI s) (hs : s ≤ 40) : Kep L I (cpL L0 (26 + 11 * n) 4) (kpE (cpI I0 (26 + 11 * n) 4) n) n s := by
  have ko : ∀ (T : IT) x, x ≠ 15 → kpE T n x = T x := fun T x hx => by unfold kpE; rw [upI_b hx, upI_b hx]
  refine ⟨fun x hx h => ?_, fun x hx => ?_, ⟨?_, ?_⟩, ?_, fun a ha hne x h1 h2 => ⟨?_, ?_⟩⟩
  · rw [ko _ x hx, cpI_o (by omega), hI x (by omega)]
  · rw [cpL_o (by omega), hL x (by omega)]
  · unfold kpE; rw [upI_j (by decide), upI_s]
  · unfold kpE; rw [upI_s, cpI_o (by omega), hI 15 (by omega), es, min40_n s (by omega)]
  · refine same_tr (same_of (L' := L0) (I' := I0) (fun x h1 h2 => hL x (by omega)) (fun x h1 h2 => hI x (by omega))) (same_tr same_keep (same_of (fun _ _ _ => rfl) (fun x h1 h2 => ?_)))
    exact ko _ _ (by omega)
  · rw [cpL_o (by omega), hL _ (by omega)]
  · rw [ko _ _ (by omega), cpI_o (by omega), hI _ (by omega)]
theorem keep_ex (hs : His L I r d n s) : ∃ (L1 : LT) (I1 : IT) (r1 : Nat), r ≤ r1 ∧ r1 ≤ 40 ∧ ((r1 = r ∧ n < r) ∨ (r1 = r + 1 ∧ n = r)) ∧ mt G M_Hi_keep 2 (11 * (r1 - r)) (196 * (r1 - r)) [.ref 15, .ref 4] (hp L I r) (dt none (hp L1 I1 r1)) ∧ Kep L I L1 I1 n s := by
  obtain ⟨⟨e1, hn, e2, hs4, hsd⟩, ⟨hnr, hr, hw⟩, _⟩ := hs
  by_cases c : n < r
  · refine ⟨_, _, r, Nat.le_refl r, hr, Or.inl ⟨rfl, c⟩, ?_, kep_of (L0 := L) (I0 := I) (fun _ _ => rfl) (fun _ _ => rfl) hn e2 hs4⟩
    rw [Nat.sub_self]
    exact t_keep_old e1 c hr
  · have e : n = r := by omega
    refine ⟨_, _, r + 1, by omega, by omega, Or.inr ⟨rfl, e⟩, ?_, kep_of (L0 := zrL L (26 + 11 * n)) (I0 := zrI I (26 + 11 * n)) (fun x hx => ?_) (fun x hx => ?_) hn e2 hs4⟩
    · rw [Nat.add_sub_cancel_left]
      exact t_keep_new e1 e (by omega)
    · unfold zrL; exact if_neg (by omega)
    · unfold zrI; exact if_neg (by omega)
/-- what an order of the class leaves -/
def frm (I I' : IT) : Prop := (∀ x, 1000 ≤ x → I' x = I x) ∧ I' 0 = I 0 ∧ I' 2 = I 2 ∧ I' 3 = I 3
theorem nc {x : Nat} (h : x < 4 ∨ x = 15 ∨ x = 16 ∨ 18 ≤ x) : ¬ cI x := fun z => by unfold cI at z; omega
theorem one_step (hG : G.2.2.2.2[0]? = some (.int, 19, nmd)) (hs : His L I r d n s) (hk : KK L I J) (hc : Cd I J) (h14 : I 4 14 = 0) : ∃ (L1 : LT) (I1 : IT) (r1 : Nat) (L2 : LT) (I2 : IT), r ≤ r1 ∧ r1 ≤ 40 ∧ mt G M_Hi_keep 2 (11 * (r1 - r)) (196 * (r1 - r)) [.ref 15, .ref 4] (hp L I r) (dt none (hp L1 I1 r1)) ∧ mt G M_Pr_runOne 5 0 0 [.ref 17] (hp L1 I1 r1) (dt none (hp L2 I2 r1)) ∧ His L2 I2 r1 (d + 1) ((n + 1) % 40) (min 40 (s + 1)) ∧ frm I I2 ∧ ∀ J', KK L I J' → Cd I J' → KK L2 I2 (mord J') := by
  obtain ⟨L1, I1, r1, hr1, hr2, hrr, hm, kI, kL, ⟨k1, k2⟩, ks, ko⟩ := keep_ex (G := G) hs
  obtain ⟨⟨e1, hn, e2, hs4, hsd⟩, ⟨hnr, hr, hw⟩, rows, cur, hist⟩ := hs
  have sm1 : same L I L1 I1 := same_of (fun x h1 h2 => kL x (by omega)) (fun x h1 h2 => kI x (by omega) (by omega))
  have i2 : I1 2 = I 2 := kI 2 (by decide) (by decide)
  have i3 : I1 3 = I 3 := kI 3 (by decide) (by decide)
  have i4 : I1 4 14 = 0 := by rw [kI 4 (by decide) (by decide)]; exact h14
  have ord : ∀ J', KK L I J' → Cd I J' → KK (cOrd L1 I1).1 (cOrd L1 I1).2 (mord J') := fun J' a b => (t_cord (r := r1) (KK_same sm1 a) (Cd_I i2 i3 b) i4 hG).2
  have run := (t_cord (r := r1) (KK_same sm1 hk) (Cd_I i2 i3 hc) i4 hG).1
  have fI : ∀ x, ¬ cI x → (cOrd L1 I1).2 x = I1 x := fun x hx => cOrd_o hx
  have fL : ∀ x, 26 ≤ x → (cOrd L1 I1).1 x = L1 x := fun x hx => cOrd_L (by omega) (by omega)
  generalize (cOrd L1 I1).1 = L2 at *
  generalize (cOrd L1 I1).2 = I2 at *
  have j0 : I2 0 = I 0 := by rw [fI 0 (nc (by decide)), kI 0 (by decide) (by decide)]
  have j2 : I2 2 = I 2 := by rw [fI 2 (nc (by decide)), i2]
  have j3 : I2 3 = I 3 := by rw [fI 3 (nc (by decide)), i3]
  refine ⟨L1, I1, r1, L2, I2, hr1, hr2, hm, run, ⟨⟨?_, by omega, ?_, by omega, by omega⟩, ⟨by omega, hr2, by omega⟩, fun i hi => ?_, ?_, ?_⟩, ⟨fun x hx => ?_, j0, j2, j3⟩, ord⟩
  · rw [fI 15 (nc (by decide))]; exact k1
  · rw [fI 15 (nc (by decide))]; exact k2
  · rw [congrFun j0 6]
    refine Rk_C j2 j3 ?_
    by_cases z : i = 0
    · have ea : ((n + 1) % 40 + 39 - i) % 40 = n := by omega
      have ed : d + 1 - 1 - i = d := by omega
      rw [ea, ed]
      refine Rk_s (same_tr ks (same_of (fun x h1 h2 => ?_) (fun x h1 h2 => ?_))) cur
      · exact fL _ (by omega)
      · exact fI _ (nc (by omega))
    · have ea : ((n + 1) % 40 + 39 - i) % 40 = (n + 39 - (i - 1)) % 40 := by omega
      have ed : d + 1 - 1 - i = d - 1 - (i - 1) := by omega
      rw [ea, ed]
      have hne : (n + 39 - (i - 1)) % 40 ≠ n := by omega
      refine Rk_s (same_of (fun x h1 h2 => ?_) (fun x h1 h2 => ?_)) (rows (i - 1) (by omega))
      · exact (fL _ (by omega)).trans (ko _ (by omega) hne x h1 h2).1
      · exact (fI _ (nc (by omega))).trans (ko _ (by omega) hne x h1 h2).2
  · rw [congrFun j0 6]
    refine Rk_C j2 j3 (fun J0 c hb => ?_)
    exact ord _ (cur J0 c hb) (Cd_J (itm_o (by unfold mI'; decide) d) (itm_o (by unfold mI'; decide) d) c)
  · rw [congrFun j0 6]
    refine Hs_C j2 j3 (fun i hi => ?_)
    by_cases z : i = d
    · subst z; exact ⟨L, I, cur, rfl, rfl⟩
    · exact hist i (by omega)
  · rw [fI x (nc (by omega)), kI x (by omega) (Or.inr hx)]
def itJ (J : IT) : Nat → IT
  | 0 => J
  | k + 1 => itJ (mKp (mord J)) k
theorem itJ_s : ∀ (k : Nat) (J : IT), itJ J (k + 1) = mKp (mord (itJ J k))
  | 0, _ => rfl
  | k + 1, J => by rw [itJ, itJ_s k, itJ]
theorem mKp_o {x : Nat} (h : x ≠ 1000) : mKp J x = J x := by unfold mKp; rw [upI_b h]
theorem mKp_f {i : Nat} (h : i ≠ 17) : mKp J 1000 i = J 1000 i := by unfold mKp; rw [upI_j h]
theorem KK_kp (h : KK L I J) : KK L I (mKp J) := KK_J (fun x h1 h2 => mKp_o (by omega)) (fun i hi => mKp_f (by omega)) h
theorem Cd_ord (h : Cd I J) : Cd I (mKp (mord J)) := Cd_J (by rw [mKp_o (by decide), mord_o (by unfold mI'; decide)]) (by rw [mKp_o (by decide), mord_o (by unfold mI'; decide)]) h
theorem itJ_o {x : Nat} (h : ¬ mI' x) : ∀ (k : Nat) (J : IT), itJ J k x = J x
  | 0, _ => rfl
  | k + 1, J => by rw [itJ, itJ_o h k, mKp_o (fun e => h (by simp [mI', e])), mord_o h]
theorem itJ_0 : ∀ (k : Nat) (J : IT), itJ J k 1000 0 = J 1000 0
  | 0, _ => rfl
  | k + 1, J => by rw [itJ, itJ_0 k, mKp_f (by decide), mord_f (by decide) (by decide) (by decide) (by decide) (by decide)]
theorem kp40 : ∀ s, s < 41 → (if (40 : Int32) ≤ nI s then 40 else nI s + 1) = nI (min 40 (s + 1)) := by decide
theorem itJ_17 : ∀ (k s : Nat) (J : IT), s ≤ 40 → J 1000 17 = nI s → itJ J k 1000 17 = nI (min 40 (s + k))
  | 0, s, J, hs, h => by rw [itJ, h]; exact congrArg nI (by omega)
  | k + 1, s, J, hs, h => by
    rw [itJ, itJ_17 k (min 40 (s + 1)) _ (by omega) ?_]
    · exact congrArg nI (by omega)
    · unfold mKp
      rw [upI_s, mord_f (by decide) (by decide) (by decide) (by decide) (by decide), h, kp40 s (by omega)]
theorem run_ex (hG : G.2.2.2.2[0]? = some (.int, 19, nmd)) : ∀ (k : Nat) (L : LT) (I J : IT) (r d n s : Nat), His L I r d n s → KK L I J → Cd I J → ∃ (rf : Nat) (L' : LT) (I' : IT) (m n' : Nat), r ≤ rf ∧ rf ≤ 40 ∧ m ≤ k ∧ stp G rf (fun A B => A = L' ∧ B = I') k L I r ∧ His L' I' rf (d + m) n' (min 40 (s + m)) ∧ frm I I' ∧ ∀ J', KK L I J' → Cd I J' → KK L' I' (itJ J' m) ∧ (∀ j, j < m → itJ J' j 1000 15 = 0 ∧ ∃ (A : LT) (B : IT), KK A B (itJ J' j) ∧ Cd B (itJ J' j)) ∧ (m < k → ¬ itJ J' m 1000 15 = 0)
  | 0, L, I, J, r, d, n, s, hs, hk, hc => ⟨r, L, I, 0, n, Nat.le_refl r, hs.2.1.2.1, Nat.le_refl 0, ⟨rfl, rfl, rfl⟩, by rw [Nat.add_zero, Nat.add_zero, Nat.min_eq_right hs.1.2.2.2.1]; exact hs, ⟨fun _ _ => rfl, rfl, rfl, rfl⟩, fun J' a b => ⟨a, fun j hj => absurd hj (Nat.not_lt_zero j), fun z => absurd z (Nat.lt_irrefl 0)⟩⟩
  | k + 1, L, I, J, r, d, n, s, hs, hk, hc => by
    by_cases h14 : I 4 14 = 0
    · obtain ⟨L1, I1, r1, L2, I2, a1, a2, a3, a4, a5, a6, a7⟩ := one_step hG hs hk hc h14
      obtain ⟨rf, L', I', m, n', b1, b2, b3, b4, b5, b6, b7⟩ := run_ex hG k L2 I2 (mKp (mord J)) r1 (d + 1) _ _ a5 (KK_kp (a7 J hk hc)) (Cd_I a6.2.2.1 a6.2.2.2 (Cd_ord hc))
      refine ⟨rf, L', I', m + 1, n', by omega, b2, by omega, ?_, ?_, ⟨fun x hx => (b6.1 x hx).trans (a6.1 x hx), b6.2.1.trans a6.2.1, b6.2.2.1.trans a6.2.2.1, b6.2.2.2.trans a6.2.2.2⟩, fun J' a b => ?_⟩
      · exact ⟨fun z => absurd h14 z, fun _ => ⟨L1, I1, r1, L2, I2, a1, b1, a3, a4, b4⟩⟩
      · have e1 : d + (m + 1) = d + 1 + m := by omega
        have e2 : min 40 (s + (m + 1)) = min 40 (min 40 (s + 1) + m) := by omega
        rw [e1, e2]; exact b5
      · obtain ⟨c1, c2, c3⟩ := b7 (mKp (mord J')) (KK_kp (a7 J' a b)) (Cd_I a6.2.2.1 a6.2.2.2 (Cd_ord b))
        refine ⟨c1, fun j hj => ?_, fun z => c3 (by omega)⟩
        cases j with
        | zero => exact ⟨by show J' 1000 15 = 0; rw [← a.2.2.2.2.2]; exact h14, L, I, a, b⟩
        | succ j => exact c2 j (by omega)
    · refine ⟨r, L, I, 0, n, Nat.le_refl r, hs.2.1.2.1, Nat.zero_le _, ⟨fun _ => ⟨rfl, rfl, rfl⟩, fun z => absurd z h14⟩, by rw [Nat.add_zero, Nat.add_zero, Nat.min_eq_right hs.1.2.2.2.1]; exact hs, ⟨fun _ _ => rfl, rfl, rfl, rfl⟩, fun J' a b => ⟨a, fun j hj => absurd hj (Nat.not_lt_zero j), fun _ => ?_⟩⟩
      show ¬ J' 1000 15 = 0
      rw [← a.2.2.2.2.2]; exact h14
/-! the invariant of the law -/
def Inv (L : LT) (I : IT) (r d : Nat) : Prop := (I 0 6 = I 1000 0 ∧ (I 0 6 = 0 ∨ I 0 6 = 1)) ∧ (KK L I I ∧ Cd I I) ∧ (∃ n s, His L I r d n s ∧ I 1000 17 = nI s) ∧ (I 0 6 = 0 → d = 0 ∧ ∀ J0, J0 1000 0 = 0 → KK L I (mBeg J0))
theorem His_I {I' : IT} (h : ∀ x, x < 1000 → I' x = I x) (hs : His L I r d n s) : His L I' r d n s := by
  obtain ⟨a, b, rows, cur, hist⟩ := hs
  have i2 := h 2 (by decide)
  have i3 := h 3 (by decide)
  unfold His
  rw [h 15 (by decide), h 0 (by decide)]
  refine ⟨a, b, fun i hi => Rk_C i2 i3 (Rk_s (same_of (fun _ _ _ => rfl) (fun x h1 h2 => h _ (by omega))) (rows i hi)), Rk_C i2 i3 (Rk_s (same_of (fun _ _ _ => rfl) (fun x h1 h2 => h _ (by omega))) cur), Hs_C i2 i3 hist⟩
theorem nmI {x : Nat} (h : x < 1000 ∨ x = 1001 ∨ x = 1002 ∨ 1012 ≤ x) : ¬ mI' x := fun z => by unfold mI' at z; omega
end HI2

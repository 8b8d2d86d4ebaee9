/-! the relation between the class's state and the reference's -/
def isS (J : IT) (c p : Nat) : Nat := if gt J p 0 = 2 ∧ gt J p 4 = nI c then 1 else 0
def ccn (J : IT) (c : Nat) : Nat → Nat
  | 0 => 0
  | n + 1 => ccn J c n + isS J c n
def vlp (J : IT) (p : Nat) : Prop := vl (gt J p 0) (gt J p 1) (gt J p 2) (gt J p 3) (gt J p 4)
def enp (J : IT) (p : Nat) : Int64 := en (gt J p 0) (gt J p 1) (gt J p 2) (gt J p 3) (gt J p 4)
def vln (J : IT) (f k : Nat) : Prop := vl (nt J f k 0) (nt J f k 1) (nt J f k 2) (nt J f k 3) (nt J f k 4)
def enn (J : IT) (f k : Nat) : Int64 := en (nt J f k 0) (nt J f k 1) (nt J f k 2) (nt J f k 3) (nt J f k 4)
abbrev dpt (J : IT) : Nat := tn (J 1000 10)
abbrev fgt (J : IT) (f : Nat) : Nat := tn (J 1010 (4 * f + 2))
def Kp (L : LT) (J : IT) : Prop := ∀ p, p < 102 → vlp J p ∧ L 5 p = enp J p
def Kc (I J : IT) : Prop := ∀ c, c < 6 → I 7 c = J 1004 c
def Kg (I J : IT) : Prop := ∀ g, g < 6 → I 8 g = J 1007 g ∧ ((J 1007 g = 0 ∧ I 9 g = 0 ∧ I 10 g = 0) ∨ ((J 1007 g = 1 ∨ J 1007 g = 2) ∧ I 9 g = J 1008 g ∧ I 10 g = J 1009 g ∧ sm (J 1008 g) 3))
def Kd (I J : IT) : Prop := I 4 10 = J 1000 10 ∧ sm (J 1000 10) 6
def Kf (I J : IT) : Prop := ∀ f, f < dpt J → (I 11 f = J 1010 (4 * f) ∧ I 12 f = J 1010 (4 * f + 1) ∧ I 13 f = J 1010 (4 * f + 2) ∧ I 14 f = J 1010 (4 * f + 3)) ∧ sm (J 1010 (4 * f + 1)) 3 ∧ sm (J 1010 (4 * f + 2)) 6 ∧ sm (J 1010 (4 * f + 3)) 7 ∧ J 1007 (fgt J f) = 2
def Kn (L : LT) (J : IT) : Prop := ∀ f, f < dpt J → (nt J f 0 0 = 1 ∧ vln J f 0 ∧ L 6 (7 * f) = enn J f 0) ∧ ∀ q, 1 ≤ q → q ≤ 6 → vln J f q ∧ L 6 (7 * f + q) = if lnM J (fgt J f) (J 1010 (4 * f + 3)) q = true then enn J f q else 0
/-- what holds of the reference's state alone -/
def Ku (J : IT) : Prop := ∀ f f', f < dpt J → f' < dpt J → J 1010 (4 * f + 2) = J 1010 (4 * f' + 2) → f = f'
def Ks (J : IT) : Prop := ∀ p, p < 102 → gt J p 0 = 3 → ¬ J 1007 (tn (gt J p 4)) = 0
def Kl (J : IT) : Prop := ∀ p, p < 102 → gt J p 0 = 2 → gt J p 1 = J 1005 (tn (gt J p 4)) ∧ gt J p 2 = J 1006 (tn (gt J p 4))
def Kt (J : IT) : Prop := ∀ g, g < 6 → (J 1007 g = 1 → gt J (96 + g) 0 = 1) ∧ (¬ J 1007 g = 1 → gt J (96 + g) 0 = 0)
def Kr (J : IT) : Prop := ∀ f, f < 5 → ∀ q, q < 8 → (dpt J ≤ f ∨ q ≤ tn (J 1010 (4 * f + 3))) → gt J (56 + 8 * f + q) 0 = 0
def K1 (L : LT) (I J : IT) : Prop := (Kp L J ∧ Kc I J ∧ Kg I J ∧ Kd I J ∧ Kf I J ∧ Kn L J) ∧ (Ku J ∧ Ks J ∧ Kl J ∧ Kt J ∧ Kr J)
def Ct (J : IT) : Prop := ∀ c, c < 6 → J 1004 c = nI (ccn J c 102)
def Kq (I J : IT) : Prop := (I 4 11 = J 1000 13 ∧ sm (J 1000 13) 3) ∧ I 4 12 = J 1000 14 ∧ I 4 13 = J 1000 16 ∧ I 4 14 = J 1000 15
def KK (L : LT) (I J : IT) : Prop := K1 L I J ∧ Ct J ∧ Kq I J
def Cd (I J : IT) : Prop := (∀ m, m < 3 → I 3 m = J 1001 m ∧ sm (J 1001 m) 25) ∧ ∀ i, i < 288 → I 2 i = J 1002 i
/-! the counts -/
theorem isS_le {J : IT} {c p : Nat} : isS J c p ≤ 1 := by unfold isS; split <;> omega
theorem ccn_ext {J J' : IT} {c : Nat} : ∀ n, (∀ p, p < n → isS J' c p = isS J c p) → ccn J' c n = ccn J c n
  | 0, _ => rfl
  | n + 1, h => by rw [ccn, ccn, ccn_ext n (fun p hp => h p (by omega)), h n (by omega)]
theorem ccn_le {J : IT} {c : Nat} : ∀ n, ccn J c n ≤ n
  | 0 => Nat.le_refl 0
  | n + 1 => by rw [ccn]; have := ccn_le (J := J) (c := c) n; have := isS_le (J := J) (c := c) (p := n); omega
/-- one place changes -/
theorem ccn_one {J J' : IT} {c p : Nat} (h : ∀ x, x ≠ p → isS J' c x = isS J c x) : ∀ n, p < n → ccn J' c n + isS J c p = ccn J c n + isS J' c p
  | 0, hn => absurd hn (Nat.not_lt_zero _)
  | n + 1, hn => by
    rw [ccn, ccn]
    by_cases e : n = p
    · subst e
      rw [ccn_ext n (fun x hx => h x (by omega))]; omega
    · have := ccn_one h n (by omega)
      rw [h n e]; omega
theorem ccn_pos {J : IT} {c : Nat} : ∀ n, 0 < ccn J c n ↔ ∃ p, p < n ∧ isS J c p = 1
  | 0 => ⟨fun h => absurd h (Nat.lt_irrefl 0), fun ⟨p, hp, _⟩ => absurd hp (Nat.not_lt_zero p)⟩
  | n + 1 => by
    rw [ccn]
    have ih := ccn_pos (J := J) (c := c) n
    have h1 := isS_le (J := J) (c := c) (p := n)
    constructor
    · intro h
      by_cases e : isS J c n = 1
      · exact ⟨n, by omega, e⟩
      · obtain ⟨p, hp, hs⟩ := ih.mp (by omega)
        exact ⟨p, by omega, hs⟩
    · rintro ⟨p, hp, hs⟩
      by_cases e : p = n
      · subst e; omega
      · have := ih.mpr ⟨p, by omega, hs⟩; omega
theorem isS_put {J : IT} {p : Nat} {w f e q c : Int32} {x y : Nat} : isS (mPut J p w f e q c) x y = if y = p then (if w = 2 ∧ c = nI x then 1 else 0) else isS J x y := by
  unfold isS
  rw [gt_put (by decide), gt_put (by decide)]
  by_cases h : y = p
  · simp [h]
  · simp [h]
theorem ccn_put {J : IT} {p : Nat} {w f e q c : Int32} {x : Nat} (hp : p < 102) : ccn (mPut J p w f e q c) x 102 + isS J x p = ccn J x 102 + (if w = 2 ∧ c = nI x then 1 else 0) := by
  have h := ccn_one (J := J) (J' := mPut J p w f e q c) (c := x) (p := p) (fun y hy => by rw [isS_put, if_neg hy]) 102 hp
  rw [isS_put, if_pos rfl] at h
  exact h
/-! what the relation looks at -/
set_option maxRecDepth 100000 in
theorem K1_J {L : LT} {I J J' : IT} (h3 : J' 1003 = J 1003) (h4 : J' 1004 = J 1004) (h5 : J' 1005 = J 1005) (h6 : J' 1006 = J 1006) (h7 : J' 1007 = J 1007) (h8 : J' 1008 = J 1008) (h9 : J' 1009 = J 1009) (h10 : J' 1010 = J 1010) (h11 : J' 1011 = J 1011) (hd : J' 1000 10 = J 1000 10) (h : K1 L I J) : K1 L I J' := by
  unfold K1 Kp Kc Kg Kd Kf Kn Ku Ks Kl Kt Kr vlp enp vln enn dpt fgt lnM nt gt at *
  rw [h3, h4, h5, h6, h7, h8, h9, h10, h11, hd]
  exact h
theorem Ct_J {J J' : IT} (h3 : J' 1003 = J 1003) (h4 : J' 1004 = J 1004) (h : Ct J) : Ct J' := by
  intro c hc
  rw [h4, h c hc]
  exact congrArg nI (ccn_ext 102 (fun p _ => by unfold isS gt; rw [h3])).symm
set_option maxRecDepth 100000 in
theorem K1_I {L : LT} {I I' J : IT} (h7 : I' 7 = I 7) (h8 : I' 8 = I 8) (h9 : I' 9 = I 9) (h10 : I' 10 = I 10) (h11 : I' 11 = I 11) (h12 : I' 12 = I 12) (h13 : I' 13 = I 13) (h14 : I' 14 = I 14) (hd : I' 4 10 = I 4 10) (h : K1 L I J) : K1 L I' J := by
  unfold K1 Kc Kg Kd Kf at *
  rw [h7, h8, h9, h10, h11, h12, h13, h14, hd]
  exact h
/-- same in all that the relation reads of the class -/
def same (L : LT) (I : IT) (L' : LT) (I' : IT) : Prop := (∀ p, p < 102 → L' 5 p = L 5 p) ∧ (∀ p, p < 35 → L' 6 p = L 6 p) ∧ (∀ c, c < 6 → I' 7 c = I 7 c ∧ I' 8 c = I 8 c ∧ I' 9 c = I 9 c ∧ I' 10 c = I 10 c) ∧ (∀ f, f < 5 → I' 11 f = I 11 f ∧ I' 12 f = I 12 f ∧ I' 13 f = I 13 f ∧ I' 14 f = I 14 f) ∧ (I' 4 10 = I 4 10 ∧ I' 4 11 = I 4 11 ∧ I' 4 12 = I 4 12 ∧ I' 4 13 = I 4 13 ∧ I' 4 14 = I 4 14)
set_option maxRecDepth 100000 in
theorem KK_same {L L' : LT} {I I' J : IT} (s : same L I L' I') (h : KK L I J) : KK L' I' J := by
  obtain ⟨s5, s6, s7, s11, d10, d11, d12, d13, d14⟩ := s
  obtain ⟨⟨⟨kp, kc, kg, kd, kf, kn⟩, ku⟩, ct, kq⟩ := h
  have hd5 : dpt J < 6 := kd.2.2
  refine ⟨⟨⟨fun p hp => ?_, fun c hc => ?_, fun g hg => ?_, ?_, fun f hf => ?_, fun f hf => ?_⟩, ku⟩, ct, ?_⟩
  · rw [s5 p hp]; exact kp p hp
  · rw [(s7 c hc).1]; exact kc c hc
  · rw [(s7 g hg).2.1, (s7 g hg).2.2.1, (s7 g hg).2.2.2]; exact kg g hg
  · unfold Kd; rw [d10]; exact kd
  · have := s11 f (by omega)
    rw [this.1, this.2.1, this.2.2.1, this.2.2.2]; exact kf f hf
  · have h := kn f hf
    refine ⟨⟨h.1.1, h.1.2.1, ?_⟩, fun q h1 h2 => ⟨(h.2 q h1 h2).1, ?_⟩⟩
    · rw [s6 _ (by omega)]; exact h.1.2.2
    · rw [s6 _ (by omega)]; exact (h.2 q h1 h2).2
  · unfold Kq; rw [d11, d12, d13, d14]; exact kq
theorem upL_at {L : LT} {a j i : Nat} {v : Int64} : upL L a j v a i = if i = j then v else L a i := by simp [upL, va_up, vp_updL]
theorem upL_b {L : LT} {a j b : Nat} {v : Int64} (h : b ≠ a) : upL L a j v b = L b := va_up_ne _ _ h
theorem gt_s0 {J : IT} {p : Nat} {w f e q c : Int32} : gt (mPut J p w f e q c) p 0 = w := by rw [gt_put (by decide), if_pos rfl]; rfl
theorem gt_s1 {J : IT} {p : Nat} {w f e q c : Int32} : gt (mPut J p w f e q c) p 1 = f := by rw [gt_put (by decide), if_pos rfl]; rfl
theorem gt_s2 {J : IT} {p : Nat} {w f e q c : Int32} : gt (mPut J p w f e q c) p 2 = e := by rw [gt_put (by decide), if_pos rfl]; rfl
theorem gt_s3 {J : IT} {p : Nat} {w f e q c : Int32} : gt (mPut J p w f e q c) p 3 = q := by rw [gt_put (by decide), if_pos rfl]; rfl
theorem gt_s4 {J : IT} {p : Nat} {w f e q c : Int32} : gt (mPut J p w f e q c) p 4 = c := by rw [gt_put (by decide), if_pos rfl]; rfl
/-- a put below the frames -/
theorem K1_put {L : LT} {I J : IT} {p : Nat} {w f e q c : Int32} (h : K1 L I J) (hp : p < 56) (hv : vl w f e q c) (h3 : w = 3 → ¬ J 1007 (tn c) = 0) (h2 : w = 2 → f = J 1005 (tn c) ∧ e = J 1006 (tn c)) : K1 (upL L 5 p (en w f e q c)) I (mPut J p w f e q c) := by
  obtain ⟨⟨kp, kc, kg, kd, kf, kn⟩, ku, ks, kl, kt, kr⟩ := h
  have g0 : ∀ x j, j < 5 → x ≠ p → gt (mPut J p w f e q c) x j = gt J x j := fun x j hj hx => gt_ne hj hx
  have ho : ∀ x, x ≠ 1003 → mPut J p w f e q c x = J x := fun x hx => mPut_o hx
  refine ⟨⟨fun x hx => ?_, ?_, ?_, ?_, ?_, ?_⟩, ?_, fun x hx => ?_, fun x hx => ?_, fun g hg => ?_, fun f' hf' r' hr' => ?_⟩
  · unfold vlp enp
    rw [upL_at]
    by_cases e : x = p
    · subst e
      rw [gt_s0, gt_s1, gt_s2, gt_s3, gt_s4, if_pos rfl]
      exact ⟨hv, rfl⟩
    · rw [g0 x 0 (by decide) e, g0 x 1 (by decide) e, g0 x 2 (by decide) e, g0 x 3 (by decide) e, g0 x 4 (by decide) e, if_neg e]
      exact kp x hx
  · unfold Kc; rw [ho 1004 (by decide)]; exact kc
  · unfold Kg; rw [ho 1007 (by decide), ho 1008 (by decide), ho 1009 (by decide)]; exact kg
  · unfold Kd; rw [ho 1000 (by decide)]; exact kd
  · unfold Kf dpt fgt; rw [ho 1000 (by decide), ho 1010 (by decide), ho 1007 (by decide)]; exact kf
  · unfold Kn dpt fgt vln enn lnM nt; rw [ho 1000 (by decide), ho 1010 (by decide), ho 1011 (by decide), ho 1009 (by decide), upL_b (by decide)]; exact kn
  · unfold Ku dpt; rw [ho 1000 (by decide), ho 1010 (by decide)]; exact ku
  · by_cases e : x = p
    · subst e
      rw [gt_s0, gt_s4, ho 1007 (by decide)]; exact h3
    · rw [g0 x 0 (by decide) e, g0 x 4 (by decide) e, ho 1007 (by decide)]; exact ks x hx
  · by_cases e' : x = p
    · subst e'
      rw [gt_s0, gt_s1, gt_s2, gt_s4, ho 1005 (by decide), ho 1006 (by decide)]; exact h2
    · rw [g0 x 0 (by decide) e', g0 x 1 (by decide) e', g0 x 2 (by decide) e', g0 x 4 (by decide) e', ho 1005 (by decide), ho 1006 (by decide)]; exact kl x hx
  · rw [g0 _ 0 (by decide) (by omega), ho 1007 (by decide)]; exact kt g hg
  · rw [g0 _ 0 (by decide) (by omega), dpt, ho 1000 (by decide), ho 1010 (by decide)]; exact kr f' hf' r' hr'
/-! reading a place -/
section RDS
variable {L : LT} {I J : IT}
theorem K_v (h : K1 L I J) {p : Nat} (hp : p < 102) : vlp J p ∧ L 5 p = enp J p := h.1.1 p hp
theorem K_k (h : K1 L I J) {p : Nat} (hp : p < 102) : vKd (L 5 p) = gt J p 0 := by rw [(K_v h hp).2]; exact en_k (K_v h hp).1
theorem K_n (h : K1 L I J) {p : Nat} (hp : p < 102) (h0 : gt J p 0 = 0) : (L 5 p).toInt32 = gt J p 1 := by rw [(K_v h hp).2]; exact en_v h0
theorem K_f (h : K1 L I J) {p : Nat} (hp : p < 102) (h0 : ¬ gt J p 0 = 0) : vFr (L 5 p) = gt J p 1 := by rw [(K_v h hp).2]; exact en_f (K_v h hp).1 h0
theorem K_e (h : K1 L I J) {p : Nat} (hp : p < 102) (h0 : ¬ gt J p 0 = 0) : vEn (L 5 p) = gt J p 2 := by rw [(K_v h hp).2]; exact en_e (K_v h hp).1 h0
theorem K_q (h : K1 L I J) {p : Nat} (hp : p < 102) (h0 : ¬ gt J p 0 = 0) : vRi (L 5 p) = gt J p 3 := by rw [(K_v h hp).2]; exact en_q (K_v h hp).1 h0
theorem K_c (h : K1 L I J) {p : Nat} (hp : p < 102) (h0 : ¬ gt J p 0 = 0) : vLk (L 5 p) = gt J p 4 := by rw [(K_v h hp).2]; exact en_c (K_v h hp).1 h0
theorem K_lk (h : K1 L I J) {p : Nat} (hp : p < 102) (h0 : ¬ gt J p 0 = 0) : lk (L 5 p) = tn (gt J p 4) := by rw [lk, K_c h hp h0]
theorem K_cs (h : K1 L I J) {p : Nat} (hp : p < 102) (h2 : gt J p 0 = 2 ∨ gt J p 0 = 3) : sm (gt J p 4) 6 := by
  rcases h2 with h2 | h2
  · exact (vl_2 (K_v h hp).1 h2).2.2.2.2
  · exact (vl_3 (K_v h hp).1 h2).2.2.2
theorem K_lt (h : K1 L I J) {p : Nat} (hp : p < 102) (h2 : vKd (L 5 p) = 2 ∨ vKd (L 5 p) = 3) : lk (L 5 p) < 6 := by
  rw [K_k h hp] at h2
  rw [K_lk h hp (by rcases h2 with e | e <;> rw [e] <;> decide)]
  exact (K_cs h hp h2).2
end RDS

/-! reach agrees -/
section RCA
variable {L : LT} {I J : IT}
abbrev cvp (J : IT) (p w : Nat) : Prop := (gt J p 0 = 1 ∨ gt J p 0 = 2) ∧ (gt J p 1).toNatClampNeg ≤ w ∧ w < (gt J p 2).toNatClampNeg
def Rch (J : IT) (w : Nat) : Prop := ∀ R : Nat → Prop, (∀ p x, p < 56 → (p < 8 ∨ R (p - 8)) → mHas J p 1 = true → cvp J p x → R x) → R w
def Nea (J : IT) (w : Nat) : Prop := ∃ p, p < 56 ∧ (p < 8 ∨ Rch J (p - 8)) ∧ cvp J p w
theorem Rch_s {p w : Nat} (hp : p < 56) (h : p < 8 ∨ Rch J (p - 8)) (hr : mHas J p 1 = true) (hc : cvp J p w) : Rch J w :=
  fun R hR => hR p w hp (h.elim Or.inl (fun z => Or.inr (z R hR))) hr hc
theorem nI_ij {a b : Nat} (ha : a < 2 ^ 31) (hb : b < 2 ^ 31) (h : nI a = nI b) : a = b := by
  have e := congrArg Int32.toInt h
  rw [nI_toInt ha, nI_toInt hb] at e
  omega
/-! counting -/
def cz (f : Nat → Int32) : Nat → Nat
  | 0 => 0
  | n + 1 => cz f n + (if f n = 0 then 0 else 1)
theorem cz_le {f : Nat → Int32} : ∀ n, cz f n ≤ n
  | 0 => Nat.le_refl 0
  | n + 1 => by
    rw [cz]
    have := cz_le (f := f) n
    split <;> omega
theorem cz_ext {f g : Nat → Int32} : ∀ n, (∀ i, i < n → (f i = 0 ↔ g i = 0)) → cz f n = cz g n
  | 0, _ => rfl
  | n + 1, h => by
    rw [cz, cz, cz_ext n (fun i hi => h i (by omega))]
    by_cases e : f n = 0
    · rw [if_pos e, if_pos ((h n (by omega)).mp e)]
    · rw [if_neg e, if_neg (fun z => e ((h n (by omega)).mpr z))]
theorem cz_mono {f g : Nat → Int32} : ∀ n, (∀ i, i < n → ¬ f i = 0 → ¬ g i = 0) → cz f n ≤ cz g n ∧ (cz f n = cz g n → ∀ i, i < n → ¬ g i = 0 → ¬ f i = 0)
  | 0, _ => ⟨Nat.le_refl 0, fun _ i hi => absurd hi (Nat.not_lt_zero i)⟩
  | n + 1, h => by
    obtain ⟨h1, h2⟩ := cz_mono n (fun i hi => h i (by omega))
    have hn := h n (by omega)
    rw [cz, cz]
    by_cases e : f n = 0
    · by_cases e' : g n = 0
      · rw [if_pos e, if_pos e']
        refine ⟨by omega, fun q i hi hg => ?_⟩
        by_cases z : i = n
        · subst z; exact absurd e' hg
        · exact h2 (by omega) i (by omega) hg
      · rw [if_pos e, if_neg e']
        exact ⟨by omega, fun q => absurd q (by omega)⟩
    · rw [if_neg e, if_neg (hn e)]
      refine ⟨by omega, fun q i hi hg => ?_⟩
      by_cases z : i = n
      · subst z; exact e
      · exact h2 (by omega) i (by omega) hg
theorem cz_up {f g : Nat → Int32} {j : Nat} (hf : f j = 0) (hg : ¬ g j = 0) (ho : ∀ i, i ≠ j → g i = f i) : ∀ n, j < n → cz g n = cz f n + 1
  | 0, h => absurd h (Nat.not_lt_zero j)
  | n + 1, h => by
    rw [cz, cz]
    by_cases e : n = j
    · subst e
      rw [if_pos hf, if_neg hg, cz_ext n (fun i hi => by rw [ho i (by omega)])]
    · rw [cz_up hf hg ho n (by omega), ho n e]; omega
theorem cz_lt {f : Nat → Int32} {j n : Nat} (hf : f j = 0) (hj : j < n) : cz f n < n := by
  have := cz_up (f := f) (g := fun i => if i = j then 1 else f i) hf (by simp) (fun i hi => if_neg hi) n hj
  have h2 := cz_le (f := fun i => if i = j then 1 else f i) n
  omega
theorem ctl_cz {f : Nat → Int32} : ∀ n j, ctl f (nI (cz f j)) j n = nI (cz f (j + n))
  | 0, j => rfl
  | n + 1, j => by
    rw [ctl, show j + (n + 1) = j + 1 + n by omega, ← ctl_cz n (j + 1), cz]
    split
    · rw [Int32.add_zero]; rfl
    · rw [nI_1]
/-! growing -/
def grw (P Q : Nat → Prop) (N R N' R' : Nat → Int32) : Prop := (∀ w, w < 48 → (¬ N' w = 0 ↔ (¬ N w = 0 ∨ P w))) ∧ (∀ w, w < 48 → (¬ R' w = 0 ↔ (¬ R w = 0 ∨ Q w)))
def Snd (J : IT) (N R : Nat → Int32) : Prop := (∀ w, w < 48 → ¬ N w = 0 → Nea J w) ∧ (∀ w, w < 48 → ¬ R w = 0 → Rch J w)
def mkd (J : IT) (N R : Nat → Int32) (p : Nat) : Prop := ∀ w, w < 48 → cvp J p w → ¬ N w = 0 ∧ (mHas J p 1 = true → ¬ R w = 0)
def Don (J : IT) (N R : Nat → Int32) : Prop := ∀ p, p < 56 → (p < 8 ∨ ¬ R (p - 8) = 0) → mkd J N R p
abbrev gp (J : IT) (p : Nat) (N R N' R' : Nat → Int32) : Prop := grw (cvp J p) (fun w => cvp J p w ∧ mHas J p 1 = true) N R N' R'
section GRW
variable {N R N' R' : Nat → Int32} {p : Nat}
theorem gp_snd (hp : p < 56) (ho : p < 8 ∨ Rch J (p - 8)) (g : gp J p N R N' R') (s : Snd J N R) : Snd J N' R' := by
  refine ⟨fun w hw h => ?_, fun w hw h => ?_⟩
  · rcases (g.1 w hw).mp h with z | z
    · exact s.1 w hw z
    · exact ⟨p, hp, ho, z⟩
  · rcases (g.2 w hw).mp h with z | z
    · exact s.2 w hw z
    · exact Rch_s hp ho z.2 z.1
theorem gp_mk (g : gp J p N R N' R') : mkd J N' R' p := fun w hw hc => ⟨(g.1 w hw).mpr (Or.inr hc), fun hr => (g.2 w hw).mpr (Or.inr ⟨hc, hr⟩)⟩
theorem grw_keep {P Q : Nat → Prop} {p' : Nat} (g : grw P Q N R N' R') (m : mkd J N R p') : mkd J N' R' p' := fun w hw hc => ⟨(g.1 w hw).mpr (Or.inl (m w hw hc).1), fun hr => (g.2 w hw).mpr (Or.inl ((m w hw hc).2 hr))⟩
theorem ex_R (d : Don J N R) (s : Snd J N R) {w : Nat} (hw : w < 48) : ¬ R w = 0 ↔ Rch J w := by
  refine ⟨s.2 w hw, fun h => ?_⟩
  exact h (fun x => x < 48 → ¬ R x = 0) (fun p x hp ho hr hc hx => (d p hp (ho.imp id (fun z => z (by omega))) x hx hc).2 hr) hw
theorem ex_N (d : Don J N R) (s : Snd J N R) {w : Nat} (hw : w < 48) : ¬ N w = 0 ↔ Nea J w := by
  refine ⟨s.1 w hw, fun ⟨p, hp, ho, hc⟩ => ?_⟩
  refine (d p hp ?_ w hw hc).1
  rcases Nat.lt_or_ge p 8 with z | z
  · exact Or.inl z
  · exact Or.inr ((ex_R d s (by omega)).mpr (ho.elim (fun y => absurd y (by omega)) id))
end GRW
/-! the class's search -/
def Qs (T : IT) (s : Nat) : Prop := T 22 4 = nI s ∧ s = cz (T 24) 48 ∧ (∀ i, i < s → ∃ a, a < 48 ∧ T 25 i = nI a ∧ ¬ T 24 a = 0) ∧ (∀ a, a < 48 → ¬ T 24 a = 0 → ∃ i, i < s ∧ T 25 i = nI a)
def mk1 (hr : Bool) (I : IT) (j : Nat) : IT := if hr = true ∧ I 24 j = 0 ∧ ¬ 48 ≤ I 22 4 then upI (upI (upI (upI I 23 j 1) 24 j 1) 25 (I 22 4).toNatClampNeg (nI j)) 22 4 (I 22 4 + 1) else upI I 23 j 1
def Ex (T T' : IT) (s : Nat) (P Q : Nat → Prop) : Prop := ∃ s', s ≤ s' ∧ Qs T' s' ∧ (∀ i, i < s → T' 25 i = T 25 i) ∧ grw P Q (T 23) (T 24) (T' 23) (T' 24)
theorem n1z : ¬ (1 : Int32) = 0 := by decide
theorem mk1_s {hr : Bool} {j s : Nat} {T : IT} (hj : j < 48) (h : Qs T s) : Ex T (mk1 hr T j) s (fun w => w = j) (fun w => w = j ∧ hr = true) := by
  obtain ⟨h1, h2, h3, h4⟩ := h
  have hs : s ≤ 48 := by rw [h2]; exact cz_le 48
  by_cases c : hr = true ∧ T 24 j = 0
  · have hl : s < 48 := by rw [h2]; exact cz_lt c.2 hj
    have hc : hr = true ∧ T 24 j = 0 ∧ ¬ 48 ≤ T 22 4 := ⟨c.1, c.2, by rw [h1]; exact nle_nI (n := 48) rfl hl (by decide)⟩
    have e22 : mk1 hr T j 22 4 = nI (s + 1) := by unfold mk1; rw [if_pos hc, upI_s, h1, nI_1]
    have e25 : ∀ i, mk1 hr T j 25 i = if i = s then nI j else T 25 i := fun i => by
      unfold mk1; rw [if_pos hc, upI_b (by decide), upI_at, h1, nI_clamp (by omega), upI_b (by decide), upI_b (by decide)]
    have e24 : ∀ i, mk1 hr T j 24 i = if i = j then 1 else T 24 i := fun i => by
      unfold mk1; rw [if_pos hc, upI_b (by decide), upI_b (by decide), upI_at, upI_b (by decide)]
    have e23 : ∀ i, mk1 hr T j 23 i = if i = j then 1 else T 23 i := fun i => by
      unfold mk1; rw [if_pos hc, upI_b (by decide), upI_b (by decide), upI_b (by decide), upI_at]
    generalize mk1 hr T j = U at *
    have ej : ¬ U 24 j = 0 := by rw [e24, if_pos rfl]; exact n1z
    refine ⟨s + 1, by omega, ⟨e22, ?_, fun i hi => ?_, fun a ha hn => ?_⟩, fun i hi => ?_, fun w hw => ?_, fun w hw => ?_⟩
    · rw [cz_up (f := T 24) (g := U 24) c.2 ej (fun i hi => by rw [e24, if_neg hi]) 48 hj, h2]
    · rw [e25]
      by_cases z : i = s
      · rw [if_pos z]; exact ⟨j, hj, rfl, ej⟩
      · rw [if_neg z]
        obtain ⟨a, a1, a2, a3⟩ := h3 i (by omega)
        refine ⟨a, a1, a2, ?_⟩
        rw [e24]; split
        · exact n1z
        · exact a3
    · by_cases z : a = j
      · exact ⟨s, by omega, by rw [e25, if_pos rfl, z]⟩
      · rw [e24, if_neg z] at hn
        obtain ⟨i, i1, i2⟩ := h4 a ha hn
        exact ⟨i, by omega, by rw [e25, if_neg (by omega)]; exact i2⟩
    · rw [e25, if_neg (by omega)]
    · rw [e23]
      by_cases z : w = j
      · rw [if_pos z]; exact ⟨fun _ => Or.inr z, fun _ => n1z⟩
      · rw [if_neg z]; exact ⟨Or.inl, fun y => y.elim id (fun q => absurd q z)⟩
    · rw [e24]
      by_cases z : w = j
      · rw [if_pos z]; exact ⟨fun _ => Or.inr ⟨z, c.1⟩, fun _ => n1z⟩
      · rw [if_neg z]; exact ⟨Or.inl, fun y => y.elim id (fun q => absurd q.1 z)⟩
  · have hc : ¬ (hr = true ∧ T 24 j = 0 ∧ ¬ 48 ≤ T 22 4) := fun z => c ⟨z.1, z.2.1⟩
    have e22 : mk1 hr T j 22 = T 22 := by unfold mk1; rw [if_neg hc, upI_b (by decide)]
    have e25 : mk1 hr T j 25 = T 25 := by unfold mk1; rw [if_neg hc, upI_b (by decide)]
    have e24 : mk1 hr T j 24 = T 24 := by unfold mk1; rw [if_neg hc, upI_b (by decide)]
    have e23 : ∀ i, mk1 hr T j 23 i = if i = j then 1 else T 23 i := fun i => by unfold mk1; rw [if_neg hc, upI_at]
    generalize mk1 hr T j = U at *
    refine ⟨s, Nat.le_refl s, ⟨by rw [e22]; exact h1, by rw [e24]; exact h2, by rw [e25, e24]; exact h3, by rw [e25, e24]; exact h4⟩, fun i _ => by rw [e25], fun w hw => ?_, fun w hw => ?_⟩
    · rw [e23]
      by_cases z : w = j
      · rw [if_pos z]; exact ⟨fun _ => Or.inr z, fun _ => n1z⟩
      · rw [if_neg z]; exact ⟨Or.inl, fun y => y.elim id (fun q => absurd q z)⟩
    · rw [e24]
      exact ⟨Or.inl, fun y => y.elim id (fun q => fun z => c ⟨q.2, by rw [← q.1]; exact z⟩)⟩
theorem Ex_tr {T T1 T2 : IT} {s : Nat} {P Q P' Q' P2 Q2 : Nat → Prop} (h : Ex T T1 s P Q) (h' : ∀ s', Qs T1 s' → Ex T1 T2 s' P' Q') (hP : ∀ w, (P w ∨ P' w) ↔ P2 w) (hQ : ∀ w, (Q w ∨ Q' w) ↔ Q2 w) : Ex T T2 s P2 Q2 := by
  obtain ⟨s1, a1, a2, a3, a4⟩ := h
  obtain ⟨s2, b1, b2, b3, b4⟩ := h' s1 a2
  refine ⟨s2, by omega, b2, fun i hi => by rw [b3 i (by omega), a3 i hi], fun w hw => ?_, fun w hw => ?_⟩
  · rw [b4.1 w hw, a4.1 w hw, or_assoc, hP]
  · rw [b4.2 w hw, a4.2 w hw, or_assoc, hQ]
theorem mkl_s {hr : Bool} : ∀ (n j : Nat) (T : IT) (s : Nat), j + n ≤ 48 → Qs T s → Ex T (mkl hr T j n) s (fun w => j ≤ w ∧ w < j + n) (fun w => (j ≤ w ∧ w < j + n) ∧ hr = true)
  | 0, j, T, s, hj, h => by
    rw [mkl]
    exact ⟨s, Nat.le_refl s, h, fun i _ => rfl, fun w _ => ⟨Or.inl, fun y => y.elim id (fun q => absurd q (by omega))⟩, fun w _ => ⟨Or.inl, fun y => y.elim id (fun q => absurd q.1 (by omega))⟩⟩
  | n + 1, j, T, s, hj, h => by
    refine Ex_tr (mk1_s (hr := hr) (by omega) h) (fun s' h' => mkl_s n (j + 1) (mk1 hr T j) s' (by omega) h') (fun w => ?_) (fun w => ?_)
    · omega
    · constructor
      · rintro (z | z)
        · exact ⟨by omega, z.2⟩
        · exact ⟨by omega, z.2⟩
      · rintro ⟨z, y⟩
        by_cases e : w = j
        · exact Or.inl ⟨e, y⟩
        · exact Or.inr ⟨by omega, y⟩
theorem mkV_s {p s : Nat} {T : IT} (h : K1 L I J) (hp : p < 102) (q : Qs T s) : Ex T (mkV T (L 5 p)) s (cvp J p) (fun w => cvp J p w ∧ mHas J p 1 = true) := by
  unfold mkV
  cases hv : vCap (L 5 p) with
  | false =>
    rw [if_neg (by decide)]
    have h0 := (K_cap h hp).mp hv
    have nc : ∀ w, ¬ cvp J p w := fun w c => by
      rcases c.1 with e | e <;> rw [e] at h0 <;> exact absurd h0 (by decide)
    exact ⟨s, Nat.le_refl s, q, fun i _ => rfl, fun w _ => ⟨Or.inl, fun y => y.elim id (fun c => absurd c (nc w))⟩, fun w _ => ⟨Or.inl, fun y => y.elim id (fun c => absurd c.1 (nc w))⟩⟩
  | true =>
    rw [if_pos rfl]
    have h0 : ¬ (gt J p 0 = 0 ∨ gt J p 0 = 3) := fun z => by rw [(K_cap h hp).mpr z] at hv; exact absurd hv (by decide)
    have e0 : ¬ gt J p 0 = 0 := fun z => h0 (Or.inl z)
    have k12 : gt J p 0 = 1 ∨ gt J p 0 = 2 := by
      rcases vl_k (K_v h hp).1 with e | e | e | e
      · exact absurd e e0
      · exact Or.inl e
      · exact Or.inr e
      · exact absurd (Or.inr e) h0
    have v := K_rg h hp h0
    have v2 : (gt J p 2).toNatClampNeg < 49 := v.2.1.2
    have v3 : (gt J p 1).toNatClampNeg < (gt J p 2).toNatClampNeg := v.2.2
    rw [K_has h hp h0, K_f h hp e0, K_e h hp e0]
    obtain ⟨s', a1, a2, a3, a4, a5⟩ := mkl_s (hr := mHas J p 1) ((gt J p 2).toNatClampNeg - (gt J p 1).toNatClampNeg) (gt J p 1).toNatClampNeg T s (by omega) q
    have ec : ∀ w, ((gt J p 1).toNatClampNeg ≤ w ∧ w < (gt J p 1).toNatClampNeg + ((gt J p 2).toNatClampNeg - (gt J p 1).toNatClampNeg)) ↔ cvp J p w := fun w => ⟨fun z => ⟨k12, z.1, by omega⟩, fun z => ⟨z.2.1, by have := z.2.2; omega⟩⟩
    exact ⟨s', a1, a2, a3, fun w hw => (a4 w hw).trans (or_congr Iff.rfl (ec w)), fun w hw => (a5 w hw).trans (or_congr Iff.rfl (and_congr (ec w) Iff.rfl))⟩
theorem rgl_s (h : K1 L I J) : ∀ (n j : Nat) (T : IT) (s : Nat), j + n ≤ 8 → Qs T s → Snd J (T 23) (T 24) → (∀ p, p < j → mkd J (T 23) (T 24) p) → ∃ s', Qs (rgl L T j n) s' ∧ Snd J (rgl L T j n 23) (rgl L T j n 24) ∧ ∀ p, p < j + n → mkd J (rgl L T j n 23) (rgl L T j n 24) p
  | 0, j, T, s, _, q, sd, m => ⟨s, q, sd, m⟩
  | n + 1, j, T, s, hj, q, sd, m => by
    obtain ⟨s', _, q', _, g⟩ := mkV_s h (show j < 102 by omega) q
    have := rgl_s h n (j + 1) (mkV T (L 5 j)) s' (by omega) q' (gp_snd (by omega) (Or.inl (by omega)) g sd) (fun p hp => by
      by_cases e : p = j
      · subst e; exact gp_mk g
      · exact grw_keep g (m p (by omega)))
    rw [rgl, show j + (n + 1) = j + 1 + n by omega]
    exact this
theorem bfl_s (h : K1 L I J) : ∀ (n j : Nat) (T : IT) (s : Nat), j + n = 48 → Qs T s → Snd J (T 23) (T 24) → (∀ p, p < 8 → mkd J (T 23) (T 24) p) → (∀ i, i < j → i < s → ∀ a, a < 48 → T 25 i = nI a → mkd J (T 23) (T 24) (8 + a)) → ∃ s', Qs (bfl L T j n) s' ∧ Snd J (bfl L T j n 23) (bfl L T j n 24) ∧ (∀ p, p < 8 → mkd J (bfl L T j n 23) (bfl L T j n 24) p) ∧ (∀ i, i < s' → ∀ a, a < 48 → bfl L T j n 25 i = nI a → mkd J (bfl L T j n 23) (bfl L T j n 24) (8 + a))
  | 0, j, T, s, hj, q, sd, m, pr => by
    have hs : s ≤ 48 := by rw [q.2.1]; exact cz_le 48
    exact ⟨s, q, sd, m, fun i hi => pr i (by omega) hi⟩
  | n + 1, j, T, s, hj, q, sd, m, pr => by
    have hs : s ≤ 48 := by rw [q.2.1]; exact cz_le 48
    rw [bfl]
    by_cases c : T 22 4 ≤ nI j
    · rw [if_pos c]
      have hsj : s ≤ j := by
        rw [q.1] at c
        exact (nI_leI (by omega) (by omega)).mp c
      exact ⟨s, q, sd, m, fun i hi => pr i (by omega) hi⟩
    · rw [if_neg c]
      have hsj : j < s := by
        rcases Nat.lt_or_ge j s with z | z
        · exact z
        · exact absurd (by rw [q.1]; exact nI_le z (by omega)) c
      obtain ⟨a, a1, a2, a3⟩ := q.2.2.1 j hsj
      rw [a2, nI_clamp (by omega)]
      obtain ⟨s', b1, q', b3, g⟩ := mkV_s h (show 8 + a < 102 by omega) q
      refine bfl_s h n (j + 1) (mkV T (L 5 (8 + a))) s' (by omega) q' (gp_snd (by omega) (Or.inr (by rw [Nat.add_sub_cancel_left]; exact sd.2 a a1 a3)) g sd) (fun p hp => grw_keep g (m p hp)) (fun i hi hi' b hb eb => ?_)
      rw [b3 i (by omega)] at eb
      by_cases e : i = j
      · subst e
        have : a = b := nI_ij (by omega) (by omega) (a2.symm.trans eb)
        subst this
        exact gp_mk g
      · exact grw_keep g (pr i (by omega) (by omega) b hb eb)
theorem clr_24 : ∀ (n j : Nat) (I : IT), (∀ i, i < j → I 24 i = 0) → ∀ i, i < j + n → clr I j n 24 i = 0
  | 0, j, I, h, i, hi => h i hi
  | n + 1, j, I, h, i, hi => by
    rw [clr]
    refine clr_24 n (j + 1) _ (fun k hk => ?_) i (by omega)
    rw [upI_at]
    split
    · rfl
    · rw [upI_b (by decide)]; exact h k (by omega)
theorem cz_z {f : Nat → Int32} : ∀ n, (∀ i, i < n → f i = 0) → cz f n = 0
  | 0, _ => rfl
  | n + 1, h => by rw [cz, cz_z n (fun i hi => h i (by omega)), if_pos (h n (by omega))]
theorem flw_ex (h : K1 L I J) {w : Nat} (hw : w < 48) : ¬ flw L I 23 w = 0 ↔ Nea J w := by
  have z3 : ∀ i, i < 48 → upI (clr I 0 48) 22 4 0 23 i = 0 := fun i hi => by rw [upI_b (by decide)]; exact clr_zo 48 0 I (fun k hk => absurd hk (Nat.not_lt_zero k)) i (by omega)
  have z4 : ∀ i, i < 48 → upI (clr I 0 48) 22 4 0 24 i = 0 := fun i hi => by rw [upI_b (by decide)]; exact clr_24 48 0 I (fun k hk => absurd hk (Nat.not_lt_zero k)) i (by omega)
  have q0 : Qs (upI (clr I 0 48) 22 4 0) 0 := ⟨upI_s, (cz_z 48 z4).symm, fun i hi => absurd hi (Nat.not_lt_zero i), fun a ha hn => absurd (z4 a ha) hn⟩
  unfold flw
  generalize upI (clr I 0 48) 22 4 0 = T at *
  obtain ⟨s1, q1, d1, m1⟩ := rgl_s h 8 0 T 0 (by decide) q0 ⟨fun w hw hn => absurd (z3 w hw) hn, fun w hw hn => absurd (z4 w hw) hn⟩ (fun p hp => absurd hp (Nat.not_lt_zero p))
  obtain ⟨s2, q2, d2, m2, m3⟩ := bfl_s h 48 0 _ s1 rfl q1 d1 (fun p hp => m1 p (by omega)) (fun i hi => absurd hi (Nat.not_lt_zero i))
  generalize bfl L (rgl L T 0 8) 0 48 = U at *
  refine ex_N (R := U 24) (fun p hp ho => ?_) d2 hw
  rcases Nat.lt_or_ge p 8 with z | z
  · exact m2 p z
  · obtain ⟨i, i1, i2⟩ := q2.2.2.2 (p - 8) (by omega) (ho.elim (fun y => absurd y (by omega)) id)
    have := m3 i i1 (p - 8) (by omega) i2
    rw [show 8 + (p - 8) = p by omega] at this
    exact this
/-! the reference's search -/
theorem mSw_12 {h : Bool} {x : Nat} : ∀ (n w : Nat) (T : IT), ¬ mSw h T w n 1012 x = 0 ↔ (¬ T 1012 x = 0 ∨ (w ≤ x ∧ x < w + n))
  | 0, w, T => ⟨Or.inl, fun y => y.elim id (fun q => absurd q (by omega))⟩
  | n + 1, w, T => by
    rw [mSw, mSw_12 n (w + 1), upI_b (by decide), upI_at]
    by_cases e : x = w
    · rw [if_pos e]
      exact ⟨fun _ => Or.inr (by omega), fun _ => Or.inl n1z⟩
    · rw [if_neg e]
      exact or_congr Iff.rfl (by omega)
theorem mSw_13 {h : Bool} {x : Nat} : ∀ (n w : Nat) (T : IT), ¬ mSw h T w n 1013 x = 0 ↔ (¬ T 1013 x = 0 ∨ ((w ≤ x ∧ x < w + n) ∧ h = true))
  | 0, w, T => ⟨Or.inl, fun y => y.elim id (fun q => absurd q.1 (by omega))⟩
  | n + 1, w, T => by
    rw [mSw, mSw_13 n (w + 1), upI_at]
    by_cases e : x = w
    · rw [if_pos e, e]
      by_cases c : ¬ T 1013 w = 0 ∨ h = true
      · rw [if_pos c]
        exact ⟨fun _ => c.imp id (fun z => ⟨by omega, z⟩), fun _ => Or.inl n1z⟩
      · rw [if_neg c]
        exact ⟨fun z => z.elim (fun y => absurd rfl y) (fun y => absurd y.1 (by omega)), fun z => absurd (z.imp id (fun y => y.2)) c⟩
    · rw [if_neg e, upI_b (by decide)]
      refine or_congr Iff.rfl (and_congr (by omega) Iff.rfl)
theorem mSp1_s {T : IT} {p : Nat} (h : K1 L I J) (e3 : T 1003 = J 1003) (hp : p < 102) (k : gt J p 0 = 1 ∨ gt J p 0 = 2) : gp J p (T 1012) (T 1013) (mSp1 T p 1012) (mSp1 T p 1013) := by
  have eg : ∀ j, gt T p j = gt J p j := fun j => by unfold gt; rw [e3]
  have eh : mHas T p 1 = mHas J p 1 := by unfold mHas; rw [eg]
  have h0 : ¬ (gt J p 0 = 0 ∨ gt J p 0 = 3) := by rcases k with e | e <;> rw [e] <;> decide
  have v := K_rg h hp h0
  have v3 : (gt J p 1).toNatClampNeg < (gt J p 2).toNatClampNeg := v.2.2
  unfold mSp1
  rw [eg, eg, eh]
  have ec : ∀ w, ((gt J p 1).toNatClampNeg ≤ w ∧ w < (gt J p 1).toNatClampNeg + ((gt J p 2).toNatClampNeg - (gt J p 1).toNatClampNeg)) ↔ cvp J p w := fun w => ⟨fun z => ⟨k, z.1, by omega⟩, fun z => ⟨z.2.1, by have := z.2.2; omega⟩⟩
  exact ⟨fun w _ => by rw [mSw_12, ec], fun w _ => by rw [mSw_13, ec]⟩
theorem mSp_s (h : K1 L I J) : ∀ (n p : Nat) (T : IT), p + n ≤ 56 → T 1003 = J 1003 → Snd J (T 1012) (T 1013) → Snd J (mSp T p n 1012) (mSp T p n 1013) ∧ (∀ w, w < 48 → ¬ T 1012 w = 0 → ¬ mSp T p n 1012 w = 0) ∧ (∀ w, w < 48 → ¬ T 1013 w = 0 → ¬ mSp T p n 1013 w = 0) ∧ (∀ x, p ≤ x → x < p + n → (x < 8 ∨ ¬ T 1013 (x - 8) = 0) → mkd J (mSp T p n 1012) (mSp T p n 1013) x)
  | 0, p, T, _, _, sd => ⟨sd, fun w _ z => z, fun w _ z => z, fun x h1 h2 => absurd h2 (by omega)⟩
  | n + 1, p, T, hp, e3, sd => by
    have eg : gt T p 0 = gt J p 0 := by unfold gt; rw [e3]
    rw [mSp]
    by_cases c : opn T p
    · rw [if_pos c]
      have k : gt J p 0 = 1 ∨ gt J p 0 = 2 := by rw [← eg]; exact c.2
      have g := mSp1_s (T := T) h e3 (show p < 102 by omega) k
      have e3' : mSp1 T p 1003 = J 1003 := by unfold mSp1; rw [mSw_o (by decide) (by decide)]; exact e3
      have ho : p < 8 ∨ Rch J (p - 8) := c.1.imp id (fun z => sd.2 (p - 8) (by omega) z)
      obtain ⟨i1, i2, i3, i4⟩ := mSp_s h n (p + 1) (mSp1 T p) (by omega) e3' (gp_snd (by omega) ho g sd)
      have g12 : ∀ w, w < 48 → ¬ T 1012 w = 0 → ¬ mSp1 T p 1012 w = 0 := fun w hw z => (g.1 w hw).mpr (Or.inl z)
      have g13 : ∀ w, w < 48 → ¬ T 1013 w = 0 → ¬ mSp1 T p 1013 w = 0 := fun w hw z => (g.2 w hw).mpr (Or.inl z)
      refine ⟨i1, fun w hw z => i2 w hw (g12 w hw z), fun w hw z => i3 w hw (g13 w hw z), fun x h1 h2 hx => ?_⟩
      by_cases e : x = p
      · subst e
        have m := gp_mk g
        exact fun w hw hc => ⟨i2 w hw (m w hw hc).1, fun hr => i3 w hw ((m w hw hc).2 hr)⟩
      · exact i4 x (by omega) (by omega) (hx.imp id (fun z => g13 _ (by omega) z))
    · rw [if_neg c]
      obtain ⟨i1, i2, i3, i4⟩ := mSp_s h n (p + 1) T (by omega) e3 sd
      refine ⟨i1, i2, i3, fun x h1 h2 hx => ?_⟩
      by_cases e : x = p
      · subst e
        exact fun w hw hc => absurd ⟨hx, by rw [eg]; exact hc.1⟩ c
      · exact i4 x (by omega) (by omega) hx
theorem mSn_cz {T : IT} : ∀ n j, mSn T (nI (cz (T 1012) j + 100 * cz (T 1013) j)) j n = nI (cz (T 1012) (j + n) + 100 * cz (T 1013) (j + n))
  | 0, j => rfl
  | n + 1, j => by
    rw [mSn, show j + (n + 1) = j + 1 + n by omega, ← mSn_cz n (j + 1), cz, cz]
    congr 1
    by_cases e : T 1012 j = 0 <;> by_cases f : T 1013 j = 0
    · rw [if_pos e, if_pos f, if_pos e, if_pos f, Int32.add_zero]; exact congrArg nI (by omega)
    · rw [if_pos e, if_neg f, if_pos e, if_neg f, show (100 : Int32) = nI 100 from rfl, nI_add]; exact congrArg nI (by omega)
    · rw [if_neg e, if_pos f, if_neg e, if_pos f, nI_1, Int32.add_zero]; exact congrArg nI (by omega)
    · rw [if_neg e, if_neg f, if_neg e, if_neg f, nI_1, show (100 : Int32) = nI 100 from rfl, nI_add]; exact congrArg nI (by omega)
abbrev cT (T : IT) : Nat := cz (T 1012) 48 + 100 * cz (T 1013) 48
theorem mSn_c (T : IT) : mSn T 0 0 48 = nI (cT T) := mSn_cz 48 0
theorem mSr_s (h : K1 L I J) : ∀ (k i : Nat) (T : IT) (b n : Int32), i + k = 50 → T 1003 = J 1003 → Snd J (T 1012) (T 1013) → n = nI (cT T) → (n = b → Don J (T 1012) (T 1013)) → (Don J (T 1012) (T 1013) ∨ i ≤ cz (T 1013) 48) → Snd J ((mSr k T b n).1 1012) ((mSr k T b n).1 1013) ∧ Don J ((mSr k T b n).1 1012) ((mSr k T b n).1 1013) ∧ (mSr k T b n).2 = nI (cT (mSr k T b n).1)
  | 0, i, T, b, n, hi, _, sd, hn, _, hd => by
    rw [mSr]
    exact ⟨sd, hd.elim id (fun z => absurd z (by have := cz_le (f := T 1013) 48; omega)), hn⟩
  | k + 1, i, T, b, n, hi, e3, sd, hn, hb, hd => by
    rw [mSr]
    by_cases c : n = b
    · rw [if_pos c]; exact ⟨sd, hb c, hn⟩
    · rw [if_neg c]
      obtain ⟨i1, i2, i3, i4⟩ := mSp_s h 56 0 T (by decide) e3 sd
      have e3' : mSp T 0 56 1003 = J 1003 := by rw [mSp_o (by decide) (by decide)]; exact e3
      have en := mSn_c (mSp T 0 56)
      generalize mSp T 0 56 = U at *
      have c2 := cz_mono 48 i2
      have c3 := cz_mono 48 i3
      have l1 := cz_le (f := T 1012) 48
      have l2 := cz_le (f := T 1013) 48
      have l3 := cz_le (f := U 1012) 48
      have l4 := cz_le (f := U 1013) 48
      have dn : cz (U 1013) 48 = cz (T 1013) 48 → Don J (U 1012) (U 1013) := fun z p hp ho => i4 p (by omega) (by omega) (by
        rcases Nat.lt_or_ge p 8 with y | y
        · exact Or.inl y
        · exact Or.inr (c3.2 z.symm (p - 8) (by omega) (ho.elim (fun x => absurd x (by omega)) id)))
      refine mSr_s h k (i + 1) U n (mSn U 0 0 48) (by omega) e3' i1 en (fun z => dn ?_) ?_
      · rw [en, hn] at z
        have := nI_ij (by unfold cT; omega) (by unfold cT; omega) z
        unfold cT at this
        omega
      · rcases hd with d | d
        · refine Or.inl (dn (cz_ext 48 (fun w hw => ?_)))
          have a := ex_R d sd hw
          refine ⟨fun z => Classical.byContradiction (fun y => i3 w hw y z), fun z => Classical.byContradiction (fun y => ?_)⟩
          exact a.mpr (i1.2 w hw y) z
        · rcases Nat.lt_or_ge (cz (T 1013) 48) (cz (U 1013) 48) with z | z
          · exact Or.inr (by omega)
          · exact Or.inl (dn (by omega))
theorem mSc_12 : ∀ (n j : Nat) (T : IT), (∀ i, i < j → T 1012 i = 0 ∧ T 1013 i = 0) → ∀ i, i < j + n → mSc T j n 1012 i = 0 ∧ mSc T j n 1013 i = 0
  | 0, j, T, h, i, hi => h i hi
  | n + 1, j, T, h, i, hi => by
    rw [mSc]
    refine mSc_12 n (j + 1) _ (fun k hk => ?_) i (by omega)
    rw [upI_b (by decide), upI_at, upI_at, upI_b (by decide)]
    by_cases e : k = j
    · rw [if_pos e, if_pos e]; exact ⟨rfl, rfl⟩
    · rw [if_neg e, if_neg e]; exact h k (by omega)
theorem mSpr_s (h : K1 L I J) : Snd J ((mSpr J).1 1012) ((mSpr J).1 1013) ∧ Don J ((mSpr J).1 1012) ((mSpr J).1 1013) ∧ (mSpr J).2 = nI (cT (mSpr J).1) := by
  have z := mSc_12 48 0 J (fun i hi => absurd hi (Nat.not_lt_zero i))
  have e3 : mSc J 0 48 1003 = J 1003 := mSc_o (by decide) (by decide) 48 0 J
  unfold mSpr
  generalize mSc J 0 48 = T at *
  have z1 : cz (T 1012) 48 = 0 := cz_z 48 (fun i hi => (z i (by omega)).1)
  have z2 : cz (T 1013) 48 = 0 := cz_z 48 (fun i hi => (z i (by omega)).2)
  exact mSr_s h 50 0 T (-1) 0 rfl e3 ⟨fun w hw hn => absurd (z w (by omega)).1 hn, fun w hw hn => absurd (z w (by omega)).2 hn⟩ (by unfold cT; rw [z1, z2]; rfl) (fun y => absurd y (by decide)) (Or.inr (Nat.zero_le _))
set_option maxRecDepth 100000 in
theorem rem100 : ∀ c, c < 49 → ∀ r, r < 49 → nI (c + 100 * r) - nI (c + 100 * r) / 100 * 100 = nI c := by decide
theorem rea_eq (h : K1 L I J) : ctl (flw L I 23) 0 0 48 = (mSpr J).2 - (mSpr J).2 / 100 * 100 := by
  obtain ⟨s, d, e⟩ := mSpr_s h
  have e1 : cz (flw L I 23) 48 = cz ((mSpr J).1 1012) 48 := cz_ext 48 (fun w hw => by
    have a := flw_ex h hw
    have b := ex_N d s hw
    exact Decidable.not_iff_not.mp (a.trans b.symm))
  have e2 : ctl (flw L I 23) 0 0 48 = nI (cz (flw L I 23) 48) := ctl_cz 48 0
  have l3 := cz_le (f := (mSpr J).1 1012) 48
  have l4 := cz_le (f := (mSpr J).1 1013) 48
  rw [e2, e1, e]
  exact (rem100 _ (by omega) _ (by omega)).symm
theorem rcs_eq {a : Int32} (h : K1 L I J) : (uRcs L I a).1 = bz (mRcs J a).1 := by
  unfold uRcs mRcs
  have ei : (a < 0 ∨ ¬ a < 48) ↔ inz a 0 47 = false := by
    have e : a < 48 ↔ ¬ 47 < a := by rw [Int32.lt_iff_toInt_lt, Int32.lt_iff_toInt_lt, show (48 : Int32).toInt = 48 from rfl, show (47 : Int32).toInt = 47 from rfl]; omega
    rw [e]; unfold inz
    by_cases x : a < 0 <;> by_cases y : 47 < a <;> simp [x, y]
  by_cases c : inz a 0 47 = false
  · rw [if_pos (ei.mpr c), if_pos c]; rfl
  · rw [if_neg (fun z => c (ei.mp z)), if_neg c]
    have ha := inz_nI (n := 47) rfl (by decide) (by cases hh : inz a 0 47; exact absurd hh c; rfl)
    obtain ⟨s, d, e⟩ := mSpr_s h
    have hr := rea_eq h
    have l := cz_le (f := flw L I 23) 48
    have e2 : ctl (flw L I 23) 0 0 48 = nI (cz (flw L I 23) 48) := ctl_cz 48 0
    have hn : ¬ (mSpr J).2 - (mSpr J).2 / 100 * 100 < 0 := by
      rw [← hr, e2, Int32.lt_iff_toInt_lt, nI_toInt (by omega), show (0 : Int32).toInt = 0 from rfl]; omega
    have hw : a.toNatClampNeg < 48 := by have := ha.2; omega
    have z := flw_zo (I := I) (fun p hp => (K_rok h (show p < 102 by omega)).1) _ hw
    have x1 := flw_ex h hw
    have x2 := ex_N d s hw
    clear hr e2 l e s d
    generalize mSpr J = S at *
    generalize flw L I = F at *
    dsimp only
    rw [decide_eq_false hn]
    by_cases y : S.1 1012 a.toNatClampNeg = 0
    · rw [decide_eq_true y]
      exact Classical.byContradiction (fun q => (x2.mpr (x1.mp q)) y)
    · rw [decide_eq_false y]
      rcases z with q | q
      · exact absurd q (x1.mpr (x2.mp y))
      · rw [q]; rfl
theorem K_okP (h : K1 L I J) : okP (J 1003) := by
  intro p hp hk
  have k : gt J p 0 = 1 ∨ gt J p 0 = 2 := hk
  have v := K_rg h (show p < 102 by omega) (by rcases k with e | e <;> rw [e] <;> decide)
  have v2 : (gt J p 2).toNatClampNeg < 49 := v.2.1.2
  have v3 : (gt J p 1).toNatClampNeg < (gt J p 2).toNatClampNeg := v.2.2
  exact ⟨(gt J p 1).toNatClampNeg, (gt J p 2).toNatClampNeg, v.1.1, v.2.1.1, by omega, by omega⟩
end RCA

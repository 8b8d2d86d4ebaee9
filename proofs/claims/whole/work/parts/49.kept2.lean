/-! the invariant is kept: code, reach, conserve, reads -/
section KP2
variable {G : GW} {L : LT} {I J : IT} {r d n s : Nat}
theorem His_2 {I' : IT} (h : ∀ x, (x < 19 ∨ (26 ≤ x ∧ x < 1000)) → I' x = I x) (hs : His L I r d n s) : His L I' r d n s := by
  obtain ⟨a, b, rows, cur, hist⟩ := hs
  have i2 := h 2 (by decide)
  have i3 := h 3 (by decide)
  unfold His
  rw [h 15 (by decide), h 0 (by decide)]
  refine ⟨a, b, fun i hi => Rk_C i2 i3 (Rk_s (same_of (fun _ _ _ => rfl) (fun x h1 h2 => h _ (by omega))) (rows i hi)), Rk_C i2 i3 (Rk_s (same_of (fun _ _ _ => rfl) (fun x h1 h2 => h _ (by omega))) cur), Hs_C i2 i3 hist⟩
theorem Inv_I {I' : IT} (h : ∀ x, (x < 19 ∨ (26 ≤ x ∧ x < 1012)) → I' x = I x) (v : Inv L I r d) : Inv L I' r d := by
  obtain ⟨⟨vb, v01⟩, ⟨vk, vc⟩, ⟨n, s, vh, v17⟩, vn⟩ := v
  have kI : ∀ {J : IT}, KK L I J → KK L I' J := fun k => KK_I (fun x _ h2 => h x (by omega)) k
  refine ⟨?_, ⟨kI (KK_J (fun x _ h2 => h x (by omega)) (fun i _ => by rw [h 1000 (by decide)]) vk), Cd_I (h 2 (by decide)) (h 3 (by decide)) (Cd_J (h 1001 (by decide)) (h 1002 (by decide)) vc)⟩, ⟨n, s, His_2 (fun x hx => h x (by omega)) vh, by rw [h 1000 (by decide)]; exact v17⟩, ?_⟩
  · rw [h 0 (by decide), h 1000 (by decide)]; exact ⟨vb, v01⟩
  · rw [h 0 (by decide)]; exact fun z => ⟨(vn z).1, fun J0 e => kI ((vn z).2 J0 e)⟩
theorem mkl_o {hr : Bool} {x : Nat} (h : x < 22 ∨ 26 ≤ x) : ∀ (n j : Nat) (I : IT), mkl hr I j n x = I x
  | 0, _, _ => rfl
  | n + 1, j, I => by
    rw [mkl, mkl_o h n (j + 1)]
    split
    · rw [upI_b (by omega), upI_b (by omega), upI_b (by omega), upI_b (by omega)]
    · rw [upI_b (by omega)]
theorem mkV_o {v : Int64} {x : Nat} (h : x < 22 ∨ 26 ≤ x) : mkV I v x = I x := by
  unfold mkV
  split
  · exact mkl_o h _ _ _
  · rfl
theorem clr_o {x : Nat} (h : x < 22 ∨ 26 ≤ x) : ∀ (n j : Nat) (I : IT), clr I j n x = I x
  | 0, _, _ => rfl
  | n + 1, j, I => by rw [clr, clr_o h n (j + 1), upI_b (by omega), upI_b (by omega)]
theorem rgl_o {x : Nat} (h : x < 22 ∨ 26 ≤ x) : ∀ (n j : Nat) (I : IT), rgl L I j n x = I x
  | 0, _, _ => rfl
  | n + 1, j, I => by rw [rgl, rgl_o h n (j + 1), mkV_o h]
theorem bfl_o {x : Nat} (h : x < 22 ∨ 26 ≤ x) : ∀ (n j : Nat) (I : IT), bfl L I j n x = I x
  | 0, _, _ => rfl
  | n + 1, j, I => by
    rw [bfl]
    split
    · rfl
    · rw [bfl_o h n (j + 1), mkV_o h]
theorem flw_o {x : Nat} (h : x < 22 ∨ 26 ≤ x) : flw L I x = I x := by
  unfold flw
  rw [bfl_o h, rgl_o h, upI_b (by omega), clr_o h]
theorem mSr_o {x : Nat} (h1 : x ≠ 1012) (h2 : x ≠ 1013) : ∀ (k : Nat) (J : IT) (b n : Int32), (mSr k J b n).1 x = J x
  | 0, _, _, _ => rfl
  | k + 1, J, b, n => by
    rw [mSr]
    split
    · rfl
    · rw [mSr_o h1 h2 k, mSp_o h1 h2]
theorem mSpr_o {x : Nat} (h1 : x ≠ 1012) (h2 : x ≠ 1013) : (mSpr J).1 x = J x := by
  unfold mSpr
  rw [mSr_o h1 h2, mSc_o h1 h2]
theorem KK_hi {I' : IT} (h : ∀ x, 1000 ≤ x → x < 1012 → I' x = I x) (k : KK L I I) : KK L I I' := KK_J (fun x h1 h2 => h x (by omega) (by omega)) (fun i _ => by rw [h 1000 (by decide) (by decide)]) k
theorem p_reach (v : Inv L I r d) : ∃ (x : Int32) (I' J' : IT), mt G M_Um_reach 6 0 0 [.ref 0] (hp L I r) (dt (some (.int x)) (hp L I' r)) ∧ mt G M_Mo_reach 3 0 0 [.ref 1000] (hp L I' r) (dt (some (.int x)) (hp L J' r)) ∧ Inv L J' r d := by
  have k := KK_hi (I' := flw L I) (fun x h1 h2 => flw_o (by omega)) v.2.1.1
  refine ⟨_, flw L I, (mSpr (flw L I)).1, t_Um_reach (fun p hp => (K_rok v.2.1.1.1 (by omega)).1), ?_, Inv_I (fun x hx => ?_) v⟩
  · rw [rea_eq k.1]; exact t_Mo_reach (K_okP k.1)
  · rw [mSpr_o (by omega) (by omega), flw_o (by omega)]
theorem uRcs_o {a : Int32} {x : Nat} (h : x < 22 ∨ 26 ≤ x) : (uRcs L I a).2 x = I x := by
  unfold uRcs
  split
  · rfl
  · exact flw_o h
theorem mRcs_o {a : Int32} {x : Nat} (h1 : x ≠ 1012) (h2 : x ≠ 1013) : (mRcs J a).2 x = J x := by
  have e := mSpr_o (J := J) h1 h2
  unfold mRcs
  generalize mSpr J = S at e ⊢
  split
  · rfl
  · exact e
theorem p_reaches (v : Inv L I r d) (a : Int32) : ∃ (x : Int32) (I' J' : IT), mt G M_Um_reaches 6 0 0 [.ref 0, .int a] (hp L I r) (dt (some (.int x)) (hp L I' r)) ∧ mt G M_Mo_reaches 3 0 0 [.ref 1000, .int a] (hp L I' r) (dt (some (.int x)) (hp L J' r)) ∧ Inv L J' r d := by
  have k := KK_hi (I' := (uRcs L I a).2) (fun x h1 h2 => uRcs_o (by omega)) v.2.1.1
  refine ⟨_, (uRcs L I a).2, (mRcs (uRcs L I a).2 a).2, t_Um_reaches (fun p hp => (K_rok v.2.1.1.1 (by omega)).1), ?_, Inv_I (fun x hx => ?_) v⟩
  · rw [rcs_eq k.1]; exact t_Mo_reaches (K_okP k.1)
  · rw [mRcs_o (by omega) (by omega), uRcs_o (by omega)]
theorem p_cons (v : Inv L I r d) : ∃ (x : Int32) (I' : IT), mt G M_Um_conserve 4 0 0 [.ref 0] (hp L I r) (dt (some (.int x)) (hp L I' r)) ∧ mt G M_Mo_conserve 3 0 0 [.ref 1000] (hp L I' r) (dt (some (.int x)) (hp L I' r)) ∧ Inv L I' r d := by
  by_cases c : I 0 6 = 0
  · have e : cv2 I 0 6 = 0 := cv2_z v.2.1.1.2.1 6 0 (by decide)
    refine ⟨0, I, t_conserve_0 c, ?_, v⟩
    have := t_Mo_conserve0 (G := G) (L := L) (I := I) (r := r) (by rw [← v.1.1]; exact c)
    rw [e] at this
    exact this
  · have lo : ∀ x, (x < 19 ∨ 22 ≤ x) → tlA L I x = I x := fun x hx => tlA_o (by omega) (by omega) (by omega)
    have k := KK_hi (I' := tlA L I) (fun x h1 h2 => lo x (by omega)) v.2.1.1
    refine ⟨_, tlA L I, t_Um_conserve (fun p hp => K_rok v.2.1.1.1 hp) c, ?_, Inv_I (fun x hx => lo x (by omega)) v⟩
    rw [cons_eq k]
    exact t_Mo_conserve (by rw [lo 1000 (by decide), ← v.1.1]; exact c)
theorem p_code (v : Inv L I r d) (p op a b c : Int32) : ∃ (x : Int32) (I' J' : IT), mt G M_Um_code 1 0 0 [.ref 0, .int p, .int op, .int a, .int b, .int c] (hp L I r) (dt (some (.int x)) (hp L I' r)) ∧ mt G M_Mo_code 1 0 0 [.ref 1000, .int p, .int op, .int a, .int b, .int c] (hp L I' r) (dt (some (.int x)) (hp L J' r)) ∧ Inv L J' r d := by
  have v0 := v
  obtain ⟨⟨vb, v01⟩, ⟨vk, vc⟩, ⟨n, s, vh, v17⟩, vn⟩ := v
  by_cases hb : ¬ I 0 6 = 0 ∨ p < 0 ∨ 2 < p
  · refine ⟨-1, I, I, t_Um_code_no ?_, t_Mo_code_no ?_, v0⟩
    · rcases hb with z | z | z
      · exact Or.inl z
      · exact Or.inr (Or.inl z)
      · refine Or.inr (Or.inr (Or.inl ?_))
        rw [Int32.lt_iff_toInt_lt] at z
        rw [Int32.le_iff_toInt_le]
        have e3 : (3 : Int32).toInt = 3 := rfl
        have e2 : (2 : Int32).toInt = 2 := rfl
        omega
    · rcases hb with z | z
      · exact Or.inr (Or.inr (by rw [← vb]; exact z))
      · exact Or.inl (inzF z)
  · have c0 : I 0 6 = 0 := Classical.byContradiction (fun z => hb (Or.inl z))
    have c1 : ¬ p < 0 := fun z => hb (Or.inr (Or.inl z))
    have c2 : ¬ 2 < p := fun z => hb (Or.inr (Or.inr z))
    obtain ⟨m, em, _, m2⟩ := qN (l := 0) (h := 2) rfl rfl c1 c2 (by decide)
    obtain ⟨cm, cs⟩ := vc.1 m (by omega)
    obtain ⟨z, ez⟩ : ∃ z, z = tn (I 1001 m) := ⟨_, rfl⟩
    have e1 : I 1001 m = nI z := by rw [ez]; exact cs.1
    have hz : z < 25 := by rw [ez]; exact cs.2
    have e3 : I 3 m = nI z := cm.trans e1
    by_cases h24 : z < 24
    · have cu := t_Um_code (G := G) (L := L) (I := I) (r := r) (op := op) (a := a) (b := b) (c := c) em (by omega) e3 h24 c0
      obtain ⟨I', eI⟩ : ∃ I', I' = uApp I m z op a b c := ⟨_, rfl⟩
      rw [← eI] at cu
      have io : ∀ x, x ≠ 2 → x ≠ 3 → I' x = I x := fun x h2 h3 => by rw [eI]; unfold uApp; rw [upI_b h3, upI_b h2, upI_b h2, upI_b h2, upI_b h2]
      have i3 : ∀ i, I' 3 i = if i = m then nI z + 1 else I 3 i := fun i => by rw [eI]; unfold uApp; rw [upI_at, upI_b (by decide), upI_b (by decide), upI_b (by decide), upI_b (by decide)]
      have i2 : ∀ i, I' 2 i = if i = 96 * m + 4 * z + 3 then c else if i = 96 * m + 4 * z + 2 then b else if i = 96 * m + 4 * z + 1 then a else if i = 96 * m + 4 * z then op else I 2 i := fun i => by
        rw [eI]; unfold uApp
        rw [upI_b (by decide), upI_at, upI_at, upI_at, upI_at, show (m * 24 + z) * 4 = 96 * m + 4 * z by omega]
      clear eI
      have mo := t_Mo_code (G := G) (L := L) (I := I') (r := r) (op := op) (a := a) (b := b) (c := c) em (by omega) (by rw [io 1001 (by decide) (by decide)]; exact e1) h24 (by rw [io 1000 (by decide) (by decide), ← vb]; exact c0)
      obtain ⟨J', eJ⟩ : ∃ J', J' = mApp I' m z op a b c := ⟨_, rfl⟩
      rw [← eJ] at mo
      have jo : ∀ x, x ≠ 1001 → x ≠ 1002 → J' x = I' x := fun x h2 h3 => by rw [eJ]; unfold mApp; rw [upI_b h2, upI_b h3, upI_b h3, upI_b h3, upI_b h3]
      have j1 : ∀ i, J' 1001 i = if i = m then nI z + 1 else I' 1001 i := fun i => by rw [eJ]; unfold mApp; rw [upI_at, upI_b (by decide), upI_b (by decide), upI_b (by decide), upI_b (by decide)]
      have j2 : ∀ i, J' 1002 i = if i = 96 * m + 4 * z + 3 then c else if i = 96 * m + 4 * z + 2 then b else if i = 96 * m + 4 * z + 1 then a else if i = 96 * m + 4 * z then op else I' 1002 i := fun i => by
        rw [eJ]; unfold mApp
        rw [upI_b (by decide), upI_at, upI_at, upI_at, upI_at]
      clear eJ
      refine ⟨nI z, I', J', cu, mo, ?_⟩
      have jI : ∀ x, x ≠ 2 → x ≠ 3 → x ≠ 1001 → x ≠ 1002 → J' x = I x := fun x h1 h2 h3 h4 => (jo x h3 h4).trans (io x h1 h2)
      have hd := (vn c0).1
      subst hd
      have hs0 : s = 0 := by have := vh.1.2.2.2.2; omega
      subst hs0
      have kI : ∀ {J : IT}, KK L I J → KK L J' J := fun k => KK_I (fun x h1 h2 => jI x (by omega) (by omega) (by omega) (by omega)) k
      have kb : ∀ J0 : IT, J0 1000 0 = 0 → KK L J' (mBeg J0) := fun J0 e => kI ((vn c0).2 J0 e)
      have j0 : J' 0 6 = 0 := by rw [jI 0 (by decide) (by decide) (by decide) (by decide)]; exact c0
      refine ⟨?_, ⟨kI (KK_J (fun x h1 _ => jI x (by omega) (by omega) (by omega) (by omega)) (fun i _ => by rw [jI 1000 (by decide) (by decide) (by decide) (by decide)]) vk), ⟨fun i hi => ?_, fun i hi => ?_⟩⟩, ⟨n, 0, ⟨?_, vh.2.1, fun i hi => absurd hi (Nat.not_lt_zero i), fun J0 _ e => kb J0 (e.trans j0), fun i hi => absurd hi (Nat.not_lt_zero i)⟩, ?_⟩, fun _ => ⟨rfl, kb⟩⟩
      · rw [j0, jI 1000 (by decide) (by decide) (by decide) (by decide), ← vb]; exact ⟨c0.symm, Or.inl rfl⟩
      · rw [jo 3 (by decide) (by decide), i3, j1, io 1001 (by decide) (by decide)]
        by_cases y : i = m
        · rw [if_pos y, if_pos y, nI_1]; exact ⟨rfl, sm_nI (by omega) (by decide)⟩
        · rw [if_neg y, if_neg y]; exact vc.1 i hi
      · rw [jo 2 (by decide) (by decide), i2, j2, io 1002 (by decide) (by decide), vc.2 i hi]
      · rw [jI 15 (by decide) (by decide) (by decide) (by decide)]; exact vh.1
      · rw [jI 1000 (by decide) (by decide) (by decide) (by decide)]; exact v17
    · have hl : ¬ nI z < 24 := fun y => h24 ((nI_ltI (b := 24) (by omega) (by decide)).mp y)
      refine ⟨-1, I, I, t_Um_code_no (Or.inr (Or.inr (Or.inr ⟨m, by omega, em, by rw [e3]; exact hl⟩))), t_Mo_code_no (Or.inr (Or.inl ?_)), v0⟩
      rw [em, nI_clamp (by omega), e1]; exact hl
theorem p_own (v : Inv L I r d) (a q : Int32) : ∃ x : Int32, mt G M_Um_owner 4 0 0 [.ref 0, .int a, .int q] (hp L I r) (dt (some (.int x)) (hp L I r)) ∧ mt G M_Mo_owner 3 0 0 [.ref 1000, .int a, .int q] (hp L I r) (dt (some (.int x)) (hp L I r)) := ⟨_, t_Um_owner, by rw [own_eq v.2.1.1]; exact t_Mo_owner⟩
end KP2
section RD3
variable {G : GW} {L : LT} {I : IT} {r d : Nat}
theorem p_reg (v : Inv L I r d) (a q : Int32) : ∃ x : Int32, mt G M_Um_register 3 0 0 [.ref 0, .int a, .int q] (hp L I r) (dt (some (.int x)) (hp L I r)) ∧ mt G M_Mo_register 2 0 0 [.ref 1000, .int a, .int q] (hp L I r) (dt (some (.int x)) (hp L I r)) := ⟨_, t_Um_register, by rw [reg_eq v.2.1.1.1]; exact t_Mo_register⟩
theorem p_wrd (v : Inv L I r d) (a q : Int32) : ∃ x : Int32, mt G M_Um_word 3 0 0 [.ref 0, .int a, .int q] (hp L I r) (dt (some (.int x)) (hp L I r)) ∧ mt G M_Mo_word 2 0 0 [.ref 1000, .int a, .int q] (hp L I r) (dt (some (.int x)) (hp L I r)) := ⟨_, t_Um_word, by rw [wrd_eq v.2.1.1.1]; exact t_Mo_word⟩
theorem p_lok (v : Inv L I r d) (a : Int32) : ∃ x : Int32, mt G M_Um_look 1 0 0 [.ref 0, .int a] (hp L I r) (dt (some (.int x)) (hp L I r)) ∧ mt G M_Mo_look 1 0 0 [.ref 1000, .int a] (hp L I r) (dt (some (.int x)) (hp L I r)) := ⟨_, t_Um_look, by rw [lok_eq v.2.1.1 v.2.1.2]; exact t_Mo_look⟩
theorem p_cnt (v : Inv L I r d) (a : Int32) : ∃ x : Int32, mt G M_Um_count 0 0 0 [.ref 0, .int a] (hp L I r) (dt (some (.int x)) (hp L I r)) ∧ mt G M_Mo_count 1 0 0 [.ref 1000, .int a] (hp L I r) (dt (some (.int x)) (hp L I r)) := ⟨_, t_Um_count, by rw [cnt_eq v.2.1.1.1]; exact t_Mo_count⟩
theorem p_gat (v : Inv L I r d) (a q : Int32) : ∃ x : Int32, mt G M_Um_gate 0 0 0 [.ref 0, .int a, .int q] (hp L I r) (dt (some (.int x)) (hp L I r)) ∧ mt G M_Mo_gate 1 0 0 [.ref 1000, .int a, .int q] (hp L I r) (dt (some (.int x)) (hp L I r)) := ⟨_, t_Um_gate, by rw [gat_eq v.2.1.1.1]; exact t_Mo_gate⟩
end RD3

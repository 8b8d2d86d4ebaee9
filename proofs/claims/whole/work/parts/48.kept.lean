/-! the invariant is kept -/
section KPT
variable {G : GW} {L : LT} {I J : IT} {r d n s : Nat}
theorem qN {q lo hi : Int32} {l h : Nat} (hl : lo.toInt = l) (hh : hi.toInt = h) (h1 : ¬ q < lo) (h2 : ¬ hi < q) (hb : h < 2 ^ 31) : ∃ k, q = nI k ∧ l ≤ k ∧ k ≤ h := by
  rw [Int32.lt_iff_toInt_lt] at h1 h2
  refine ⟨q.toInt.toNat, Int32.toInt_inj.mp ?_, by omega, by omega⟩
  rw [nI_toInt (by omega)]; omega
theorem inzT {q lo hi : Int32} (h1 : ¬ q < lo) (h2 : ¬ hi < q) : inz q lo hi = true := by simp [inz, h1, h2]
theorem inzF {q lo hi : Int32} (h : q < lo ∨ hi < q) : inz q lo hi = false := by rcases h with h | h <;> simp [inz, h]
theorem p_step (hG : G.2.2.2.2[0]? = some (.int, 19, nmd)) (v : Inv L I r d) (q : Int32) : ∃ (rf d' : Nat) (x : Int32) (L' : LT) (I' J' : IT), r ≤ rf ∧ rf ≤ 40 ∧ d' ≤ d + 30 ∧ mt G M_Um_step 6 (11 * (rf - r)) (196 * (rf - r)) [.ref 0, .int q] (hp L I r) (dt (some (.int x)) (hp L' I' rf)) ∧ mt G M_Mo_step 6 0 0 [.ref 1000, .int q] (hp L' I' rf) (dt (some (.int x)) (hp L' J' rf)) ∧ Inv L' J' rf d' := by
  have v0 := v
  obtain ⟨⟨vb, v01⟩, ⟨vk, vc⟩, ⟨n, s, vh, v17⟩, vn⟩ := v
  by_cases c : I 0 6 = 0 ∨ q < 1 ∨ 30 < q
  · refine ⟨r, d, -2, L, I, I, Nat.le_refl r, vh.2.1.2.1, by omega, by rw [Nat.sub_self]; exact t_step_no c, t_Mo_step_no ?_, v0⟩
    rcases c with z | z
    · exact Or.inr (by rw [← vb]; exact z)
    · exact Or.inl (inzF z)
  · have c0 : ¬ I 0 6 = 0 := fun z => c (Or.inl z)
    have c1 : ¬ q < 1 := fun z => c (Or.inr (Or.inl z))
    have c2 : ¬ 30 < q := fun z => c (Or.inr (Or.inr z))
    obtain ⟨k, ek, k1, k2⟩ := qN (l := 1) (h := 30) rfl rfl c1 c2 (by decide)
    obtain ⟨rf, L', I', m, n', b1, b2, b3, b4, b5, b6, b7⟩ := run_ex hG k L I I r d n s vh vk vc
    obtain ⟨c3, c4, c5⟩ := b7 I' (KK_J (fun x h1 h2 => b6.1 x (by omega)) (fun i _ => by rw [b6.1 1000 (by decide)]) vk) (Cd_J (b6.1 1001 (by decide)) (b6.1 1002 (by decide)) vc)
    have e14 : I' 4 14 = itJ I' m 1000 15 := c3.2.2.2.2.2
    have h0 : ¬ I' 1000 0 = 0 := by rw [b6.1 1000 (by decide), ← vb]; exact c0
    have lo : ∀ x, x < 1000 → itJ I' m x = I' x := fun x hx => itJ_o (nmI (Or.inl hx)) m I'
    have j0 : itJ I' m 0 6 = I 0 6 := by rw [lo 0 (by decide), b6.2.1]
    have j1 : itJ I' m 1000 0 = I 1000 0 := by rw [itJ_0, b6.1 1000 (by decide)]
    refine ⟨rf, d + m, I' 4 14, L', I', itJ I' m, b1, b2, by omega, t_step ek k1 k2 c0 b1 b4 (fun A B hab => ?_), ?_, ⟨?_, ⟨?_, ?_⟩, ⟨n', _, His_I lo b5, ?_⟩, ?_⟩⟩
    · rw [hab.1, hab.2]; exact dt_i
    · rw [e14]
      exact t_Mo_step (it := itJ I') (jt := fun k => mord (itJ I' k)) ek (inzT c1 c2) h0 rfl k2 b3 (fun j hj => (c4 j hj).1) (fun j hj => by
        obtain ⟨_, A, B, a1, a2⟩ := c4 j hj
        exact t_mord a1 a2) (fun j hj => itJ_s j I') c5
    · rw [j0, j1]; exact ⟨vb, v01⟩
    · exact KK_I (fun x _ h2 => lo x (by omega)) c3
    · exact Cd_I (lo 2 (by decide)) (lo 3 (by decide)) (Cd_J ((itJ_o (nmI (by decide)) m I').trans (b6.1 1001 (by decide))) ((itJ_o (nmI (by decide)) m I').trans (b6.1 1002 (by decide))) (Cd_I b6.2.2.1 b6.2.2.2 vc))
    · exact itJ_17 m s I' vh.1.2.2.2.1 (by rw [b6.1 1000 (by decide)]; exact v17)
    · rw [j0]; exact fun z => absurd z c0
theorem back_inv (hb : I 0 6 = I 1000 0 ∧ (I 0 6 = 0 ∨ I 0 6 = 1)) (cd : Cd I I) (hs : His L I r d n s) (nb : I 0 6 = 0 → d = 0 ∧ ∀ J0, J0 1000 0 = 0 → KK L I (mBeg J0)) : Inv L (upI (itm I d) 1000 17 (nI s)) r d := by
  have lo : ∀ x, x < 1000 → upI (itm I d) 1000 17 (nI s) x = I x := fun x hx => by rw [upI_b (by omega), itm_o (nmI (Or.inl hx)) d]
  have cur := hs.2.2.2.1 I cd hb.1.symm
  have j1 : upI (itm I d) 1000 17 (nI s) 1000 0 = I 1000 0 := by rw [upI_j (by decide), itm_f (Or.inl rfl)]
  refine ⟨?_, ⟨?_, ?_⟩, ⟨n, s, His_I lo hs, upI_s⟩, ?_⟩
  · rw [j1, lo 0 (by decide)]; exact hb
  · exact KK_I (fun x _ h2 => lo x (by omega)) (KK_J (fun x h1 _ => upI_b (by omega)) (fun i hi => upI_j (by omega)) cur)
  · exact Cd_I (lo 2 (by decide)) (lo 3 (by decide)) (Cd_J (by rw [upI_b (by decide), itm_o (nmI (by decide)) d]) (by rw [upI_b (by decide), itm_o (nmI (by decide)) d]) cd)
  · rw [lo 0 (by decide)]
    exact fun z => ⟨(nb z).1, fun J0 h => KK_I (fun x _ h2 => lo x (by omega)) ((nb z).2 J0 h)⟩
theorem his_16 (hb : I 0 6 = I 1000 0) (cd : Cd I I) (hs : His L I r d n s) : I 4 13 = nI d := by
  have cur := hs.2.2.2.1 I cd hb.symm
  rw [cur.2.2.2.2.1, itm_16]
theorem his_run (hb : I 0 6 = I 1000 0) (cd : Cd I I) (hs : Hs I (I 0 6) d) {A : LT} : ∀ k, k < d → mt G M_Mo_order 5 0 0 [.ref 1000] (hp A (itm I k) r) (dt none (hp A (itm I (k + 1)) r)) := fun k hk => by
  obtain ⟨A', B, a, b2, b3⟩ := hs k hk
  exact t_mord (a I cd hb.symm) (Cd_I b2 b3 (Cd_J (itm_o (nmI (by decide)) k) (itm_o (nmI (by decide)) k) cd))
theorem Hs_le {C : IT} {b : Int32} {d' : Nat} (h : Hs C b d) (hd : d' ≤ d) : Hs C b d' := fun i hi => h i (by omega)
theorem p_undo (v : Inv L I r d) (hd31 : d < 2 ^ 31) (q : Int32) : ∃ (d' : Nat) (x : Int32) (L' : LT) (I' J' : IT), d' ≤ d ∧ mt G M_Um_undo 3 0 0 [.ref 0, .int q] (hp L I r) (dt (some (.int x)) (hp L' I' r)) ∧ mt G M_Mo_undo 6 0 0 [.ref 1000, .int q] (hp L' I' r) (dt (some (.int x)) (hp L' J' r)) ∧ Inv L' J' r d' := by
  have v0 := v
  obtain ⟨⟨vb, v01⟩, ⟨vk, vc⟩, ⟨n, s, vh, v17⟩, vn⟩ := v
  by_cases c : q < 1 ∨ 40 < q
  · exact ⟨d, -1, L, I, I, Nat.le_refl d, t_undo_no c, t_Mo_undo_no (inzF c), v0⟩
  · have c1 : ¬ q < 1 := fun z => c (Or.inl z)
    have c2 : ¬ 40 < q := fun z => c (Or.inr z)
    have c3 : q ≤ 40 := Int32.not_lt.mp c2
    obtain ⟨k, ek, k1, k2⟩ := qN (l := 1) (h := 40) rfl rfl c1 c2 (by decide)
    have vh0 := vh
    obtain ⟨⟨e1, hn, e2, hs4, hsd⟩, ⟨hnr, hr, hw⟩, rows, cur, hist⟩ := vh
    have d16 : I 1000 16 = nI d := by rw [← vk.2.2.2.2.1]; exact his_16 vb vc vh0
    by_cases hz : s = 0
    · subst hz
      have hu := t_Mo_undo (G := G) (L := L) (I := I) (r := r) (u := d) (k := k) (s := 0) (t := 0) (it := itm I) (q := q) (inzT c1 c2) ek k2 v17 (by decide) (by omega) (by rw [d16]; exact Int32.sub_zero _) hd31 rfl (his_run vb vc hist)
      refine ⟨d, 0, L, I, _, Nat.le_refl d, t_undo_0 e1 hn e2 c1 c3, hu, ?_⟩
      rw [itm_f (Or.inr rfl), v17, show nI 0 - nI 0 = nI 0 by decide]
      exact back_inv ⟨vb, v01⟩ vc vh0 vn
    · obtain ⟨t, et⟩ : ∃ t, t = min k s := ⟨_, rfl⟩
      have t1 : 1 ≤ t := by omega
      have ts : t ≤ s := by omega
      obtain ⟨a, ea⟩ : ∃ a, a = (n + 40 - t) % 40 := ⟨_, rfl⟩
      have har : a < r := by omega
      have cu := t_undo (G := G) (L := L) (I := I) (r := r) e1 hn e2 hs4 ek k2 et t1 ea har hr c1 c3
      have lo : ∀ x, (x < 4 ∨ 16 ≤ x) → tbE (cpI I 4 (26 + 11 * a)) a (nI (s - t)) x = I x := fun x hx => by unfold tbE; rw [upI_b (by omega), upI_b (by omega), cpI_o (by omega)]
      have l1 : tbE (cpI I 4 (26 + 11 * a)) a (nI (s - t)) 15 1 = nI a := by unfold tbE; rw [upI_j (by decide), upI_s]
      have l2 : tbE (cpI I 4 (26 + 11 * a)) a (nI (s - t)) 15 2 = nI (s - t) := by unfold tbE; rw [upI_s]
      have lL : ∀ x, (x < 4 ∨ 16 ≤ x) → cpL L 4 (26 + 11 * a) x = L x := fun x hx => cpL_o (by omega)
      have sb : same (rwL L a) (rwI I a) (cpL L 4 (26 + 11 * a)) (tbE (cpI I 4 (26 + 11 * a)) a (nI (s - t))) := same_tr same_back (same_of (fun _ _ _ => rfl) (fun x h1 h2 => by unfold tbE; rw [upI_b (by omega), upI_b (by omega)]))
      generalize tbE (cpI I 4 (26 + 11 * a)) a (nI (s - t)) = I' at *
      generalize cpL L 4 (26 + 11 * a) = L' at *
      have i2 := lo 2 (by decide)
      have i3 := lo 3 (by decide)
      have i0 := lo 0 (by decide)
      have i1000 := lo 1000 (by decide)
      have vb' : I' 0 6 = I' 1000 0 := by rw [i0, i1000]; exact vb
      have vc' : Cd I' I' := Cd_I i2 i3 (Cd_J (lo 1001 (by decide)) (lo 1002 (by decide)) vc)
      have hs' : His L' I' r (d - t) a (s - t) := by
        unfold His
        rw [i0]
        refine ⟨⟨l1, by omega, l2, by omega, by omega⟩, ⟨by omega, hr, by omega⟩, fun i hi => ?_, ?_, Hs_C i2 i3 (Hs_le hist (by omega))⟩
        · have ez : (a + 39 - i) % 40 = (n + 39 - (i + t)) % 40 := by omega
          have ed : d - t - 1 - i = d - 1 - (i + t) := by omega
          rw [ez, ed]
          refine Rk_C i2 i3 (Rk_s (same_of (fun x h1 h2 => lL _ (by omega)) (fun x h1 h2 => lo _ (by omega))) (rows (i + t) (by omega)))
        · have rw1 := rows (t - 1) (by omega)
          rw [show (n + 39 - (t - 1)) % 40 = a by omega, show d - 1 - (t - 1) = d - t by omega] at rw1
          exact Rk_C i2 i3 (Rk_s sb rw1)
      have hu := t_Mo_undo (G := G) (L := L') (I := I') (r := r) (u := d - t) (k := k) (s := s) (t := t) (it := itm I') (q := q) (inzT c1 c2) ek k2 (by rw [i1000]; exact v17) hs4 et (by rw [i1000, d16]; exact pk_sub (by omega)) (by omega) rfl (his_run vb' vc' hs'.2.2.2.2)
      refine ⟨d - t, nI t, L', I', _, by omega, cu, hu, ?_⟩
      rw [itm_f (Or.inr rfl), i1000, v17, pk_sub ts]
      refine back_inv ⟨vb', by rw [i0]; exact v01⟩ vc' hs' (fun z => ?_)
      rw [i0] at z
      exact absurd (vn z).1 (by omega)
theorem upI_idN {a j : Nat} : upI I a j (I a j) = I := by
  funext x
  by_cases h : x = a
  · subst h; funext i; rw [upI_at]; split
    · rename_i e; rw [e]
    · rfl
  · rw [upI_b h]
theorem mSz_t : ∀ (n j : Nat) (J : IT), mSz true J j n = J
  | 0, _, _ => rfl
  | n + 1, j, J => by
    rw [mSz, if_pos rfl, upI_idN, mSz_t n (j + 1)]
theorem mSz_z : ∀ (n j : Nat) (J : IT) (m : Nat), m < j + n → (m < j → J 1001 m = 0) → mSz false J j n 1001 m = 0
  | 0, j, J, m, hm, h => h (by omega)
  | n + 1, j, J, m, hm, h => by
    rw [mSz]
    refine mSz_z n (j + 1) _ m (by omega) (fun hj => ?_)
    rw [upI_at]
    by_cases e : m = j
    · rw [if_pos e, if_neg (by decide)]
    · rw [if_neg e]; exact h (by omega)
theorem clI_o {x : Nat} (h4 : x ≠ 4) (h7 : x ≠ 7) (h8 : x ≠ 8) (h9 : x ≠ 9) (h10 : x ≠ 10) : clI I x = I x := by
  unfold clI
  rw [upI_b h4, upI_b h4, upI_b h4, upI_b h4, upI_b h4, va_up_ne _ _ h10, va_up_ne _ _ h9, va_up_ne _ _ h8, va_up_ne _ _ h7]
theorem clI_4 : clI I 4 10 = 0 ∧ clI I 4 11 = 0 ∧ clI I 4 12 = 0 ∧ clI I 4 13 = 0 ∧ clI I 4 14 = 0 := ⟨rfl, rfl, rfl, rfl, rfl⟩
theorem clI_7 {c : Nat} (hc : c < 6) : clI I 7 c = 0 ∧ clI I 8 c = 0 ∧ clI I 9 c = 0 ∧ clI I 10 c = 0 := ⟨if_pos hc, if_pos hc, if_pos hc, if_pos hc⟩
theorem clL_5 {p : Nat} (hp : p < 102) : clL L 5 p = 0 := if_pos hp
/-- a fresh start: nothing done, nothing kept -/
theorem fresh {b : Int32} (h0 : I 0 6 = b) (h1 : I 1000 0 = b) (hb : b = 0 ∨ b = 1) (h15 : I 15 1 = 0 ∧ I 15 2 = 0) (h17 : I 1000 17 = 0) (cd : Cd I I) (hr : r ≤ 40) (hk : ∀ J0, J0 1000 0 = b → KK L I (mBeg J0)) (kk : KK L I I) : Inv L I r 0 := by
  refine ⟨⟨by rw [h0, h1], by rw [h0]; exact hb⟩, ⟨kk, cd⟩, ⟨0, 0, ⟨⟨h15.1, by decide, h15.2, by decide, by decide⟩, ⟨by omega, hr, fun _ => by omega⟩, fun i hi => absurd hi (Nat.not_lt_zero i), fun J0 _ e => hk J0 (e.trans h0), fun i hi => absurd hi (Nat.not_lt_zero i)⟩, h17⟩, fun z => ⟨rfl, fun J0 e => hk J0 (by rw [e, ← h0, z])⟩⟩
theorem p_boot (v : Inv L I r d) : ∃ (x : Int32) (L' : LT) (I' J' : IT), mt G M_Um_boot 2 0 0 [.ref 0] (hp L I r) (dt (some (.int x)) (hp L' I' r)) ∧ mt G M_Mo_boot 3 0 0 [.ref 1000] (hp L' I' r) (dt (some (.int x)) (hp L' J' r)) ∧ Inv L' J' r 0 := by
  obtain ⟨⟨vb, v01⟩, ⟨vk, vc⟩, ⟨n, s, vh, v17⟩, vn⟩ := v
  have hr := vh.2.1.2.1
  by_cases c : I 0 6 = 0
  · have cu := t_boot_on (G := G) (L := L) (r := r) c
    obtain ⟨I', eI⟩ : ∃ I', I' = clI (upI (upI (upI I 0 6 1) 15 1 0) 15 2 0) := ⟨_, rfl⟩
    rw [← eI] at cu
    have lo : ∀ x, 16 ≤ x ∨ x = 2 ∨ x = 3 → I' x = I x := fun x hx => by rw [eI, clI_o (by omega) (by omega) (by omega) (by omega) (by omega), upI_b (by omega), upI_b (by omega), upI_b (by omega)]
    have i0 : I' 0 6 = 1 := by rw [eI]; rfl
    have i15 : I' 15 1 = 0 ∧ I' 15 2 = 0 := by rw [eI]; exact ⟨rfl, rfl⟩
    have i4 : I' 4 10 = 0 ∧ I' 4 11 = 0 ∧ I' 4 12 = 0 ∧ I' 4 13 = 0 ∧ I' 4 14 = 0 := by rw [eI]; exact clI_4
    have i7 : ∀ x, x < 6 → I' 7 x = 0 ∧ I' 8 x = 0 ∧ I' 9 x = 0 ∧ I' 10 x = 0 := fun x hx => by rw [eI]; exact clI_7 hx
    have l5 : ∀ p, p < 102 → upL (clL L) 5 1 (vPk 1 0 48 15 0) 5 p = if ¬ (1 : Int32) = 0 ∧ p = 1 then vPk 1 0 48 15 0 else 0 := fun p hp => by
      rw [upL_at, clL_5 hp]
      by_cases z : p = 1
      · rw [if_pos z, if_pos ⟨by decide, z⟩]
      · rw [if_neg z, if_neg (fun y => z y.2)]
    clear eI
    have mo := t_Mo_boot_true (G := G) (L := upL (clL L) 5 1 (vPk 1 0 48 15 0)) (I := I') (r := r) (by rw [lo 1000 (by decide), ← vb]; exact c)
    generalize upL (clL L) 5 1 (vPk 1 0 48 15 0) = L' at *
    refine ⟨1, L', I', _, cu, mo, ?_⟩
    unfold mBt
    rw [mSz_t]
    obtain ⟨X, eX⟩ : ∃ X, X = upI (upI I' 1000 0 (bz true)) 1000 17 0 := ⟨_, rfl⟩
    rw [← eX]
    have x0 : X 1000 0 = 1 := by rw [eX]; rfl
    have x17 : X 1000 17 = 0 := by rw [eX]; rfl
    have xo : ∀ x, x ≠ 1000 → X x = I' x := fun x hx => by rw [eX, upI_b hx, upI_b hx]
    clear eX
    have kb : ∀ J0 : IT, J0 1000 0 = 1 → KK L' I' (mBeg J0) := fun J0 e => beg_KK e l5 i7 i4
    have bo : ∀ x, ¬ mI' x → mBeg X x = I' x := fun x hx => (itm_o (J := X) hx 0).trans (xo x (fun e => hx (by simp [mI', e])))
    have lo2 : ∀ x, x < 1000 → mBeg X x = I' x := fun x hx => bo x (nmI (Or.inl hx))
    refine fresh (b := 1) (by rw [lo2 0 (by decide)]; exact i0) (by rw [mBeg_0]; exact x0) (Or.inr rfl) (by rw [lo2 15 (by decide)]; exact i15) ((itm_f (J := X) (Or.inr rfl) 0).trans x17) ?_ hr (fun J0 e => KK_I (fun x _ h2 => lo2 x (by omega)) (kb J0 e)) (KK_I (fun x _ h2 => lo2 x (by omega)) (kb X x0))
    refine Cd_I (I := I) (by rw [lo2 2 (by decide)]; exact lo 2 (by decide)) (by rw [lo2 3 (by decide)]; exact lo 3 (by decide)) (Cd_J ?_ ?_ vc)
    · rw [bo 1001 (nmI (by decide)), lo 1001 (by decide)]
    · rw [bo 1002 (nmI (by decide)), lo 1002 (by decide)]
  · have cu := t_boot_off (G := G) (L := L) (r := r) c
    obtain ⟨I', eI⟩ : ∃ I', I' = va_up (clI (upI (upI (upI I 0 6 0) 15 1 0) 15 2 0)) 3 (fil (I 3) 3 0) := ⟨_, rfl⟩
    rw [← eI] at cu
    have lo : ∀ x, 16 ≤ x ∨ x = 2 → I' x = I x := fun x hx => by rw [eI, va_up_ne _ _ (by omega), clI_o (by omega) (by omega) (by omega) (by omega) (by omega), upI_b (by omega), upI_b (by omega), upI_b (by omega)]
    have i0 : I' 0 6 = 0 := by rw [eI]; rfl
    have i3 : ∀ m, m < 3 → I' 3 m = 0 := fun m hm => by rw [eI, va_up_self]; exact if_pos hm
    have i15 : I' 15 1 = 0 ∧ I' 15 2 = 0 := by rw [eI]; exact ⟨rfl, rfl⟩
    have i4 : I' 4 10 = 0 ∧ I' 4 11 = 0 ∧ I' 4 12 = 0 ∧ I' 4 13 = 0 ∧ I' 4 14 = 0 := by rw [eI, va_up_ne _ _ (by decide)]; exact clI_4
    have i7 : ∀ x, x < 6 → I' 7 x = 0 ∧ I' 8 x = 0 ∧ I' 9 x = 0 ∧ I' 10 x = 0 := fun x hx => by rw [eI, va_up_ne _ _ (by decide), va_up_ne _ _ (by decide), va_up_ne _ _ (by decide), va_up_ne _ _ (by decide)]; exact clI_7 hx
    have l5 : ∀ p, p < 102 → clL L 5 p = if ¬ (0 : Int32) = 0 ∧ p = 1 then vPk 1 0 48 15 0 else 0 := fun p hp => by
      rw [clL_5 hp, if_neg (fun y => y.1 rfl)]
    clear eI
    have mo := t_Mo_boot_false (G := G) (L := clL L) (I := I') (r := r) (by rw [lo 1000 (by decide), ← vb]; exact c)
    generalize clL L = L' at *
    refine ⟨0, L', I', _, cu, mo, ?_⟩
    unfold mBt
    obtain ⟨X, eX⟩ : ∃ X, X = upI (upI I' 1000 0 (bz false)) 1000 17 0 := ⟨_, rfl⟩
    rw [← eX]
    have x0 : X 1000 0 = 0 := by rw [eX]; rfl
    have x17 : X 1000 17 = 0 := by rw [eX]; rfl
    have xo : ∀ x, x ≠ 1000 → X x = I' x := fun x hx => by rw [eX, upI_b hx, upI_b hx]
    clear eX
    have kb : ∀ J0 : IT, J0 1000 0 = 0 → KK L' I' (mBeg J0) := fun J0 e => beg_KK e l5 i7 i4
    have so : ∀ x, x ≠ 1001 → mSz false (mBeg X) 0 3 x = mBeg X x := fun x hx => mSz_o hx 3 0 _
    have sz : ∀ m, m < 3 → mSz false (mBeg X) 0 3 1001 m = 0 := fun m hm => mSz_z 3 0 _ m (by omega) (fun z => absurd z (Nat.not_lt_zero m))
    generalize mSz false (mBeg X) 0 3 = Y at *
    have bo : ∀ x, ¬ mI' x → x ≠ 1001 → Y x = I' x := fun x hx h1 => (so x h1).trans ((itm_o (J := X) hx 0).trans (xo x (fun e => hx (by simp [mI', e]))))
    have lo2 : ∀ x, x < 1000 → Y x = I' x := fun x hx => bo x (nmI (Or.inl hx)) (by omega)
    refine fresh (b := 0) (by rw [lo2 0 (by decide)]; exact i0) (by rw [so 1000 (by decide), mBeg_0]; exact x0) (Or.inl rfl) (by rw [lo2 15 (by decide)]; exact i15) (by rw [so 1000 (by decide)]; exact (itm_f (J := X) (Or.inr rfl) 0).trans x17) ?_ hr (fun J0 e => KK_I (fun x _ h2 => lo2 x (by omega)) (kb J0 e)) (KK_I (fun x _ h2 => lo2 x (by omega)) (KK_J (fun x h1 _ => so x (by omega)) (fun i _ => by rw [so 1000 (by decide)]) (kb X x0)))
    refine ⟨fun m hm => ?_, fun i hi => ?_⟩
    · rw [lo2 3 (by decide), i3 m hm, sz m hm]; exact ⟨rfl, by decide, by decide⟩
    · rw [lo2 2 (by decide), lo 2 (by decide), bo 1002 (nmI (by decide)) (by decide), lo 1002 (by decide)]; exact vc.2 i hi
end KPT

/-! seal, call, return agree -/
theorem Kg_st {I J : IT} (kg : Kg I J) {g : Nat} (hg : g < 6) : J 1007 g = 0 ∨ J 1007 g = 1 ∨ J 1007 g = 2 := by
  rcases (kg g hg).2 with h | h
  · exact Or.inl h.1
  · exact Or.inr h.1
section SIMU
variable {L : LT} {I J : IT} {a : Nat}
theorem seal_K {g : Nat} {m p : Int32} (h : K1 L I J) (ha : a < 8) (h1 : gt J a 0 = 1) (hg : g < 6) (hz : J 1007 g = 0) (hm : sm m 3) :
    K1 (upL (upL (upL L 5 (96 + g) (L 5 a)) 5 a 0) 5 a (vPk 3 0 0 0 (nI g))) (upI (upI (upI I 8 g 1) 9 g m) 10 g p) (mPut (upI (upI (upI (mShf J a (96 + g)) 1007 g 1) 1008 g m) 1009 g p) a 3 0 0 0 (nI g)) := by
  obtain ⟨⟨kp, kc, kg, kd, kf, kn⟩, ku, ks, kl, kt, kr⟩ := h
  have hsg : sm (nI g) 6 := sm_nI hg (by decide)
  have gtJ : ∀ x j, j < 5 → x ≠ a → gt (mPut (upI (upI (upI (mShf J a (96 + g)) 1007 g 1) 1008 g m) 1009 g p) a 3 0 0 0 (nI g)) x j = if x = 96 + g then gt J a j else gt J x j := by
    intro x j hj hx
    rw [gt_ne hj hx, gt_up (by decide), gt_up (by decide), gt_up (by decide), gt_shf hj, if_neg hx]
  have ho : ∀ x, x ≠ 1003 → x ≠ 1007 → x ≠ 1008 → x ≠ 1009 → mPut (upI (upI (upI (mShf J a (96 + g)) 1007 g 1) 1008 g m) 1009 g p) a 3 0 0 0 (nI g) x = J x := by
    intro x h3 h7 h8 h9
    rw [mPut_o h3, upI_b h9, upI_b h8, upI_b h7, mShf_o h3]
  have o7 : ∀ x, mPut (upI (upI (upI (mShf J a (96 + g)) 1007 g 1) 1008 g m) 1009 g p) a 3 0 0 0 (nI g) 1007 x = if x = g then 1 else J 1007 x := by
    intro x; rw [mPut_o (by decide), upI_b (by decide), upI_b (by decide), upI_at, mShf_o (by decide)]
  have o8 : ∀ x, mPut (upI (upI (upI (mShf J a (96 + g)) 1007 g 1) 1008 g m) 1009 g p) a 3 0 0 0 (nI g) 1008 x = if x = g then m else J 1008 x := by
    intro x; rw [mPut_o (by decide), upI_b (by decide), upI_at, upI_b (by decide), mShf_o (by decide)]
  have o9 : ∀ x, mPut (upI (upI (upI (mShf J a (96 + g)) 1007 g 1) 1008 g m) 1009 g p) a 3 0 0 0 (nI g) 1009 x = if x = g then p else J 1009 x := by
    intro x; rw [mPut_o (by decide), upI_at, upI_b (by decide), upI_b (by decide), mShf_o (by decide)]
  have hkp : Kp (upL (upL (upL L 5 (96 + g) (L 5 a)) 5 a 0) 5 a (vPk 3 0 0 0 (nI g))) (mPut (upI (upI (upI (mShf J a (96 + g)) 1007 g 1) 1008 g m) 1009 g p) a 3 0 0 0 (nI g)) := by
    have := Kp_put (p := a) (Kp_c (J' := upI (upI (upI (mShf J a (96 + g)) 1007 g 1) 1008 g m) 1009 g p) rfl (by rw [upI_b (by decide), upI_b (by decide), upI_b (by decide)]) (Kp_shf (t := 96 + g) kp (show a < 102 by omega))) (vl_se3 hsg)
    rw [en_3] at this; exact this
  have hfg : ∀ f, f < dpt J → fgt J f ≠ g := by
    intro f hf e
    have := (kf f hf).2.2.2.2
    rw [e, hz] at this; exact absurd this (by decide)
  generalize mPut (upI (upI (upI (mShf J a (96 + g)) 1007 g 1) 1008 g m) 1009 g p) a 3 0 0 0 (nI g) = J' at *
  have o0 := ho 1000 (by decide) (by decide) (by decide) (by decide)
  have o10 := ho 1010 (by decide) (by decide) (by decide) (by decide)
  have o11 := ho 1011 (by decide) (by decide) (by decide) (by decide)
  have ed : dpt J' = dpt J := by unfold dpt; rw [o0]
  have efg : ∀ f, fgt J' f = fgt J f := fun f => by unfold fgt; rw [o10]
  refine ⟨⟨hkp, ?_, fun x hx => ?_, ?_, fun f hf => ?_, fun f hf => ?_⟩, ?_, fun x hx h3 => ?_, fun x hx h2 => ?_, fun x hx => ?_, fun f hf q hq => ?_⟩
  · unfold Kc; rw [ho 1004 (by decide) (by decide) (by decide) (by decide)]; exact kc
  · rw [o7, o8, show upI (upI (upI I 8 g 1) 9 g m) 10 g p 8 x = if x = g then 1 else I 8 x by rw [upI_b (by decide), upI_b (by decide), upI_at], show upI (upI (upI I 8 g 1) 9 g m) 10 g p 9 x = if x = g then m else I 9 x by rw [upI_b (by decide), upI_at, upI_b (by decide)], show upI (upI (upI I 8 g 1) 9 g m) 10 g p 10 x = if x = g then p else I 10 x by rw [upI_at, upI_b (by decide), upI_b (by decide)], o9]
    by_cases e : x = g
    · simp only [if_pos e]
      exact ⟨trivial, Or.inr ⟨Or.inl trivial, trivial, trivial, hm⟩⟩
    · simp only [if_neg e]
      exact kg x hx
  · unfold Kd; rw [o0]; exact kd
  · rw [ed] at hf
    rw [efg, o10, o7, if_neg (hfg f hf)]
    exact kf f hf
  · rw [ed] at hf
    have hn := kn f hf
    have el : ∀ q, lnM J' (fgt J f) (J 1010 (4 * f + 3)) q = lnM J (fgt J f) (J 1010 (4 * f + 3)) q := fun q => by unfold lnM; rw [o9, if_neg (hfg f hf)]
    rw [efg, o10]
    unfold vln enn nt at *
    rw [o11]
    refine ⟨hn.1, fun q q1 q2 => ⟨(hn.2 q q1 q2).1, ?_⟩⟩
    rw [el]; exact (hn.2 q q1 q2).2
  · intro f f' hf hf'
    rw [ed] at hf hf'
    rw [o10]; exact ku f f' hf hf'
  · rw [o7]
    by_cases e : x = a
    · have hv := hkp x hx
      have h4 := (vl_3 hv.1 h3).2.2.2
      by_cases e4 : tn (gt J' x 4) = g
      · rw [if_pos e4]; decide
      · rw [if_neg e4]
        intro hzz
        have e5 : vKd (upL (upL (upL L 5 (96 + g) (L 5 a)) 5 a 0) 5 a (vPk 3 0 0 0 (nI g)) 5 x) = 3 := by rw [hv.2, enp, en_k hv.1]; exact h3
        have e6 : upL (upL (upL L 5 (96 + g) (L 5 a)) 5 a 0) 5 a (vPk 3 0 0 0 (nI g)) 5 x = vPk 3 0 0 0 (nI g) := by rw [upL_at, if_pos e]
        have e7 : vLk (upL (upL (upL L 5 (96 + g) (L 5 a)) 5 a 0) 5 a (vPk 3 0 0 0 (nI g)) 5 x) = gt J' x 4 := by rw [hv.2, enp]; exact en_c hv.1 (by rw [h3]; decide)
        rw [e6, ← en_3, en_c (vl_se3 hsg) ne03] at e7
        exact e4 (by rw [← e7]; exact sm_tn (by omega))
    · rw [gtJ x 0 (by decide) e] at h3
      rw [gtJ x 4 (by decide) e]
      by_cases e2 : x = 96 + g
      · rw [if_pos e2, h1] at h3; exact absurd h3 (by decide)
      · rw [if_neg e2] at h3 ⊢
        split
        · decide
        · exact ks x hx h3
  · by_cases e : x = a
    · have hv := hkp x hx
      have e5 : vKd (upL (upL (upL L 5 (96 + g) (L 5 a)) 5 a 0) 5 a (vPk 3 0 0 0 (nI g)) 5 x) = 2 := by rw [hv.2, enp, en_k hv.1]; exact h2
      rw [upL_at, if_pos e, ← en_3, en_k (vl_se3 hsg)] at e5
      exact absurd e5 (by decide)
    · rw [gtJ x 0 (by decide) e] at h2
      rw [gtJ x 1 (by decide) e, gtJ x 2 (by decide) e, gtJ x 4 (by decide) e, ho 1005 (by decide) (by decide) (by decide) (by decide), ho 1006 (by decide) (by decide) (by decide) (by decide)]
      by_cases e2 : x = 96 + g
      · rw [if_pos e2, h1] at h2; exact absurd h2 (by decide)
      · rw [if_neg e2] at h2
        rw [if_neg e2, if_neg e2, if_neg e2]
        exact kl x hx h2
  · rw [o7, gtJ (96 + x) 0 (by decide) (by omega)]
    by_cases e : x = g
    · rw [if_pos e, if_pos (by omega)]
      exact ⟨fun _ => h1, fun z => absurd rfl z⟩
    · rw [if_neg e, if_neg (by omega)]
      exact kt x hx
  · rw [ed, o10, gtJ _ 0 (by decide) (by omega), if_neg (by omega)]
    exact kr f hf q hq
theorem sim_15 (h : KR L I J) (ha : a < 8) (hm : sm (I 17 4) 3) : KK (oSea L I a).2.1 (rF (oSea L I a)) (mQ 15 (mSea J a (I 17 4) (I 17 5))) := by
  unfold oSea mSea
  rw [K_k h.1 (by omega), fz_congr (f := I 8) (g := J 1007) 6 0 (fun j _ hj => (h.1.1.2.2.1 j (by omega)).1)]
  by_cases h1 : gt J a 0 = 1
  · rw [if_neg (not_not_intro h1), if_neg (not_not_intro h1)]
    by_cases h0 : 0 ≤ fz (J 1007) 0 6
    · rw [if_neg (not_not_intro h0), if_neg (not_not_intro h0)]
      rcases fz_in (J 1007) 6 0 with z | ⟨g, c1, c2, c3, c4⟩
      · rw [z] at h0; exact absurd h0 (by decide)
      · rw [c3, nI_clamp (by omega)]
        refine finG h (seal_K h.1 ha h1 (by omega) c4 hm) ?_ ?_ ?_ (by decide)
        · have hz : gt J (96 + g) 0 = 0 := (h.1.2.2.2.2.1 g (by omega)).2 (by rw [c4]; decide)
          have ct1 : Ct (mShf J a (96 + g)) := fun x hx => by
            rw [mShf_o (by decide), h.2.1 x hx]
            exact congrArg nI (ccn_shf (by omega) (by omega) (by omega) hz).symm
          refine Ct_put (J := upI (upI (upI (mShf J a (96 + g)) 1007 g 1) 1008 g (I 17 4)) 1009 g (I 17 5)) (Ct_J (by rw [upI_b (by decide), upI_b (by decide), upI_b (by decide)]) (by rw [upI_b (by decide), upI_b (by decide), upI_b (by decide)]) ct1) (by omega) ?_ (by decide)
          rw [gt_up (by decide), gt_up (by decide), gt_up (by decide), gt_shf (by decide), if_pos rfl]; decide
        · rw [upI_b (by decide), upI_b (by decide), upI_b (by decide)]
        · rw [mPut_o (by decide), upI_b (by decide), upI_b (by decide), upI_b (by decide), mShf_o (by decide)]
    · rw [if_pos h0, if_pos h0]; exact finF h (by decide)
  · rw [if_pos h1, if_pos h1]; exact finF h (by decide)
end SIMU

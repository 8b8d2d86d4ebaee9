/-! values: what a place of the reference may hold, the long that stands for it -/
abbrev tn (x : Int32) : Nat := x.toNatClampNeg
def sm (x : Int32) (n : Nat) : Prop := x = nI (tn x) ∧ tn x < n
theorem sm_nI {j n : Nat} (h : j < n) (hn : n ≤ 2 ^ 31) : sm (nI j) n := by
  unfold sm tn; rw [nI_clamp (by omega)]; exact ⟨rfl, h⟩
theorem sm_tn {j : Nat} (h : j < 2 ^ 31) : tn (nI j) = j := nI_clamp h
theorem sm_in {x : Int32} {n : Nat} (h : sm x n) (hn : n < 2 ^ 31) : vp_in x n := by rw [h.1]; exact vp_in_nI h.2 hn
theorem sm_mono {x : Int32} {n m : Nat} (h : sm x n) (hm : n ≤ m) : sm x m := ⟨h.1, by have := h.2; omega⟩
theorem sm_inz {x h : Int32} {n : Nat} (hh : h.toInt = n) (hn : n + 1 < 2 ^ 31) (hi : inz x 0 h = true) : sm x (n + 1) := by
  have := inz_nI hh hn hi
  exact ⟨this.1, by have := this.2; unfold tn; omega⟩
def vl (w f e q c : Int32) : Prop :=
  (w = 0 ∧ e = 0 ∧ q = 0 ∧ c = 0) ∨ (w = 1 ∧ sm f 49 ∧ sm e 49 ∧ tn f < tn e ∧ sm q 16 ∧ c = 0) ∨ (w = 2 ∧ sm f 49 ∧ sm e 49 ∧ tn f < tn e ∧ q = 1 ∧ sm c 6) ∨ (w = 3 ∧ f = 0 ∧ e = 0 ∧ q = 0 ∧ sm c 6)
def en (w f e q c : Int32) : Int64 := if w = 0 then vNu f else vPk w f e q c
/-- what a value other than a number is made of -/
theorem vl_ex {w f e q c : Int32} (h : vl w f e q c) (h0 : ¬ w = 0) : ∃ k f' e' q' c' : Nat, k < 4 ∧ f' < 256 ∧ e' < 256 ∧ q' < 256 ∧ c' < 256 ∧ w = nI k ∧ f = nI f' ∧ e = nI e' ∧ q = nI q' ∧ c = nI c' := by
  rcases h with h | h | h | h
  · exact absurd h.1 h0
  · obtain ⟨h1, h2, h3, h4, h5, h6⟩ := h
    exact ⟨1, tn f, tn e, tn q, 0, by decide, by have := h2.2; omega, by have := h3.2; omega, by have := h5.2; omega, by decide, h1, h2.1, h3.1, h5.1, h6⟩
  · obtain ⟨h1, h2, h3, h4, h5, h6⟩ := h
    exact ⟨2, tn f, tn e, 1, tn c, by decide, by have := h2.2; omega, by have := h3.2; omega, by decide, by have := h6.2; omega, h1, h2.1, h3.1, h5, h6.1⟩
  · obtain ⟨h1, h2, h3, h4, h5⟩ := h
    exact ⟨3, 0, 0, 0, tn c, by decide, by decide, by decide, by decide, by have := h5.2; omega, h1, h2, h3, h4, h5.1⟩
theorem vl_k {w f e q c : Int32} (h : vl w f e q c) : w = 0 ∨ w = 1 ∨ w = 2 ∨ w = 3 := by
  rcases h with h | h | h | h
  · exact Or.inl h.1
  · exact Or.inr (Or.inl h.1)
  · exact Or.inr (Or.inr (Or.inl h.1))
  · exact Or.inr (Or.inr (Or.inr h.1))
theorem en_0 {w f e q c : Int32} (h : w = 0) : en w f e q c = vNu f := if_pos h
theorem en_k {w f e q c : Int32} (h : vl w f e q c) : vKd (en w f e q c) = w := by
  by_cases h0 : w = 0
  · rw [en_0 h0, vNu_k, h0]
  · rw [en, if_neg h0]
    obtain ⟨k, f', e', q', c', a1, a2, a3, a4, a5, rfl, rfl, rfl, rfl, rfl⟩ := vl_ex h h0
    exact vPk_k a1 a2 a3 a4 a5
theorem en_v {w f e q c : Int32} (h : w = 0) : (en w f e q c).toInt32 = f := by rw [en_0 h, vNu_v]
section ENS
variable {w f e q c : Int32}
theorem en_f (h : vl w f e q c) (h0 : ¬ w = 0) : vFr (en w f e q c) = f := by
  rw [en, if_neg h0]
  obtain ⟨k, f', e', q', c', a1, a2, a3, a4, a5, rfl, rfl, rfl, rfl, rfl⟩ := vl_ex h h0
  exact vPk_f a1 a2 a3 a4 a5
theorem en_e (h : vl w f e q c) (h0 : ¬ w = 0) : vEn (en w f e q c) = e := by
  rw [en, if_neg h0]
  obtain ⟨k, f', e', q', c', a1, a2, a3, a4, a5, rfl, rfl, rfl, rfl, rfl⟩ := vl_ex h h0
  exact vPk_e a1 a2 a3 a4 a5
theorem en_q (h : vl w f e q c) (h0 : ¬ w = 0) : vRi (en w f e q c) = q := by
  rw [en, if_neg h0]
  obtain ⟨k, f', e', q', c', a1, a2, a3, a4, a5, rfl, rfl, rfl, rfl, rfl⟩ := vl_ex h h0
  exact vPk_q a1 a2 a3 a4 a5
theorem en_c (h : vl w f e q c) (h0 : ¬ w = 0) : vLk (en w f e q c) = c := by
  rw [en, if_neg h0]
  obtain ⟨k, f', e', q', c', a1, a2, a3, a4, a5, rfl, rfl, rfl, rfl, rfl⟩ := vl_ex h h0
  exact vPk_l a1 a2 a3 a4 a5
theorem en_inj {w' f' e' q' c' : Int32} (h : vl w f e q c) (h' : vl w' f' e' q' c') (h0 : ¬ w' = 0) : en w f e q c = en w' f' e' q' c' ↔ (w = w' ∧ f = f' ∧ e = e' ∧ q = q' ∧ c = c') := by
  constructor
  · intro he
    have k1 := en_k h
    rw [he, en_k h'] at k1
    subst k1
    have a := en_f h h0; rw [he, en_f h' h0] at a
    have b := en_e h h0; rw [he, en_e h' h0] at b
    have d := en_q h h0; rw [he, en_q h' h0] at d
    have g := en_c h h0; rw [he, en_c h' h0] at g
    exact ⟨rfl, a.symm, b.symm, d.symm, g.symm⟩
  · rintro ⟨rfl, rfl, rfl, rfl, rfl⟩; rfl
end ENS
theorem vl_num (n : Int32) : vl 0 n 0 0 0 := Or.inl ⟨rfl, rfl, rfl, rfl⟩
theorem vl_ex1 {f e q : Int32} (h1 : sm f 49) (h2 : sm e 49) (h3 : tn f < tn e) (h4 : sm q 16) : vl 1 f e q 0 := Or.inr (Or.inl ⟨rfl, h1, h2, h3, h4, rfl⟩)
theorem vl_sh2 {f e c : Int32} (h1 : sm f 49) (h2 : sm e 49) (h3 : tn f < tn e) (h4 : sm c 6) : vl 2 f e 1 c := Or.inr (Or.inr (Or.inl ⟨rfl, h1, h2, h3, rfl, h4⟩))
theorem vl_se3 {c : Int32} (h4 : sm c 6) : vl 3 0 0 0 c := Or.inr (Or.inr (Or.inr ⟨rfl, rfl, rfl, rfl, h4⟩))
theorem en_zero : en 0 0 0 0 0 = 0 := by decide
theorem ne01 : ¬ (1 : Int32) = 0 := by decide
theorem ne02 : ¬ (2 : Int32) = 0 := by decide
theorem ne03 : ¬ (3 : Int32) = 0 := by decide
theorem vl_1 {w f e q c : Int32} (h : vl w f e q c) (h1 : w = 1) : sm f 49 ∧ sm e 49 ∧ tn f < tn e ∧ sm q 16 ∧ c = 0 := by
  subst h1
  rcases h with h | h | h | h
  · exact absurd h.1 ne01
  · exact h.2
  · exact absurd h.1 (by decide)
  · exact absurd h.1 (by decide)
theorem vl_2 {w f e q c : Int32} (h : vl w f e q c) (h1 : w = 2) : sm f 49 ∧ sm e 49 ∧ tn f < tn e ∧ q = 1 ∧ sm c 6 := by
  subst h1
  rcases h with h | h | h | h
  · exact absurd h.1 ne02
  · exact absurd h.1 (by decide)
  · exact h.2
  · exact absurd h.1 (by decide)
theorem vl_3 {w f e q c : Int32} (h : vl w f e q c) (h1 : w = 3) : f = 0 ∧ e = 0 ∧ q = 0 ∧ sm c 6 := by
  subst h1
  rcases h with h | h | h | h
  · exact absurd h.1 ne03
  · exact absurd h.1 (by decide)
  · exact absurd h.1 (by decide)
  · exact h.2
theorem vl_0 {w f e q c : Int32} (h : vl w f e q c) (h1 : w = 0) : e = 0 ∧ q = 0 ∧ c = 0 := by
  subst h1
  rcases h with h | h | h | h
  · exact h.2
  · exact absurd h.1 (by decide)
  · exact absurd h.1 (by decide)
  · exact absurd h.1 (by decide)

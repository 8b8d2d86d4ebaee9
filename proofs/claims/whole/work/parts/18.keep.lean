/-! a new row; keep, takeBack, step, undo -/
def stN (h : HP) (k : Nat) : HP := fun q => if k ≤ q ∧ q < k + 11 then stc k (fun _ => 0) (fun _ => 0) (q - k) else h q
set_option maxRecDepth 100000 in
set_option maxHeartbeats 4000000 in
theorem t_St_init {G : GW} {h : HP} {k : Nat} (hk : h k = mO 5 [.null, .null, .null, .null, .null, .null, .null, .null, .null, .null, .int 0, .int 0, .int 0, .int 0, .int 0]) (hf : ∀ i, 1 ≤ i → i ≤ 10 → h (k + i) = mF) (hb : k + 11 < tB) : mt G M_St_init 1 10 181 [.ref k] h (dt none (stN h k)) := by
  refine mt_of_ev (by decide) (Nat.le_of_ble_eq_true rfl) ?_
  show ev G M_St_init (rmv 1 10 181) (Er M_St_init _ 10 181) 0 [(0, .ref k)] [] h 0 0
  refine s_St_init_0 rfl ?_
  refine s_St_init_1 (Nat.le_of_ble_eq_true rfl) (Nat.le_of_ble_eq_true rfl) ?_
  refine s_St_init_4 rfl ?_
  refine s_St_init_5 ?_
  refine s_St_init_7 (kn := k + 1) (show 0 + 1 ≤ 10 by decide) (show 0 + 102 ≤ 181 by decide) (by (try simp (disch := omega) only [va_up_ne]); exact hf 1 (by decide) (by decide)) (by omega) ?_
  refine s_St_init_9 (fs := [.null, .null, .null, .null, .null, .null, .null, .null, .null, .null, .int 0, .int 0, .int 0, .int 0, .int 0]) (by simp (disch := omega) only [va_up_ne, va_up_self, hk]) (Nat.le_of_ble_eq_true rfl) ?_
  rw [show List.set _ 0 (Value.ref (k + 1)) = [.ref (k + 1), .null, .null, .null, .null, .null, .null, .null, .null, .null, .int 0, .int 0, .int 0, .int 0, .int 0] from rfl]
  refine s_St_init_12 rfl ?_
  refine s_St_init_13 ?_
  refine s_St_init_15 (kn := k + 2) (show 1 + 1 ≤ 10 by decide) (show 102 + 35 ≤ 181 by decide) (by (try simp (disch := omega) only [va_up_ne]); exact hf 2 (by decide) (by decide)) (by omega) ?_
  refine s_St_init_17 (fs := [.ref (k + 1), .null, .null, .null, .null, .null, .null, .null, .null, .null, .int 0, .int 0, .int 0, .int 0, .int 0]) (by simp (disch := omega) only [va_up_ne, va_up_self]) (Nat.le_of_ble_eq_true rfl) ?_
  rw [show List.set _ 1 (Value.ref (k + 2)) = [.ref (k + 1), .ref (k + 2), .null, .null, .null, .null, .null, .null, .null, .null, .int 0, .int 0, .int 0, .int 0, .int 0] from rfl]
  refine s_St_init_20 rfl ?_
  refine s_St_init_21 ?_
  refine s_St_init_23 (kn := k + 3) (show 2 + 1 ≤ 10 by decide) (show 137 + 6 ≤ 181 by decide) (by (try simp (disch := omega) only [va_up_ne]); exact hf 3 (by decide) (by decide)) (by omega) ?_
  refine s_St_init_25 (fs := [.ref (k + 1), .ref (k + 2), .null, .null, .null, .null, .null, .null, .null, .null, .int 0, .int 0, .int 0, .int 0, .int 0]) (by simp (disch := omega) only [va_up_ne, va_up_self]) (Nat.le_of_ble_eq_true rfl) ?_
  rw [show List.set _ 2 (Value.ref (k + 3)) = [.ref (k + 1), .ref (k + 2), .ref (k + 3), .null, .null, .null, .null, .null, .null, .null, .int 0, .int 0, .int 0, .int 0, .int 0] from rfl]
  refine s_St_init_28 rfl ?_
  refine s_St_init_29 ?_
  refine s_St_init_31 (kn := k + 4) (show 3 + 1 ≤ 10 by decide) (show 143 + 6 ≤ 181 by decide) (by (try simp (disch := omega) only [va_up_ne]); exact hf 4 (by decide) (by decide)) (by omega) ?_
  refine s_St_init_33 (fs := [.ref (k + 1), .ref (k + 2), .ref (k + 3), .null, .null, .null, .null, .null, .null, .null, .int 0, .int 0, .int 0, .int 0, .int 0]) (by simp (disch := omega) only [va_up_ne, va_up_self]) (Nat.le_of_ble_eq_true rfl) ?_
  rw [show List.set _ 3 (Value.ref (k + 4)) = [.ref (k + 1), .ref (k + 2), .ref (k + 3), .ref (k + 4), .null, .null, .null, .null, .null, .null, .int 0, .int 0, .int 0, .int 0, .int 0] from rfl]
  refine s_St_init_36 rfl ?_
  refine s_St_init_37 ?_
  refine s_St_init_39 (kn := k + 5) (show 4 + 1 ≤ 10 by decide) (show 149 + 6 ≤ 181 by decide) (by (try simp (disch := omega) only [va_up_ne]); exact hf 5 (by decide) (by decide)) (by omega) ?_
  refine s_St_init_41 (fs := [.ref (k + 1), .ref (k + 2), .ref (k + 3), .ref (k + 4), .null, .null, .null, .null, .null, .null, .int 0, .int 0, .int 0, .int 0, .int 0]) (by simp (disch := omega) only [va_up_ne, va_up_self]) (Nat.le_of_ble_eq_true rfl) ?_
  rw [show List.set _ 4 (Value.ref (k + 5)) = [.ref (k + 1), .ref (k + 2), .ref (k + 3), .ref (k + 4), .ref (k + 5), .null, .null, .null, .null, .null, .int 0, .int 0, .int 0, .int 0, .int 0] from rfl]
  refine s_St_init_44 rfl ?_
  refine s_St_init_45 ?_
  refine s_St_init_47 (kn := k + 6) (show 5 + 1 ≤ 10 by decide) (show 155 + 6 ≤ 181 by decide) (by (try simp (disch := omega) only [va_up_ne]); exact hf 6 (by decide) (by decide)) (by omega) ?_
  refine s_St_init_49 (fs := [.ref (k + 1), .ref (k + 2), .ref (k + 3), .ref (k + 4), .ref (k + 5), .null, .null, .null, .null, .null, .int 0, .int 0, .int 0, .int 0, .int 0]) (by simp (disch := omega) only [va_up_ne, va_up_self]) (Nat.le_of_ble_eq_true rfl) ?_
  rw [show List.set _ 5 (Value.ref (k + 6)) = [.ref (k + 1), .ref (k + 2), .ref (k + 3), .ref (k + 4), .ref (k + 5), .ref (k + 6), .null, .null, .null, .null, .int 0, .int 0, .int 0, .int 0, .int 0] from rfl]
  refine s_St_init_52 rfl ?_
  refine s_St_init_53 ?_
  refine s_St_init_54 (kn := k + 7) (show 6 + 1 ≤ 10 by decide) (show 161 + 5 ≤ 181 by decide) (by (try simp (disch := omega) only [va_up_ne]); exact hf 7 (by decide) (by decide)) (by omega) ?_
  refine s_St_init_56 (fs := [.ref (k + 1), .ref (k + 2), .ref (k + 3), .ref (k + 4), .ref (k + 5), .ref (k + 6), .null, .null, .null, .null, .int 0, .int 0, .int 0, .int 0, .int 0]) (by simp (disch := omega) only [va_up_ne, va_up_self]) (Nat.le_of_ble_eq_true rfl) ?_
  rw [show List.set _ 6 (Value.ref (k + 7)) = [.ref (k + 1), .ref (k + 2), .ref (k + 3), .ref (k + 4), .ref (k + 5), .ref (k + 6), .ref (k + 7), .null, .null, .null, .int 0, .int 0, .int 0, .int 0, .int 0] from rfl]
  refine s_St_init_59 rfl ?_
  refine s_St_init_60 ?_
  refine s_St_init_61 (kn := k + 8) (show 7 + 1 ≤ 10 by decide) (show 166 + 5 ≤ 181 by decide) (by (try simp (disch := omega) only [va_up_ne]); exact hf 8 (by decide) (by decide)) (by omega) ?_
  refine s_St_init_63 (fs := [.ref (k + 1), .ref (k + 2), .ref (k + 3), .ref (k + 4), .ref (k + 5), .ref (k + 6), .ref (k + 7), .null, .null, .null, .int 0, .int 0, .int 0, .int 0, .int 0]) (by simp (disch := omega) only [va_up_ne, va_up_self]) (Nat.le_of_ble_eq_true rfl) ?_
  rw [show List.set _ 7 (Value.ref (k + 8)) = [.ref (k + 1), .ref (k + 2), .ref (k + 3), .ref (k + 4), .ref (k + 5), .ref (k + 6), .ref (k + 7), .ref (k + 8), .null, .null, .int 0, .int 0, .int 0, .int 0, .int 0] from rfl]
  refine s_St_init_66 rfl ?_
  refine s_St_init_67 ?_
  refine s_St_init_68 (kn := k + 9) (show 8 + 1 ≤ 10 by decide) (show 171 + 5 ≤ 181 by decide) (by (try simp (disch := omega) only [va_up_ne]); exact hf 9 (by decide) (by decide)) (by omega) ?_
  refine s_St_init_70 (fs := [.ref (k + 1), .ref (k + 2), .ref (k + 3), .ref (k + 4), .ref (k + 5), .ref (k + 6), .ref (k + 7), .ref (k + 8), .null, .null, .int 0, .int 0, .int 0, .int 0, .int 0]) (by simp (disch := omega) only [va_up_ne, va_up_self]) (Nat.le_of_ble_eq_true rfl) ?_
  rw [show List.set _ 8 (Value.ref (k + 9)) = [.ref (k + 1), .ref (k + 2), .ref (k + 3), .ref (k + 4), .ref (k + 5), .ref (k + 6), .ref (k + 7), .ref (k + 8), .ref (k + 9), .null, .int 0, .int 0, .int 0, .int 0, .int 0] from rfl]
  refine s_St_init_73 rfl ?_
  refine s_St_init_74 ?_
  refine s_St_init_75 (kn := k + 10) (show 9 + 1 ≤ 10 by decide) (show 176 + 5 ≤ 181 by decide) (by (try simp (disch := omega) only [va_up_ne]); exact hf 10 (by decide) (by decide)) (by omega) ?_
  refine s_St_init_77 (fs := [.ref (k + 1), .ref (k + 2), .ref (k + 3), .ref (k + 4), .ref (k + 5), .ref (k + 6), .ref (k + 7), .ref (k + 8), .ref (k + 9), .null, .int 0, .int 0, .int 0, .int 0, .int 0]) (by simp (disch := omega) only [va_up_ne, va_up_self]) (Nat.le_of_ble_eq_true rfl) ?_
  rw [show List.set _ 9 (Value.ref (k + 10)) = [.ref (k + 1), .ref (k + 2), .ref (k + 3), .ref (k + 4), .ref (k + 5), .ref (k + 6), .ref (k + 7), .ref (k + 8), .ref (k + 9), .ref (k + 10), .int 0, .int 0, .int 0, .int 0, .int 0] from rfl]
  refine s_St_init_80 rfl ?_
  refine s_St_init_81 ?_
  refine s_St_init_82 (fs := [.ref (k + 1), .ref (k + 2), .ref (k + 3), .ref (k + 4), .ref (k + 5), .ref (k + 6), .ref (k + 7), .ref (k + 8), .ref (k + 9), .ref (k + 10), .int 0, .int 0, .int 0, .int 0, .int 0]) (by simp (disch := omega) only [va_up_ne, va_up_self]) (Nat.le_of_ble_eq_true rfl) ?_
  rw [show List.set _ 10 (Value.int 0) = [.ref (k + 1), .ref (k + 2), .ref (k + 3), .ref (k + 4), .ref (k + 5), .ref (k + 6), .ref (k + 7), .ref (k + 8), .ref (k + 9), .ref (k + 10), .int 0, .int 0, .int 0, .int 0, .int 0] from rfl]
  refine s_St_init_85 rfl ?_
  refine s_St_init_86 ?_
  refine s_St_init_87 (fs := [.ref (k + 1), .ref (k + 2), .ref (k + 3), .ref (k + 4), .ref (k + 5), .ref (k + 6), .ref (k + 7), .ref (k + 8), .ref (k + 9), .ref (k + 10), .int 0, .int 0, .int 0, .int 0, .int 0]) (by simp (disch := omega) only [va_up_ne, va_up_self]) (Nat.le_of_ble_eq_true rfl) ?_
  rw [show List.set _ 11 (Value.int 0) = [.ref (k + 1), .ref (k + 2), .ref (k + 3), .ref (k + 4), .ref (k + 5), .ref (k + 6), .ref (k + 7), .ref (k + 8), .ref (k + 9), .ref (k + 10), .int 0, .int 0, .int 0, .int 0, .int 0] from rfl]
  refine s_St_init_90 rfl ?_
  refine s_St_init_91 ?_
  refine s_St_init_92 (fs := [.ref (k + 1), .ref (k + 2), .ref (k + 3), .ref (k + 4), .ref (k + 5), .ref (k + 6), .ref (k + 7), .ref (k + 8), .ref (k + 9), .ref (k + 10), .int 0, .int 0, .int 0, .int 0, .int 0]) (by simp (disch := omega) only [va_up_ne, va_up_self]) (Nat.le_of_ble_eq_true rfl) ?_
  rw [show List.set _ 12 (Value.int 0) = [.ref (k + 1), .ref (k + 2), .ref (k + 3), .ref (k + 4), .ref (k + 5), .ref (k + 6), .ref (k + 7), .ref (k + 8), .ref (k + 9), .ref (k + 10), .int 0, .int 0, .int 0, .int 0, .int 0] from rfl]
  refine s_St_init_95 rfl ?_
  refine s_St_init_96 ?_
  refine s_St_init_97 (fs := [.ref (k + 1), .ref (k + 2), .ref (k + 3), .ref (k + 4), .ref (k + 5), .ref (k + 6), .ref (k + 7), .ref (k + 8), .ref (k + 9), .ref (k + 10), .int 0, .int 0, .int 0, .int 0, .int 0]) (by simp (disch := omega) only [va_up_ne, va_up_self]) (Nat.le_of_ble_eq_true rfl) ?_
  rw [show List.set _ 13 (Value.int 0) = [.ref (k + 1), .ref (k + 2), .ref (k + 3), .ref (k + 4), .ref (k + 5), .ref (k + 6), .ref (k + 7), .ref (k + 8), .ref (k + 9), .ref (k + 10), .int 0, .int 0, .int 0, .int 0, .int 0] from rfl]
  refine s_St_init_100 rfl ?_
  refine s_St_init_101 ?_
  refine s_St_init_102 (fs := [.ref (k + 1), .ref (k + 2), .ref (k + 3), .ref (k + 4), .ref (k + 5), .ref (k + 6), .ref (k + 7), .ref (k + 8), .ref (k + 9), .ref (k + 10), .int 0, .int 0, .int 0, .int 0, .int 0]) (by simp (disch := omega) only [va_up_ne, va_up_self]) (Nat.le_of_ble_eq_true rfl) ?_
  rw [show List.set _ 14 (Value.int 0) = [.ref (k + 1), .ref (k + 2), .ref (k + 3), .ref (k + 4), .ref (k + 5), .ref (k + 6), .ref (k + 7), .ref (k + 8), .ref (k + 9), .ref (k + 10), .int 0, .int 0, .int 0, .int 0, .int 0] from rfl]
  refine s_St_init_105 ⟨rfl, ?_⟩ ⟨by decide, by decide⟩
  funext q
  unfold stN
  by_cases hq : k ≤ q ∧ q < k + 11
  · rw [if_pos hq]
    obtain ⟨i, hi, rfl⟩ : ∃ i, i < 11 ∧ q = k + i := ⟨q - k, by omega, by omega⟩
    rw [Nat.add_sub_cancel_left]
    match i, hi with
    | 0, _ => simp (disch := omega) only [va_up_ne, va_up_self, Nat.add_zero, stc]
    | 1, _ => simp (disch := omega) only [va_up_ne, va_up_self, Nat.add_zero, stc]
    | 2, _ => simp (disch := omega) only [va_up_ne, va_up_self, Nat.add_zero, stc]
    | 3, _ => simp (disch := omega) only [va_up_ne, va_up_self, Nat.add_zero, stc]
    | 4, _ => simp (disch := omega) only [va_up_ne, va_up_self, Nat.add_zero, stc]
    | 5, _ => simp (disch := omega) only [va_up_ne, va_up_self, Nat.add_zero, stc]
    | 6, _ => simp (disch := omega) only [va_up_ne, va_up_self, Nat.add_zero, stc]
    | 7, _ => simp (disch := omega) only [va_up_ne, va_up_self, Nat.add_zero, stc]
    | 8, _ => simp (disch := omega) only [va_up_ne, va_up_self, Nat.add_zero, stc]
    | 9, _ => simp (disch := omega) only [va_up_ne, va_up_self, Nat.add_zero, stc]
    | 10, _ => simp (disch := omega) only [va_up_ne, va_up_self, Nat.add_zero, stc]
    | i + 11, h => exact absurd h (by omega)
  · rw [if_neg hq]
    simp (disch := omega) only [va_up_ne]
theorem ev_topv {G : GW} {M : MW} {R : Room} {E : Nat → LV → List Value → HP → Nat → Nat → Prop} {pc : Nat} {lv : LV} {rest : List Value} {h : HP} {cells slots : Nat} {x y : Value} (e : x = y) (k : ev G M R E pc lv (y :: rest) h cells slots) : ev G M R E pc lv (x :: rest) h cells slots := e ▸ k
theorem rg_in {r j : Nat} (h : j < r) : orf (rg r j) = .ref (26 + 11 * j) := by simp [rg, h, orf]
theorem rg_out {r : Nat} : orf (rg r r) = .null := by simp [rg, orf]
theorem cpI_lo {I : IT} {j c : Nat} (hc : c < 26) : cpI I (26 + 11 * j) 4 c = I c := by
  unfold cpI cpA upI
  simp (disch := omega) only [va_up_ne]
theorem cpL_lo {L : LT} {j c : Nat} (hc : c < 26) : cpL L (26 + 11 * j) 4 c = L c := by
  unfold cpL
  simp (disch := omega) only [va_up_ne]
theorem rem40 {n : Nat} (h : n < 40) : (nI n + 1) - (nI n + 1) / 40 * 40 = nI ((n + 1) % 40) := by
  rw [nI_1, show (40 : Int32) = nI 40 from rfl, pk_rem (by omega) (by decide) (by decide)]
def min40 (x : Int32) : Int32 := if 40 < x then 40 else x
/-- keep's end: next and size -/
def kpE (I : IT) (n : Nat) : IT := upI (upI I 15 1 (nI ((n + 1) % 40))) 15 2 (min40 (I 15 2 + 1))
def zrL (L : LT) (k : Nat) : LT := fun q => if k ≤ q ∧ q < k + 11 then (fun _ => 0) else L q
def zrI (I : IT) (k : Nat) : IT := fun q => if k ≤ q ∧ q < k + 11 then (fun _ => 0) else I q
theorem stN_hp {L : LT} {I : IT} {r : Nat} (hr : r < 40) : va_up (stN (va_up (hp L I r) (26 + 11 * r) (mO 5 [.null, .null, .null, .null, .null, .null, .null, .null, .null, .null, .int 0, .int 0, .int 0, .int 0, .int 0])) (26 + 11 * r)) 16 (mR 3 40 (va_up (rg r) r (some (26 + 11 * r)))) = hp (zrL L (26 + 11 * r)) (zrI I (26 + 11 * r)) (r + 1) := by
  funext q
  by_cases h16 : q = 16
  · subst h16
    rw [va_up_self]
    show mR 3 40 _ = mR 3 40 _
    congr 2
    funext j
    unfold va_up rg
    by_cases hj : j = r
    · subst hj; simp
    · rw [if_neg hj]
      by_cases h2 : j < r
      · rw [if_pos h2, if_pos (by omega)]
      · rw [if_neg h2, if_neg (by omega)]
  · rw [va_up_ne _ _ h16]
    unfold stN
    by_cases hq : 26 + 11 * r ≤ q ∧ q < 26 + 11 * r + 11
    · rw [if_pos hq]
      have e1 : (q - 26) % 11 = q - (26 + 11 * r) := by omega
      have e2 : q - (q - (26 + 11 * r)) = 26 + 11 * r := by omega
      unfold hp zrL zrI
      rw [if_neg (by omega), if_neg (by omega), if_pos (by omega), if_pos hq, if_pos hq, e1, e2]
    · rw [if_neg hq, va_up_ne _ _ (by omega)]
      unfold hp zrL zrI
      rw [if_neg hq, if_neg hq]
      by_cases a1 : 1000 ≤ q
      · rw [if_pos a1, if_pos a1]
      · rw [if_neg a1, if_neg a1]
        by_cases a2 : q < 26
        · rw [if_pos a2, if_pos a2]
          unfold fxc
          split <;> first | rfl | exact absurd rfl h16
        · rw [if_neg a2, if_neg a2]
          by_cases a3 : q < 26 + 11 * r
          · rw [if_pos a3, if_pos (by omega)]
          · rw [if_neg a3, if_neg (by omega)]
set_option maxRecDepth 100000 in
set_option maxHeartbeats 4000000 in
theorem t_keep_old {G : GW} {L : LT} {I : IT} {r : Nat} {n : Nat} (en : I 15 1 = nI n) (hn : n < r) (hr : r ≤ 40) : mt G M_Hi_keep 2 0 0 [.ref 15, .ref 4] (hp L I r) (dt none (hp (cpL L (26 + 11 * n) 4) (kpE (cpI I (26 + 11 * n) 4) n) r)) := by
  refine mt_of_ev (by decide) (Nat.le_of_ble_eq_true rfl) ?_
  show ev G M_Hi_keep (rmv 2 0 0) (Er M_Hi_keep _ 0 0) 0 [(0, .ref 15), (1, .ref 4)] [] (hp L I r) 0 0
  refine s_Hi_keep_0 rfl ?_
  refine s_Hi_keep_1 hp_15 rfl ?_
  refine s_Hi_keep_4 (fun c => absurd c (by rw [en]; exact nI_pos (by omega))) (fun c4 => ?_)
  refine s_Hi_keep_7 rfl ?_
  refine s_Hi_keep_8 hp_15 rfl ?_
  refine s_Hi_keep_11 ?_
  refine s_Hi_keep_13 (fun c13 => ?_) (fun c => absurd (by rw [en]; exact lt_nI (n := 40) rfl (by omega) (by decide)) c)
  refine s_Hi_keep_17 rfl ?_
  refine s_Hi_keep_18 hp_15 rfl ?_
  refine s_Hi_keep_21 rfl ?_
  refine s_Hi_keep_22 hp_15 rfl ?_
  refine ev_topi en ?_
  refine s_Hi_keep_25 hp_16 (vp_in_nI (by omega) (by decide)) ?_
  rw [nI_clamp (by omega)]
  rw [rg_in hn]
  refine s_Hi_keep_26 ?_
  refine s_Hi_keep_27 rfl ?_
  refine s_Hi_keep_28 ?_
  refine s_Hi_keep_49 rfl ?_
  refine s_Hi_keep_50 rfl ?_
  refine c_Hi_keep_51 (t_copy_row hn hr) (hpr_0 hn hr) rfl (Nat.le_of_ble_eq_true rfl) ?_
  refine s_Hi_keep_54 rfl ?_
  refine s_Hi_keep_55 rfl ?_
  refine s_Hi_keep_56 hp_15 rfl ?_
  refine ev_topi (show _ = nI n by rw [cpI_lo (by decide)]; exact en) ?_
  refine s_Hi_keep_59 ?_
  refine s_Hi_keep_60 ?_
  refine s_Hi_keep_61 ?_
  refine s_Hi_keep_63 (by decide) ?_
  rw [rem40 (by omega)]
  refine s_Hi_keep_64 hp_15 (Nat.le_of_ble_eq_true rfl) ?_
  rw [hu_15_1]
  refine s_Hi_keep_67 rfl ?_
  refine s_Hi_keep_68 rfl ?_
  refine s_Hi_keep_69 hp_15 rfl ?_
  refine s_Hi_keep_72 ?_
  refine s_Hi_keep_73 ?_
  refine s_Hi_keep_74 ?_
  refine s_Hi_keep_76 (P := dt (some (.int (min40 _))) _) t_Jm_min ⟨Nat.le_of_ble_eq_true rfl, Nat.le_of_ble_eq_true rfl⟩ ⟨Nat.le_of_ble_eq_true rfl, Nat.le_of_ble_eq_true rfl⟩ (Nat.le_of_ble_eq_true rfl) ?_
  rintro _ _ ⟨rfl, rfl⟩
  refine s_Hi_keep_79 hp_15 (Nat.le_of_ble_eq_true rfl) ?_
  rw [hu_15_2]
  exact s_Hi_keep_82 ⟨rfl, rfl⟩ ⟨Nat.le_of_ble_eq_true rfl, Nat.le_of_ble_eq_true rfl⟩
set_option maxRecDepth 100000 in
set_option maxHeartbeats 4000000 in
theorem t_keep_new {G : GW} {L : LT} {I : IT} {r : Nat} {n : Nat} (en : I 15 1 = nI n) (hn : n = r) (hr : r < 40) : mt G M_Hi_keep 2 11 196 [.ref 15, .ref 4] (hp L I r) (dt none (hp (cpL (zrL L (26 + 11 * n)) (26 + 11 * n) 4) (kpE (cpI (zrI I (26 + 11 * n)) (26 + 11 * n) 4) n) (r + 1))) := by
  refine mt_of_ev (by decide) (Nat.le_of_ble_eq_true rfl) ?_
  show ev G M_Hi_keep (rmv 2 11 196) (Er M_Hi_keep _ 11 196) 0 [(0, .ref 15), (1, .ref 4)] [] (hp L I r) 0 0
  refine s_Hi_keep_0 rfl ?_
  refine s_Hi_keep_1 hp_15 rfl ?_
  refine s_Hi_keep_4 (fun c => absurd c (by rw [en]; exact nI_pos (by omega))) (fun c4 => ?_)
  refine s_Hi_keep_7 rfl ?_
  refine s_Hi_keep_8 hp_15 rfl ?_
  refine s_Hi_keep_11 ?_
  refine s_Hi_keep_13 (fun c13 => ?_) (fun c => absurd (by rw [en]; exact lt_nI (n := 40) rfl (by omega) (by decide)) c)
  refine s_Hi_keep_17 rfl ?_
  refine s_Hi_keep_18 hp_15 rfl ?_
  refine s_Hi_keep_21 rfl ?_
  refine s_Hi_keep_22 hp_15 rfl ?_
  refine ev_topi en ?_
  refine s_Hi_keep_25 hp_16 (vp_in_nI (by omega) (by decide)) ?_
  rw [nI_clamp (by omega)]
  subst hn
  rw [rg_out]
  refine s_Hi_keep_26N ?_
  refine s_Hi_keep_27N rfl ?_
  refine s_Hi_keep_28N ?_
  refine s_Hi_keep_31 (kn := 26 + 11 * n) (show 0 + 1 ≤ 11 by decide) (show 0 + 15 ≤ 196 by decide) (by unfold hp; rw [if_neg (by omega), if_neg (by omega), if_neg (by omega)]) (show _ < 1000000 by omega) ?_
  refine s_Hi_keep_34 rfl ?_
  refine s_Hi_keep_35 (t_St_init (va_up_self _ _ _) (fun i h1 h2 => by rw [va_up_ne _ _ (by omega)]; unfold hp; rw [if_neg (by omega), if_neg (by omega), if_neg (by omega)]) (show _ < 1000000 by omega)) ⟨Nat.le_of_ble_eq_true rfl, Nat.le_of_ble_eq_true rfl⟩ ⟨Nat.le_of_ble_eq_true rfl, Nat.le_of_ble_eq_true rfl⟩ (Nat.le_of_ble_eq_true rfl) ?_
  rintro _ _ ⟨rfl, rfl⟩
  refine s_Hi_keep_38 ?_
  refine s_Hi_keep_39 rfl ?_
  have h15 : stN (va_up (hp L I n) (26 + 11 * n) (mO 5 [.null, .null, .null, .null, .null, .null, .null, .null, .null, .null, .int 0, .int 0, .int 0, .int 0, .int 0])) (26 + 11 * n) 15 = mO 1 [.ref 16, .int (I 15 1), .int (I 15 2)] := by unfold stN; rw [if_neg (by omega), va_up_ne _ _ (by omega)]; rfl
  have h16 : stN (va_up (hp L I n) (26 + 11 * n) (mO 5 [.null, .null, .null, .null, .null, .null, .null, .null, .null, .null, .int 0, .int 0, .int 0, .int 0, .int 0])) (26 + 11 * n) 16 = mR 3 40 (rg n) := by unfold stN; rw [if_neg (by omega), va_up_ne _ _ (by omega)]; rfl
  have h0 : stN (va_up (hp L I n) (26 + 11 * n) (mO 5 [.null, .null, .null, .null, .null, .null, .null, .null, .null, .null, .int 0, .int 0, .int 0, .int 0, .int 0])) (26 + 11 * n) (26 + 11 * n) = stc (26 + 11 * n) (fun _ => 0) (fun _ => 0) 0 := by unfold stN; rw [if_pos (by omega), Nat.sub_self]
  refine s_Hi_keep_40 h15 rfl ?_
  refine s_Hi_keep_43 rfl ?_
  refine s_Hi_keep_44 h15 rfl ?_
  refine ev_topi en ?_
  refine s_Hi_keep_47 rfl ?_
  refine s_Hi_keep_48 h16 h0 rfl (vp_in_nI (by omega) (by decide)) ?_
  rw [nI_clamp (by omega), stN_hp hr]
  refine s_Hi_keep_49 rfl ?_
  refine s_Hi_keep_50 rfl ?_
  refine s_Hi_keep_51 (t_copy_row (by omega) (by omega)) (hpr_0 (by omega) (by omega)) rfl ⟨Nat.le_of_ble_eq_true rfl, Nat.le_of_ble_eq_true rfl⟩ ⟨Nat.le_of_ble_eq_true rfl, Nat.le_of_ble_eq_true rfl⟩ (Nat.le_of_ble_eq_true rfl) ?_
  rintro _ _ ⟨rfl, rfl⟩
  refine s_Hi_keep_54 rfl ?_
  refine s_Hi_keep_55 rfl ?_
  refine s_Hi_keep_56 hp_15 rfl ?_
  refine ev_topi (show _ = nI n by rw [cpI_lo (by decide)]; exact (show zrI I (26 + 11 * n) 15 1 = nI n by unfold zrI; rw [if_neg (by omega)]; exact en)) ?_
  refine s_Hi_keep_59 ?_
  refine s_Hi_keep_60 ?_
  refine s_Hi_keep_61 ?_
  refine s_Hi_keep_63 (by decide) ?_
  rw [rem40 (by omega)]
  refine s_Hi_keep_64 hp_15 (Nat.le_of_ble_eq_true rfl) ?_
  rw [hu_15_1]
  refine s_Hi_keep_67 rfl ?_
  refine s_Hi_keep_68 rfl ?_
  refine s_Hi_keep_69 hp_15 rfl ?_
  refine s_Hi_keep_72 ?_
  refine s_Hi_keep_73 ?_
  refine s_Hi_keep_74 ?_
  refine s_Hi_keep_76 (P := dt (some (.int (min40 _))) _) t_Jm_min ⟨Nat.le_of_ble_eq_true rfl, Nat.le_of_ble_eq_true rfl⟩ ⟨Nat.le_of_ble_eq_true rfl, Nat.le_of_ble_eq_true rfl⟩ (Nat.le_of_ble_eq_true rfl) ?_
  rintro _ _ ⟨rfl, rfl⟩
  refine s_Hi_keep_79 hp_15 (Nat.le_of_ble_eq_true rfl) ?_
  rw [hu_15_2]
  exact s_Hi_keep_82 ⟨rfl, rfl⟩ ⟨Nat.le_of_ble_eq_true rfl, Nat.le_of_ble_eq_true rfl⟩

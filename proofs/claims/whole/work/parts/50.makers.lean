/-! the constructors -/
def zL : LT := fun _ _ => 0
def zI : IT := fun _ _ => 0
def hCo (h : HP) : HP := va_up (va_up (va_up h 2 (mI 0 288 (fun _ => 0))) 3 (mI 0 3 (fun _ => 0))) 1 (mO 0 [.ref 2, .ref 3])
set_option maxRecDepth 100000 in
set_option maxHeartbeats 4000000 in
theorem t_Co_init {G : GW} {h : HP} (hk : h 1 = mO 0 [.null, .null]) (h2 : h 2 = mF) (h3 : h 3 = mF) : mt G M_Co_init 1 2 291 [.ref 1] h (dt none (hCo h)) := by
  refine mt_of_ev (by decide) (Nat.le_of_ble_eq_true rfl) ?_
  show ev G M_Co_init (rmv 1 2 291) (Er M_Co_init _ 2 291) 0 [(0, .ref 1)] [] h 0 0
  refine s_Co_init_0 rfl ?_
  refine s_Co_init_1 (Nat.le_of_ble_eq_true rfl) (Nat.le_of_ble_eq_true rfl) ?_
  refine s_Co_init_4 rfl ?_
  refine s_Co_init_5 ?_
  refine s_Co_init_8 (kn := 2) (show 0 + 1 ≤ 2 by decide) (show 0 + 288 ≤ 291 by decide) (by (try simp (disch := decide) only [va_up_ne]); exact h2) (by decide) ?_
  refine s_Co_init_10 (fs := [.null, .null]) (by simp (disch := decide) only [va_up_ne, va_up_self, hk]) (Nat.le_of_ble_eq_true rfl) ?_
  rw [show List.set _ 0 (Value.ref 2) = [.ref 2, .null] from rfl]
  refine s_Co_init_13 rfl ?_
  refine s_Co_init_14 ?_
  refine s_Co_init_15 (kn := 3) (show 1 + 1 ≤ 2 by decide) (show 288 + 3 ≤ 291 by decide) (by (try simp (disch := decide) only [va_up_ne]); exact h3) (by decide) ?_
  refine s_Co_init_17 (fs := [.ref 2, .null]) (by simp (disch := decide) only [va_up_ne, va_up_self]) (Nat.le_of_ble_eq_true rfl) ?_
  rw [show List.set _ 1 (Value.ref 3) = [.ref 2, .ref 3] from rfl]
  refine s_Co_init_20 ⟨rfl, ?_⟩ ⟨by decide, by decide⟩
  funext q
  by_cases e1 : q = 1
  · subst e1; rfl
  by_cases e2 : q = 2
  · subst e2; rfl
  by_cases e3 : q = 3
  · subst e3; rfl
  unfold hCo
  simp (disch := assumption) only [va_up_ne]
theorem hCo_o {h : HP} {q : Nat} (e1 : q ≠ 1) (e2 : q ≠ 2) (e3 : q ≠ 3) : hCo h q = h q := by
  unfold hCo
  simp (disch := assumption) only [va_up_ne]
def hHi (h : HP) : HP := va_up (va_up h 16 (mR 3 40 (fun _ => none))) 15 (mO 1 [.ref 16, .int 0, .int 0])
set_option maxRecDepth 100000 in
set_option maxHeartbeats 4000000 in
theorem t_Hi_init {G : GW} {h : HP} (hk : h 15 = mO 1 [.null, .int 0, .int 0]) (h16 : h 16 = mF) : mt G M_Hi_init 1 1 40 [.ref 15] h (dt none (hHi h)) := by
  refine mt_of_ev (by decide) (Nat.le_of_ble_eq_true rfl) ?_
  show ev G M_Hi_init (rmv 1 1 40) (Er M_Hi_init _ 1 40) 0 [(0, .ref 15)] [] h 0 0
  refine s_Hi_init_0 rfl ?_
  refine s_Hi_init_1 (Nat.le_of_ble_eq_true rfl) (Nat.le_of_ble_eq_true rfl) ?_
  refine s_Hi_init_4 rfl ?_
  refine s_Hi_init_5 ?_
  refine s_Hi_init_7 (kn := 16) (show 0 + 1 ≤ 1 by decide) (show 0 + 40 ≤ 40 by decide) (by (try simp (disch := decide) only [va_up_ne]); exact h16) (by decide) ?_
  refine s_Hi_init_10 (fs := [.null, .int 0, .int 0]) (by simp (disch := decide) only [va_up_ne, va_up_self, hk]) (Nat.le_of_ble_eq_true rfl) ?_
  rw [show List.set _ 0 (Value.ref 16) = [.ref 16, .int 0, .int 0] from rfl]
  refine s_Hi_init_13 rfl ?_
  refine s_Hi_init_14 ?_
  refine s_Hi_init_15 (fs := [.ref 16, .int 0, .int 0]) (by simp (disch := decide) only [va_up_ne, va_up_self]) (Nat.le_of_ble_eq_true rfl) ?_
  rw [show List.set _ 1 (Value.int 0) = [.ref 16, .int 0, .int 0] from rfl]
  refine s_Hi_init_18 rfl ?_
  refine s_Hi_init_19 ?_
  refine s_Hi_init_20 (fs := [.ref 16, .int 0, .int 0]) (by simp (disch := decide) only [va_up_ne, va_up_self]) (Nat.le_of_ble_eq_true rfl) ?_
  rw [show List.set _ 2 (Value.int 0) = [.ref 16, .int 0, .int 0] from rfl]
  refine s_Hi_init_23 ⟨rfl, ?_⟩ ⟨by decide, by decide⟩
  funext q
  by_cases e15 : q = 15
  · subst e15; rfl
  by_cases e16 : q = 16
  · subst e16; rfl
  unfold hHi
  simp (disch := assumption) only [va_up_ne]
theorem hHi_o {h : HP} {q : Nat} (e15 : q ≠ 15) (e16 : q ≠ 16) : hHi h q = h q := by
  unfold hHi
  simp (disch := assumption) only [va_up_ne]
def hPr (h : HP) : HP := va_up h 17 (mO 3 [.ref 1, .ref 4, .int 0, .int 0, .int 0, .int 0])
set_option maxRecDepth 100000 in
set_option maxHeartbeats 4000000 in
theorem t_Pr_init {G : GW} {h : HP} (hk : h 17 = mO 3 [.null, .null, .int 0, .int 0, .int 0, .int 0]) : mt G M_Pr_init 1 0 0 [.ref 17, .ref 1, .ref 4] h (dt none (hPr h)) := by
  refine mt_of_ev (by decide) (Nat.le_of_ble_eq_true rfl) ?_
  show ev G M_Pr_init (rmv 1 0 0) (Er M_Pr_init _ 0 0) 0 [(0, .ref 17), (1, .ref 1), (2, .ref 4)] [] h 0 0
  refine s_Pr_init_0 rfl ?_
  refine s_Pr_init_1 (Nat.le_of_ble_eq_true rfl) (Nat.le_of_ble_eq_true rfl) ?_
  refine s_Pr_init_4 rfl ?_
  refine s_Pr_init_5 ?_
  refine s_Pr_init_6 (fs := [.null, .null, .int 0, .int 0, .int 0, .int 0]) (by simp (disch := decide) only [va_up_ne, va_up_self, hk]) (Nat.le_of_ble_eq_true rfl) ?_
  rw [show List.set _ 2 (Value.int 0) = [.null, .null, .int 0, .int 0, .int 0, .int 0] from rfl]
  refine s_Pr_init_9 rfl ?_
  refine s_Pr_init_10 ?_
  refine s_Pr_init_11 (fs := [.null, .null, .int 0, .int 0, .int 0, .int 0]) (by simp (disch := decide) only [va_up_ne, va_up_self]) (Nat.le_of_ble_eq_true rfl) ?_
  rw [show List.set _ 3 (Value.int 0) = [.null, .null, .int 0, .int 0, .int 0, .int 0] from rfl]
  refine s_Pr_init_14 rfl ?_
  refine s_Pr_init_15 ?_
  refine s_Pr_init_16 (fs := [.null, .null, .int 0, .int 0, .int 0, .int 0]) (by simp (disch := decide) only [va_up_ne, va_up_self]) (Nat.le_of_ble_eq_true rfl) ?_
  rw [show List.set _ 4 (Value.int 0) = [.null, .null, .int 0, .int 0, .int 0, .int 0] from rfl]
  refine s_Pr_init_19 rfl ?_
  refine s_Pr_init_20 ?_
  refine s_Pr_init_21 (fs := [.null, .null, .int 0, .int 0, .int 0, .int 0]) (by simp (disch := decide) only [va_up_ne, va_up_self]) (Nat.le_of_ble_eq_true rfl) ?_
  rw [show List.set _ 5 (Value.int 0) = [.null, .null, .int 0, .int 0, .int 0, .int 0] from rfl]
  refine s_Pr_init_24 rfl ?_
  refine s_Pr_init_25 rfl ?_
  refine s_Pr_init_26 (fs := [.null, .null, .int 0, .int 0, .int 0, .int 0]) (by simp (disch := decide) only [va_up_ne, va_up_self]) (Nat.le_of_ble_eq_true rfl) ?_
  rw [show List.set _ 0 (Value.ref 1) = [.ref 1, .null, .int 0, .int 0, .int 0, .int 0] from rfl]
  refine s_Pr_init_29 rfl ?_
  refine s_Pr_init_30 rfl ?_
  refine s_Pr_init_31 (fs := [.ref 1, .null, .int 0, .int 0, .int 0, .int 0]) (by simp (disch := decide) only [va_up_ne, va_up_self]) (Nat.le_of_ble_eq_true rfl) ?_
  rw [show List.set _ 1 (Value.ref 4) = [.ref 1, .ref 4, .int 0, .int 0, .int 0, .int 0] from rfl]
  refine s_Pr_init_34 ⟨rfl, ?_⟩ ⟨by decide, by decide⟩
  funext q
  by_cases e17 : q = 17
  · subst e17; rfl
  unfold hPr
  simp (disch := assumption) only [va_up_ne]
theorem hPr_o {h : HP} {q : Nat} (e17 : q ≠ 17) : hPr h q = h q := by
  unfold hPr
  simp (disch := assumption) only [va_up_ne]
def hOw (h : HP) : HP := va_up (va_up (va_up (va_up h 19 (mI 0 192 (fun _ => 0))) 20 (mI 0 48 (fun _ => 0))) 21 (mI 0 6 (fun _ => 0))) 18 (mO 2 [.ref 4, .ref 19, .ref 20, .ref 21])
set_option maxRecDepth 100000 in
set_option maxHeartbeats 4000000 in
theorem t_Ow_init {G : GW} {h : HP} (hk : h 18 = mO 2 [.null, .null, .null, .null]) (h19 : h 19 = mF) (h20 : h 20 = mF) (h21 : h 21 = mF) : mt G M_Ow_init 1 3 246 [.ref 18, .ref 4] h (dt none (hOw h)) := by
  refine mt_of_ev (by decide) (Nat.le_of_ble_eq_true rfl) ?_
  show ev G M_Ow_init (rmv 1 3 246) (Er M_Ow_init _ 3 246) 0 [(0, .ref 18), (1, .ref 4)] [] h 0 0
  refine s_Ow_init_0 rfl ?_
  refine s_Ow_init_1 (Nat.le_of_ble_eq_true rfl) (Nat.le_of_ble_eq_true rfl) ?_
  refine s_Ow_init_4 rfl ?_
  refine s_Ow_init_5 ?_
  refine s_Ow_init_8 (kn := 19) (show 0 + 1 ≤ 3 by decide) (show 0 + 192 ≤ 246 by decide) (by (try simp (disch := decide) only [va_up_ne]); exact h19) (by decide) ?_
  refine s_Ow_init_10 (fs := [.null, .null, .null, .null]) (by simp (disch := decide) only [va_up_ne, va_up_self, hk]) (Nat.le_of_ble_eq_true rfl) ?_
  rw [show List.set _ 1 (Value.ref 19) = [.null, .ref 19, .null, .null] from rfl]
  refine s_Ow_init_13 rfl ?_
  refine s_Ow_init_14 ?_
  refine s_Ow_init_16 (kn := 20) (show 1 + 1 ≤ 3 by decide) (show 192 + 48 ≤ 246 by decide) (by (try simp (disch := decide) only [va_up_ne]); exact h20) (by decide) ?_
  refine s_Ow_init_18 (fs := [.null, .ref 19, .null, .null]) (by simp (disch := decide) only [va_up_ne, va_up_self]) (Nat.le_of_ble_eq_true rfl) ?_
  rw [show List.set _ 2 (Value.ref 20) = [.null, .ref 19, .ref 20, .null] from rfl]
  refine s_Ow_init_21 rfl ?_
  refine s_Ow_init_22 ?_
  refine s_Ow_init_24 (kn := 21) (show 2 + 1 ≤ 3 by decide) (show 240 + 6 ≤ 246 by decide) (by (try simp (disch := decide) only [va_up_ne]); exact h21) (by decide) ?_
  refine s_Ow_init_26 (fs := [.null, .ref 19, .ref 20, .null]) (by simp (disch := decide) only [va_up_ne, va_up_self]) (Nat.le_of_ble_eq_true rfl) ?_
  rw [show List.set _ 3 (Value.ref 21) = [.null, .ref 19, .ref 20, .ref 21] from rfl]
  refine s_Ow_init_29 rfl ?_
  refine s_Ow_init_30 rfl ?_
  refine s_Ow_init_31 (fs := [.null, .ref 19, .ref 20, .ref 21]) (by simp (disch := decide) only [va_up_ne, va_up_self]) (Nat.le_of_ble_eq_true rfl) ?_
  rw [show List.set _ 0 (Value.ref 4) = [.ref 4, .ref 19, .ref 20, .ref 21] from rfl]
  refine s_Ow_init_34 ⟨rfl, ?_⟩ ⟨by decide, by decide⟩
  funext q
  by_cases e18 : q = 18
  · subst e18; rfl
  by_cases e19 : q = 19
  · subst e19; rfl
  by_cases e20 : q = 20
  · subst e20; rfl
  by_cases e21 : q = 21
  · subst e21; rfl
  unfold hOw
  simp (disch := assumption) only [va_up_ne]
theorem hOw_o {h : HP} {q : Nat} (e18 : q ≠ 18) (e19 : q ≠ 19) (e20 : q ≠ 20) (e21 : q ≠ 21) : hOw h q = h q := by
  unfold hOw
  simp (disch := assumption) only [va_up_ne]
def hRe (h : HP) : HP := va_up (va_up (va_up (va_up h 23 (mI 2 48 (fun _ => 0))) 24 (mI 2 48 (fun _ => 0))) 25 (mI 0 48 (fun _ => 0))) 22 (mO 4 [.ref 4, .ref 23, .ref 24, .ref 25, .int 0])
set_option maxRecDepth 100000 in
set_option maxHeartbeats 4000000 in
theorem t_Re_init {G : GW} {h : HP} (hk : h 22 = mO 4 [.null, .null, .null, .null, .int 0]) (h23 : h 23 = mF) (h24 : h 24 = mF) (h25 : h 25 = mF) : mt G M_Re_init 1 3 144 [.ref 22, .ref 4] h (dt none (hRe h)) := by
  refine mt_of_ev (by decide) (Nat.le_of_ble_eq_true rfl) ?_
  show ev G M_Re_init (rmv 1 3 144) (Er M_Re_init _ 3 144) 0 [(0, .ref 22), (1, .ref 4)] [] h 0 0
  refine s_Re_init_0 rfl ?_
  refine s_Re_init_1 (Nat.le_of_ble_eq_true rfl) (Nat.le_of_ble_eq_true rfl) ?_
  refine s_Re_init_4 rfl ?_
  refine s_Re_init_5 ?_
  refine s_Re_init_7 (kn := 23) (show 0 + 1 ≤ 3 by decide) (show 0 + 48 ≤ 144 by decide) (by (try simp (disch := decide) only [va_up_ne]); exact h23) (by decide) ?_
  refine s_Re_init_9 (fs := [.null, .null, .null, .null, .int 0]) (by simp (disch := decide) only [va_up_ne, va_up_self, hk]) (Nat.le_of_ble_eq_true rfl) ?_
  rw [show List.set _ 1 (Value.ref 23) = [.null, .ref 23, .null, .null, .int 0] from rfl]
  refine s_Re_init_12 rfl ?_
  refine s_Re_init_13 ?_
  refine s_Re_init_15 (kn := 24) (show 1 + 1 ≤ 3 by decide) (show 48 + 48 ≤ 144 by decide) (by (try simp (disch := decide) only [va_up_ne]); exact h24) (by decide) ?_
  refine s_Re_init_17 (fs := [.null, .ref 23, .null, .null, .int 0]) (by simp (disch := decide) only [va_up_ne, va_up_self]) (Nat.le_of_ble_eq_true rfl) ?_
  rw [show List.set _ 2 (Value.ref 24) = [.null, .ref 23, .ref 24, .null, .int 0] from rfl]
  refine s_Re_init_20 rfl ?_
  refine s_Re_init_21 ?_
  refine s_Re_init_23 (kn := 25) (show 2 + 1 ≤ 3 by decide) (show 96 + 48 ≤ 144 by decide) (by (try simp (disch := decide) only [va_up_ne]); exact h25) (by decide) ?_
  refine s_Re_init_25 (fs := [.null, .ref 23, .ref 24, .null, .int 0]) (by simp (disch := decide) only [va_up_ne, va_up_self]) (Nat.le_of_ble_eq_true rfl) ?_
  rw [show List.set _ 3 (Value.ref 25) = [.null, .ref 23, .ref 24, .ref 25, .int 0] from rfl]
  refine s_Re_init_28 rfl ?_
  refine s_Re_init_29 ?_
  refine s_Re_init_30 (fs := [.null, .ref 23, .ref 24, .ref 25, .int 0]) (by simp (disch := decide) only [va_up_ne, va_up_self]) (Nat.le_of_ble_eq_true rfl) ?_
  rw [show List.set _ 4 (Value.int 0) = [.null, .ref 23, .ref 24, .ref 25, .int 0] from rfl]
  refine s_Re_init_33 rfl ?_
  refine s_Re_init_34 rfl ?_
  refine s_Re_init_35 (fs := [.null, .ref 23, .ref 24, .ref 25, .int 0]) (by simp (disch := decide) only [va_up_ne, va_up_self]) (Nat.le_of_ble_eq_true rfl) ?_
  rw [show List.set _ 0 (Value.ref 4) = [.ref 4, .ref 23, .ref 24, .ref 25, .int 0] from rfl]
  refine s_Re_init_38 ⟨rfl, ?_⟩ ⟨by decide, by decide⟩
  funext q
  by_cases e22 : q = 22
  · subst e22; rfl
  by_cases e23 : q = 23
  · subst e23; rfl
  by_cases e24 : q = 24
  · subst e24; rfl
  by_cases e25 : q = 25
  · subst e25; rfl
  unfold hRe
  simp (disch := assumption) only [va_up_ne]
theorem hRe_o {h : HP} {q : Nat} (e22 : q ≠ 22) (e23 : q ≠ 23) (e24 : q ≠ 24) (e25 : q ≠ 25) : hRe h q = h q := by
  unfold hRe
  simp (disch := assumption) only [va_up_ne]
def hMo (h : HP) : HP := va_up (va_up (va_up (va_up (va_up (va_up (va_up (va_up (va_up (va_up (va_up (va_up (va_up (va_up h 1001 (mI 0 3 (fun _ => 0))) 1002 (mI 0 288 (fun _ => 0))) 1003 (mI 0 510 (fun _ => 0))) 1004 (mI 0 6 (fun _ => 0))) 1005 (mI 0 6 (fun _ => 0))) 1006 (mI 0 6 (fun _ => 0))) 1007 (mI 0 6 (fun _ => 0))) 1008 (mI 0 6 (fun _ => 0))) 1009 (mI 0 6 (fun _ => 0))) 1010 (mI 0 20 (fun _ => 0))) 1011 (mI 0 175 (fun _ => 0))) 1012 (mI 2 48 (fun _ => 0))) 1013 (mI 2 48 (fun _ => 0))) 1000 (mO 7 [.int 0, .ref 1001, .ref 1002, .ref 1003, .ref 1004, .ref 1005, .ref 1006, .ref 1007, .ref 1008, .ref 1009, .int 0, .ref 1010, .ref 1011, .int 0, .int 0, .int 0, .int 0, .int 0, .ref 1012, .ref 1013])
set_option maxRecDepth 100000 in
set_option maxHeartbeats 4000000 in
theorem t_Mo_init {G : GW} {h : HP} (hk : h 1000 = mO 7 [.int 0, .null, .null, .null, .null, .null, .null, .null, .null, .null, .int 0, .null, .null, .int 0, .int 0, .int 0, .int 0, .int 0, .null, .null]) (h1001 : h 1001 = mF) (h1002 : h 1002 = mF) (h1003 : h 1003 = mF) (h1004 : h 1004 = mF) (h1005 : h 1005 = mF) (h1006 : h 1006 = mF) (h1007 : h 1007 = mF) (h1008 : h 1008 = mF) (h1009 : h 1009 = mF) (h1010 : h 1010 = mF) (h1011 : h 1011 = mF) (h1012 : h 1012 = mF) (h1013 : h 1013 = mF) : mt G M_Mo_init 1 13 1128 [.ref 1000] h (dt none (hMo h)) := by
  refine mt_of_ev (by decide) (Nat.le_of_ble_eq_true rfl) ?_
  show ev G M_Mo_init (rmv 1 13 1128) (Er M_Mo_init _ 13 1128) 0 [(0, .ref 1000)] [] h 0 0
  refine s_Mo_init_0 rfl ?_
  refine s_Mo_init_1 (Nat.le_of_ble_eq_true rfl) (Nat.le_of_ble_eq_true rfl) ?_
  refine s_Mo_init_4 rfl ?_
  refine s_Mo_init_5 ?_
  refine s_Mo_init_6 (kn := 1001) (show 0 + 1 ≤ 13 by decide) (show 0 + 3 ≤ 1128 by decide) (by (try simp (disch := decide) only [va_up_ne]); exact h1001) (by decide) ?_
  refine s_Mo_init_8 (fs := [.int 0, .null, .null, .null, .null, .null, .null, .null, .null, .null, .int 0, .null, .null, .int 0, .int 0, .int 0, .int 0, .int 0, .null, .null]) (by simp (disch := decide) only [va_up_ne, va_up_self, hk]) (Nat.le_of_ble_eq_true rfl) ?_
  rw [show List.set _ 1 (Value.ref 1001) = [.int 0, .ref 1001, .null, .null, .null, .null, .null, .null, .null, .null, .int 0, .null, .null, .int 0, .int 0, .int 0, .int 0, .int 0, .null, .null] from rfl]
  refine s_Mo_init_11 rfl ?_
  refine s_Mo_init_12 ?_
  refine s_Mo_init_15 (kn := 1002) (show 1 + 1 ≤ 13 by decide) (show 3 + 288 ≤ 1128 by decide) (by (try simp (disch := decide) only [va_up_ne]); exact h1002) (by decide) ?_
  refine s_Mo_init_17 (fs := [.int 0, .ref 1001, .null, .null, .null, .null, .null, .null, .null, .null, .int 0, .null, .null, .int 0, .int 0, .int 0, .int 0, .int 0, .null, .null]) (by simp (disch := decide) only [va_up_ne, va_up_self]) (Nat.le_of_ble_eq_true rfl) ?_
  rw [show List.set _ 2 (Value.ref 1002) = [.int 0, .ref 1001, .ref 1002, .null, .null, .null, .null, .null, .null, .null, .int 0, .null, .null, .int 0, .int 0, .int 0, .int 0, .int 0, .null, .null] from rfl]
  refine s_Mo_init_20 rfl ?_
  refine s_Mo_init_21 ?_
  refine s_Mo_init_24 (kn := 1003) (show 2 + 1 ≤ 13 by decide) (show 291 + 510 ≤ 1128 by decide) (by (try simp (disch := decide) only [va_up_ne]); exact h1003) (by decide) ?_
  refine s_Mo_init_26 (fs := [.int 0, .ref 1001, .ref 1002, .null, .null, .null, .null, .null, .null, .null, .int 0, .null, .null, .int 0, .int 0, .int 0, .int 0, .int 0, .null, .null]) (by simp (disch := decide) only [va_up_ne, va_up_self]) (Nat.le_of_ble_eq_true rfl) ?_
  rw [show List.set _ 3 (Value.ref 1003) = [.int 0, .ref 1001, .ref 1002, .ref 1003, .null, .null, .null, .null, .null, .null, .int 0, .null, .null, .int 0, .int 0, .int 0, .int 0, .int 0, .null, .null] from rfl]
  refine s_Mo_init_29 rfl ?_
  refine s_Mo_init_30 ?_
  refine s_Mo_init_32 (kn := 1004) (show 3 + 1 ≤ 13 by decide) (show 801 + 6 ≤ 1128 by decide) (by (try simp (disch := decide) only [va_up_ne]); exact h1004) (by decide) ?_
  refine s_Mo_init_34 (fs := [.int 0, .ref 1001, .ref 1002, .ref 1003, .null, .null, .null, .null, .null, .null, .int 0, .null, .null, .int 0, .int 0, .int 0, .int 0, .int 0, .null, .null]) (by simp (disch := decide) only [va_up_ne, va_up_self]) (Nat.le_of_ble_eq_true rfl) ?_
  rw [show List.set _ 4 (Value.ref 1004) = [.int 0, .ref 1001, .ref 1002, .ref 1003, .ref 1004, .null, .null, .null, .null, .null, .int 0, .null, .null, .int 0, .int 0, .int 0, .int 0, .int 0, .null, .null] from rfl]
  refine s_Mo_init_37 rfl ?_
  refine s_Mo_init_38 ?_
  refine s_Mo_init_40 (kn := 1005) (show 4 + 1 ≤ 13 by decide) (show 807 + 6 ≤ 1128 by decide) (by (try simp (disch := decide) only [va_up_ne]); exact h1005) (by decide) ?_
  refine s_Mo_init_42 (fs := [.int 0, .ref 1001, .ref 1002, .ref 1003, .ref 1004, .null, .null, .null, .null, .null, .int 0, .null, .null, .int 0, .int 0, .int 0, .int 0, .int 0, .null, .null]) (by simp (disch := decide) only [va_up_ne, va_up_self]) (Nat.le_of_ble_eq_true rfl) ?_
  rw [show List.set _ 5 (Value.ref 1005) = [.int 0, .ref 1001, .ref 1002, .ref 1003, .ref 1004, .ref 1005, .null, .null, .null, .null, .int 0, .null, .null, .int 0, .int 0, .int 0, .int 0, .int 0, .null, .null] from rfl]
  refine s_Mo_init_45 rfl ?_
  refine s_Mo_init_46 ?_
  refine s_Mo_init_48 (kn := 1006) (show 5 + 1 ≤ 13 by decide) (show 813 + 6 ≤ 1128 by decide) (by (try simp (disch := decide) only [va_up_ne]); exact h1006) (by decide) ?_
  refine s_Mo_init_50 (fs := [.int 0, .ref 1001, .ref 1002, .ref 1003, .ref 1004, .ref 1005, .null, .null, .null, .null, .int 0, .null, .null, .int 0, .int 0, .int 0, .int 0, .int 0, .null, .null]) (by simp (disch := decide) only [va_up_ne, va_up_self]) (Nat.le_of_ble_eq_true rfl) ?_
  rw [show List.set _ 6 (Value.ref 1006) = [.int 0, .ref 1001, .ref 1002, .ref 1003, .ref 1004, .ref 1005, .ref 1006, .null, .null, .null, .int 0, .null, .null, .int 0, .int 0, .int 0, .int 0, .int 0, .null, .null] from rfl]
  refine s_Mo_init_53 rfl ?_
  refine s_Mo_init_54 ?_
  refine s_Mo_init_56 (kn := 1007) (show 6 + 1 ≤ 13 by decide) (show 819 + 6 ≤ 1128 by decide) (by (try simp (disch := decide) only [va_up_ne]); exact h1007) (by decide) ?_
  refine s_Mo_init_58 (fs := [.int 0, .ref 1001, .ref 1002, .ref 1003, .ref 1004, .ref 1005, .ref 1006, .null, .null, .null, .int 0, .null, .null, .int 0, .int 0, .int 0, .int 0, .int 0, .null, .null]) (by simp (disch := decide) only [va_up_ne, va_up_self]) (Nat.le_of_ble_eq_true rfl) ?_
  rw [show List.set _ 7 (Value.ref 1007) = [.int 0, .ref 1001, .ref 1002, .ref 1003, .ref 1004, .ref 1005, .ref 1006, .ref 1007, .null, .null, .int 0, .null, .null, .int 0, .int 0, .int 0, .int 0, .int 0, .null, .null] from rfl]
  refine s_Mo_init_61 rfl ?_
  refine s_Mo_init_62 ?_
  refine s_Mo_init_64 (kn := 1008) (show 7 + 1 ≤ 13 by decide) (show 825 + 6 ≤ 1128 by decide) (by (try simp (disch := decide) only [va_up_ne]); exact h1008) (by decide) ?_
  refine s_Mo_init_66 (fs := [.int 0, .ref 1001, .ref 1002, .ref 1003, .ref 1004, .ref 1005, .ref 1006, .ref 1007, .null, .null, .int 0, .null, .null, .int 0, .int 0, .int 0, .int 0, .int 0, .null, .null]) (by simp (disch := decide) only [va_up_ne, va_up_self]) (Nat.le_of_ble_eq_true rfl) ?_
  rw [show List.set _ 8 (Value.ref 1008) = [.int 0, .ref 1001, .ref 1002, .ref 1003, .ref 1004, .ref 1005, .ref 1006, .ref 1007, .ref 1008, .null, .int 0, .null, .null, .int 0, .int 0, .int 0, .int 0, .int 0, .null, .null] from rfl]
  refine s_Mo_init_69 rfl ?_
  refine s_Mo_init_70 ?_
  refine s_Mo_init_72 (kn := 1009) (show 8 + 1 ≤ 13 by decide) (show 831 + 6 ≤ 1128 by decide) (by (try simp (disch := decide) only [va_up_ne]); exact h1009) (by decide) ?_
  refine s_Mo_init_74 (fs := [.int 0, .ref 1001, .ref 1002, .ref 1003, .ref 1004, .ref 1005, .ref 1006, .ref 1007, .ref 1008, .null, .int 0, .null, .null, .int 0, .int 0, .int 0, .int 0, .int 0, .null, .null]) (by simp (disch := decide) only [va_up_ne, va_up_self]) (Nat.le_of_ble_eq_true rfl) ?_
  rw [show List.set _ 9 (Value.ref 1009) = [.int 0, .ref 1001, .ref 1002, .ref 1003, .ref 1004, .ref 1005, .ref 1006, .ref 1007, .ref 1008, .ref 1009, .int 0, .null, .null, .int 0, .int 0, .int 0, .int 0, .int 0, .null, .null] from rfl]
  refine s_Mo_init_77 rfl ?_
  refine s_Mo_init_78 ?_
  refine s_Mo_init_80 (kn := 1010) (show 9 + 1 ≤ 13 by decide) (show 837 + 20 ≤ 1128 by decide) (by (try simp (disch := decide) only [va_up_ne]); exact h1010) (by decide) ?_
  refine s_Mo_init_82 (fs := [.int 0, .ref 1001, .ref 1002, .ref 1003, .ref 1004, .ref 1005, .ref 1006, .ref 1007, .ref 1008, .ref 1009, .int 0, .null, .null, .int 0, .int 0, .int 0, .int 0, .int 0, .null, .null]) (by simp (disch := decide) only [va_up_ne, va_up_self]) (Nat.le_of_ble_eq_true rfl) ?_
  rw [show List.set _ 11 (Value.ref 1010) = [.int 0, .ref 1001, .ref 1002, .ref 1003, .ref 1004, .ref 1005, .ref 1006, .ref 1007, .ref 1008, .ref 1009, .int 0, .ref 1010, .null, .int 0, .int 0, .int 0, .int 0, .int 0, .null, .null] from rfl]
  refine s_Mo_init_85 rfl ?_
  refine s_Mo_init_86 ?_
  refine s_Mo_init_89 (kn := 1011) (show 10 + 1 ≤ 13 by decide) (show 857 + 175 ≤ 1128 by decide) (by (try simp (disch := decide) only [va_up_ne]); exact h1011) (by decide) ?_
  refine s_Mo_init_91 (fs := [.int 0, .ref 1001, .ref 1002, .ref 1003, .ref 1004, .ref 1005, .ref 1006, .ref 1007, .ref 1008, .ref 1009, .int 0, .ref 1010, .null, .int 0, .int 0, .int 0, .int 0, .int 0, .null, .null]) (by simp (disch := decide) only [va_up_ne, va_up_self]) (Nat.le_of_ble_eq_true rfl) ?_
  rw [show List.set _ 12 (Value.ref 1011) = [.int 0, .ref 1001, .ref 1002, .ref 1003, .ref 1004, .ref 1005, .ref 1006, .ref 1007, .ref 1008, .ref 1009, .int 0, .ref 1010, .ref 1011, .int 0, .int 0, .int 0, .int 0, .int 0, .null, .null] from rfl]
  refine s_Mo_init_94 rfl ?_
  refine s_Mo_init_95 ?_
  refine s_Mo_init_97 (kn := 1012) (show 11 + 1 ≤ 13 by decide) (show 1032 + 48 ≤ 1128 by decide) (by (try simp (disch := decide) only [va_up_ne]); exact h1012) (by decide) ?_
  refine s_Mo_init_99 (fs := [.int 0, .ref 1001, .ref 1002, .ref 1003, .ref 1004, .ref 1005, .ref 1006, .ref 1007, .ref 1008, .ref 1009, .int 0, .ref 1010, .ref 1011, .int 0, .int 0, .int 0, .int 0, .int 0, .null, .null]) (by simp (disch := decide) only [va_up_ne, va_up_self]) (Nat.le_of_ble_eq_true rfl) ?_
  rw [show List.set _ 18 (Value.ref 1012) = [.int 0, .ref 1001, .ref 1002, .ref 1003, .ref 1004, .ref 1005, .ref 1006, .ref 1007, .ref 1008, .ref 1009, .int 0, .ref 1010, .ref 1011, .int 0, .int 0, .int 0, .int 0, .int 0, .ref 1012, .null] from rfl]
  refine s_Mo_init_102 rfl ?_
  refine s_Mo_init_103 ?_
  refine s_Mo_init_105 (kn := 1013) (show 12 + 1 ≤ 13 by decide) (show 1080 + 48 ≤ 1128 by decide) (by (try simp (disch := decide) only [va_up_ne]); exact h1013) (by decide) ?_
  refine s_Mo_init_107 (fs := [.int 0, .ref 1001, .ref 1002, .ref 1003, .ref 1004, .ref 1005, .ref 1006, .ref 1007, .ref 1008, .ref 1009, .int 0, .ref 1010, .ref 1011, .int 0, .int 0, .int 0, .int 0, .int 0, .ref 1012, .null]) (by simp (disch := decide) only [va_up_ne, va_up_self]) (Nat.le_of_ble_eq_true rfl) ?_
  rw [show List.set _ 19 (Value.ref 1013) = [.int 0, .ref 1001, .ref 1002, .ref 1003, .ref 1004, .ref 1005, .ref 1006, .ref 1007, .ref 1008, .ref 1009, .int 0, .ref 1010, .ref 1011, .int 0, .int 0, .int 0, .int 0, .int 0, .ref 1012, .ref 1013] from rfl]
  refine s_Mo_init_110 ⟨rfl, ?_⟩ ⟨by decide, by decide⟩
  funext q
  by_cases e1000 : q = 1000
  · subst e1000; rfl
  by_cases e1001 : q = 1001
  · subst e1001; rfl
  by_cases e1002 : q = 1002
  · subst e1002; rfl
  by_cases e1003 : q = 1003
  · subst e1003; rfl
  by_cases e1004 : q = 1004
  · subst e1004; rfl
  by_cases e1005 : q = 1005
  · subst e1005; rfl
  by_cases e1006 : q = 1006
  · subst e1006; rfl
  by_cases e1007 : q = 1007
  · subst e1007; rfl
  by_cases e1008 : q = 1008
  · subst e1008; rfl
  by_cases e1009 : q = 1009
  · subst e1009; rfl
  by_cases e1010 : q = 1010
  · subst e1010; rfl
  by_cases e1011 : q = 1011
  · subst e1011; rfl
  by_cases e1012 : q = 1012
  · subst e1012; rfl
  by_cases e1013 : q = 1013
  · subst e1013; rfl
  unfold hMo
  simp (disch := assumption) only [va_up_ne]
theorem hMo_o {h : HP} {q : Nat} (e1000 : q ≠ 1000) (e1001 : q ≠ 1001) (e1002 : q ≠ 1002) (e1003 : q ≠ 1003) (e1004 : q ≠ 1004) (e1005 : q ≠ 1005) (e1006 : q ≠ 1006) (e1007 : q ≠ 1007) (e1008 : q ≠ 1008) (e1009 : q ≠ 1009) (e1010 : q ≠ 1010) (e1011 : q ≠ 1011) (e1012 : q ≠ 1012) (e1013 : q ≠ 1013) : hMo h q = h q := by
  unfold hMo
  simp (disch := assumption) only [va_up_ne]
theorem stN_o {h : HP} {k q : Nat} (e : ¬ (k ≤ q ∧ q < k + 11)) : stN h k q = h q := if_neg e
def hUm (h : HP) : HP := fun q => if q < 26 then hp zL zI 0 q else h q
set_option maxRecDepth 100000 in
set_option maxHeartbeats 8000000 in
theorem t_Um_init {G : GW} {h : HP} (hk : h 0 = mO 6 [.null, .null, .null, .null, .null, .null, .int 0]) (hf : ∀ q, 1 ≤ q → q ≤ 25 → h q = mF) : mt G M_Um_init 2 25 937 [.ref 0] h (dt none (hUm h)) := by
  refine mt_of_ev (by decide) (Nat.le_of_ble_eq_true rfl) ?_
  show ev G M_Um_init (rmv 2 25 937) (Er M_Um_init _ 25 937) 0 [(0, .ref 0)] [] h 0 0
  refine s_Um_init_0 rfl ?_
  refine s_Um_init_1 (Nat.le_of_ble_eq_true rfl) (Nat.le_of_ble_eq_true rfl) ?_
  refine s_Um_init_4 rfl ?_
  refine s_Um_init_5 (kn := 1) (show 0 + 1 ≤ 25 by decide) (show 0 + 2 ≤ 937 by decide) (by (try simp (disch := decide) only [va_up_ne, va_up_self, hCo_o, hHi_o, hPr_o, hOw_o, hRe_o, stN_o]); exact hf _ (by decide) (by decide)) (by decide) ?_
  refine s_Um_init_8 rfl ?_
  refine s_Um_init_9 (t_Co_init (va_up_self _ _ _) (by (try simp (disch := decide) only [va_up_ne, va_up_self, hCo_o, hHi_o, hPr_o, hOw_o, hRe_o, stN_o]); exact hf _ (by decide) (by decide)) (by (try simp (disch := decide) only [va_up_ne, va_up_self, hCo_o, hHi_o, hPr_o, hOw_o, hRe_o, stN_o]); exact hf _ (by decide) (by decide))) ⟨Nat.le_of_ble_eq_true rfl, Nat.le_of_ble_eq_true rfl⟩ ⟨(show 1 + 2 ≤ 25 by decide), (show 2 + 291 ≤ 937 by decide)⟩ (Nat.le_of_ble_eq_true rfl) ?_
  rintro _ _ ⟨rfl, rfl⟩
  refine s_Um_init_12 (fs := [.null, .null, .null, .null, .null, .null, .int 0]) (by simp (disch := decide) only [va_up_ne, va_up_self, hCo_o, hHi_o, hPr_o, hOw_o, hRe_o, stN_o, hk]) (Nat.le_of_ble_eq_true rfl) ?_
  rw [show List.set _ 0 (Value.ref 1) = [.ref 1, .null, .null, .null, .null, .null, .int 0] from rfl]
  refine s_Um_init_15 rfl ?_
  refine s_Um_init_16 (kn := 4) (show 3 + 1 ≤ 25 by decide) (show 293 + 15 ≤ 937 by decide) (by (try simp (disch := decide) only [va_up_ne, va_up_self, hCo_o, hHi_o, hPr_o, hOw_o, hRe_o, stN_o]); exact hf _ (by decide) (by decide)) (by decide) ?_
  refine s_Um_init_19 rfl ?_
  refine s_Um_init_20 (t_St_init (va_up_self _ _ _) (fun i h1 h2 => by simp (disch := omega) only [va_up_ne, hCo_o]; exact hf _ (by omega) (by omega)) (by decide)) ⟨Nat.le_of_ble_eq_true rfl, Nat.le_of_ble_eq_true rfl⟩ ⟨(show 4 + 10 ≤ 25 by decide), (show 308 + 181 ≤ 937 by decide)⟩ (Nat.le_of_ble_eq_true rfl) ?_
  rintro _ _ ⟨rfl, rfl⟩
  refine s_Um_init_23 (fs := [.ref 1, .null, .null, .null, .null, .null, .int 0]) (by simp (disch := decide) only [va_up_ne, va_up_self, hCo_o, hHi_o, hPr_o, hOw_o, hRe_o, stN_o]) (Nat.le_of_ble_eq_true rfl) ?_
  rw [show List.set _ 1 (Value.ref 4) = [.ref 1, .ref 4, .null, .null, .null, .null, .int 0] from rfl]
  refine s_Um_init_26 rfl ?_
  refine s_Um_init_27 (kn := 15) (show 14 + 1 ≤ 25 by decide) (show 489 + 3 ≤ 937 by decide) (by (try simp (disch := decide) only [va_up_ne, va_up_self, hCo_o, hHi_o, hPr_o, hOw_o, hRe_o, stN_o]); exact hf _ (by decide) (by decide)) (by decide) ?_
  refine s_Um_init_30 rfl ?_
  refine s_Um_init_31 (t_Hi_init (va_up_self _ _ _) (by (try simp (disch := decide) only [va_up_ne, va_up_self, hCo_o, hHi_o, hPr_o, hOw_o, hRe_o, stN_o]); exact hf _ (by decide) (by decide))) ⟨Nat.le_of_ble_eq_true rfl, Nat.le_of_ble_eq_true rfl⟩ ⟨(show 15 + 1 ≤ 25 by decide), (show 492 + 40 ≤ 937 by decide)⟩ (Nat.le_of_ble_eq_true rfl) ?_
  rintro _ _ ⟨rfl, rfl⟩
  refine s_Um_init_34 (fs := [.ref 1, .ref 4, .null, .null, .null, .null, .int 0]) (by simp (disch := decide) only [va_up_ne, va_up_self, hCo_o, hHi_o, hPr_o, hOw_o, hRe_o, stN_o]) (Nat.le_of_ble_eq_true rfl) ?_
  rw [show List.set _ 2 (Value.ref 15) = [.ref 1, .ref 4, .ref 15, .null, .null, .null, .int 0] from rfl]
  refine s_Um_init_37 rfl ?_
  refine s_Um_init_38 (kn := 17) (show 16 + 1 ≤ 25 by decide) (show 532 + 6 ≤ 937 by decide) (by (try simp (disch := decide) only [va_up_ne, va_up_self, hCo_o, hHi_o, hPr_o, hOw_o, hRe_o, stN_o]); exact hf _ (by decide) (by decide)) (by decide) ?_
  refine s_Um_init_41 rfl ?_
  refine s_Um_init_42 rfl ?_
  refine s_Um_init_43 (fs := [.ref 1, .ref 4, .ref 15, .null, .null, .null, .int 0]) (by simp (disch := decide) only [va_up_ne, va_up_self, hCo_o, hHi_o, hPr_o, hOw_o, hRe_o, stN_o]) rfl ?_
  refine s_Um_init_46 rfl ?_
  refine s_Um_init_47 (fs := [.ref 1, .ref 4, .ref 15, .null, .null, .null, .int 0]) (by simp (disch := decide) only [va_up_ne, va_up_self, hCo_o, hHi_o, hPr_o, hOw_o, hRe_o, stN_o]) rfl ?_
  refine s_Um_init_50 (t_Pr_init (va_up_self _ _ _)) ⟨Nat.le_of_ble_eq_true rfl, Nat.le_of_ble_eq_true rfl⟩ ⟨(show 17 + 0 ≤ 25 by decide), (show 538 + 0 ≤ 937 by decide)⟩ (Nat.le_of_ble_eq_true rfl) ?_
  rintro _ _ ⟨rfl, rfl⟩
  refine s_Um_init_53 (fs := [.ref 1, .ref 4, .ref 15, .null, .null, .null, .int 0]) (by simp (disch := decide) only [va_up_ne, va_up_self, hCo_o, hHi_o, hPr_o, hOw_o, hRe_o, stN_o]) (Nat.le_of_ble_eq_true rfl) ?_
  rw [show List.set _ 3 (Value.ref 17) = [.ref 1, .ref 4, .ref 15, .ref 17, .null, .null, .int 0] from rfl]
  refine s_Um_init_56 rfl ?_
  refine s_Um_init_57 (kn := 18) (show 17 + 1 ≤ 25 by decide) (show 538 + 4 ≤ 937 by decide) (by (try simp (disch := decide) only [va_up_ne, va_up_self, hCo_o, hHi_o, hPr_o, hOw_o, hRe_o, stN_o]); exact hf _ (by decide) (by decide)) (by decide) ?_
  refine s_Um_init_60 rfl ?_
  refine s_Um_init_61 rfl ?_
  refine s_Um_init_62 (fs := [.ref 1, .ref 4, .ref 15, .ref 17, .null, .null, .int 0]) (by simp (disch := decide) only [va_up_ne, va_up_self, hCo_o, hHi_o, hPr_o, hOw_o, hRe_o, stN_o]) rfl ?_
  refine s_Um_init_65 (t_Ow_init (va_up_self _ _ _) (by (try simp (disch := decide) only [va_up_ne, va_up_self, hCo_o, hHi_o, hPr_o, hOw_o, hRe_o, stN_o]); exact hf _ (by decide) (by decide)) (by (try simp (disch := decide) only [va_up_ne, va_up_self, hCo_o, hHi_o, hPr_o, hOw_o, hRe_o, stN_o]); exact hf _ (by decide) (by decide)) (by (try simp (disch := decide) only [va_up_ne, va_up_self, hCo_o, hHi_o, hPr_o, hOw_o, hRe_o, stN_o]); exact hf _ (by decide) (by decide))) ⟨Nat.le_of_ble_eq_true rfl, Nat.le_of_ble_eq_true rfl⟩ ⟨(show 18 + 3 ≤ 25 by decide), (show 542 + 246 ≤ 937 by decide)⟩ (Nat.le_of_ble_eq_true rfl) ?_
  rintro _ _ ⟨rfl, rfl⟩
  refine s_Um_init_68 (fs := [.ref 1, .ref 4, .ref 15, .ref 17, .null, .null, .int 0]) (by simp (disch := decide) only [va_up_ne, va_up_self, hCo_o, hHi_o, hPr_o, hOw_o, hRe_o, stN_o]) (Nat.le_of_ble_eq_true rfl) ?_
  rw [show List.set _ 4 (Value.ref 18) = [.ref 1, .ref 4, .ref 15, .ref 17, .ref 18, .null, .int 0] from rfl]
  refine s_Um_init_71 rfl ?_
  refine s_Um_init_72 (kn := 22) (show 21 + 1 ≤ 25 by decide) (show 788 + 5 ≤ 937 by decide) (by (try simp (disch := decide) only [va_up_ne, va_up_self, hCo_o, hHi_o, hPr_o, hOw_o, hRe_o, stN_o]); exact hf _ (by decide) (by decide)) (by decide) ?_
  refine s_Um_init_75 rfl ?_
  refine s_Um_init_76 rfl ?_
  refine s_Um_init_77 (fs := [.ref 1, .ref 4, .ref 15, .ref 17, .ref 18, .null, .int 0]) (by simp (disch := decide) only [va_up_ne, va_up_self, hCo_o, hHi_o, hPr_o, hOw_o, hRe_o, stN_o]) rfl ?_
  refine s_Um_init_80 (t_Re_init (va_up_self _ _ _) (by (try simp (disch := decide) only [va_up_ne, va_up_self, hCo_o, hHi_o, hPr_o, hOw_o, hRe_o, stN_o]); exact hf _ (by decide) (by decide)) (by (try simp (disch := decide) only [va_up_ne, va_up_self, hCo_o, hHi_o, hPr_o, hOw_o, hRe_o, stN_o]); exact hf _ (by decide) (by decide)) (by (try simp (disch := decide) only [va_up_ne, va_up_self, hCo_o, hHi_o, hPr_o, hOw_o, hRe_o, stN_o]); exact hf _ (by decide) (by decide))) ⟨Nat.le_of_ble_eq_true rfl, Nat.le_of_ble_eq_true rfl⟩ ⟨(show 22 + 3 ≤ 25 by decide), (show 793 + 144 ≤ 937 by decide)⟩ (Nat.le_of_ble_eq_true rfl) ?_
  rintro _ _ ⟨rfl, rfl⟩
  refine s_Um_init_83 (fs := [.ref 1, .ref 4, .ref 15, .ref 17, .ref 18, .null, .int 0]) (by simp (disch := decide) only [va_up_ne, va_up_self, hCo_o, hHi_o, hPr_o, hOw_o, hRe_o, stN_o]) (Nat.le_of_ble_eq_true rfl) ?_
  rw [show List.set _ 5 (Value.ref 22) = [.ref 1, .ref 4, .ref 15, .ref 17, .ref 18, .ref 22, .int 0] from rfl]
  refine s_Um_init_86 rfl ?_
  refine s_Um_init_87 ?_
  refine s_Um_init_88 (fs := [.ref 1, .ref 4, .ref 15, .ref 17, .ref 18, .ref 22, .int 0]) (by simp (disch := decide) only [va_up_ne, va_up_self, hCo_o, hHi_o, hPr_o, hOw_o, hRe_o, stN_o]) (Nat.le_of_ble_eq_true rfl) (Or.inl rfl) ?_
  rw [show List.set _ 6 (Value.int 0) = [.ref 1, .ref 4, .ref 15, .ref 17, .ref 18, .ref 22, .int 0] from rfl]
  refine s_Um_init_91 ⟨rfl, ?_⟩ ⟨by decide, by decide⟩
  funext q
  by_cases hq : q < 26
  · rcases (by omega : q = 0 ∨ q = 1 ∨ q = 2 ∨ q = 3 ∨ q = 4 ∨ q = 5 ∨ q = 6 ∨ q = 7 ∨ q = 8 ∨ q = 9 ∨ q = 10 ∨ q = 11 ∨ q = 12 ∨ q = 13 ∨ q = 14 ∨ q = 15 ∨ q = 16 ∨ q = 17 ∨ q = 18 ∨ q = 19 ∨ q = 20 ∨ q = 21 ∨ q = 22 ∨ q = 23 ∨ q = 24 ∨ q = 25) with rfl | rfl | rfl | rfl | rfl | rfl | rfl | rfl | rfl | rfl | rfl | rfl | rfl | rfl | rfl | rfl | rfl | rfl | rfl | rfl | rfl | rfl | rfl | rfl | rfl | rfl <;> rfl
  · simp (disch := omega) only [va_up_ne, va_up_self, hCo_o, hHi_o, hPr_o, hOw_o, hRe_o, stN_o]
    exact (if_neg hq).symm
theorem start_hp : hMo (va_up (hUm (va_up (fun _ => mF) 0 (mO 6 [.null, .null, .null, .null, .null, .null, .int 0]))) 1000 (mO 7 [.int 0, .null, .null, .null, .null, .null, .null, .null, .null, .null, .int 0, .null, .null, .int 0, .int 0, .int 0, .int 0, .int 0, .null, .null])) = hp zL zI 0 := by
  funext q
  by_cases h1 : q < 26
  · rw [hMo_o (by omega) (by omega) (by omega) (by omega) (by omega) (by omega) (by omega) (by omega) (by omega) (by omega) (by omega) (by omega) (by omega) (by omega), va_up_ne _ _ (by omega)]
    exact if_pos h1
  · by_cases h2 : 1000 ≤ q ∧ q ≤ 1013
    · rcases (by omega : q = 1000 ∨ q = 1001 ∨ q = 1002 ∨ q = 1003 ∨ q = 1004 ∨ q = 1005 ∨ q = 1006 ∨ q = 1007 ∨ q = 1008 ∨ q = 1009 ∨ q = 1010 ∨ q = 1011 ∨ q = 1012 ∨ q = 1013) with rfl | rfl | rfl | rfl | rfl | rfl | rfl | rfl | rfl | rfl | rfl | rfl | rfl | rfl <;> rfl
    · rw [hMo_o (by omega) (by omega) (by omega) (by omega) (by omega) (by omega) (by omega) (by omega) (by omega) (by omega) (by omega) (by omega) (by omega) (by omega), va_up_ne _ _ (by omega)]
      unfold hUm
      rw [if_neg h1, va_up_ne _ _ (by omega)]
      unfold hp
      by_cases h3 : 1000 ≤ q
      · rw [if_pos h3]
        obtain ⟨x, rfl⟩ : ∃ x, q = 1014 + x := ⟨q - 1014, by omega⟩
        rw [show 1014 + x - 1000 = x + 14 by omega]; rfl
      · rw [if_neg h3, if_neg h1, if_neg (by omega)]

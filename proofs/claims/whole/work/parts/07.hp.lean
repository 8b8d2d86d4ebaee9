/-! the heap of the class (ids 0 ..), of the rows of its history (26 + 11 j ..), of the reference (1000 ..), by what their cells hold: L for arrays of longs, I for arrays of ints and for the int fields of objects, each by its cell's id -/
abbrev LT : Type := Nat → Nat → Int64
abbrev IT : Type := Nat → Nat → Int32
def rg (r : Nat) : Nat → Option Nat := fun j => if j < r then some (26 + 11 * j) else none
def fxc (r : Nat) (lk : Nat → Int64) (ik : Nat → Int32) (k : Nat) : MC := match k with
  | 0 => mO 6 [.ref 1, .ref 4, .ref 15, .ref 17, .ref 18, .ref 22, .int (ik 6)]
  | 1 => mO 0 [.ref 2, .ref 3]
  | 2 => mI 0 288 ik
  | 3 => mI 0 3 ik
  | 4 => mO 5 [.ref 5, .ref 6, .ref 7, .ref 8, .ref 9, .ref 10, .ref 11, .ref 12, .ref 13, .ref 14, .int (ik 10), .int (ik 11), .int (ik 12), .int (ik 13), .int (ik 14)]
  | 5 => mL 1 102 lk
  | 6 => mL 1 35 lk
  | 7 => mI 0 6 ik
  | 8 => mI 0 6 ik
  | 9 => mI 0 6 ik
  | 10 => mI 0 6 ik
  | 11 => mI 0 5 ik
  | 12 => mI 0 5 ik
  | 13 => mI 0 5 ik
  | 14 => mI 0 5 ik
  | 15 => mO 1 [.ref 16, .int (ik 1), .int (ik 2)]
  | 16 => mR 3 40 (rg r)
  | 17 => mO 3 [.ref 1, .ref 4, .int (ik 2), .int (ik 3), .int (ik 4), .int (ik 5)]
  | 18 => mO 2 [.ref 4, .ref 19, .ref 20, .ref 21]
  | 19 => mI 0 192 ik
  | 20 => mI 0 48 ik
  | 21 => mI 0 6 ik
  | 22 => mO 4 [.ref 4, .ref 23, .ref 24, .ref 25, .int (ik 4)]
  | 23 => mI 2 48 ik
  | 24 => mI 2 48 ik
  | 25 => mI 0 48 ik
  | _ => mF
def stc (o : Nat) (lk : Nat → Int64) (ik : Nat → Int32) (i : Nat) : MC := match i with
  | 0 => mO 5 [.ref (o + 1), .ref (o + 2), .ref (o + 3), .ref (o + 4), .ref (o + 5), .ref (o + 6), .ref (o + 7), .ref (o + 8), .ref (o + 9), .ref (o + 10), .int (ik 10), .int (ik 11), .int (ik 12), .int (ik 13), .int (ik 14)]
  | 1 => mL 1 102 lk
  | 2 => mL 1 35 lk
  | 3 => mI 0 6 ik
  | 4 => mI 0 6 ik
  | 5 => mI 0 6 ik
  | 6 => mI 0 6 ik
  | 7 => mI 0 5 ik
  | 8 => mI 0 5 ik
  | 9 => mI 0 5 ik
  | 10 => mI 0 5 ik
  | _ => mF
def moc (ik : Nat → Int32) (k : Nat) : MC := match k with
  | 0 => mO 7 [.int (ik 0), .ref 1001, .ref 1002, .ref 1003, .ref 1004, .ref 1005, .ref 1006, .ref 1007, .ref 1008, .ref 1009, .int (ik 10), .ref 1010, .ref 1011, .int (ik 13), .int (ik 14), .int (ik 15), .int (ik 16), .int (ik 17), .ref 1012, .ref 1013]
  | 1 => mI 0 3 ik
  | 2 => mI 0 288 ik
  | 3 => mI 0 510 ik
  | 4 => mI 0 6 ik
  | 5 => mI 0 6 ik
  | 6 => mI 0 6 ik
  | 7 => mI 0 6 ik
  | 8 => mI 0 6 ik
  | 9 => mI 0 6 ik
  | 10 => mI 0 20 ik
  | 11 => mI 0 175 ik
  | 12 => mI 2 48 ik
  | 13 => mI 2 48 ik
  | _ => mF
def hp (L : LT) (I : IT) (r : Nat) : HP := fun k => if 1000 ≤ k then moc (I k) (k - 1000) else if k < 26 then fxc r (L k) (I k) k else if k < 26 + 11 * r then stc (k - (k - 26) % 11) (L k) (I k) ((k - 26) % 11) else mF
section HPS
variable {L L' : LT} {I I' : IT} {r : Nat}
theorem hp_congr {k : Nat} (hL : L k = L' k) (hI : I k = I' k) : hp L I r k = hp L' I' r k := by simp only [hp, hL, hI]
theorem hp_set {k : Nat} {c : MC} {f : Nat → Int32} (hc : c = hp L (va_up I k f) r k) : va_up (hp L I r) k c = hp L (va_up I k f) r := by
  funext j
  by_cases e : j = k
  · subst e; rw [va_up_self, hc]
  · rw [va_up_ne _ _ e]; exact hp_congr rfl (va_up_ne _ _ e).symm
theorem hp_setL {k : Nat} {c : MC} {f : Nat → Int64} (hc : c = hp (va_up L k f) I r k) : va_up (hp L I r) k c = hp (va_up L k f) I r := by
  funext j
  by_cases e : j = k
  · subst e; rw [va_up_self, hc]
  · rw [va_up_ne _ _ e]; exact hp_congr (va_up_ne _ _ e).symm rfl
theorem hp_0 : hp L I r 0 = mO 6 [.ref 1, .ref 4, .ref 15, .ref 17, .ref 18, .ref 22, .int (I 0 6)] := rfl
theorem hu_0_6 {x : Int32} : va_up (hp L I r) 0 (mO 6 (List.set [.ref 1, .ref 4, .ref 15, .ref 17, .ref 18, .ref 22, .int (I 0 6)] 6 (.int x))) = hp L (va_up I 0 (upd (I 0) 6 x)) r := hp_set rfl
theorem hp_1 : hp L I r 1 = mO 0 [.ref 2, .ref 3] := rfl
theorem hp_2 : hp L I r 2 = mI 0 288 (I 2) := rfl
theorem hu_2 {f : Nat → Int32} : va_up (hp L I r) 2 (mI 0 288 f) = hp L (va_up I 2 f) r := hp_set (by show _ = mI 0 288 (va_up I 2 f 2); rw [va_up_self])
theorem hp_3 : hp L I r 3 = mI 0 3 (I 3) := rfl
theorem hu_3 {f : Nat → Int32} : va_up (hp L I r) 3 (mI 0 3 f) = hp L (va_up I 3 f) r := hp_set (by show _ = mI 0 3 (va_up I 3 f 3); rw [va_up_self])
theorem hp_4 : hp L I r 4 = mO 5 [.ref 5, .ref 6, .ref 7, .ref 8, .ref 9, .ref 10, .ref 11, .ref 12, .ref 13, .ref 14, .int (I 4 10), .int (I 4 11), .int (I 4 12), .int (I 4 13), .int (I 4 14)] := rfl
theorem hu_4_10 {x : Int32} : va_up (hp L I r) 4 (mO 5 (List.set [.ref 5, .ref 6, .ref 7, .ref 8, .ref 9, .ref 10, .ref 11, .ref 12, .ref 13, .ref 14, .int (I 4 10), .int (I 4 11), .int (I 4 12), .int (I 4 13), .int (I 4 14)] 10 (.int x))) = hp L (va_up I 4 (upd (I 4) 10 x)) r := hp_set rfl
theorem hu_4_11 {x : Int32} : va_up (hp L I r) 4 (mO 5 (List.set [.ref 5, .ref 6, .ref 7, .ref 8, .ref 9, .ref 10, .ref 11, .ref 12, .ref 13, .ref 14, .int (I 4 10), .int (I 4 11), .int (I 4 12), .int (I 4 13), .int (I 4 14)] 11 (.int x))) = hp L (va_up I 4 (upd (I 4) 11 x)) r := hp_set rfl
theorem hu_4_12 {x : Int32} : va_up (hp L I r) 4 (mO 5 (List.set [.ref 5, .ref 6, .ref 7, .ref 8, .ref 9, .ref 10, .ref 11, .ref 12, .ref 13, .ref 14, .int (I 4 10), .int (I 4 11), .int (I 4 12), .int (I 4 13), .int (I 4 14)] 12 (.int x))) = hp L (va_up I 4 (upd (I 4) 12 x)) r := hp_set rfl
theorem hu_4_13 {x : Int32} : va_up (hp L I r) 4 (mO 5 (List.set [.ref 5, .ref 6, .ref 7, .ref 8, .ref 9, .ref 10, .ref 11, .ref 12, .ref 13, .ref 14, .int (I 4 10), .int (I 4 11), .int (I 4 12), .int (I 4 13), .int (I 4 14)] 13 (.int x))) = hp L (va_up I 4 (upd (I 4) 13 x)) r := hp_set rfl
theorem hu_4_14 {x : Int32} : va_up (hp L I r) 4 (mO 5 (List.set [.ref 5, .ref 6, .ref 7, .ref 8, .ref 9, .ref 10, .ref 11, .ref 12, .ref 13, .ref 14, .int (I 4 10), .int (I 4 11), .int (I 4 12), .int (I 4 13), .int (I 4 14)] 14 (.int x))) = hp L (va_up I 4 (upd (I 4) 14 x)) r := hp_set rfl
theorem hp_5 : hp L I r 5 = mL 1 102 (L 5) := rfl
theorem hu_5 {f : Nat → Int64} : va_up (hp L I r) 5 (mL 1 102 f) = hp (va_up L 5 f) I r := hp_setL (by show _ = mL 1 102 (va_up L 5 f 5); rw [va_up_self])
theorem hp_6 : hp L I r 6 = mL 1 35 (L 6) := rfl
theorem hu_6 {f : Nat → Int64} : va_up (hp L I r) 6 (mL 1 35 f) = hp (va_up L 6 f) I r := hp_setL (by show _ = mL 1 35 (va_up L 6 f 6); rw [va_up_self])
theorem hp_7 : hp L I r 7 = mI 0 6 (I 7) := rfl
theorem hu_7 {f : Nat → Int32} : va_up (hp L I r) 7 (mI 0 6 f) = hp L (va_up I 7 f) r := hp_set (by show _ = mI 0 6 (va_up I 7 f 7); rw [va_up_self])
theorem hp_8 : hp L I r 8 = mI 0 6 (I 8) := rfl
theorem hu_8 {f : Nat → Int32} : va_up (hp L I r) 8 (mI 0 6 f) = hp L (va_up I 8 f) r := hp_set (by show _ = mI 0 6 (va_up I 8 f 8); rw [va_up_self])
theorem hp_9 : hp L I r 9 = mI 0 6 (I 9) := rfl
theorem hu_9 {f : Nat → Int32} : va_up (hp L I r) 9 (mI 0 6 f) = hp L (va_up I 9 f) r := hp_set (by show _ = mI 0 6 (va_up I 9 f 9); rw [va_up_self])
theorem hp_10 : hp L I r 10 = mI 0 6 (I 10) := rfl
theorem hu_10 {f : Nat → Int32} : va_up (hp L I r) 10 (mI 0 6 f) = hp L (va_up I 10 f) r := hp_set (by show _ = mI 0 6 (va_up I 10 f 10); rw [va_up_self])
theorem hp_11 : hp L I r 11 = mI 0 5 (I 11) := rfl
theorem hu_11 {f : Nat → Int32} : va_up (hp L I r) 11 (mI 0 5 f) = hp L (va_up I 11 f) r := hp_set (by show _ = mI 0 5 (va_up I 11 f 11); rw [va_up_self])
theorem hp_12 : hp L I r 12 = mI 0 5 (I 12) := rfl
theorem hu_12 {f : Nat → Int32} : va_up (hp L I r) 12 (mI 0 5 f) = hp L (va_up I 12 f) r := hp_set (by show _ = mI 0 5 (va_up I 12 f 12); rw [va_up_self])
theorem hp_13 : hp L I r 13 = mI 0 5 (I 13) := rfl
theorem hu_13 {f : Nat → Int32} : va_up (hp L I r) 13 (mI 0 5 f) = hp L (va_up I 13 f) r := hp_set (by show _ = mI 0 5 (va_up I 13 f 13); rw [va_up_self])
theorem hp_14 : hp L I r 14 = mI 0 5 (I 14) := rfl
theorem hu_14 {f : Nat → Int32} : va_up (hp L I r) 14 (mI 0 5 f) = hp L (va_up I 14 f) r := hp_set (by show _ = mI 0 5 (va_up I 14 f 14); rw [va_up_self])
theorem hp_15 : hp L I r 15 = mO 1 [.ref 16, .int (I 15 1), .int (I 15 2)] := rfl
theorem hu_15_1 {x : Int32} : va_up (hp L I r) 15 (mO 1 (List.set [.ref 16, .int (I 15 1), .int (I 15 2)] 1 (.int x))) = hp L (va_up I 15 (upd (I 15) 1 x)) r := hp_set rfl
theorem hu_15_2 {x : Int32} : va_up (hp L I r) 15 (mO 1 (List.set [.ref 16, .int (I 15 1), .int (I 15 2)] 2 (.int x))) = hp L (va_up I 15 (upd (I 15) 2 x)) r := hp_set rfl
theorem hp_16 : hp L I r 16 = mR 3 40 (rg r) := rfl
theorem hp_17 : hp L I r 17 = mO 3 [.ref 1, .ref 4, .int (I 17 2), .int (I 17 3), .int (I 17 4), .int (I 17 5)] := rfl
theorem hu_17_2 {x : Int32} : va_up (hp L I r) 17 (mO 3 (List.set [.ref 1, .ref 4, .int (I 17 2), .int (I 17 3), .int (I 17 4), .int (I 17 5)] 2 (.int x))) = hp L (va_up I 17 (upd (I 17) 2 x)) r := hp_set rfl
theorem hu_17_3 {x : Int32} : va_up (hp L I r) 17 (mO 3 (List.set [.ref 1, .ref 4, .int (I 17 2), .int (I 17 3), .int (I 17 4), .int (I 17 5)] 3 (.int x))) = hp L (va_up I 17 (upd (I 17) 3 x)) r := hp_set rfl
theorem hu_17_4 {x : Int32} : va_up (hp L I r) 17 (mO 3 (List.set [.ref 1, .ref 4, .int (I 17 2), .int (I 17 3), .int (I 17 4), .int (I 17 5)] 4 (.int x))) = hp L (va_up I 17 (upd (I 17) 4 x)) r := hp_set rfl
theorem hu_17_5 {x : Int32} : va_up (hp L I r) 17 (mO 3 (List.set [.ref 1, .ref 4, .int (I 17 2), .int (I 17 3), .int (I 17 4), .int (I 17 5)] 5 (.int x))) = hp L (va_up I 17 (upd (I 17) 5 x)) r := hp_set rfl
theorem hp_18 : hp L I r 18 = mO 2 [.ref 4, .ref 19, .ref 20, .ref 21] := rfl
theorem hp_19 : hp L I r 19 = mI 0 192 (I 19) := rfl
theorem hu_19 {f : Nat → Int32} : va_up (hp L I r) 19 (mI 0 192 f) = hp L (va_up I 19 f) r := hp_set (by show _ = mI 0 192 (va_up I 19 f 19); rw [va_up_self])
theorem hp_20 : hp L I r 20 = mI 0 48 (I 20) := rfl
theorem hu_20 {f : Nat → Int32} : va_up (hp L I r) 20 (mI 0 48 f) = hp L (va_up I 20 f) r := hp_set (by show _ = mI 0 48 (va_up I 20 f 20); rw [va_up_self])
theorem hp_21 : hp L I r 21 = mI 0 6 (I 21) := rfl
theorem hu_21 {f : Nat → Int32} : va_up (hp L I r) 21 (mI 0 6 f) = hp L (va_up I 21 f) r := hp_set (by show _ = mI 0 6 (va_up I 21 f 21); rw [va_up_self])
theorem hp_22 : hp L I r 22 = mO 4 [.ref 4, .ref 23, .ref 24, .ref 25, .int (I 22 4)] := rfl
theorem hu_22_4 {x : Int32} : va_up (hp L I r) 22 (mO 4 (List.set [.ref 4, .ref 23, .ref 24, .ref 25, .int (I 22 4)] 4 (.int x))) = hp L (va_up I 22 (upd (I 22) 4 x)) r := hp_set rfl
theorem hp_23 : hp L I r 23 = mI 2 48 (I 23) := rfl
theorem hu_23 {f : Nat → Int32} : va_up (hp L I r) 23 (mI 2 48 f) = hp L (va_up I 23 f) r := hp_set (by show _ = mI 2 48 (va_up I 23 f 23); rw [va_up_self])
theorem hp_24 : hp L I r 24 = mI 2 48 (I 24) := rfl
theorem hu_24 {f : Nat → Int32} : va_up (hp L I r) 24 (mI 2 48 f) = hp L (va_up I 24 f) r := hp_set (by show _ = mI 2 48 (va_up I 24 f 24); rw [va_up_self])
theorem hp_25 : hp L I r 25 = mI 0 48 (I 25) := rfl
theorem hu_25 {f : Nat → Int32} : va_up (hp L I r) 25 (mI 0 48 f) = hp L (va_up I 25 f) r := hp_set (by show _ = mI 0 48 (va_up I 25 f 25); rw [va_up_self])
theorem hp_1000 : hp L I r 1000 = mO 7 [.int (I 1000 0), .ref 1001, .ref 1002, .ref 1003, .ref 1004, .ref 1005, .ref 1006, .ref 1007, .ref 1008, .ref 1009, .int (I 1000 10), .ref 1010, .ref 1011, .int (I 1000 13), .int (I 1000 14), .int (I 1000 15), .int (I 1000 16), .int (I 1000 17), .ref 1012, .ref 1013] := rfl
theorem hu_1000_0 {x : Int32} : va_up (hp L I r) 1000 (mO 7 (List.set [.int (I 1000 0), .ref 1001, .ref 1002, .ref 1003, .ref 1004, .ref 1005, .ref 1006, .ref 1007, .ref 1008, .ref 1009, .int (I 1000 10), .ref 1010, .ref 1011, .int (I 1000 13), .int (I 1000 14), .int (I 1000 15), .int (I 1000 16), .int (I 1000 17), .ref 1012, .ref 1013] 0 (.int x))) = hp L (va_up I 1000 (upd (I 1000) 0 x)) r := hp_set rfl
theorem hu_1000_10 {x : Int32} : va_up (hp L I r) 1000 (mO 7 (List.set [.int (I 1000 0), .ref 1001, .ref 1002, .ref 1003, .ref 1004, .ref 1005, .ref 1006, .ref 1007, .ref 1008, .ref 1009, .int (I 1000 10), .ref 1010, .ref 1011, .int (I 1000 13), .int (I 1000 14), .int (I 1000 15), .int (I 1000 16), .int (I 1000 17), .ref 1012, .ref 1013] 10 (.int x))) = hp L (va_up I 1000 (upd (I 1000) 10 x)) r := hp_set rfl
theorem hu_1000_13 {x : Int32} : va_up (hp L I r) 1000 (mO 7 (List.set [.int (I 1000 0), .ref 1001, .ref 1002, .ref 1003, .ref 1004, .ref 1005, .ref 1006, .ref 1007, .ref 1008, .ref 1009, .int (I 1000 10), .ref 1010, .ref 1011, .int (I 1000 13), .int (I 1000 14), .int (I 1000 15), .int (I 1000 16), .int (I 1000 17), .ref 1012, .ref 1013] 13 (.int x))) = hp L (va_up I 1000 (upd (I 1000) 13 x)) r := hp_set rfl
theorem hu_1000_14 {x : Int32} : va_up (hp L I r) 1000 (mO 7 (List.set [.int (I 1000 0), .ref 1001, .ref 1002, .ref 1003, .ref 1004, .ref 1005, .ref 1006, .ref 1007, .ref 1008, .ref 1009, .int (I 1000 10), .ref 1010, .ref 1011, .int (I 1000 13), .int (I 1000 14), .int (I 1000 15), .int (I 1000 16), .int (I 1000 17), .ref 1012, .ref 1013] 14 (.int x))) = hp L (va_up I 1000 (upd (I 1000) 14 x)) r := hp_set rfl
theorem hu_1000_15 {x : Int32} : va_up (hp L I r) 1000 (mO 7 (List.set [.int (I 1000 0), .ref 1001, .ref 1002, .ref 1003, .ref 1004, .ref 1005, .ref 1006, .ref 1007, .ref 1008, .ref 1009, .int (I 1000 10), .ref 1010, .ref 1011, .int (I 1000 13), .int (I 1000 14), .int (I 1000 15), .int (I 1000 16), .int (I 1000 17), .ref 1012, .ref 1013] 15 (.int x))) = hp L (va_up I 1000 (upd (I 1000) 15 x)) r := hp_set rfl
theorem hu_1000_16 {x : Int32} : va_up (hp L I r) 1000 (mO 7 (List.set [.int (I 1000 0), .ref 1001, .ref 1002, .ref 1003, .ref 1004, .ref 1005, .ref 1006, .ref 1007, .ref 1008, .ref 1009, .int (I 1000 10), .ref 1010, .ref 1011, .int (I 1000 13), .int (I 1000 14), .int (I 1000 15), .int (I 1000 16), .int (I 1000 17), .ref 1012, .ref 1013] 16 (.int x))) = hp L (va_up I 1000 (upd (I 1000) 16 x)) r := hp_set rfl
theorem hu_1000_17 {x : Int32} : va_up (hp L I r) 1000 (mO 7 (List.set [.int (I 1000 0), .ref 1001, .ref 1002, .ref 1003, .ref 1004, .ref 1005, .ref 1006, .ref 1007, .ref 1008, .ref 1009, .int (I 1000 10), .ref 1010, .ref 1011, .int (I 1000 13), .int (I 1000 14), .int (I 1000 15), .int (I 1000 16), .int (I 1000 17), .ref 1012, .ref 1013] 17 (.int x))) = hp L (va_up I 1000 (upd (I 1000) 17 x)) r := hp_set rfl
theorem hp_1001 : hp L I r 1001 = mI 0 3 (I 1001) := rfl
theorem hu_1001 {f : Nat → Int32} : va_up (hp L I r) 1001 (mI 0 3 f) = hp L (va_up I 1001 f) r := hp_set (by show _ = mI 0 3 (va_up I 1001 f 1001); rw [va_up_self])
theorem hp_1002 : hp L I r 1002 = mI 0 288 (I 1002) := rfl
theorem hu_1002 {f : Nat → Int32} : va_up (hp L I r) 1002 (mI 0 288 f) = hp L (va_up I 1002 f) r := hp_set (by show _ = mI 0 288 (va_up I 1002 f 1002); rw [va_up_self])
theorem hp_1003 : hp L I r 1003 = mI 0 510 (I 1003) := rfl
theorem hu_1003 {f : Nat → Int32} : va_up (hp L I r) 1003 (mI 0 510 f) = hp L (va_up I 1003 f) r := hp_set (by show _ = mI 0 510 (va_up I 1003 f 1003); rw [va_up_self])
theorem hp_1004 : hp L I r 1004 = mI 0 6 (I 1004) := rfl
theorem hu_1004 {f : Nat → Int32} : va_up (hp L I r) 1004 (mI 0 6 f) = hp L (va_up I 1004 f) r := hp_set (by show _ = mI 0 6 (va_up I 1004 f 1004); rw [va_up_self])
theorem hp_1005 : hp L I r 1005 = mI 0 6 (I 1005) := rfl
theorem hu_1005 {f : Nat → Int32} : va_up (hp L I r) 1005 (mI 0 6 f) = hp L (va_up I 1005 f) r := hp_set (by show _ = mI 0 6 (va_up I 1005 f 1005); rw [va_up_self])
theorem hp_1006 : hp L I r 1006 = mI 0 6 (I 1006) := rfl
theorem hu_1006 {f : Nat → Int32} : va_up (hp L I r) 1006 (mI 0 6 f) = hp L (va_up I 1006 f) r := hp_set (by show _ = mI 0 6 (va_up I 1006 f 1006); rw [va_up_self])
theorem hp_1007 : hp L I r 1007 = mI 0 6 (I 1007) := rfl
theorem hu_1007 {f : Nat → Int32} : va_up (hp L I r) 1007 (mI 0 6 f) = hp L (va_up I 1007 f) r := hp_set (by show _ = mI 0 6 (va_up I 1007 f 1007); rw [va_up_self])
theorem hp_1008 : hp L I r 1008 = mI 0 6 (I 1008) := rfl
theorem hu_1008 {f : Nat → Int32} : va_up (hp L I r) 1008 (mI 0 6 f) = hp L (va_up I 1008 f) r := hp_set (by show _ = mI 0 6 (va_up I 1008 f 1008); rw [va_up_self])
theorem hp_1009 : hp L I r 1009 = mI 0 6 (I 1009) := rfl
theorem hu_1009 {f : Nat → Int32} : va_up (hp L I r) 1009 (mI 0 6 f) = hp L (va_up I 1009 f) r := hp_set (by show _ = mI 0 6 (va_up I 1009 f 1009); rw [va_up_self])
theorem hp_1010 : hp L I r 1010 = mI 0 20 (I 1010) := rfl
theorem hu_1010 {f : Nat → Int32} : va_up (hp L I r) 1010 (mI 0 20 f) = hp L (va_up I 1010 f) r := hp_set (by show _ = mI 0 20 (va_up I 1010 f 1010); rw [va_up_self])
theorem hp_1011 : hp L I r 1011 = mI 0 175 (I 1011) := rfl
theorem hu_1011 {f : Nat → Int32} : va_up (hp L I r) 1011 (mI 0 175 f) = hp L (va_up I 1011 f) r := hp_set (by show _ = mI 0 175 (va_up I 1011 f 1011); rw [va_up_self])
theorem hp_1012 : hp L I r 1012 = mI 2 48 (I 1012) := rfl
theorem hu_1012 {f : Nat → Int32} : va_up (hp L I r) 1012 (mI 2 48 f) = hp L (va_up I 1012 f) r := hp_set (by show _ = mI 2 48 (va_up I 1012 f 1012); rw [va_up_self])
theorem hp_1013 : hp L I r 1013 = mI 2 48 (I 1013) := rfl
theorem hu_1013 {f : Nat → Int32} : va_up (hp L I r) 1013 (mI 2 48 f) = hp L (va_up I 1013 f) r := hp_set (by show _ = mI 2 48 (va_up I 1013 f 1013); rw [va_up_self])
end HPS
/-- a contract that says just what comes -/
def dt (r : Option Value) (H : HP) : Option Value → HP → Prop := fun r' h' => r' = r ∧ h' = H
theorem dt_i {r : Option Value} {H : HP} : dt r H r H := ⟨rfl, rfl⟩
theorem z0 : 0 ≤ 0 ∧ 0 ≤ 0 := ⟨Nat.le_refl _, Nat.le_refl _⟩

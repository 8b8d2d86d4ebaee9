/-! written by gen_sites.py: the decode rows, and one rule a place (method, pc) -/

section SITES
variable {G : GW} {R : Room} {E : Nat → LV → List Value → HP → Nat → Nat → Prop} {lv : LV} {rest : List Value} {h : HP} {cells slots : Nat}
abbrev M_Mo_init : MW := (⟨"UseOnceMachineModel", "<init>", "()V"⟩, prog_10_method_1_code, 1, none)
theorem hy_Mo_init : M_Mo_init.1.cls ≠ "java/lang/invoke/MethodHandle" ∧ M_Mo_init.1.cls ≠ "java/lang/invoke/VarHandle" ∧ (parseMethodDescriptor M_Mo_init.1.desc).map (fun d => d.parameters.length) = some 0 := by decide +kernel
theorem d_Mo_init_0 : decode prog_10_method_1_code 0 = .ok (.aload_n 0, 1) := by decide +kernel
theorem s_Mo_init_0 {x : Nat} (hl : lg lv 0 = some (.ref x)) (k : ev G M_Mo_init R E 1 lv (.ref x :: rest) h cells slots) : ev G M_Mo_init R E 0 lv rest h cells slots := ev_aload_n d_Mo_init_0 rfl hl k
theorem d_Mo_init_1 : decode prog_10_method_1_code 1 = .ok (.invokespecial 1, 3) := by decide +kernel
theorem s_Mo_init_1 {b : Nat} (hfr : 1 ≤ R.frames) (hlo : (rest.map fun v => v.category).sum + 12 ≤ R.locals) (k : ev G M_Mo_init R E 4 lv rest h cells slots) : ev G M_Mo_init R E 1 lv (.ref b :: rest) h cells slots := ev_objInit d_Mo_init_1 w_703 w_82 w_83 hfr hlo k
theorem d_Mo_init_4 : decode prog_10_method_1_code 4 = .ok (.aload_n 0, 1) := by decide +kernel
theorem s_Mo_init_4 {x : Nat} (hl : lg lv 0 = some (.ref x)) (k : ev G M_Mo_init R E 5 lv (.ref x :: rest) h cells slots) : ev G M_Mo_init R E 4 lv rest h cells slots := ev_aload_n d_Mo_init_4 rfl hl k
theorem d_Mo_init_5 : decode prog_10_method_1_code 5 = .ok (.iconst 3, 1) := by decide +kernel
theorem s_Mo_init_5  (k : ev G M_Mo_init R E 6 lv (.int 3 :: rest) h cells slots) : ev G M_Mo_init R E 5 lv rest h cells slots := ev_iconst d_Mo_init_5 (by decide) k
theorem d_Mo_init_6 : decode prog_10_method_1_code 6 = .ok (.newarray .int, 2) := by decide +kernel
theorem s_Mo_init_6 {kn : Nat} (hcl : cells + 1 ≤ R.cells) (hsl : slots + 3 ≤ R.slots) (hf : h kn = mF) (hk : kn < tB) (k : ev G M_Mo_init R E 8 lv (.ref kn :: rest) (va_up h kn (mI 0 3 (fun _ => 0))) (cells + 1) (slots + 3)) : ev G M_Mo_init R E 6 lv (.int 3 :: rest) h cells slots := ev_newarray (t := 0) (c0 := mI 0 3 (fun _ => 0)) (a0 := (3, .inl (fun _ => 0))) d_Mo_init_6 rfl w_97 rfl (fun _ _ _ => rfl) (fun _ => rfl) (fun _ _ h => h) (fun _ => trivial) mI_ne (by decide) (by decide) (by decide) hcl hsl hf hk k
theorem d_Mo_init_8 : decode prog_10_method_1_code 8 = .ok (.putfield 7, 3) := by decide +kernel
theorem s_Mo_init_8 {x : Nat} {a : Nat} {fs : List Value} (hh : h a = mO 7 fs) (hlen : 1 < fs.length) (k : ev G M_Mo_init R E 11 lv rest (va_up h a (mO 7 (fs.set 1 (.ref x)))) cells slots) : ev G M_Mo_init R E 8 lv (.ref x :: .ref a :: rest) h cells slots := ev_putfinal (ci := 7) (kf := 1) d_Mo_init_8 rfl ck7 (by decide) w_705 rfl rfl rfl hh hlen (fun _ _ => rfl) (fun _ _ => rfl) k
theorem d_Mo_init_11 : decode prog_10_method_1_code 11 = .ok (.aload_n 0, 1) := by decide +kernel
theorem s_Mo_init_11 {x : Nat} (hl : lg lv 0 = some (.ref x)) (k : ev G M_Mo_init R E 12 lv (.ref x :: rest) h cells slots) : ev G M_Mo_init R E 11 lv rest h cells slots := ev_aload_n d_Mo_init_11 rfl hl k
theorem d_Mo_init_12 : decode prog_10_method_1_code 12 = .ok (.sipush 288, 3) := by decide +kernel
theorem s_Mo_init_12  (k : ev G M_Mo_init R E 15 lv (.int 288 :: rest) h cells slots) : ev G M_Mo_init R E 12 lv rest h cells slots := ev_sipush d_Mo_init_12 (by decide) k
theorem d_Mo_init_15 : decode prog_10_method_1_code 15 = .ok (.newarray .int, 2) := by decide +kernel
theorem s_Mo_init_15 {kn : Nat} (hcl : cells + 1 ≤ R.cells) (hsl : slots + 288 ≤ R.slots) (hf : h kn = mF) (hk : kn < tB) (k : ev G M_Mo_init R E 17 lv (.ref kn :: rest) (va_up h kn (mI 0 288 (fun _ => 0))) (cells + 1) (slots + 288)) : ev G M_Mo_init R E 15 lv (.int 288 :: rest) h cells slots := ev_newarray (t := 0) (c0 := mI 0 288 (fun _ => 0)) (a0 := (288, .inl (fun _ => 0))) d_Mo_init_15 rfl w_97 rfl (fun _ _ _ => rfl) (fun _ => rfl) (fun _ _ h => h) (fun _ => trivial) mI_ne (by decide) (by decide) (by decide) hcl hsl hf hk k
theorem d_Mo_init_17 : decode prog_10_method_1_code 17 = .ok (.putfield 13, 3) := by decide +kernel
theorem s_Mo_init_17 {x : Nat} {a : Nat} {fs : List Value} (hh : h a = mO 7 fs) (hlen : 2 < fs.length) (k : ev G M_Mo_init R E 20 lv rest (va_up h a (mO 7 (fs.set 2 (.ref x)))) cells slots) : ev G M_Mo_init R E 17 lv (.ref x :: .ref a :: rest) h cells slots := ev_putfinal (ci := 7) (kf := 2) d_Mo_init_17 rfl ck7 (by decide) w_706 rfl rfl rfl hh hlen (fun _ _ => rfl) (fun _ _ => rfl) k
theorem d_Mo_init_20 : decode prog_10_method_1_code 20 = .ok (.aload_n 0, 1) := by decide +kernel
theorem s_Mo_init_20 {x : Nat} (hl : lg lv 0 = some (.ref x)) (k : ev G M_Mo_init R E 21 lv (.ref x :: rest) h cells slots) : ev G M_Mo_init R E 20 lv rest h cells slots := ev_aload_n d_Mo_init_20 rfl hl k
theorem d_Mo_init_21 : decode prog_10_method_1_code 21 = .ok (.sipush 510, 3) := by decide +kernel
theorem s_Mo_init_21  (k : ev G M_Mo_init R E 24 lv (.int 510 :: rest) h cells slots) : ev G M_Mo_init R E 21 lv rest h cells slots := ev_sipush d_Mo_init_21 (by decide) k
theorem d_Mo_init_24 : decode prog_10_method_1_code 24 = .ok (.newarray .int, 2) := by decide +kernel
theorem s_Mo_init_24 {kn : Nat} (hcl : cells + 1 ≤ R.cells) (hsl : slots + 510 ≤ R.slots) (hf : h kn = mF) (hk : kn < tB) (k : ev G M_Mo_init R E 26 lv (.ref kn :: rest) (va_up h kn (mI 0 510 (fun _ => 0))) (cells + 1) (slots + 510)) : ev G M_Mo_init R E 24 lv (.int 510 :: rest) h cells slots := ev_newarray (t := 0) (c0 := mI 0 510 (fun _ => 0)) (a0 := (510, .inl (fun _ => 0))) d_Mo_init_24 rfl w_97 rfl (fun _ _ _ => rfl) (fun _ => rfl) (fun _ _ h => h) (fun _ => trivial) mI_ne (by decide) (by decide) (by decide) hcl hsl hf hk k
theorem d_Mo_init_26 : decode prog_10_method_1_code 26 = .ok (.putfield 16, 3) := by decide +kernel
theorem s_Mo_init_26 {x : Nat} {a : Nat} {fs : List Value} (hh : h a = mO 7 fs) (hlen : 3 < fs.length) (k : ev G M_Mo_init R E 29 lv rest (va_up h a (mO 7 (fs.set 3 (.ref x)))) cells slots) : ev G M_Mo_init R E 26 lv (.ref x :: .ref a :: rest) h cells slots := ev_putfinal (ci := 7) (kf := 3) d_Mo_init_26 rfl ck7 (by decide) w_707 rfl rfl rfl hh hlen (fun _ _ => rfl) (fun _ _ => rfl) k
theorem d_Mo_init_29 : decode prog_10_method_1_code 29 = .ok (.aload_n 0, 1) := by decide +kernel
theorem s_Mo_init_29 {x : Nat} (hl : lg lv 0 = some (.ref x)) (k : ev G M_Mo_init R E 30 lv (.ref x :: rest) h cells slots) : ev G M_Mo_init R E 29 lv rest h cells slots := ev_aload_n d_Mo_init_29 rfl hl k
theorem d_Mo_init_30 : decode prog_10_method_1_code 30 = .ok (.bipush 6, 2) := by decide +kernel
theorem s_Mo_init_30  (k : ev G M_Mo_init R E 32 lv (.int 6 :: rest) h cells slots) : ev G M_Mo_init R E 30 lv rest h cells slots := ev_bipush d_Mo_init_30 (by decide) k
theorem d_Mo_init_32 : decode prog_10_method_1_code 32 = .ok (.newarray .int, 2) := by decide +kernel
theorem s_Mo_init_32 {kn : Nat} (hcl : cells + 1 ≤ R.cells) (hsl : slots + 6 ≤ R.slots) (hf : h kn = mF) (hk : kn < tB) (k : ev G M_Mo_init R E 34 lv (.ref kn :: rest) (va_up h kn (mI 0 6 (fun _ => 0))) (cells + 1) (slots + 6)) : ev G M_Mo_init R E 32 lv (.int 6 :: rest) h cells slots := ev_newarray (t := 0) (c0 := mI 0 6 (fun _ => 0)) (a0 := (6, .inl (fun _ => 0))) d_Mo_init_32 rfl w_97 rfl (fun _ _ _ => rfl) (fun _ => rfl) (fun _ _ h => h) (fun _ => trivial) mI_ne (by decide) (by decide) (by decide) hcl hsl hf hk k
theorem d_Mo_init_34 : decode prog_10_method_1_code 34 = .ok (.putfield 19, 3) := by decide +kernel
theorem s_Mo_init_34 {x : Nat} {a : Nat} {fs : List Value} (hh : h a = mO 7 fs) (hlen : 4 < fs.length) (k : ev G M_Mo_init R E 37 lv rest (va_up h a (mO 7 (fs.set 4 (.ref x)))) cells slots) : ev G M_Mo_init R E 34 lv (.ref x :: .ref a :: rest) h cells slots := ev_putfinal (ci := 7) (kf := 4) d_Mo_init_34 rfl ck7 (by decide) w_708 rfl rfl rfl hh hlen (fun _ _ => rfl) (fun _ _ => rfl) k
theorem d_Mo_init_37 : decode prog_10_method_1_code 37 = .ok (.aload_n 0, 1) := by decide +kernel
theorem s_Mo_init_37 {x : Nat} (hl : lg lv 0 = some (.ref x)) (k : ev G M_Mo_init R E 38 lv (.ref x :: rest) h cells slots) : ev G M_Mo_init R E 37 lv rest h cells slots := ev_aload_n d_Mo_init_37 rfl hl k
theorem d_Mo_init_38 : decode prog_10_method_1_code 38 = .ok (.bipush 6, 2) := by decide +kernel
theorem s_Mo_init_38  (k : ev G M_Mo_init R E 40 lv (.int 6 :: rest) h cells slots) : ev G M_Mo_init R E 38 lv rest h cells slots := ev_bipush d_Mo_init_38 (by decide) k
theorem d_Mo_init_40 : decode prog_10_method_1_code 40 = .ok (.newarray .int, 2) := by decide +kernel
theorem s_Mo_init_40 {kn : Nat} (hcl : cells + 1 ≤ R.cells) (hsl : slots + 6 ≤ R.slots) (hf : h kn = mF) (hk : kn < tB) (k : ev G M_Mo_init R E 42 lv (.ref kn :: rest) (va_up h kn (mI 0 6 (fun _ => 0))) (cells + 1) (slots + 6)) : ev G M_Mo_init R E 40 lv (.int 6 :: rest) h cells slots := ev_newarray (t := 0) (c0 := mI 0 6 (fun _ => 0)) (a0 := (6, .inl (fun _ => 0))) d_Mo_init_40 rfl w_97 rfl (fun _ _ _ => rfl) (fun _ => rfl) (fun _ _ h => h) (fun _ => trivial) mI_ne (by decide) (by decide) (by decide) hcl hsl hf hk k
theorem d_Mo_init_42 : decode prog_10_method_1_code 42 = .ok (.putfield 22, 3) := by decide +kernel
theorem s_Mo_init_42 {x : Nat} {a : Nat} {fs : List Value} (hh : h a = mO 7 fs) (hlen : 5 < fs.length) (k : ev G M_Mo_init R E 45 lv rest (va_up h a (mO 7 (fs.set 5 (.ref x)))) cells slots) : ev G M_Mo_init R E 42 lv (.ref x :: .ref a :: rest) h cells slots := ev_putfinal (ci := 7) (kf := 5) d_Mo_init_42 rfl ck7 (by decide) w_709 rfl rfl rfl hh hlen (fun _ _ => rfl) (fun _ _ => rfl) k
theorem d_Mo_init_45 : decode prog_10_method_1_code 45 = .ok (.aload_n 0, 1) := by decide +kernel
theorem s_Mo_init_45 {x : Nat} (hl : lg lv 0 = some (.ref x)) (k : ev G M_Mo_init R E 46 lv (.ref x :: rest) h cells slots) : ev G M_Mo_init R E 45 lv rest h cells slots := ev_aload_n d_Mo_init_45 rfl hl k
theorem d_Mo_init_46 : decode prog_10_method_1_code 46 = .ok (.bipush 6, 2) := by decide +kernel
theorem s_Mo_init_46  (k : ev G M_Mo_init R E 48 lv (.int 6 :: rest) h cells slots) : ev G M_Mo_init R E 46 lv rest h cells slots := ev_bipush d_Mo_init_46 (by decide) k
theorem d_Mo_init_48 : decode prog_10_method_1_code 48 = .ok (.newarray .int, 2) := by decide +kernel
theorem s_Mo_init_48 {kn : Nat} (hcl : cells + 1 ≤ R.cells) (hsl : slots + 6 ≤ R.slots) (hf : h kn = mF) (hk : kn < tB) (k : ev G M_Mo_init R E 50 lv (.ref kn :: rest) (va_up h kn (mI 0 6 (fun _ => 0))) (cells + 1) (slots + 6)) : ev G M_Mo_init R E 48 lv (.int 6 :: rest) h cells slots := ev_newarray (t := 0) (c0 := mI 0 6 (fun _ => 0)) (a0 := (6, .inl (fun _ => 0))) d_Mo_init_48 rfl w_97 rfl (fun _ _ _ => rfl) (fun _ => rfl) (fun _ _ h => h) (fun _ => trivial) mI_ne (by decide) (by decide) (by decide) hcl hsl hf hk k
theorem d_Mo_init_50 : decode prog_10_method_1_code 50 = .ok (.putfield 25, 3) := by decide +kernel
theorem s_Mo_init_50 {x : Nat} {a : Nat} {fs : List Value} (hh : h a = mO 7 fs) (hlen : 6 < fs.length) (k : ev G M_Mo_init R E 53 lv rest (va_up h a (mO 7 (fs.set 6 (.ref x)))) cells slots) : ev G M_Mo_init R E 50 lv (.ref x :: .ref a :: rest) h cells slots := ev_putfinal (ci := 7) (kf := 6) d_Mo_init_50 rfl ck7 (by decide) w_710 rfl rfl rfl hh hlen (fun _ _ => rfl) (fun _ _ => rfl) k
theorem d_Mo_init_53 : decode prog_10_method_1_code 53 = .ok (.aload_n 0, 1) := by decide +kernel
theorem s_Mo_init_53 {x : Nat} (hl : lg lv 0 = some (.ref x)) (k : ev G M_Mo_init R E 54 lv (.ref x :: rest) h cells slots) : ev G M_Mo_init R E 53 lv rest h cells slots := ev_aload_n d_Mo_init_53 rfl hl k
theorem d_Mo_init_54 : decode prog_10_method_1_code 54 = .ok (.bipush 6, 2) := by decide +kernel
theorem s_Mo_init_54  (k : ev G M_Mo_init R E 56 lv (.int 6 :: rest) h cells slots) : ev G M_Mo_init R E 54 lv rest h cells slots := ev_bipush d_Mo_init_54 (by decide) k
theorem d_Mo_init_56 : decode prog_10_method_1_code 56 = .ok (.newarray .int, 2) := by decide +kernel
theorem s_Mo_init_56 {kn : Nat} (hcl : cells + 1 ≤ R.cells) (hsl : slots + 6 ≤ R.slots) (hf : h kn = mF) (hk : kn < tB) (k : ev G M_Mo_init R E 58 lv (.ref kn :: rest) (va_up h kn (mI 0 6 (fun _ => 0))) (cells + 1) (slots + 6)) : ev G M_Mo_init R E 56 lv (.int 6 :: rest) h cells slots := ev_newarray (t := 0) (c0 := mI 0 6 (fun _ => 0)) (a0 := (6, .inl (fun _ => 0))) d_Mo_init_56 rfl w_97 rfl (fun _ _ _ => rfl) (fun _ => rfl) (fun _ _ h => h) (fun _ => trivial) mI_ne (by decide) (by decide) (by decide) hcl hsl hf hk k
theorem d_Mo_init_58 : decode prog_10_method_1_code 58 = .ok (.putfield 28, 3) := by decide +kernel
theorem s_Mo_init_58 {x : Nat} {a : Nat} {fs : List Value} (hh : h a = mO 7 fs) (hlen : 7 < fs.length) (k : ev G M_Mo_init R E 61 lv rest (va_up h a (mO 7 (fs.set 7 (.ref x)))) cells slots) : ev G M_Mo_init R E 58 lv (.ref x :: .ref a :: rest) h cells slots := ev_putfinal (ci := 7) (kf := 7) d_Mo_init_58 rfl ck7 (by decide) w_711 rfl rfl rfl hh hlen (fun _ _ => rfl) (fun _ _ => rfl) k
theorem d_Mo_init_61 : decode prog_10_method_1_code 61 = .ok (.aload_n 0, 1) := by decide +kernel
theorem s_Mo_init_61 {x : Nat} (hl : lg lv 0 = some (.ref x)) (k : ev G M_Mo_init R E 62 lv (.ref x :: rest) h cells slots) : ev G M_Mo_init R E 61 lv rest h cells slots := ev_aload_n d_Mo_init_61 rfl hl k
theorem d_Mo_init_62 : decode prog_10_method_1_code 62 = .ok (.bipush 6, 2) := by decide +kernel
theorem s_Mo_init_62  (k : ev G M_Mo_init R E 64 lv (.int 6 :: rest) h cells slots) : ev G M_Mo_init R E 62 lv rest h cells slots := ev_bipush d_Mo_init_62 (by decide) k
theorem d_Mo_init_64 : decode prog_10_method_1_code 64 = .ok (.newarray .int, 2) := by decide +kernel
theorem s_Mo_init_64 {kn : Nat} (hcl : cells + 1 ≤ R.cells) (hsl : slots + 6 ≤ R.slots) (hf : h kn = mF) (hk : kn < tB) (k : ev G M_Mo_init R E 66 lv (.ref kn :: rest) (va_up h kn (mI 0 6 (fun _ => 0))) (cells + 1) (slots + 6)) : ev G M_Mo_init R E 64 lv (.int 6 :: rest) h cells slots := ev_newarray (t := 0) (c0 := mI 0 6 (fun _ => 0)) (a0 := (6, .inl (fun _ => 0))) d_Mo_init_64 rfl w_97 rfl (fun _ _ _ => rfl) (fun _ => rfl) (fun _ _ h => h) (fun _ => trivial) mI_ne (by decide) (by decide) (by decide) hcl hsl hf hk k
theorem d_Mo_init_66 : decode prog_10_method_1_code 66 = .ok (.putfield 31, 3) := by decide +kernel
theorem s_Mo_init_66 {x : Nat} {a : Nat} {fs : List Value} (hh : h a = mO 7 fs) (hlen : 8 < fs.length) (k : ev G M_Mo_init R E 69 lv rest (va_up h a (mO 7 (fs.set 8 (.ref x)))) cells slots) : ev G M_Mo_init R E 66 lv (.ref x :: .ref a :: rest) h cells slots := ev_putfinal (ci := 7) (kf := 8) d_Mo_init_66 rfl ck7 (by decide) w_712 rfl rfl rfl hh hlen (fun _ _ => rfl) (fun _ _ => rfl) k
theorem d_Mo_init_69 : decode prog_10_method_1_code 69 = .ok (.aload_n 0, 1) := by decide +kernel
theorem s_Mo_init_69 {x : Nat} (hl : lg lv 0 = some (.ref x)) (k : ev G M_Mo_init R E 70 lv (.ref x :: rest) h cells slots) : ev G M_Mo_init R E 69 lv rest h cells slots := ev_aload_n d_Mo_init_69 rfl hl k
theorem d_Mo_init_70 : decode prog_10_method_1_code 70 = .ok (.bipush 6, 2) := by decide +kernel
theorem s_Mo_init_70  (k : ev G M_Mo_init R E 72 lv (.int 6 :: rest) h cells slots) : ev G M_Mo_init R E 70 lv rest h cells slots := ev_bipush d_Mo_init_70 (by decide) k
theorem d_Mo_init_72 : decode prog_10_method_1_code 72 = .ok (.newarray .int, 2) := by decide +kernel
theorem s_Mo_init_72 {kn : Nat} (hcl : cells + 1 ≤ R.cells) (hsl : slots + 6 ≤ R.slots) (hf : h kn = mF) (hk : kn < tB) (k : ev G M_Mo_init R E 74 lv (.ref kn :: rest) (va_up h kn (mI 0 6 (fun _ => 0))) (cells + 1) (slots + 6)) : ev G M_Mo_init R E 72 lv (.int 6 :: rest) h cells slots := ev_newarray (t := 0) (c0 := mI 0 6 (fun _ => 0)) (a0 := (6, .inl (fun _ => 0))) d_Mo_init_72 rfl w_97 rfl (fun _ _ _ => rfl) (fun _ => rfl) (fun _ _ h => h) (fun _ => trivial) mI_ne (by decide) (by decide) (by decide) hcl hsl hf hk k
theorem d_Mo_init_74 : decode prog_10_method_1_code 74 = .ok (.putfield 34, 3) := by decide +kernel
theorem s_Mo_init_74 {x : Nat} {a : Nat} {fs : List Value} (hh : h a = mO 7 fs) (hlen : 9 < fs.length) (k : ev G M_Mo_init R E 77 lv rest (va_up h a (mO 7 (fs.set 9 (.ref x)))) cells slots) : ev G M_Mo_init R E 74 lv (.ref x :: .ref a :: rest) h cells slots := ev_putfinal (ci := 7) (kf := 9) d_Mo_init_74 rfl ck7 (by decide) w_713 rfl rfl rfl hh hlen (fun _ _ => rfl) (fun _ _ => rfl) k
theorem d_Mo_init_77 : decode prog_10_method_1_code 77 = .ok (.aload_n 0, 1) := by decide +kernel
theorem s_Mo_init_77 {x : Nat} (hl : lg lv 0 = some (.ref x)) (k : ev G M_Mo_init R E 78 lv (.ref x :: rest) h cells slots) : ev G M_Mo_init R E 77 lv rest h cells slots := ev_aload_n d_Mo_init_77 rfl hl k
theorem d_Mo_init_78 : decode prog_10_method_1_code 78 = .ok (.bipush 20, 2) := by decide +kernel
theorem s_Mo_init_78  (k : ev G M_Mo_init R E 80 lv (.int 20 :: rest) h cells slots) : ev G M_Mo_init R E 78 lv rest h cells slots := ev_bipush d_Mo_init_78 (by decide) k
theorem d_Mo_init_80 : decode prog_10_method_1_code 80 = .ok (.newarray .int, 2) := by decide +kernel
theorem s_Mo_init_80 {kn : Nat} (hcl : cells + 1 ≤ R.cells) (hsl : slots + 20 ≤ R.slots) (hf : h kn = mF) (hk : kn < tB) (k : ev G M_Mo_init R E 82 lv (.ref kn :: rest) (va_up h kn (mI 0 20 (fun _ => 0))) (cells + 1) (slots + 20)) : ev G M_Mo_init R E 80 lv (.int 20 :: rest) h cells slots := ev_newarray (t := 0) (c0 := mI 0 20 (fun _ => 0)) (a0 := (20, .inl (fun _ => 0))) d_Mo_init_80 rfl w_97 rfl (fun _ _ _ => rfl) (fun _ => rfl) (fun _ _ h => h) (fun _ => trivial) mI_ne (by decide) (by decide) (by decide) hcl hsl hf hk k
theorem d_Mo_init_82 : decode prog_10_method_1_code 82 = .ok (.putfield 37, 3) := by decide +kernel
theorem s_Mo_init_82 {x : Nat} {a : Nat} {fs : List Value} (hh : h a = mO 7 fs) (hlen : 11 < fs.length) (k : ev G M_Mo_init R E 85 lv rest (va_up h a (mO 7 (fs.set 11 (.ref x)))) cells slots) : ev G M_Mo_init R E 82 lv (.ref x :: .ref a :: rest) h cells slots := ev_putfinal (ci := 7) (kf := 11) d_Mo_init_82 rfl ck7 (by decide) w_715 rfl rfl rfl hh hlen (fun _ _ => rfl) (fun _ _ => rfl) k
theorem d_Mo_init_85 : decode prog_10_method_1_code 85 = .ok (.aload_n 0, 1) := by decide +kernel
theorem s_Mo_init_85 {x : Nat} (hl : lg lv 0 = some (.ref x)) (k : ev G M_Mo_init R E 86 lv (.ref x :: rest) h cells slots) : ev G M_Mo_init R E 85 lv rest h cells slots := ev_aload_n d_Mo_init_85 rfl hl k
theorem d_Mo_init_86 : decode prog_10_method_1_code 86 = .ok (.sipush 175, 3) := by decide +kernel
theorem s_Mo_init_86  (k : ev G M_Mo_init R E 89 lv (.int 175 :: rest) h cells slots) : ev G M_Mo_init R E 86 lv rest h cells slots := ev_sipush d_Mo_init_86 (by decide) k
theorem d_Mo_init_89 : decode prog_10_method_1_code 89 = .ok (.newarray .int, 2) := by decide +kernel
theorem s_Mo_init_89 {kn : Nat} (hcl : cells + 1 ≤ R.cells) (hsl : slots + 175 ≤ R.slots) (hf : h kn = mF) (hk : kn < tB) (k : ev G M_Mo_init R E 91 lv (.ref kn :: rest) (va_up h kn (mI 0 175 (fun _ => 0))) (cells + 1) (slots + 175)) : ev G M_Mo_init R E 89 lv (.int 175 :: rest) h cells slots := ev_newarray (t := 0) (c0 := mI 0 175 (fun _ => 0)) (a0 := (175, .inl (fun _ => 0))) d_Mo_init_89 rfl w_97 rfl (fun _ _ _ => rfl) (fun _ => rfl) (fun _ _ h => h) (fun _ => trivial) mI_ne (by decide) (by decide) (by decide) hcl hsl hf hk k
theorem d_Mo_init_91 : decode prog_10_method_1_code 91 = .ok (.putfield 40, 3) := by decide +kernel
theorem s_Mo_init_91 {x : Nat} {a : Nat} {fs : List Value} (hh : h a = mO 7 fs) (hlen : 12 < fs.length) (k : ev G M_Mo_init R E 94 lv rest (va_up h a (mO 7 (fs.set 12 (.ref x)))) cells slots) : ev G M_Mo_init R E 91 lv (.ref x :: .ref a :: rest) h cells slots := ev_putfinal (ci := 7) (kf := 12) d_Mo_init_91 rfl ck7 (by decide) w_716 rfl rfl rfl hh hlen (fun _ _ => rfl) (fun _ _ => rfl) k
theorem d_Mo_init_94 : decode prog_10_method_1_code 94 = .ok (.aload_n 0, 1) := by decide +kernel
theorem s_Mo_init_94 {x : Nat} (hl : lg lv 0 = some (.ref x)) (k : ev G M_Mo_init R E 95 lv (.ref x :: rest) h cells slots) : ev G M_Mo_init R E 94 lv rest h cells slots := ev_aload_n d_Mo_init_94 rfl hl k
theorem d_Mo_init_95 : decode prog_10_method_1_code 95 = .ok (.bipush 48, 2) := by decide +kernel
theorem s_Mo_init_95  (k : ev G M_Mo_init R E 97 lv (.int 48 :: rest) h cells slots) : ev G M_Mo_init R E 95 lv rest h cells slots := ev_bipush d_Mo_init_95 (by decide) k
theorem d_Mo_init_97 : decode prog_10_method_1_code 97 = .ok (.newarray .boolean, 2) := by decide +kernel
theorem s_Mo_init_97 {kn : Nat} (hcl : cells + 1 ≤ R.cells) (hsl : slots + 48 ≤ R.slots) (hf : h kn = mF) (hk : kn < tB) (k : ev G M_Mo_init R E 99 lv (.ref kn :: rest) (va_up h kn (mI 2 48 (fun _ => 0))) (cells + 1) (slots + 48)) : ev G M_Mo_init R E 97 lv (.int 48 :: rest) h cells slots := ev_newarray (t := 2) (c0 := mI 2 48 (fun _ => 0)) (a0 := (48, .inl (fun _ => 0))) d_Mo_init_97 rfl w_248 rfl (fun _ _ _ => rfl) (fun _ => rfl) (fun _ _ h => h) (fun _ => trivial) mI_ne (by decide) (by decide) (by decide) hcl hsl hf hk k
theorem d_Mo_init_99 : decode prog_10_method_1_code 99 = .ok (.putfield 43, 3) := by decide +kernel
theorem s_Mo_init_99 {x : Nat} {a : Nat} {fs : List Value} (hh : h a = mO 7 fs) (hlen : 18 < fs.length) (k : ev G M_Mo_init R E 102 lv rest (va_up h a (mO 7 (fs.set 18 (.ref x)))) cells slots) : ev G M_Mo_init R E 99 lv (.ref x :: .ref a :: rest) h cells slots := ev_putfinal (ci := 7) (kf := 18) d_Mo_init_99 rfl ck7 (by decide) w_722 rfl rfl rfl hh hlen (fun _ _ => rfl) (fun _ _ => rfl) k
theorem d_Mo_init_102 : decode prog_10_method_1_code 102 = .ok (.aload_n 0, 1) := by decide +kernel
theorem s_Mo_init_102 {x : Nat} (hl : lg lv 0 = some (.ref x)) (k : ev G M_Mo_init R E 103 lv (.ref x :: rest) h cells slots) : ev G M_Mo_init R E 102 lv rest h cells slots := ev_aload_n d_Mo_init_102 rfl hl k
theorem d_Mo_init_103 : decode prog_10_method_1_code 103 = .ok (.bipush 48, 2) := by decide +kernel
theorem s_Mo_init_103  (k : ev G M_Mo_init R E 105 lv (.int 48 :: rest) h cells slots) : ev G M_Mo_init R E 103 lv rest h cells slots := ev_bipush d_Mo_init_103 (by decide) k
theorem d_Mo_init_105 : decode prog_10_method_1_code 105 = .ok (.newarray .boolean, 2) := by decide +kernel
theorem s_Mo_init_105 {kn : Nat} (hcl : cells + 1 ≤ R.cells) (hsl : slots + 48 ≤ R.slots) (hf : h kn = mF) (hk : kn < tB) (k : ev G M_Mo_init R E 107 lv (.ref kn :: rest) (va_up h kn (mI 2 48 (fun _ => 0))) (cells + 1) (slots + 48)) : ev G M_Mo_init R E 105 lv (.int 48 :: rest) h cells slots := ev_newarray (t := 2) (c0 := mI 2 48 (fun _ => 0)) (a0 := (48, .inl (fun _ => 0))) d_Mo_init_105 rfl w_248 rfl (fun _ _ _ => rfl) (fun _ => rfl) (fun _ _ h => h) (fun _ => trivial) mI_ne (by decide) (by decide) (by decide) hcl hsl hf hk k
theorem d_Mo_init_107 : decode prog_10_method_1_code 107 = .ok (.putfield 47, 3) := by decide +kernel
theorem s_Mo_init_107 {x : Nat} {a : Nat} {fs : List Value} (hh : h a = mO 7 fs) (hlen : 19 < fs.length) (k : ev G M_Mo_init R E 110 lv rest (va_up h a (mO 7 (fs.set 19 (.ref x)))) cells slots) : ev G M_Mo_init R E 107 lv (.ref x :: .ref a :: rest) h cells slots := ev_putfinal (ci := 7) (kf := 19) d_Mo_init_107 rfl ck7 (by decide) w_723 rfl rfl rfl hh hlen (fun _ _ => rfl) (fun _ _ => rfl) k
theorem d_Mo_init_110 : decode prog_10_method_1_code 110 = .ok (.return_, 1) := by decide +kernel
theorem s_Mo_init_110 {P : Option Value → HP → Prop} {mc ms : Nat} (hP : P none h) (hc : cells ≤ mc ∧ slots ≤ ms) : ev G M_Mo_init R (Er M_Mo_init P mc ms) 110 lv [] h cells slots := ev_exit ⟨hc.1, hc.2, Or.inl ⟨rfl, d_Mo_init_110, rfl, hP⟩⟩
abbrev M_Mo_in : MW := (⟨"UseOnceMachineModel", "in", "(III)Z"⟩, prog_10_method_2_code, 3, (some .boolean))
theorem hy_Mo_in : M_Mo_in.1.cls ≠ "java/lang/invoke/MethodHandle" ∧ M_Mo_in.1.cls ≠ "java/lang/invoke/VarHandle" ∧ (parseMethodDescriptor M_Mo_in.1.desc).map (fun d => d.parameters.length) = some 3 := by decide +kernel
theorem d_Mo_in_0 : decode prog_10_method_2_code 0 = .ok (.iload_n 0, 1) := by decide +kernel
theorem s_Mo_in_0 {x : Int32} (hl : lg lv 0 = some (.int x)) (k : ev G M_Mo_in R E 1 lv (.int x :: rest) h cells slots) : ev G M_Mo_in R E 0 lv rest h cells slots := ev_iload_n d_Mo_in_0 rfl hl k
theorem d_Mo_in_1 : decode prog_10_method_2_code 1 = .ok (.iload_n 1, 1) := by decide +kernel
theorem s_Mo_in_1 {x : Int32} (hl : lg lv 1 = some (.int x)) (k : ev G M_Mo_in R E 2 lv (.int x :: rest) h cells slots) : ev G M_Mo_in R E 1 lv rest h cells slots := ev_iload_n d_Mo_in_1 rfl hl k
theorem d_Mo_in_2 : decode prog_10_method_2_code 2 = .ok (.if_icmp .lt 12, 3) := by decide +kernel
theorem s_Mo_in_2 {x y : Int32} (kt : x < y → ev G M_Mo_in R E 14 lv rest h cells slots) (kf : ¬ x < y → ev G M_Mo_in R E 5 lv rest h cells slots) : ev G M_Mo_in R E 2 lv (.int y :: .int x :: rest) h cells slots := ev_icmp_lt d_Mo_in_2 (by decide) kt kf
theorem d_Mo_in_5 : decode prog_10_method_2_code 5 = .ok (.iload_n 0, 1) := by decide +kernel
theorem s_Mo_in_5 {x : Int32} (hl : lg lv 0 = some (.int x)) (k : ev G M_Mo_in R E 6 lv (.int x :: rest) h cells slots) : ev G M_Mo_in R E 5 lv rest h cells slots := ev_iload_n d_Mo_in_5 rfl hl k
theorem d_Mo_in_6 : decode prog_10_method_2_code 6 = .ok (.iload_n 2, 1) := by decide +kernel
theorem s_Mo_in_6 {x : Int32} (hl : lg lv 2 = some (.int x)) (k : ev G M_Mo_in R E 7 lv (.int x :: rest) h cells slots) : ev G M_Mo_in R E 6 lv rest h cells slots := ev_iload_n d_Mo_in_6 rfl hl k
theorem d_Mo_in_7 : decode prog_10_method_2_code 7 = .ok (.if_icmp .gt 7, 3) := by decide +kernel
theorem s_Mo_in_7 {x y : Int32} (kt : y < x → ev G M_Mo_in R E 14 lv rest h cells slots) (kf : ¬ y < x → ev G M_Mo_in R E 10 lv rest h cells slots) : ev G M_Mo_in R E 7 lv (.int y :: .int x :: rest) h cells slots := ev_icmp_gt d_Mo_in_7 (by decide) kt kf
theorem d_Mo_in_10 : decode prog_10_method_2_code 10 = .ok (.iconst 1, 1) := by decide +kernel
theorem s_Mo_in_10  (k : ev G M_Mo_in R E 11 lv (.int 1 :: rest) h cells slots) : ev G M_Mo_in R E 10 lv rest h cells slots := ev_iconst d_Mo_in_10 (by decide) k
theorem d_Mo_in_11 : decode prog_10_method_2_code 11 = .ok (.goto 4, 3) := by decide +kernel
theorem s_Mo_in_11  (k : ev G M_Mo_in R E 15 lv rest h cells slots) : ev G M_Mo_in R E 11 lv rest h cells slots := ev_goto d_Mo_in_11 (by decide) k
theorem d_Mo_in_14 : decode prog_10_method_2_code 14 = .ok (.iconst 0, 1) := by decide +kernel
theorem s_Mo_in_14  (k : ev G M_Mo_in R E 15 lv (.int 0 :: rest) h cells slots) : ev G M_Mo_in R E 14 lv rest h cells slots := ev_iconst d_Mo_in_14 (by decide) k
theorem d_Mo_in_15 : decode prog_10_method_2_code 15 = .ok (.ireturn, 1) := by decide +kernel
theorem s_Mo_in_15 {P : Option Value → HP → Prop} {mc ms : Nat} {v : Int32} (hz : v = 0 ∨ v = 1) (hP : P (some (.int v)) h) (hc : cells ≤ mc ∧ slots ≤ ms) : ev G M_Mo_in R (Er M_Mo_in P mc ms) 15 lv [.int v] h cells slots := ev_exit ⟨hc.1, hc.2, Or.inr (Or.inl ⟨v, .boolean, rfl, (nar_z hz), d_Mo_in_15, rfl, hP⟩)⟩
abbrev M_Mo_code : MW := (⟨"UseOnceMachineModel", "code", "(IIIII)I"⟩, prog_10_method_3_code, 7, (some .int))
theorem hy_Mo_code : M_Mo_code.1.cls ≠ "java/lang/invoke/MethodHandle" ∧ M_Mo_code.1.cls ≠ "java/lang/invoke/VarHandle" ∧ (parseMethodDescriptor M_Mo_code.1.desc).map (fun d => d.parameters.length) = some 5 := by decide +kernel
theorem d_Mo_code_0 : decode prog_10_method_3_code 0 = .ok (.iload_n 1, 1) := by decide +kernel
theorem s_Mo_code_0 {x : Int32} (hl : lg lv 1 = some (.int x)) (k : ev G M_Mo_code R E 1 lv (.int x :: rest) h cells slots) : ev G M_Mo_code R E 0 lv rest h cells slots := ev_iload_n d_Mo_code_0 rfl hl k
theorem d_Mo_code_1 : decode prog_10_method_3_code 1 = .ok (.iconst 0, 1) := by decide +kernel
theorem s_Mo_code_1  (k : ev G M_Mo_code R E 2 lv (.int 0 :: rest) h cells slots) : ev G M_Mo_code R E 1 lv rest h cells slots := ev_iconst d_Mo_code_1 (by decide) k
theorem d_Mo_code_2 : decode prog_10_method_3_code 2 = .ok (.iconst 2, 1) := by decide +kernel
theorem s_Mo_code_2  (k : ev G M_Mo_code R E 3 lv (.int 2 :: rest) h cells slots) : ev G M_Mo_code R E 2 lv rest h cells slots := ev_iconst d_Mo_code_2 (by decide) k
theorem d_Mo_code_3 : decode prog_10_method_3_code 3 = .ok (.invokestatic 50, 3) := by decide +kernel
theorem s_Mo_code_3 {mc ms : Nat} {P : Option Value → HP → Prop} {a0 : Int32} {a1 : Int32} {a2 : Int32} (hm : mt G M_Mo_in 0 mc ms [.int a0, .int a1, .int a2] h P) (hR : 0 + 1 ≤ R.frames ∧ 8 + (3 + 11) + 39 * 0 ≤ R.locals) (hcs : cells + mc ≤ R.cells ∧ slots + ms ≤ R.slots) (hrest : (rest.map fun v => v.category).sum ≤ 8) (k : ∀ (r : Option Value) (h' : HP), P r h' → ev G M_Mo_code R E 6 lv (r.toList ++ rest) h' (cells + mc) (slots + ms)) : ev G M_Mo_code R E 3 lv (.int a2 :: .int a1 :: .int a0 :: rest) h cells slots := ev_callS (as := [.int a0, .int a1, .int a2]) d_Mo_code_3 hm w_769 w_770 w_70 w_771 hy_Mo_in hR hcs hrest k
theorem d_Mo_code_6 : decode prog_10_method_3_code 6 = .ok (.ifCond .eq 21, 3) := by decide +kernel
theorem s_Mo_code_6 {x : Int32} (kt : x = 0 → ev G M_Mo_code R E 27 lv rest h cells slots) (kf : ¬ x = 0 → ev G M_Mo_code R E 9 lv rest h cells slots) : ev G M_Mo_code R E 6 lv (.int x :: rest) h cells slots := ev_if_eq d_Mo_code_6 (by decide) kt kf
theorem d_Mo_code_9 : decode prog_10_method_3_code 9 = .ok (.aload_n 0, 1) := by decide +kernel
theorem s_Mo_code_9 {x : Nat} (hl : lg lv 0 = some (.ref x)) (k : ev G M_Mo_code R E 10 lv (.ref x :: rest) h cells slots) : ev G M_Mo_code R E 9 lv rest h cells slots := ev_aload_n d_Mo_code_9 rfl hl k
theorem d_Mo_code_10 : decode prog_10_method_3_code 10 = .ok (.getfield 7, 3) := by decide +kernel
theorem s_Mo_code_10 {a : Nat} {fs : List Value} {v : Value} (hh : h a = mO 7 fs) (hv : fs[1]? = some v) (k : ev G M_Mo_code R E 13 lv (v :: rest) h cells slots) : ev G M_Mo_code R E 10 lv (.ref a :: rest) h cells slots := ev_getfield (ci := 7) (kf := 1) d_Mo_code_10 rfl ck7 (by decide) w_705 hh hv k
theorem d_Mo_code_13 : decode prog_10_method_3_code 13 = .ok (.iload_n 1, 1) := by decide +kernel
theorem s_Mo_code_13 {x : Int32} (hl : lg lv 1 = some (.int x)) (k : ev G M_Mo_code R E 14 lv (.int x :: rest) h cells slots) : ev G M_Mo_code R E 13 lv rest h cells slots := ev_iload_n d_Mo_code_13 rfl hl k
theorem d_Mo_code_14 : decode prog_10_method_3_code 14 = .ok (.iaload, 1) := by decide +kernel
theorem s_Mo_code_14 {a n : Nat} {f : Nat → Int32} {i : Int32} (hh : h a = mI 0 n f) (hin : vp_in i n) (k : ev G M_Mo_code R E 15 lv (.int (f i.toNatClampNeg) :: rest) h cells slots) : ev G M_Mo_code R E 14 lv (.int i :: .ref a :: rest) h cells slots := ev_iaload d_Mo_code_14 rfl hh hin k
theorem d_Mo_code_15 : decode prog_10_method_3_code 15 = .ok (.bipush 24, 2) := by decide +kernel
theorem s_Mo_code_15  (k : ev G M_Mo_code R E 17 lv (.int 24 :: rest) h cells slots) : ev G M_Mo_code R E 15 lv rest h cells slots := ev_bipush d_Mo_code_15 (by decide) k
theorem d_Mo_code_17 : decode prog_10_method_3_code 17 = .ok (.if_icmp .ge 10, 3) := by decide +kernel
theorem s_Mo_code_17 {x y : Int32} (kt : y ≤ x → ev G M_Mo_code R E 27 lv rest h cells slots) (kf : ¬ y ≤ x → ev G M_Mo_code R E 20 lv rest h cells slots) : ev G M_Mo_code R E 17 lv (.int y :: .int x :: rest) h cells slots := ev_icmp_ge d_Mo_code_17 (by decide) kt kf
theorem d_Mo_code_20 : decode prog_10_method_3_code 20 = .ok (.aload_n 0, 1) := by decide +kernel
theorem s_Mo_code_20 {x : Nat} (hl : lg lv 0 = some (.ref x)) (k : ev G M_Mo_code R E 21 lv (.ref x :: rest) h cells slots) : ev G M_Mo_code R E 20 lv rest h cells slots := ev_aload_n d_Mo_code_20 rfl hl k
theorem d_Mo_code_21 : decode prog_10_method_3_code 21 = .ok (.getfield 54, 3) := by decide +kernel
theorem s_Mo_code_21 {a : Nat} {fs : List Value} {v : Value} (hh : h a = mO 7 fs) (hv : fs[0]? = some v) (k : ev G M_Mo_code R E 24 lv (v :: rest) h cells slots) : ev G M_Mo_code R E 21 lv (.ref a :: rest) h cells slots := ev_getfield (ci := 7) (kf := 0) d_Mo_code_21 rfl ck7 (by decide) w_704 hh hv k
theorem d_Mo_code_24 : decode prog_10_method_3_code 24 = .ok (.ifCond .eq 5, 3) := by decide +kernel
theorem s_Mo_code_24 {x : Int32} (kt : x = 0 → ev G M_Mo_code R E 29 lv rest h cells slots) (kf : ¬ x = 0 → ev G M_Mo_code R E 27 lv rest h cells slots) : ev G M_Mo_code R E 24 lv (.int x :: rest) h cells slots := ev_if_eq d_Mo_code_24 (by decide) kt kf
theorem d_Mo_code_27 : decode prog_10_method_3_code 27 = .ok (.iconst (-1), 1) := by decide +kernel
theorem s_Mo_code_27  (k : ev G M_Mo_code R E 28 lv (.int (-1) :: rest) h cells slots) : ev G M_Mo_code R E 27 lv rest h cells slots := ev_iconst d_Mo_code_27 (by decide) k
theorem d_Mo_code_28 : decode prog_10_method_3_code 28 = .ok (.ireturn, 1) := by decide +kernel
theorem s_Mo_code_28 {P : Option Value → HP → Prop} {mc ms : Nat} {v : Int32} (hP : P (some (.int v)) h) (hc : cells ≤ mc ∧ slots ≤ ms) : ev G M_Mo_code R (Er M_Mo_code P mc ms) 28 lv [.int v] h cells slots := ev_exit ⟨hc.1, hc.2, Or.inr (Or.inl ⟨v, .int, rfl, rfl, d_Mo_code_28, rfl, hP⟩)⟩
theorem d_Mo_code_29 : decode prog_10_method_3_code 29 = .ok (.bipush 96, 2) := by decide +kernel
theorem s_Mo_code_29  (k : ev G M_Mo_code R E 31 lv (.int 96 :: rest) h cells slots) : ev G M_Mo_code R E 29 lv rest h cells slots := ev_bipush d_Mo_code_29 (by decide) k
theorem d_Mo_code_31 : decode prog_10_method_3_code 31 = .ok (.iload_n 1, 1) := by decide +kernel
theorem s_Mo_code_31 {x : Int32} (hl : lg lv 1 = some (.int x)) (k : ev G M_Mo_code R E 32 lv (.int x :: rest) h cells slots) : ev G M_Mo_code R E 31 lv rest h cells slots := ev_iload_n d_Mo_code_31 rfl hl k
theorem d_Mo_code_32 : decode prog_10_method_3_code 32 = .ok (.imul, 1) := by decide +kernel
theorem s_Mo_code_32 {x y : Int32} (k : ev G M_Mo_code R E 33 lv (.int (x * y) :: rest) h cells slots) : ev G M_Mo_code R E 32 lv (.int y :: .int x :: rest) h cells slots := ev_imul d_Mo_code_32 k
theorem d_Mo_code_33 : decode prog_10_method_3_code 33 = .ok (.iconst 4, 1) := by decide +kernel
theorem s_Mo_code_33  (k : ev G M_Mo_code R E 34 lv (.int 4 :: rest) h cells slots) : ev G M_Mo_code R E 33 lv rest h cells slots := ev_iconst d_Mo_code_33 (by decide) k
theorem d_Mo_code_34 : decode prog_10_method_3_code 34 = .ok (.aload_n 0, 1) := by decide +kernel
theorem s_Mo_code_34 {x : Nat} (hl : lg lv 0 = some (.ref x)) (k : ev G M_Mo_code R E 35 lv (.ref x :: rest) h cells slots) : ev G M_Mo_code R E 34 lv rest h cells slots := ev_aload_n d_Mo_code_34 rfl hl k
theorem d_Mo_code_35 : decode prog_10_method_3_code 35 = .ok (.getfield 7, 3) := by decide +kernel
theorem s_Mo_code_35 {a : Nat} {fs : List Value} {v : Value} (hh : h a = mO 7 fs) (hv : fs[1]? = some v) (k : ev G M_Mo_code R E 38 lv (v :: rest) h cells slots) : ev G M_Mo_code R E 35 lv (.ref a :: rest) h cells slots := ev_getfield (ci := 7) (kf := 1) d_Mo_code_35 rfl ck7 (by decide) w_705 hh hv k
theorem d_Mo_code_38 : decode prog_10_method_3_code 38 = .ok (.iload_n 1, 1) := by decide +kernel
theorem s_Mo_code_38 {x : Int32} (hl : lg lv 1 = some (.int x)) (k : ev G M_Mo_code R E 39 lv (.int x :: rest) h cells slots) : ev G M_Mo_code R E 38 lv rest h cells slots := ev_iload_n d_Mo_code_38 rfl hl k
theorem d_Mo_code_39 : decode prog_10_method_3_code 39 = .ok (.iaload, 1) := by decide +kernel
theorem s_Mo_code_39 {a n : Nat} {f : Nat → Int32} {i : Int32} (hh : h a = mI 0 n f) (hin : vp_in i n) (k : ev G M_Mo_code R E 40 lv (.int (f i.toNatClampNeg) :: rest) h cells slots) : ev G M_Mo_code R E 39 lv (.int i :: .ref a :: rest) h cells slots := ev_iaload d_Mo_code_39 rfl hh hin k
theorem d_Mo_code_40 : decode prog_10_method_3_code 40 = .ok (.imul, 1) := by decide +kernel
theorem s_Mo_code_40 {x y : Int32} (k : ev G M_Mo_code R E 41 lv (.int (x * y) :: rest) h cells slots) : ev G M_Mo_code R E 40 lv (.int y :: .int x :: rest) h cells slots := ev_imul d_Mo_code_40 k
theorem d_Mo_code_41 : decode prog_10_method_3_code 41 = .ok (.iadd, 1) := by decide +kernel
theorem s_Mo_code_41 {x y : Int32} (k : ev G M_Mo_code R E 42 lv (.int (x + y) :: rest) h cells slots) : ev G M_Mo_code R E 41 lv (.int y :: .int x :: rest) h cells slots := ev_iadd d_Mo_code_41 k
theorem d_Mo_code_42 : decode prog_10_method_3_code 42 = .ok (.istore 6, 2) := by decide +kernel
theorem s_Mo_code_42 {x : Int32} (k : ev G M_Mo_code R E 44 (ls1 lv 6 (.int x)) rest h cells slots) : ev G M_Mo_code R E 42 lv (.int x :: rest) h cells slots := ev_istore d_Mo_code_42 (by decide) k
theorem d_Mo_code_44 : decode prog_10_method_3_code 44 = .ok (.aload_n 0, 1) := by decide +kernel
theorem s_Mo_code_44 {x : Nat} (hl : lg lv 0 = some (.ref x)) (k : ev G M_Mo_code R E 45 lv (.ref x :: rest) h cells slots) : ev G M_Mo_code R E 44 lv rest h cells slots := ev_aload_n d_Mo_code_44 rfl hl k
theorem d_Mo_code_45 : decode prog_10_method_3_code 45 = .ok (.getfield 13, 3) := by decide +kernel
theorem s_Mo_code_45 {a : Nat} {fs : List Value} {v : Value} (hh : h a = mO 7 fs) (hv : fs[2]? = some v) (k : ev G M_Mo_code R E 48 lv (v :: rest) h cells slots) : ev G M_Mo_code R E 45 lv (.ref a :: rest) h cells slots := ev_getfield (ci := 7) (kf := 2) d_Mo_code_45 rfl ck7 (by decide) w_706 hh hv k
theorem d_Mo_code_48 : decode prog_10_method_3_code 48 = .ok (.iload 6, 2) := by decide +kernel
theorem s_Mo_code_48 {x : Int32} (hl : lg lv 6 = some (.int x)) (k : ev G M_Mo_code R E 50 lv (.int x :: rest) h cells slots) : ev G M_Mo_code R E 48 lv rest h cells slots := ev_iload d_Mo_code_48 hl k
theorem d_Mo_code_50 : decode prog_10_method_3_code 50 = .ok (.iload_n 2, 1) := by decide +kernel
theorem s_Mo_code_50 {x : Int32} (hl : lg lv 2 = some (.int x)) (k : ev G M_Mo_code R E 51 lv (.int x :: rest) h cells slots) : ev G M_Mo_code R E 50 lv rest h cells slots := ev_iload_n d_Mo_code_50 rfl hl k
theorem d_Mo_code_51 : decode prog_10_method_3_code 51 = .ok (.iastore, 1) := by decide +kernel
theorem s_Mo_code_51 {a n : Nat} {f : Nat → Int32} {i : Int32} {x : Int32} (hh : h a = mI 0 n f) (hin : vp_in i n) (k : ev G M_Mo_code R E 52 lv rest (va_up h a (mI 0 n (upd f i.toNatClampNeg x))) cells slots) : ev G M_Mo_code R E 51 lv (.int x :: .int i :: .ref a :: rest) h cells slots := ev_iastore d_Mo_code_51 rfl hh hin k
theorem d_Mo_code_52 : decode prog_10_method_3_code 52 = .ok (.aload_n 0, 1) := by decide +kernel
theorem s_Mo_code_52 {x : Nat} (hl : lg lv 0 = some (.ref x)) (k : ev G M_Mo_code R E 53 lv (.ref x :: rest) h cells slots) : ev G M_Mo_code R E 52 lv rest h cells slots := ev_aload_n d_Mo_code_52 rfl hl k
theorem d_Mo_code_53 : decode prog_10_method_3_code 53 = .ok (.getfield 13, 3) := by decide +kernel
theorem s_Mo_code_53 {a : Nat} {fs : List Value} {v : Value} (hh : h a = mO 7 fs) (hv : fs[2]? = some v) (k : ev G M_Mo_code R E 56 lv (v :: rest) h cells slots) : ev G M_Mo_code R E 53 lv (.ref a :: rest) h cells slots := ev_getfield (ci := 7) (kf := 2) d_Mo_code_53 rfl ck7 (by decide) w_706 hh hv k
theorem d_Mo_code_56 : decode prog_10_method_3_code 56 = .ok (.iload 6, 2) := by decide +kernel
theorem s_Mo_code_56 {x : Int32} (hl : lg lv 6 = some (.int x)) (k : ev G M_Mo_code R E 58 lv (.int x :: rest) h cells slots) : ev G M_Mo_code R E 56 lv rest h cells slots := ev_iload d_Mo_code_56 hl k
theorem d_Mo_code_58 : decode prog_10_method_3_code 58 = .ok (.iconst 1, 1) := by decide +kernel
theorem s_Mo_code_58  (k : ev G M_Mo_code R E 59 lv (.int 1 :: rest) h cells slots) : ev G M_Mo_code R E 58 lv rest h cells slots := ev_iconst d_Mo_code_58 (by decide) k
theorem d_Mo_code_59 : decode prog_10_method_3_code 59 = .ok (.iadd, 1) := by decide +kernel
theorem s_Mo_code_59 {x y : Int32} (k : ev G M_Mo_code R E 60 lv (.int (x + y) :: rest) h cells slots) : ev G M_Mo_code R E 59 lv (.int y :: .int x :: rest) h cells slots := ev_iadd d_Mo_code_59 k
theorem d_Mo_code_60 : decode prog_10_method_3_code 60 = .ok (.iload_n 3, 1) := by decide +kernel
theorem s_Mo_code_60 {x : Int32} (hl : lg lv 3 = some (.int x)) (k : ev G M_Mo_code R E 61 lv (.int x :: rest) h cells slots) : ev G M_Mo_code R E 60 lv rest h cells slots := ev_iload_n d_Mo_code_60 rfl hl k
theorem d_Mo_code_61 : decode prog_10_method_3_code 61 = .ok (.iastore, 1) := by decide +kernel
theorem s_Mo_code_61 {a n : Nat} {f : Nat → Int32} {i : Int32} {x : Int32} (hh : h a = mI 0 n f) (hin : vp_in i n) (k : ev G M_Mo_code R E 62 lv rest (va_up h a (mI 0 n (upd f i.toNatClampNeg x))) cells slots) : ev G M_Mo_code R E 61 lv (.int x :: .int i :: .ref a :: rest) h cells slots := ev_iastore d_Mo_code_61 rfl hh hin k
theorem d_Mo_code_62 : decode prog_10_method_3_code 62 = .ok (.aload_n 0, 1) := by decide +kernel
theorem s_Mo_code_62 {x : Nat} (hl : lg lv 0 = some (.ref x)) (k : ev G M_Mo_code R E 63 lv (.ref x :: rest) h cells slots) : ev G M_Mo_code R E 62 lv rest h cells slots := ev_aload_n d_Mo_code_62 rfl hl k
theorem d_Mo_code_63 : decode prog_10_method_3_code 63 = .ok (.getfield 13, 3) := by decide +kernel
theorem s_Mo_code_63 {a : Nat} {fs : List Value} {v : Value} (hh : h a = mO 7 fs) (hv : fs[2]? = some v) (k : ev G M_Mo_code R E 66 lv (v :: rest) h cells slots) : ev G M_Mo_code R E 63 lv (.ref a :: rest) h cells slots := ev_getfield (ci := 7) (kf := 2) d_Mo_code_63 rfl ck7 (by decide) w_706 hh hv k
theorem d_Mo_code_66 : decode prog_10_method_3_code 66 = .ok (.iload 6, 2) := by decide +kernel
theorem s_Mo_code_66 {x : Int32} (hl : lg lv 6 = some (.int x)) (k : ev G M_Mo_code R E 68 lv (.int x :: rest) h cells slots) : ev G M_Mo_code R E 66 lv rest h cells slots := ev_iload d_Mo_code_66 hl k
theorem d_Mo_code_68 : decode prog_10_method_3_code 68 = .ok (.iconst 2, 1) := by decide +kernel
theorem s_Mo_code_68  (k : ev G M_Mo_code R E 69 lv (.int 2 :: rest) h cells slots) : ev G M_Mo_code R E 68 lv rest h cells slots := ev_iconst d_Mo_code_68 (by decide) k
theorem d_Mo_code_69 : decode prog_10_method_3_code 69 = .ok (.iadd, 1) := by decide +kernel
theorem s_Mo_code_69 {x y : Int32} (k : ev G M_Mo_code R E 70 lv (.int (x + y) :: rest) h cells slots) : ev G M_Mo_code R E 69 lv (.int y :: .int x :: rest) h cells slots := ev_iadd d_Mo_code_69 k
theorem d_Mo_code_70 : decode prog_10_method_3_code 70 = .ok (.iload 4, 2) := by decide +kernel
theorem s_Mo_code_70 {x : Int32} (hl : lg lv 4 = some (.int x)) (k : ev G M_Mo_code R E 72 lv (.int x :: rest) h cells slots) : ev G M_Mo_code R E 70 lv rest h cells slots := ev_iload d_Mo_code_70 hl k
theorem d_Mo_code_72 : decode prog_10_method_3_code 72 = .ok (.iastore, 1) := by decide +kernel
theorem s_Mo_code_72 {a n : Nat} {f : Nat → Int32} {i : Int32} {x : Int32} (hh : h a = mI 0 n f) (hin : vp_in i n) (k : ev G M_Mo_code R E 73 lv rest (va_up h a (mI 0 n (upd f i.toNatClampNeg x))) cells slots) : ev G M_Mo_code R E 72 lv (.int x :: .int i :: .ref a :: rest) h cells slots := ev_iastore d_Mo_code_72 rfl hh hin k
theorem d_Mo_code_73 : decode prog_10_method_3_code 73 = .ok (.aload_n 0, 1) := by decide +kernel
theorem s_Mo_code_73 {x : Nat} (hl : lg lv 0 = some (.ref x)) (k : ev G M_Mo_code R E 74 lv (.ref x :: rest) h cells slots) : ev G M_Mo_code R E 73 lv rest h cells slots := ev_aload_n d_Mo_code_73 rfl hl k
theorem d_Mo_code_74 : decode prog_10_method_3_code 74 = .ok (.getfield 13, 3) := by decide +kernel
theorem s_Mo_code_74 {a : Nat} {fs : List Value} {v : Value} (hh : h a = mO 7 fs) (hv : fs[2]? = some v) (k : ev G M_Mo_code R E 77 lv (v :: rest) h cells slots) : ev G M_Mo_code R E 74 lv (.ref a :: rest) h cells slots := ev_getfield (ci := 7) (kf := 2) d_Mo_code_74 rfl ck7 (by decide) w_706 hh hv k
theorem d_Mo_code_77 : decode prog_10_method_3_code 77 = .ok (.iload 6, 2) := by decide +kernel
theorem s_Mo_code_77 {x : Int32} (hl : lg lv 6 = some (.int x)) (k : ev G M_Mo_code R E 79 lv (.int x :: rest) h cells slots) : ev G M_Mo_code R E 77 lv rest h cells slots := ev_iload d_Mo_code_77 hl k
theorem d_Mo_code_79 : decode prog_10_method_3_code 79 = .ok (.iconst 3, 1) := by decide +kernel
theorem s_Mo_code_79  (k : ev G M_Mo_code R E 80 lv (.int 3 :: rest) h cells slots) : ev G M_Mo_code R E 79 lv rest h cells slots := ev_iconst d_Mo_code_79 (by decide) k
theorem d_Mo_code_80 : decode prog_10_method_3_code 80 = .ok (.iadd, 1) := by decide +kernel
theorem s_Mo_code_80 {x y : Int32} (k : ev G M_Mo_code R E 81 lv (.int (x + y) :: rest) h cells slots) : ev G M_Mo_code R E 80 lv (.int y :: .int x :: rest) h cells slots := ev_iadd d_Mo_code_80 k
theorem d_Mo_code_81 : decode prog_10_method_3_code 81 = .ok (.iload 5, 2) := by decide +kernel
theorem s_Mo_code_81 {x : Int32} (hl : lg lv 5 = some (.int x)) (k : ev G M_Mo_code R E 83 lv (.int x :: rest) h cells slots) : ev G M_Mo_code R E 81 lv rest h cells slots := ev_iload d_Mo_code_81 hl k
theorem d_Mo_code_83 : decode prog_10_method_3_code 83 = .ok (.iastore, 1) := by decide +kernel
theorem s_Mo_code_83 {a n : Nat} {f : Nat → Int32} {i : Int32} {x : Int32} (hh : h a = mI 0 n f) (hin : vp_in i n) (k : ev G M_Mo_code R E 84 lv rest (va_up h a (mI 0 n (upd f i.toNatClampNeg x))) cells slots) : ev G M_Mo_code R E 83 lv (.int x :: .int i :: .ref a :: rest) h cells slots := ev_iastore d_Mo_code_83 rfl hh hin k
theorem d_Mo_code_84 : decode prog_10_method_3_code 84 = .ok (.aload_n 0, 1) := by decide +kernel
theorem s_Mo_code_84 {x : Nat} (hl : lg lv 0 = some (.ref x)) (k : ev G M_Mo_code R E 85 lv (.ref x :: rest) h cells slots) : ev G M_Mo_code R E 84 lv rest h cells slots := ev_aload_n d_Mo_code_84 rfl hl k
theorem d_Mo_code_85 : decode prog_10_method_3_code 85 = .ok (.getfield 7, 3) := by decide +kernel
theorem s_Mo_code_85 {a : Nat} {fs : List Value} {v : Value} (hh : h a = mO 7 fs) (hv : fs[1]? = some v) (k : ev G M_Mo_code R E 88 lv (v :: rest) h cells slots) : ev G M_Mo_code R E 85 lv (.ref a :: rest) h cells slots := ev_getfield (ci := 7) (kf := 1) d_Mo_code_85 rfl ck7 (by decide) w_705 hh hv k
theorem d_Mo_code_88 : decode prog_10_method_3_code 88 = .ok (.iload_n 1, 1) := by decide +kernel
theorem s_Mo_code_88 {x : Int32} (hl : lg lv 1 = some (.int x)) (k : ev G M_Mo_code R E 89 lv (.int x :: rest) h cells slots) : ev G M_Mo_code R E 88 lv rest h cells slots := ev_iload_n d_Mo_code_88 rfl hl k
theorem d_Mo_code_89 : decode prog_10_method_3_code 89 = .ok (.aload_n 0, 1) := by decide +kernel
theorem s_Mo_code_89 {x : Nat} (hl : lg lv 0 = some (.ref x)) (k : ev G M_Mo_code R E 90 lv (.ref x :: rest) h cells slots) : ev G M_Mo_code R E 89 lv rest h cells slots := ev_aload_n d_Mo_code_89 rfl hl k
theorem d_Mo_code_90 : decode prog_10_method_3_code 90 = .ok (.getfield 7, 3) := by decide +kernel
theorem s_Mo_code_90 {a : Nat} {fs : List Value} {v : Value} (hh : h a = mO 7 fs) (hv : fs[1]? = some v) (k : ev G M_Mo_code R E 93 lv (v :: rest) h cells slots) : ev G M_Mo_code R E 90 lv (.ref a :: rest) h cells slots := ev_getfield (ci := 7) (kf := 1) d_Mo_code_90 rfl ck7 (by decide) w_705 hh hv k
theorem d_Mo_code_93 : decode prog_10_method_3_code 93 = .ok (.iload_n 1, 1) := by decide +kernel
theorem s_Mo_code_93 {x : Int32} (hl : lg lv 1 = some (.int x)) (k : ev G M_Mo_code R E 94 lv (.int x :: rest) h cells slots) : ev G M_Mo_code R E 93 lv rest h cells slots := ev_iload_n d_Mo_code_93 rfl hl k
theorem d_Mo_code_94 : decode prog_10_method_3_code 94 = .ok (.iaload, 1) := by decide +kernel
theorem s_Mo_code_94 {a n : Nat} {f : Nat → Int32} {i : Int32} (hh : h a = mI 0 n f) (hin : vp_in i n) (k : ev G M_Mo_code R E 95 lv (.int (f i.toNatClampNeg) :: rest) h cells slots) : ev G M_Mo_code R E 94 lv (.int i :: .ref a :: rest) h cells slots := ev_iaload d_Mo_code_94 rfl hh hin k
theorem d_Mo_code_95 : decode prog_10_method_3_code 95 = .ok (.iconst 1, 1) := by decide +kernel
theorem s_Mo_code_95  (k : ev G M_Mo_code R E 96 lv (.int 1 :: rest) h cells slots) : ev G M_Mo_code R E 95 lv rest h cells slots := ev_iconst d_Mo_code_95 (by decide) k
theorem d_Mo_code_96 : decode prog_10_method_3_code 96 = .ok (.iadd, 1) := by decide +kernel
theorem s_Mo_code_96 {x y : Int32} (k : ev G M_Mo_code R E 97 lv (.int (x + y) :: rest) h cells slots) : ev G M_Mo_code R E 96 lv (.int y :: .int x :: rest) h cells slots := ev_iadd d_Mo_code_96 k
theorem d_Mo_code_97 : decode prog_10_method_3_code 97 = .ok (.iastore, 1) := by decide +kernel
theorem s_Mo_code_97 {a n : Nat} {f : Nat → Int32} {i : Int32} {x : Int32} (hh : h a = mI 0 n f) (hin : vp_in i n) (k : ev G M_Mo_code R E 98 lv rest (va_up h a (mI 0 n (upd f i.toNatClampNeg x))) cells slots) : ev G M_Mo_code R E 97 lv (.int x :: .int i :: .ref a :: rest) h cells slots := ev_iastore d_Mo_code_97 rfl hh hin k
theorem d_Mo_code_98 : decode prog_10_method_3_code 98 = .ok (.aload_n 0, 1) := by decide +kernel
theorem s_Mo_code_98 {x : Nat} (hl : lg lv 0 = some (.ref x)) (k : ev G M_Mo_code R E 99 lv (.ref x :: rest) h cells slots) : ev G M_Mo_code R E 98 lv rest h cells slots := ev_aload_n d_Mo_code_98 rfl hl k
theorem d_Mo_code_99 : decode prog_10_method_3_code 99 = .ok (.getfield 7, 3) := by decide +kernel
theorem s_Mo_code_99 {a : Nat} {fs : List Value} {v : Value} (hh : h a = mO 7 fs) (hv : fs[1]? = some v) (k : ev G M_Mo_code R E 102 lv (v :: rest) h cells slots) : ev G M_Mo_code R E 99 lv (.ref a :: rest) h cells slots := ev_getfield (ci := 7) (kf := 1) d_Mo_code_99 rfl ck7 (by decide) w_705 hh hv k
theorem d_Mo_code_102 : decode prog_10_method_3_code 102 = .ok (.iload_n 1, 1) := by decide +kernel
theorem s_Mo_code_102 {x : Int32} (hl : lg lv 1 = some (.int x)) (k : ev G M_Mo_code R E 103 lv (.int x :: rest) h cells slots) : ev G M_Mo_code R E 102 lv rest h cells slots := ev_iload_n d_Mo_code_102 rfl hl k
theorem d_Mo_code_103 : decode prog_10_method_3_code 103 = .ok (.iaload, 1) := by decide +kernel
theorem s_Mo_code_103 {a n : Nat} {f : Nat → Int32} {i : Int32} (hh : h a = mI 0 n f) (hin : vp_in i n) (k : ev G M_Mo_code R E 104 lv (.int (f i.toNatClampNeg) :: rest) h cells slots) : ev G M_Mo_code R E 103 lv (.int i :: .ref a :: rest) h cells slots := ev_iaload d_Mo_code_103 rfl hh hin k
theorem d_Mo_code_104 : decode prog_10_method_3_code 104 = .ok (.iconst 1, 1) := by decide +kernel
theorem s_Mo_code_104  (k : ev G M_Mo_code R E 105 lv (.int 1 :: rest) h cells slots) : ev G M_Mo_code R E 104 lv rest h cells slots := ev_iconst d_Mo_code_104 (by decide) k
theorem d_Mo_code_105 : decode prog_10_method_3_code 105 = .ok (.isub, 1) := by decide +kernel
theorem s_Mo_code_105 {x y : Int32} (k : ev G M_Mo_code R E 106 lv (.int (x - y) :: rest) h cells slots) : ev G M_Mo_code R E 105 lv (.int y :: .int x :: rest) h cells slots := ev_isub d_Mo_code_105 k
theorem d_Mo_code_106 : decode prog_10_method_3_code 106 = .ok (.ireturn, 1) := by decide +kernel
theorem s_Mo_code_106 {P : Option Value → HP → Prop} {mc ms : Nat} {v : Int32} (hP : P (some (.int v)) h) (hc : cells ≤ mc ∧ slots ≤ ms) : ev G M_Mo_code R (Er M_Mo_code P mc ms) 106 lv [.int v] h cells slots := ev_exit ⟨hc.1, hc.2, Or.inr (Or.inl ⟨v, .int, rfl, rfl, d_Mo_code_106, rfl, hP⟩)⟩
abbrev M_Mo_put : MW := (⟨"UseOnceMachineModel", "put", "(IIIIII)V"⟩, prog_10_method_6_code, 7, none)
theorem hy_Mo_put : M_Mo_put.1.cls ≠ "java/lang/invoke/MethodHandle" ∧ M_Mo_put.1.cls ≠ "java/lang/invoke/VarHandle" ∧ (parseMethodDescriptor M_Mo_put.1.desc).map (fun d => d.parameters.length) = some 6 := by decide +kernel
theorem d_Mo_put_0 : decode prog_10_method_6_code 0 = .ok (.aload_n 0, 1) := by decide +kernel
theorem s_Mo_put_0 {x : Nat} (hl : lg lv 0 = some (.ref x)) (k : ev G M_Mo_put R E 1 lv (.ref x :: rest) h cells slots) : ev G M_Mo_put R E 0 lv rest h cells slots := ev_aload_n d_Mo_put_0 rfl hl k
theorem d_Mo_put_1 : decode prog_10_method_6_code 1 = .ok (.getfield 16, 3) := by decide +kernel
theorem s_Mo_put_1 {a : Nat} {fs : List Value} {v : Value} (hh : h a = mO 7 fs) (hv : fs[3]? = some v) (k : ev G M_Mo_put R E 4 lv (v :: rest) h cells slots) : ev G M_Mo_put R E 1 lv (.ref a :: rest) h cells slots := ev_getfield (ci := 7) (kf := 3) d_Mo_put_1 rfl ck7 (by decide) w_707 hh hv k
theorem d_Mo_put_4 : decode prog_10_method_6_code 4 = .ok (.iconst 5, 1) := by decide +kernel
theorem s_Mo_put_4  (k : ev G M_Mo_put R E 5 lv (.int 5 :: rest) h cells slots) : ev G M_Mo_put R E 4 lv rest h cells slots := ev_iconst d_Mo_put_4 (by decide) k
theorem d_Mo_put_5 : decode prog_10_method_6_code 5 = .ok (.iload_n 1, 1) := by decide +kernel
theorem s_Mo_put_5 {x : Int32} (hl : lg lv 1 = some (.int x)) (k : ev G M_Mo_put R E 6 lv (.int x :: rest) h cells slots) : ev G M_Mo_put R E 5 lv rest h cells slots := ev_iload_n d_Mo_put_5 rfl hl k
theorem d_Mo_put_6 : decode prog_10_method_6_code 6 = .ok (.imul, 1) := by decide +kernel
theorem s_Mo_put_6 {x y : Int32} (k : ev G M_Mo_put R E 7 lv (.int (x * y) :: rest) h cells slots) : ev G M_Mo_put R E 6 lv (.int y :: .int x :: rest) h cells slots := ev_imul d_Mo_put_6 k
theorem d_Mo_put_7 : decode prog_10_method_6_code 7 = .ok (.iload_n 2, 1) := by decide +kernel
theorem s_Mo_put_7 {x : Int32} (hl : lg lv 2 = some (.int x)) (k : ev G M_Mo_put R E 8 lv (.int x :: rest) h cells slots) : ev G M_Mo_put R E 7 lv rest h cells slots := ev_iload_n d_Mo_put_7 rfl hl k
theorem d_Mo_put_8 : decode prog_10_method_6_code 8 = .ok (.iastore, 1) := by decide +kernel
theorem s_Mo_put_8 {a n : Nat} {f : Nat → Int32} {i : Int32} {x : Int32} (hh : h a = mI 0 n f) (hin : vp_in i n) (k : ev G M_Mo_put R E 9 lv rest (va_up h a (mI 0 n (upd f i.toNatClampNeg x))) cells slots) : ev G M_Mo_put R E 8 lv (.int x :: .int i :: .ref a :: rest) h cells slots := ev_iastore d_Mo_put_8 rfl hh hin k
theorem d_Mo_put_9 : decode prog_10_method_6_code 9 = .ok (.aload_n 0, 1) := by decide +kernel
theorem s_Mo_put_9 {x : Nat} (hl : lg lv 0 = some (.ref x)) (k : ev G M_Mo_put R E 10 lv (.ref x :: rest) h cells slots) : ev G M_Mo_put R E 9 lv rest h cells slots := ev_aload_n d_Mo_put_9 rfl hl k
theorem d_Mo_put_10 : decode prog_10_method_6_code 10 = .ok (.getfield 16, 3) := by decide +kernel
theorem s_Mo_put_10 {a : Nat} {fs : List Value} {v : Value} (hh : h a = mO 7 fs) (hv : fs[3]? = some v) (k : ev G M_Mo_put R E 13 lv (v :: rest) h cells slots) : ev G M_Mo_put R E 10 lv (.ref a :: rest) h cells slots := ev_getfield (ci := 7) (kf := 3) d_Mo_put_10 rfl ck7 (by decide) w_707 hh hv k
theorem d_Mo_put_13 : decode prog_10_method_6_code 13 = .ok (.iconst 5, 1) := by decide +kernel
theorem s_Mo_put_13  (k : ev G M_Mo_put R E 14 lv (.int 5 :: rest) h cells slots) : ev G M_Mo_put R E 13 lv rest h cells slots := ev_iconst d_Mo_put_13 (by decide) k
theorem d_Mo_put_14 : decode prog_10_method_6_code 14 = .ok (.iload_n 1, 1) := by decide +kernel
theorem s_Mo_put_14 {x : Int32} (hl : lg lv 1 = some (.int x)) (k : ev G M_Mo_put R E 15 lv (.int x :: rest) h cells slots) : ev G M_Mo_put R E 14 lv rest h cells slots := ev_iload_n d_Mo_put_14 rfl hl k
theorem d_Mo_put_15 : decode prog_10_method_6_code 15 = .ok (.imul, 1) := by decide +kernel
theorem s_Mo_put_15 {x y : Int32} (k : ev G M_Mo_put R E 16 lv (.int (x * y) :: rest) h cells slots) : ev G M_Mo_put R E 15 lv (.int y :: .int x :: rest) h cells slots := ev_imul d_Mo_put_15 k
theorem d_Mo_put_16 : decode prog_10_method_6_code 16 = .ok (.iconst 1, 1) := by decide +kernel
theorem s_Mo_put_16  (k : ev G M_Mo_put R E 17 lv (.int 1 :: rest) h cells slots) : ev G M_Mo_put R E 16 lv rest h cells slots := ev_iconst d_Mo_put_16 (by decide) k
theorem d_Mo_put_17 : decode prog_10_method_6_code 17 = .ok (.iadd, 1) := by decide +kernel
theorem s_Mo_put_17 {x y : Int32} (k : ev G M_Mo_put R E 18 lv (.int (x + y) :: rest) h cells slots) : ev G M_Mo_put R E 17 lv (.int y :: .int x :: rest) h cells slots := ev_iadd d_Mo_put_17 k
theorem d_Mo_put_18 : decode prog_10_method_6_code 18 = .ok (.iload_n 3, 1) := by decide +kernel
theorem s_Mo_put_18 {x : Int32} (hl : lg lv 3 = some (.int x)) (k : ev G M_Mo_put R E 19 lv (.int x :: rest) h cells slots) : ev G M_Mo_put R E 18 lv rest h cells slots := ev_iload_n d_Mo_put_18 rfl hl k
theorem d_Mo_put_19 : decode prog_10_method_6_code 19 = .ok (.iastore, 1) := by decide +kernel
theorem s_Mo_put_19 {a n : Nat} {f : Nat → Int32} {i : Int32} {x : Int32} (hh : h a = mI 0 n f) (hin : vp_in i n) (k : ev G M_Mo_put R E 20 lv rest (va_up h a (mI 0 n (upd f i.toNatClampNeg x))) cells slots) : ev G M_Mo_put R E 19 lv (.int x :: .int i :: .ref a :: rest) h cells slots := ev_iastore d_Mo_put_19 rfl hh hin k
theorem d_Mo_put_20 : decode prog_10_method_6_code 20 = .ok (.aload_n 0, 1) := by decide +kernel
theorem s_Mo_put_20 {x : Nat} (hl : lg lv 0 = some (.ref x)) (k : ev G M_Mo_put R E 21 lv (.ref x :: rest) h cells slots) : ev G M_Mo_put R E 20 lv rest h cells slots := ev_aload_n d_Mo_put_20 rfl hl k
theorem d_Mo_put_21 : decode prog_10_method_6_code 21 = .ok (.getfield 16, 3) := by decide +kernel
theorem s_Mo_put_21 {a : Nat} {fs : List Value} {v : Value} (hh : h a = mO 7 fs) (hv : fs[3]? = some v) (k : ev G M_Mo_put R E 24 lv (v :: rest) h cells slots) : ev G M_Mo_put R E 21 lv (.ref a :: rest) h cells slots := ev_getfield (ci := 7) (kf := 3) d_Mo_put_21 rfl ck7 (by decide) w_707 hh hv k
theorem d_Mo_put_24 : decode prog_10_method_6_code 24 = .ok (.iconst 5, 1) := by decide +kernel
theorem s_Mo_put_24  (k : ev G M_Mo_put R E 25 lv (.int 5 :: rest) h cells slots) : ev G M_Mo_put R E 24 lv rest h cells slots := ev_iconst d_Mo_put_24 (by decide) k
theorem d_Mo_put_25 : decode prog_10_method_6_code 25 = .ok (.iload_n 1, 1) := by decide +kernel
theorem s_Mo_put_25 {x : Int32} (hl : lg lv 1 = some (.int x)) (k : ev G M_Mo_put R E 26 lv (.int x :: rest) h cells slots) : ev G M_Mo_put R E 25 lv rest h cells slots := ev_iload_n d_Mo_put_25 rfl hl k
theorem d_Mo_put_26 : decode prog_10_method_6_code 26 = .ok (.imul, 1) := by decide +kernel
theorem s_Mo_put_26 {x y : Int32} (k : ev G M_Mo_put R E 27 lv (.int (x * y) :: rest) h cells slots) : ev G M_Mo_put R E 26 lv (.int y :: .int x :: rest) h cells slots := ev_imul d_Mo_put_26 k
theorem d_Mo_put_27 : decode prog_10_method_6_code 27 = .ok (.iconst 2, 1) := by decide +kernel
theorem s_Mo_put_27  (k : ev G M_Mo_put R E 28 lv (.int 2 :: rest) h cells slots) : ev G M_Mo_put R E 27 lv rest h cells slots := ev_iconst d_Mo_put_27 (by decide) k
theorem d_Mo_put_28 : decode prog_10_method_6_code 28 = .ok (.iadd, 1) := by decide +kernel
theorem s_Mo_put_28 {x y : Int32} (k : ev G M_Mo_put R E 29 lv (.int (x + y) :: rest) h cells slots) : ev G M_Mo_put R E 28 lv (.int y :: .int x :: rest) h cells slots := ev_iadd d_Mo_put_28 k
theorem d_Mo_put_29 : decode prog_10_method_6_code 29 = .ok (.iload 4, 2) := by decide +kernel
theorem s_Mo_put_29 {x : Int32} (hl : lg lv 4 = some (.int x)) (k : ev G M_Mo_put R E 31 lv (.int x :: rest) h cells slots) : ev G M_Mo_put R E 29 lv rest h cells slots := ev_iload d_Mo_put_29 hl k
theorem d_Mo_put_31 : decode prog_10_method_6_code 31 = .ok (.iastore, 1) := by decide +kernel
theorem s_Mo_put_31 {a n : Nat} {f : Nat → Int32} {i : Int32} {x : Int32} (hh : h a = mI 0 n f) (hin : vp_in i n) (k : ev G M_Mo_put R E 32 lv rest (va_up h a (mI 0 n (upd f i.toNatClampNeg x))) cells slots) : ev G M_Mo_put R E 31 lv (.int x :: .int i :: .ref a :: rest) h cells slots := ev_iastore d_Mo_put_31 rfl hh hin k
theorem d_Mo_put_32 : decode prog_10_method_6_code 32 = .ok (.aload_n 0, 1) := by decide +kernel
theorem s_Mo_put_32 {x : Nat} (hl : lg lv 0 = some (.ref x)) (k : ev G M_Mo_put R E 33 lv (.ref x :: rest) h cells slots) : ev G M_Mo_put R E 32 lv rest h cells slots := ev_aload_n d_Mo_put_32 rfl hl k
theorem d_Mo_put_33 : decode prog_10_method_6_code 33 = .ok (.getfield 16, 3) := by decide +kernel
theorem s_Mo_put_33 {a : Nat} {fs : List Value} {v : Value} (hh : h a = mO 7 fs) (hv : fs[3]? = some v) (k : ev G M_Mo_put R E 36 lv (v :: rest) h cells slots) : ev G M_Mo_put R E 33 lv (.ref a :: rest) h cells slots := ev_getfield (ci := 7) (kf := 3) d_Mo_put_33 rfl ck7 (by decide) w_707 hh hv k
theorem d_Mo_put_36 : decode prog_10_method_6_code 36 = .ok (.iconst 5, 1) := by decide +kernel
theorem s_Mo_put_36  (k : ev G M_Mo_put R E 37 lv (.int 5 :: rest) h cells slots) : ev G M_Mo_put R E 36 lv rest h cells slots := ev_iconst d_Mo_put_36 (by decide) k
theorem d_Mo_put_37 : decode prog_10_method_6_code 37 = .ok (.iload_n 1, 1) := by decide +kernel
theorem s_Mo_put_37 {x : Int32} (hl : lg lv 1 = some (.int x)) (k : ev G M_Mo_put R E 38 lv (.int x :: rest) h cells slots) : ev G M_Mo_put R E 37 lv rest h cells slots := ev_iload_n d_Mo_put_37 rfl hl k
theorem d_Mo_put_38 : decode prog_10_method_6_code 38 = .ok (.imul, 1) := by decide +kernel
theorem s_Mo_put_38 {x y : Int32} (k : ev G M_Mo_put R E 39 lv (.int (x * y) :: rest) h cells slots) : ev G M_Mo_put R E 38 lv (.int y :: .int x :: rest) h cells slots := ev_imul d_Mo_put_38 k
theorem d_Mo_put_39 : decode prog_10_method_6_code 39 = .ok (.iconst 3, 1) := by decide +kernel
theorem s_Mo_put_39  (k : ev G M_Mo_put R E 40 lv (.int 3 :: rest) h cells slots) : ev G M_Mo_put R E 39 lv rest h cells slots := ev_iconst d_Mo_put_39 (by decide) k
theorem d_Mo_put_40 : decode prog_10_method_6_code 40 = .ok (.iadd, 1) := by decide +kernel
theorem s_Mo_put_40 {x y : Int32} (k : ev G M_Mo_put R E 41 lv (.int (x + y) :: rest) h cells slots) : ev G M_Mo_put R E 40 lv (.int y :: .int x :: rest) h cells slots := ev_iadd d_Mo_put_40 k
theorem d_Mo_put_41 : decode prog_10_method_6_code 41 = .ok (.iload 5, 2) := by decide +kernel
theorem s_Mo_put_41 {x : Int32} (hl : lg lv 5 = some (.int x)) (k : ev G M_Mo_put R E 43 lv (.int x :: rest) h cells slots) : ev G M_Mo_put R E 41 lv rest h cells slots := ev_iload d_Mo_put_41 hl k
theorem d_Mo_put_43 : decode prog_10_method_6_code 43 = .ok (.iastore, 1) := by decide +kernel
theorem s_Mo_put_43 {a n : Nat} {f : Nat → Int32} {i : Int32} {x : Int32} (hh : h a = mI 0 n f) (hin : vp_in i n) (k : ev G M_Mo_put R E 44 lv rest (va_up h a (mI 0 n (upd f i.toNatClampNeg x))) cells slots) : ev G M_Mo_put R E 43 lv (.int x :: .int i :: .ref a :: rest) h cells slots := ev_iastore d_Mo_put_43 rfl hh hin k
theorem d_Mo_put_44 : decode prog_10_method_6_code 44 = .ok (.aload_n 0, 1) := by decide +kernel
theorem s_Mo_put_44 {x : Nat} (hl : lg lv 0 = some (.ref x)) (k : ev G M_Mo_put R E 45 lv (.ref x :: rest) h cells slots) : ev G M_Mo_put R E 44 lv rest h cells slots := ev_aload_n d_Mo_put_44 rfl hl k
theorem d_Mo_put_45 : decode prog_10_method_6_code 45 = .ok (.getfield 16, 3) := by decide +kernel
theorem s_Mo_put_45 {a : Nat} {fs : List Value} {v : Value} (hh : h a = mO 7 fs) (hv : fs[3]? = some v) (k : ev G M_Mo_put R E 48 lv (v :: rest) h cells slots) : ev G M_Mo_put R E 45 lv (.ref a :: rest) h cells slots := ev_getfield (ci := 7) (kf := 3) d_Mo_put_45 rfl ck7 (by decide) w_707 hh hv k
theorem d_Mo_put_48 : decode prog_10_method_6_code 48 = .ok (.iconst 5, 1) := by decide +kernel
theorem s_Mo_put_48  (k : ev G M_Mo_put R E 49 lv (.int 5 :: rest) h cells slots) : ev G M_Mo_put R E 48 lv rest h cells slots := ev_iconst d_Mo_put_48 (by decide) k
theorem d_Mo_put_49 : decode prog_10_method_6_code 49 = .ok (.iload_n 1, 1) := by decide +kernel
theorem s_Mo_put_49 {x : Int32} (hl : lg lv 1 = some (.int x)) (k : ev G M_Mo_put R E 50 lv (.int x :: rest) h cells slots) : ev G M_Mo_put R E 49 lv rest h cells slots := ev_iload_n d_Mo_put_49 rfl hl k
theorem d_Mo_put_50 : decode prog_10_method_6_code 50 = .ok (.imul, 1) := by decide +kernel
theorem s_Mo_put_50 {x y : Int32} (k : ev G M_Mo_put R E 51 lv (.int (x * y) :: rest) h cells slots) : ev G M_Mo_put R E 50 lv (.int y :: .int x :: rest) h cells slots := ev_imul d_Mo_put_50 k
theorem d_Mo_put_51 : decode prog_10_method_6_code 51 = .ok (.iconst 4, 1) := by decide +kernel
theorem s_Mo_put_51  (k : ev G M_Mo_put R E 52 lv (.int 4 :: rest) h cells slots) : ev G M_Mo_put R E 51 lv rest h cells slots := ev_iconst d_Mo_put_51 (by decide) k
theorem d_Mo_put_52 : decode prog_10_method_6_code 52 = .ok (.iadd, 1) := by decide +kernel
theorem s_Mo_put_52 {x y : Int32} (k : ev G M_Mo_put R E 53 lv (.int (x + y) :: rest) h cells slots) : ev G M_Mo_put R E 52 lv (.int y :: .int x :: rest) h cells slots := ev_iadd d_Mo_put_52 k
theorem d_Mo_put_53 : decode prog_10_method_6_code 53 = .ok (.iload 6, 2) := by decide +kernel
theorem s_Mo_put_53 {x : Int32} (hl : lg lv 6 = some (.int x)) (k : ev G M_Mo_put R E 55 lv (.int x :: rest) h cells slots) : ev G M_Mo_put R E 53 lv rest h cells slots := ev_iload d_Mo_put_53 hl k
theorem d_Mo_put_55 : decode prog_10_method_6_code 55 = .ok (.iastore, 1) := by decide +kernel
theorem s_Mo_put_55 {a n : Nat} {f : Nat → Int32} {i : Int32} {x : Int32} (hh : h a = mI 0 n f) (hin : vp_in i n) (k : ev G M_Mo_put R E 56 lv rest (va_up h a (mI 0 n (upd f i.toNatClampNeg x))) cells slots) : ev G M_Mo_put R E 55 lv (.int x :: .int i :: .ref a :: rest) h cells slots := ev_iastore d_Mo_put_55 rfl hh hin k
theorem d_Mo_put_56 : decode prog_10_method_6_code 56 = .ok (.return_, 1) := by decide +kernel
theorem s_Mo_put_56 {P : Option Value → HP → Prop} {mc ms : Nat} (hP : P none h) (hc : cells ≤ mc ∧ slots ≤ ms) : ev G M_Mo_put R (Er M_Mo_put P mc ms) 56 lv [] h cells slots := ev_exit ⟨hc.1, hc.2, Or.inl ⟨rfl, d_Mo_put_56, rfl, hP⟩⟩
abbrev M_Mo_clear : MW := (⟨"UseOnceMachineModel", "clear", "(I)V"⟩, prog_10_method_7_code, 2, none)
theorem hy_Mo_clear : M_Mo_clear.1.cls ≠ "java/lang/invoke/MethodHandle" ∧ M_Mo_clear.1.cls ≠ "java/lang/invoke/VarHandle" ∧ (parseMethodDescriptor M_Mo_clear.1.desc).map (fun d => d.parameters.length) = some 1 := by decide +kernel
theorem d_Mo_clear_0 : decode prog_10_method_7_code 0 = .ok (.aload_n 0, 1) := by decide +kernel
theorem s_Mo_clear_0 {x : Nat} (hl : lg lv 0 = some (.ref x)) (k : ev G M_Mo_clear R E 1 lv (.ref x :: rest) h cells slots) : ev G M_Mo_clear R E 0 lv rest h cells slots := ev_aload_n d_Mo_clear_0 rfl hl k
theorem d_Mo_clear_1 : decode prog_10_method_7_code 1 = .ok (.iload_n 1, 1) := by decide +kernel
theorem s_Mo_clear_1 {x : Int32} (hl : lg lv 1 = some (.int x)) (k : ev G M_Mo_clear R E 2 lv (.int x :: rest) h cells slots) : ev G M_Mo_clear R E 1 lv rest h cells slots := ev_iload_n d_Mo_clear_1 rfl hl k
theorem d_Mo_clear_2 : decode prog_10_method_7_code 2 = .ok (.iconst 0, 1) := by decide +kernel
theorem s_Mo_clear_2  (k : ev G M_Mo_clear R E 3 lv (.int 0 :: rest) h cells slots) : ev G M_Mo_clear R E 2 lv rest h cells slots := ev_iconst d_Mo_clear_2 (by decide) k
theorem d_Mo_clear_3 : decode prog_10_method_7_code 3 = .ok (.iconst 0, 1) := by decide +kernel
theorem s_Mo_clear_3  (k : ev G M_Mo_clear R E 4 lv (.int 0 :: rest) h cells slots) : ev G M_Mo_clear R E 3 lv rest h cells slots := ev_iconst d_Mo_clear_3 (by decide) k
theorem d_Mo_clear_4 : decode prog_10_method_7_code 4 = .ok (.iconst 0, 1) := by decide +kernel
theorem s_Mo_clear_4  (k : ev G M_Mo_clear R E 5 lv (.int 0 :: rest) h cells slots) : ev G M_Mo_clear R E 4 lv rest h cells slots := ev_iconst d_Mo_clear_4 (by decide) k
theorem d_Mo_clear_5 : decode prog_10_method_7_code 5 = .ok (.iconst 0, 1) := by decide +kernel
theorem s_Mo_clear_5  (k : ev G M_Mo_clear R E 6 lv (.int 0 :: rest) h cells slots) : ev G M_Mo_clear R E 5 lv rest h cells slots := ev_iconst d_Mo_clear_5 (by decide) k
theorem d_Mo_clear_6 : decode prog_10_method_7_code 6 = .ok (.iconst 0, 1) := by decide +kernel
theorem s_Mo_clear_6  (k : ev G M_Mo_clear R E 7 lv (.int 0 :: rest) h cells slots) : ev G M_Mo_clear R E 6 lv rest h cells slots := ev_iconst d_Mo_clear_6 (by decide) k
theorem d_Mo_clear_7 : decode prog_10_method_7_code 7 = .ok (.invokevirtual 58, 3) := by decide +kernel
theorem s_Mo_clear_7 {mc ms : Nat} {P : Option Value → HP → Prop} {a0 : Int32} {a1 : Int32} {a2 : Int32} {a3 : Int32} {a4 : Int32} {a5 : Int32} {b : Nat} {fs : List Value} {v0 : Value} (hm : mt G M_Mo_put 0 mc ms (.ref b :: [.int a0, .int a1, .int a2, .int a3, .int a4, .int a5]) h P) (hb : h b = mO 7 fs) (hv0 : fs[0]? = some v0) (hR : 0 + 1 ≤ R.frames ∧ 8 + (7 + 11) + 39 * 0 ≤ R.locals) (hcs : cells + mc ≤ R.cells ∧ slots + ms ≤ R.slots) (hrest : (rest.map fun v => v.category).sum ≤ 8) (k : ∀ (r : Option Value) (h' : HP), P r h' → ev G M_Mo_clear R E 10 lv (r.toList ++ rest) h' (cells + mc) (slots + ms)) : ev G M_Mo_clear R E 7 lv (.int a5 :: .int a4 :: .int a3 :: .int a2 :: .int a1 :: .int a0 :: .ref b :: rest) h cells slots := ev_callV (as := [.int a0, .int a1, .int a2, .int a3, .int a4, .int a5]) (ci := 7) d_Mo_clear_7 hm hb hv0 rfl w_784 w_786 w_35 w_70 w_787 hy_Mo_put hR hcs hrest k
theorem d_Mo_clear_10 : decode prog_10_method_7_code 10 = .ok (.return_, 1) := by decide +kernel
theorem s_Mo_clear_10 {P : Option Value → HP → Prop} {mc ms : Nat} (hP : P none h) (hc : cells ≤ mc ∧ slots ≤ ms) : ev G M_Mo_clear R (Er M_Mo_clear P mc ms) 10 lv [] h cells slots := ev_exit ⟨hc.1, hc.2, Or.inl ⟨rfl, d_Mo_clear_10, rfl, hP⟩⟩
abbrev M_Mo_begin : MW := (⟨"UseOnceMachineModel", "begin", "()V"⟩, prog_10_method_13_code, 2, none)
theorem hy_Mo_begin : M_Mo_begin.1.cls ≠ "java/lang/invoke/MethodHandle" ∧ M_Mo_begin.1.cls ≠ "java/lang/invoke/VarHandle" ∧ (parseMethodDescriptor M_Mo_begin.1.desc).map (fun d => d.parameters.length) = some 0 := by decide +kernel
theorem d_Mo_begin_0 : decode prog_10_method_13_code 0 = .ok (.iconst 0, 1) := by decide +kernel
theorem s_Mo_begin_0  (k : ev G M_Mo_begin R E 1 lv (.int 0 :: rest) h cells slots) : ev G M_Mo_begin R E 0 lv rest h cells slots := ev_iconst d_Mo_begin_0 (by decide) k
theorem d_Mo_begin_1 : decode prog_10_method_13_code 1 = .ok (.istore_n 1, 1) := by decide +kernel
theorem s_Mo_begin_1 {x : Int32} (k : ev G M_Mo_begin R E 2 (ls1 lv 1 (.int x)) rest h cells slots) : ev G M_Mo_begin R E 1 lv (.int x :: rest) h cells slots := ev_istore_n d_Mo_begin_1 rfl (by decide) k
theorem d_Mo_begin_2 : decode prog_10_method_13_code 2 = .ok (.iload_n 1, 1) := by decide +kernel
theorem s_Mo_begin_2 {x : Int32} (hl : lg lv 1 = some (.int x)) (k : ev G M_Mo_begin R E 3 lv (.int x :: rest) h cells slots) : ev G M_Mo_begin R E 2 lv rest h cells slots := ev_iload_n d_Mo_begin_2 rfl hl k
theorem d_Mo_begin_3 : decode prog_10_method_13_code 3 = .ok (.bipush 102, 2) := by decide +kernel
theorem s_Mo_begin_3  (k : ev G M_Mo_begin R E 5 lv (.int 102 :: rest) h cells slots) : ev G M_Mo_begin R E 3 lv rest h cells slots := ev_bipush d_Mo_begin_3 (by decide) k
theorem d_Mo_begin_5 : decode prog_10_method_13_code 5 = .ok (.if_icmp .ge 14, 3) := by decide +kernel
theorem s_Mo_begin_5 {x y : Int32} (kt : y ≤ x → ev G M_Mo_begin R E 19 lv rest h cells slots) (kf : ¬ y ≤ x → ev G M_Mo_begin R E 8 lv rest h cells slots) : ev G M_Mo_begin R E 5 lv (.int y :: .int x :: rest) h cells slots := ev_icmp_ge d_Mo_begin_5 (by decide) kt kf
theorem d_Mo_begin_8 : decode prog_10_method_13_code 8 = .ok (.aload_n 0, 1) := by decide +kernel
theorem s_Mo_begin_8 {x : Nat} (hl : lg lv 0 = some (.ref x)) (k : ev G M_Mo_begin R E 9 lv (.ref x :: rest) h cells slots) : ev G M_Mo_begin R E 8 lv rest h cells slots := ev_aload_n d_Mo_begin_8 rfl hl k
theorem d_Mo_begin_9 : decode prog_10_method_13_code 9 = .ok (.iload_n 1, 1) := by decide +kernel
theorem s_Mo_begin_9 {x : Int32} (hl : lg lv 1 = some (.int x)) (k : ev G M_Mo_begin R E 10 lv (.int x :: rest) h cells slots) : ev G M_Mo_begin R E 9 lv rest h cells slots := ev_iload_n d_Mo_begin_9 rfl hl k
theorem d_Mo_begin_10 : decode prog_10_method_13_code 10 = .ok (.invokevirtual 70, 3) := by decide +kernel
theorem s_Mo_begin_10 {mc ms : Nat} {P : Option Value → HP → Prop} {a0 : Int32} {b : Nat} {fs : List Value} {v0 : Value} (hm : mt G M_Mo_clear 1 mc ms (.ref b :: [.int a0]) h P) (hb : h b = mO 7 fs) (hv0 : fs[0]? = some v0) (hR : 1 + 1 ≤ R.frames ∧ 8 + (2 + 11) + 39 * 1 ≤ R.locals) (hcs : cells + mc ≤ R.cells ∧ slots + ms ≤ R.slots) (hrest : (rest.map fun v => v.category).sum ≤ 8) (k : ∀ (r : Option Value) (h' : HP), P r h' → ev G M_Mo_begin R E 13 lv (r.toList ++ rest) h' (cells + mc) (slots + ms)) : ev G M_Mo_begin R E 10 lv (.int a0 :: .ref b :: rest) h cells slots := ev_callV (as := [.int a0]) (ci := 7) d_Mo_begin_10 hm hb hv0 rfl w_780 w_782 w_34 w_70 w_783 hy_Mo_clear hR hcs hrest k
theorem d_Mo_begin_13 : decode prog_10_method_13_code 13 = .ok (.iinc 1 1, 3) := by decide +kernel
theorem s_Mo_begin_13 {x : Int32} (hl : lg lv 1 = some (.int x)) (k : ev G M_Mo_begin R E 16 (ls1 lv 1 (.int (x + 1))) rest h cells slots) : ev G M_Mo_begin R E 13 lv rest h cells slots := ev_iinc d_Mo_begin_13 (by decide) hl (by decide) k
theorem d_Mo_begin_16 : decode prog_10_method_13_code 16 = .ok (.goto (-14), 3) := by decide +kernel
theorem s_Mo_begin_16  (k : ev G M_Mo_begin R E 2 lv rest h cells slots) : ev G M_Mo_begin R E 16 lv rest h cells slots := ev_goto d_Mo_begin_16 (by decide) k
theorem d_Mo_begin_19 : decode prog_10_method_13_code 19 = .ok (.iconst 0, 1) := by decide +kernel
theorem s_Mo_begin_19  (k : ev G M_Mo_begin R E 20 lv (.int 0 :: rest) h cells slots) : ev G M_Mo_begin R E 19 lv rest h cells slots := ev_iconst d_Mo_begin_19 (by decide) k
theorem d_Mo_begin_20 : decode prog_10_method_13_code 20 = .ok (.istore_n 1, 1) := by decide +kernel
theorem s_Mo_begin_20 {x : Int32} (k : ev G M_Mo_begin R E 21 (ls1 lv 1 (.int x)) rest h cells slots) : ev G M_Mo_begin R E 20 lv (.int x :: rest) h cells slots := ev_istore_n d_Mo_begin_20 rfl (by decide) k
theorem d_Mo_begin_21 : decode prog_10_method_13_code 21 = .ok (.iload_n 1, 1) := by decide +kernel
theorem s_Mo_begin_21 {x : Int32} (hl : lg lv 1 = some (.int x)) (k : ev G M_Mo_begin R E 22 lv (.int x :: rest) h cells slots) : ev G M_Mo_begin R E 21 lv rest h cells slots := ev_iload_n d_Mo_begin_21 rfl hl k
theorem d_Mo_begin_22 : decode prog_10_method_13_code 22 = .ok (.bipush 6, 2) := by decide +kernel
theorem s_Mo_begin_22  (k : ev G M_Mo_begin R E 24 lv (.int 6 :: rest) h cells slots) : ev G M_Mo_begin R E 22 lv rest h cells slots := ev_bipush d_Mo_begin_22 (by decide) k
theorem d_Mo_begin_24 : decode prog_10_method_13_code 24 = .ok (.if_icmp .ge 23, 3) := by decide +kernel
theorem s_Mo_begin_24 {x y : Int32} (kt : y ≤ x → ev G M_Mo_begin R E 47 lv rest h cells slots) (kf : ¬ y ≤ x → ev G M_Mo_begin R E 27 lv rest h cells slots) : ev G M_Mo_begin R E 24 lv (.int y :: .int x :: rest) h cells slots := ev_icmp_ge d_Mo_begin_24 (by decide) kt kf
theorem d_Mo_begin_27 : decode prog_10_method_13_code 27 = .ok (.aload_n 0, 1) := by decide +kernel
theorem s_Mo_begin_27 {x : Nat} (hl : lg lv 0 = some (.ref x)) (k : ev G M_Mo_begin R E 28 lv (.ref x :: rest) h cells slots) : ev G M_Mo_begin R E 27 lv rest h cells slots := ev_aload_n d_Mo_begin_27 rfl hl k
theorem d_Mo_begin_28 : decode prog_10_method_13_code 28 = .ok (.getfield 19, 3) := by decide +kernel
theorem s_Mo_begin_28 {a : Nat} {fs : List Value} {v : Value} (hh : h a = mO 7 fs) (hv : fs[4]? = some v) (k : ev G M_Mo_begin R E 31 lv (v :: rest) h cells slots) : ev G M_Mo_begin R E 28 lv (.ref a :: rest) h cells slots := ev_getfield (ci := 7) (kf := 4) d_Mo_begin_28 rfl ck7 (by decide) w_708 hh hv k
theorem d_Mo_begin_31 : decode prog_10_method_13_code 31 = .ok (.iload_n 1, 1) := by decide +kernel
theorem s_Mo_begin_31 {x : Int32} (hl : lg lv 1 = some (.int x)) (k : ev G M_Mo_begin R E 32 lv (.int x :: rest) h cells slots) : ev G M_Mo_begin R E 31 lv rest h cells slots := ev_iload_n d_Mo_begin_31 rfl hl k
theorem d_Mo_begin_32 : decode prog_10_method_13_code 32 = .ok (.iconst 0, 1) := by decide +kernel
theorem s_Mo_begin_32  (k : ev G M_Mo_begin R E 33 lv (.int 0 :: rest) h cells slots) : ev G M_Mo_begin R E 32 lv rest h cells slots := ev_iconst d_Mo_begin_32 (by decide) k
theorem d_Mo_begin_33 : decode prog_10_method_13_code 33 = .ok (.iastore, 1) := by decide +kernel
theorem s_Mo_begin_33 {a n : Nat} {f : Nat → Int32} {i : Int32} {x : Int32} (hh : h a = mI 0 n f) (hin : vp_in i n) (k : ev G M_Mo_begin R E 34 lv rest (va_up h a (mI 0 n (upd f i.toNatClampNeg x))) cells slots) : ev G M_Mo_begin R E 33 lv (.int x :: .int i :: .ref a :: rest) h cells slots := ev_iastore d_Mo_begin_33 rfl hh hin k
theorem d_Mo_begin_34 : decode prog_10_method_13_code 34 = .ok (.aload_n 0, 1) := by decide +kernel
theorem s_Mo_begin_34 {x : Nat} (hl : lg lv 0 = some (.ref x)) (k : ev G M_Mo_begin R E 35 lv (.ref x :: rest) h cells slots) : ev G M_Mo_begin R E 34 lv rest h cells slots := ev_aload_n d_Mo_begin_34 rfl hl k
theorem d_Mo_begin_35 : decode prog_10_method_13_code 35 = .ok (.getfield 28, 3) := by decide +kernel
theorem s_Mo_begin_35 {a : Nat} {fs : List Value} {v : Value} (hh : h a = mO 7 fs) (hv : fs[7]? = some v) (k : ev G M_Mo_begin R E 38 lv (v :: rest) h cells slots) : ev G M_Mo_begin R E 35 lv (.ref a :: rest) h cells slots := ev_getfield (ci := 7) (kf := 7) d_Mo_begin_35 rfl ck7 (by decide) w_711 hh hv k
theorem d_Mo_begin_38 : decode prog_10_method_13_code 38 = .ok (.iload_n 1, 1) := by decide +kernel
theorem s_Mo_begin_38 {x : Int32} (hl : lg lv 1 = some (.int x)) (k : ev G M_Mo_begin R E 39 lv (.int x :: rest) h cells slots) : ev G M_Mo_begin R E 38 lv rest h cells slots := ev_iload_n d_Mo_begin_38 rfl hl k
theorem d_Mo_begin_39 : decode prog_10_method_13_code 39 = .ok (.iconst 0, 1) := by decide +kernel
theorem s_Mo_begin_39  (k : ev G M_Mo_begin R E 40 lv (.int 0 :: rest) h cells slots) : ev G M_Mo_begin R E 39 lv rest h cells slots := ev_iconst d_Mo_begin_39 (by decide) k
theorem d_Mo_begin_40 : decode prog_10_method_13_code 40 = .ok (.iastore, 1) := by decide +kernel
theorem s_Mo_begin_40 {a n : Nat} {f : Nat → Int32} {i : Int32} {x : Int32} (hh : h a = mI 0 n f) (hin : vp_in i n) (k : ev G M_Mo_begin R E 41 lv rest (va_up h a (mI 0 n (upd f i.toNatClampNeg x))) cells slots) : ev G M_Mo_begin R E 40 lv (.int x :: .int i :: .ref a :: rest) h cells slots := ev_iastore d_Mo_begin_40 rfl hh hin k
theorem d_Mo_begin_41 : decode prog_10_method_13_code 41 = .ok (.iinc 1 1, 3) := by decide +kernel
theorem s_Mo_begin_41 {x : Int32} (hl : lg lv 1 = some (.int x)) (k : ev G M_Mo_begin R E 44 (ls1 lv 1 (.int (x + 1))) rest h cells slots) : ev G M_Mo_begin R E 41 lv rest h cells slots := ev_iinc d_Mo_begin_41 (by decide) hl (by decide) k
theorem d_Mo_begin_44 : decode prog_10_method_13_code 44 = .ok (.goto (-23), 3) := by decide +kernel
theorem s_Mo_begin_44  (k : ev G M_Mo_begin R E 21 lv rest h cells slots) : ev G M_Mo_begin R E 44 lv rest h cells slots := ev_goto d_Mo_begin_44 (by decide) k
theorem d_Mo_begin_47 : decode prog_10_method_13_code 47 = .ok (.aload_n 0, 1) := by decide +kernel
theorem s_Mo_begin_47 {x : Nat} (hl : lg lv 0 = some (.ref x)) (k : ev G M_Mo_begin R E 48 lv (.ref x :: rest) h cells slots) : ev G M_Mo_begin R E 47 lv rest h cells slots := ev_aload_n d_Mo_begin_47 rfl hl k
theorem d_Mo_begin_48 : decode prog_10_method_13_code 48 = .ok (.iconst 0, 1) := by decide +kernel
theorem s_Mo_begin_48  (k : ev G M_Mo_begin R E 49 lv (.int 0 :: rest) h cells slots) : ev G M_Mo_begin R E 48 lv rest h cells slots := ev_iconst d_Mo_begin_48 (by decide) k
theorem d_Mo_begin_49 : decode prog_10_method_13_code 49 = .ok (.putfield 78, 3) := by decide +kernel
theorem s_Mo_begin_49 {x : Int32} {a : Nat} {fs : List Value} (hh : h a = mO 7 fs) (hlen : 10 < fs.length) (k : ev G M_Mo_begin R E 52 lv rest (va_up h a (mO 7 (fs.set 10 (.int x)))) cells slots) : ev G M_Mo_begin R E 49 lv (.int x :: .ref a :: rest) h cells slots := ev_putfield (ci := 7) (kf := 10) d_Mo_begin_49 rfl ck7 (by decide) w_714 rfl hh hlen (fun _ _ => rfl) (fun _ _ => rfl) k
theorem d_Mo_begin_52 : decode prog_10_method_13_code 52 = .ok (.aload_n 0, 1) := by decide +kernel
theorem s_Mo_begin_52 {x : Nat} (hl : lg lv 0 = some (.ref x)) (k : ev G M_Mo_begin R E 53 lv (.ref x :: rest) h cells slots) : ev G M_Mo_begin R E 52 lv rest h cells slots := ev_aload_n d_Mo_begin_52 rfl hl k
theorem d_Mo_begin_53 : decode prog_10_method_13_code 53 = .ok (.iconst 0, 1) := by decide +kernel
theorem s_Mo_begin_53  (k : ev G M_Mo_begin R E 54 lv (.int 0 :: rest) h cells slots) : ev G M_Mo_begin R E 53 lv rest h cells slots := ev_iconst d_Mo_begin_53 (by decide) k
theorem d_Mo_begin_54 : decode prog_10_method_13_code 54 = .ok (.putfield 82, 3) := by decide +kernel
theorem s_Mo_begin_54 {x : Int32} {a : Nat} {fs : List Value} (hh : h a = mO 7 fs) (hlen : 13 < fs.length) (k : ev G M_Mo_begin R E 57 lv rest (va_up h a (mO 7 (fs.set 13 (.int x)))) cells slots) : ev G M_Mo_begin R E 54 lv (.int x :: .ref a :: rest) h cells slots := ev_putfield (ci := 7) (kf := 13) d_Mo_begin_54 rfl ck7 (by decide) w_717 rfl hh hlen (fun _ _ => rfl) (fun _ _ => rfl) k
theorem d_Mo_begin_57 : decode prog_10_method_13_code 57 = .ok (.aload_n 0, 1) := by decide +kernel
theorem s_Mo_begin_57 {x : Nat} (hl : lg lv 0 = some (.ref x)) (k : ev G M_Mo_begin R E 58 lv (.ref x :: rest) h cells slots) : ev G M_Mo_begin R E 57 lv rest h cells slots := ev_aload_n d_Mo_begin_57 rfl hl k
theorem d_Mo_begin_58 : decode prog_10_method_13_code 58 = .ok (.iconst 0, 1) := by decide +kernel
theorem s_Mo_begin_58  (k : ev G M_Mo_begin R E 59 lv (.int 0 :: rest) h cells slots) : ev G M_Mo_begin R E 58 lv rest h cells slots := ev_iconst d_Mo_begin_58 (by decide) k
theorem d_Mo_begin_59 : decode prog_10_method_13_code 59 = .ok (.putfield 85, 3) := by decide +kernel
theorem s_Mo_begin_59 {x : Int32} {a : Nat} {fs : List Value} (hh : h a = mO 7 fs) (hlen : 14 < fs.length) (k : ev G M_Mo_begin R E 62 lv rest (va_up h a (mO 7 (fs.set 14 (.int x)))) cells slots) : ev G M_Mo_begin R E 59 lv (.int x :: .ref a :: rest) h cells slots := ev_putfield (ci := 7) (kf := 14) d_Mo_begin_59 rfl ck7 (by decide) w_718 rfl hh hlen (fun _ _ => rfl) (fun _ _ => rfl) k
theorem d_Mo_begin_62 : decode prog_10_method_13_code 62 = .ok (.aload_n 0, 1) := by decide +kernel
theorem s_Mo_begin_62 {x : Nat} (hl : lg lv 0 = some (.ref x)) (k : ev G M_Mo_begin R E 63 lv (.ref x :: rest) h cells slots) : ev G M_Mo_begin R E 62 lv rest h cells slots := ev_aload_n d_Mo_begin_62 rfl hl k
theorem d_Mo_begin_63 : decode prog_10_method_13_code 63 = .ok (.iconst 0, 1) := by decide +kernel
theorem s_Mo_begin_63  (k : ev G M_Mo_begin R E 64 lv (.int 0 :: rest) h cells slots) : ev G M_Mo_begin R E 63 lv rest h cells slots := ev_iconst d_Mo_begin_63 (by decide) k
theorem d_Mo_begin_64 : decode prog_10_method_13_code 64 = .ok (.putfield 88, 3) := by decide +kernel
theorem s_Mo_begin_64 {x : Int32} {a : Nat} {fs : List Value} (hh : h a = mO 7 fs) (hlen : 15 < fs.length) (k : ev G M_Mo_begin R E 67 lv rest (va_up h a (mO 7 (fs.set 15 (.int x)))) cells slots) : ev G M_Mo_begin R E 64 lv (.int x :: .ref a :: rest) h cells slots := ev_putfield (ci := 7) (kf := 15) d_Mo_begin_64 rfl ck7 (by decide) w_719 rfl hh hlen (fun _ _ => rfl) (fun _ _ => rfl) k
theorem d_Mo_begin_67 : decode prog_10_method_13_code 67 = .ok (.aload_n 0, 1) := by decide +kernel
theorem s_Mo_begin_67 {x : Nat} (hl : lg lv 0 = some (.ref x)) (k : ev G M_Mo_begin R E 68 lv (.ref x :: rest) h cells slots) : ev G M_Mo_begin R E 67 lv rest h cells slots := ev_aload_n d_Mo_begin_67 rfl hl k
theorem d_Mo_begin_68 : decode prog_10_method_13_code 68 = .ok (.iconst 0, 1) := by decide +kernel
theorem s_Mo_begin_68  (k : ev G M_Mo_begin R E 69 lv (.int 0 :: rest) h cells slots) : ev G M_Mo_begin R E 68 lv rest h cells slots := ev_iconst d_Mo_begin_68 (by decide) k
theorem d_Mo_begin_69 : decode prog_10_method_13_code 69 = .ok (.putfield 91, 3) := by decide +kernel
theorem s_Mo_begin_69 {x : Int32} {a : Nat} {fs : List Value} (hh : h a = mO 7 fs) (hlen : 16 < fs.length) (k : ev G M_Mo_begin R E 72 lv rest (va_up h a (mO 7 (fs.set 16 (.int x)))) cells slots) : ev G M_Mo_begin R E 69 lv (.int x :: .ref a :: rest) h cells slots := ev_putfield (ci := 7) (kf := 16) d_Mo_begin_69 rfl ck7 (by decide) w_720 rfl hh hlen (fun _ _ => rfl) (fun _ _ => rfl) k
theorem d_Mo_begin_72 : decode prog_10_method_13_code 72 = .ok (.aload_n 0, 1) := by decide +kernel
theorem s_Mo_begin_72 {x : Nat} (hl : lg lv 0 = some (.ref x)) (k : ev G M_Mo_begin R E 73 lv (.ref x :: rest) h cells slots) : ev G M_Mo_begin R E 72 lv rest h cells slots := ev_aload_n d_Mo_begin_72 rfl hl k
theorem d_Mo_begin_73 : decode prog_10_method_13_code 73 = .ok (.getfield 54, 3) := by decide +kernel
theorem s_Mo_begin_73 {a : Nat} {fs : List Value} {v : Value} (hh : h a = mO 7 fs) (hv : fs[0]? = some v) (k : ev G M_Mo_begin R E 76 lv (v :: rest) h cells slots) : ev G M_Mo_begin R E 73 lv (.ref a :: rest) h cells slots := ev_getfield (ci := 7) (kf := 0) d_Mo_begin_73 rfl ck7 (by decide) w_704 hh hv k
theorem d_Mo_begin_76 : decode prog_10_method_13_code 76 = .ok (.ifCond .eq 15, 3) := by decide +kernel
theorem s_Mo_begin_76 {x : Int32} (kt : x = 0 → ev G M_Mo_begin R E 91 lv rest h cells slots) (kf : ¬ x = 0 → ev G M_Mo_begin R E 79 lv rest h cells slots) : ev G M_Mo_begin R E 76 lv (.int x :: rest) h cells slots := ev_if_eq d_Mo_begin_76 (by decide) kt kf
theorem d_Mo_begin_79 : decode prog_10_method_13_code 79 = .ok (.aload_n 0, 1) := by decide +kernel
theorem s_Mo_begin_79 {x : Nat} (hl : lg lv 0 = some (.ref x)) (k : ev G M_Mo_begin R E 80 lv (.ref x :: rest) h cells slots) : ev G M_Mo_begin R E 79 lv rest h cells slots := ev_aload_n d_Mo_begin_79 rfl hl k
theorem d_Mo_begin_80 : decode prog_10_method_13_code 80 = .ok (.iconst 1, 1) := by decide +kernel
theorem s_Mo_begin_80  (k : ev G M_Mo_begin R E 81 lv (.int 1 :: rest) h cells slots) : ev G M_Mo_begin R E 80 lv rest h cells slots := ev_iconst d_Mo_begin_80 (by decide) k
theorem d_Mo_begin_81 : decode prog_10_method_13_code 81 = .ok (.iconst 1, 1) := by decide +kernel
theorem s_Mo_begin_81  (k : ev G M_Mo_begin R E 82 lv (.int 1 :: rest) h cells slots) : ev G M_Mo_begin R E 81 lv rest h cells slots := ev_iconst d_Mo_begin_81 (by decide) k
theorem d_Mo_begin_82 : decode prog_10_method_13_code 82 = .ok (.iconst 0, 1) := by decide +kernel
theorem s_Mo_begin_82  (k : ev G M_Mo_begin R E 83 lv (.int 0 :: rest) h cells slots) : ev G M_Mo_begin R E 82 lv rest h cells slots := ev_iconst d_Mo_begin_82 (by decide) k
theorem d_Mo_begin_83 : decode prog_10_method_13_code 83 = .ok (.bipush 48, 2) := by decide +kernel
theorem s_Mo_begin_83  (k : ev G M_Mo_begin R E 85 lv (.int 48 :: rest) h cells slots) : ev G M_Mo_begin R E 83 lv rest h cells slots := ev_bipush d_Mo_begin_83 (by decide) k
theorem d_Mo_begin_85 : decode prog_10_method_13_code 85 = .ok (.bipush 15, 2) := by decide +kernel
theorem s_Mo_begin_85  (k : ev G M_Mo_begin R E 87 lv (.int 15 :: rest) h cells slots) : ev G M_Mo_begin R E 85 lv rest h cells slots := ev_bipush d_Mo_begin_85 (by decide) k
theorem d_Mo_begin_87 : decode prog_10_method_13_code 87 = .ok (.iconst 0, 1) := by decide +kernel
theorem s_Mo_begin_87  (k : ev G M_Mo_begin R E 88 lv (.int 0 :: rest) h cells slots) : ev G M_Mo_begin R E 87 lv rest h cells slots := ev_iconst d_Mo_begin_87 (by decide) k
theorem d_Mo_begin_88 : decode prog_10_method_13_code 88 = .ok (.invokevirtual 58, 3) := by decide +kernel
theorem s_Mo_begin_88 {mc ms : Nat} {P : Option Value → HP → Prop} {a0 : Int32} {a1 : Int32} {a2 : Int32} {a3 : Int32} {a4 : Int32} {a5 : Int32} {b : Nat} {fs : List Value} {v0 : Value} (hm : mt G M_Mo_put 0 mc ms (.ref b :: [.int a0, .int a1, .int a2, .int a3, .int a4, .int a5]) h P) (hb : h b = mO 7 fs) (hv0 : fs[0]? = some v0) (hR : 0 + 1 ≤ R.frames ∧ 8 + (7 + 11) + 39 * 0 ≤ R.locals) (hcs : cells + mc ≤ R.cells ∧ slots + ms ≤ R.slots) (hrest : (rest.map fun v => v.category).sum ≤ 8) (k : ∀ (r : Option Value) (h' : HP), P r h' → ev G M_Mo_begin R E 91 lv (r.toList ++ rest) h' (cells + mc) (slots + ms)) : ev G M_Mo_begin R E 88 lv (.int a5 :: .int a4 :: .int a3 :: .int a2 :: .int a1 :: .int a0 :: .ref b :: rest) h cells slots := ev_callV (as := [.int a0, .int a1, .int a2, .int a3, .int a4, .int a5]) (ci := 7) d_Mo_begin_88 hm hb hv0 rfl w_784 w_786 w_35 w_70 w_787 hy_Mo_put hR hcs hrest k
theorem d_Mo_begin_91 : decode prog_10_method_13_code 91 = .ok (.return_, 1) := by decide +kernel
theorem s_Mo_begin_91 {P : Option Value → HP → Prop} {mc ms : Nat} (hP : P none h) (hc : cells ≤ mc ∧ slots ≤ ms) : ev G M_Mo_begin R (Er M_Mo_begin P mc ms) 91 lv [] h cells slots := ev_exit ⟨hc.1, hc.2, Or.inl ⟨rfl, d_Mo_begin_91, rfl, hP⟩⟩
abbrev M_Mo_boot : MW := (⟨"UseOnceMachineModel", "boot", "()Z"⟩, prog_10_method_14_code, 2, (some .boolean))
theorem hy_Mo_boot : M_Mo_boot.1.cls ≠ "java/lang/invoke/MethodHandle" ∧ M_Mo_boot.1.cls ≠ "java/lang/invoke/VarHandle" ∧ (parseMethodDescriptor M_Mo_boot.1.desc).map (fun d => d.parameters.length) = some 0 := by decide +kernel
theorem d_Mo_boot_0 : decode prog_10_method_14_code 0 = .ok (.aload_n 0, 1) := by decide +kernel
theorem s_Mo_boot_0 {x : Nat} (hl : lg lv 0 = some (.ref x)) (k : ev G M_Mo_boot R E 1 lv (.ref x :: rest) h cells slots) : ev G M_Mo_boot R E 0 lv rest h cells slots := ev_aload_n d_Mo_boot_0 rfl hl k
theorem d_Mo_boot_1 : decode prog_10_method_14_code 1 = .ok (.aload_n 0, 1) := by decide +kernel
theorem s_Mo_boot_1 {x : Nat} (hl : lg lv 0 = some (.ref x)) (k : ev G M_Mo_boot R E 2 lv (.ref x :: rest) h cells slots) : ev G M_Mo_boot R E 1 lv rest h cells slots := ev_aload_n d_Mo_boot_1 rfl hl k
theorem d_Mo_boot_2 : decode prog_10_method_14_code 2 = .ok (.getfield 54, 3) := by decide +kernel
theorem s_Mo_boot_2 {a : Nat} {fs : List Value} {v : Value} (hh : h a = mO 7 fs) (hv : fs[0]? = some v) (k : ev G M_Mo_boot R E 5 lv (v :: rest) h cells slots) : ev G M_Mo_boot R E 2 lv (.ref a :: rest) h cells slots := ev_getfield (ci := 7) (kf := 0) d_Mo_boot_2 rfl ck7 (by decide) w_704 hh hv k
theorem d_Mo_boot_5 : decode prog_10_method_14_code 5 = .ok (.ifCond .ne 7, 3) := by decide +kernel
theorem s_Mo_boot_5 {x : Int32} (kt : ¬ x = 0 → ev G M_Mo_boot R E 12 lv rest h cells slots) (kf : x = 0 → ev G M_Mo_boot R E 8 lv rest h cells slots) : ev G M_Mo_boot R E 5 lv (.int x :: rest) h cells slots := ev_if_ne d_Mo_boot_5 (by decide) kt kf
theorem d_Mo_boot_8 : decode prog_10_method_14_code 8 = .ok (.iconst 1, 1) := by decide +kernel
theorem s_Mo_boot_8  (k : ev G M_Mo_boot R E 9 lv (.int 1 :: rest) h cells slots) : ev G M_Mo_boot R E 8 lv rest h cells slots := ev_iconst d_Mo_boot_8 (by decide) k
theorem d_Mo_boot_9 : decode prog_10_method_14_code 9 = .ok (.goto 4, 3) := by decide +kernel
theorem s_Mo_boot_9  (k : ev G M_Mo_boot R E 13 lv rest h cells slots) : ev G M_Mo_boot R E 9 lv rest h cells slots := ev_goto d_Mo_boot_9 (by decide) k
theorem d_Mo_boot_12 : decode prog_10_method_14_code 12 = .ok (.iconst 0, 1) := by decide +kernel
theorem s_Mo_boot_12  (k : ev G M_Mo_boot R E 13 lv (.int 0 :: rest) h cells slots) : ev G M_Mo_boot R E 12 lv rest h cells slots := ev_iconst d_Mo_boot_12 (by decide) k
theorem d_Mo_boot_13 : decode prog_10_method_14_code 13 = .ok (.putfield 54, 3) := by decide +kernel
theorem s_Mo_boot_13 {x : Int32} {a : Nat} {fs : List Value} (hh : h a = mO 7 fs) (hlen : 0 < fs.length) (hz : x = 0 ∨ x = 1) (k : ev G M_Mo_boot R E 16 lv rest (va_up h a (mO 7 (fs.set 0 (.int x)))) cells slots) : ev G M_Mo_boot R E 13 lv (.int x :: .ref a :: rest) h cells slots := ev_putfield (ci := 7) (kf := 0) d_Mo_boot_13 rfl ck7 (by decide) w_704 rfl hh hlen (fun _ _ => nar_z hz) (fun _ _ => fits_z hz) k
theorem d_Mo_boot_16 : decode prog_10_method_14_code 16 = .ok (.aload_n 0, 1) := by decide +kernel
theorem s_Mo_boot_16 {x : Nat} (hl : lg lv 0 = some (.ref x)) (k : ev G M_Mo_boot R E 17 lv (.ref x :: rest) h cells slots) : ev G M_Mo_boot R E 16 lv rest h cells slots := ev_aload_n d_Mo_boot_16 rfl hl k
theorem d_Mo_boot_17 : decode prog_10_method_14_code 17 = .ok (.iconst 0, 1) := by decide +kernel
theorem s_Mo_boot_17  (k : ev G M_Mo_boot R E 18 lv (.int 0 :: rest) h cells slots) : ev G M_Mo_boot R E 17 lv rest h cells slots := ev_iconst d_Mo_boot_17 (by decide) k
theorem d_Mo_boot_18 : decode prog_10_method_14_code 18 = .ok (.putfield 94, 3) := by decide +kernel
theorem s_Mo_boot_18 {x : Int32} {a : Nat} {fs : List Value} (hh : h a = mO 7 fs) (hlen : 17 < fs.length) (k : ev G M_Mo_boot R E 21 lv rest (va_up h a (mO 7 (fs.set 17 (.int x)))) cells slots) : ev G M_Mo_boot R E 18 lv (.int x :: .ref a :: rest) h cells slots := ev_putfield (ci := 7) (kf := 17) d_Mo_boot_18 rfl ck7 (by decide) w_721 rfl hh hlen (fun _ _ => rfl) (fun _ _ => rfl) k
theorem d_Mo_boot_21 : decode prog_10_method_14_code 21 = .ok (.aload_n 0, 1) := by decide +kernel
theorem s_Mo_boot_21 {x : Nat} (hl : lg lv 0 = some (.ref x)) (k : ev G M_Mo_boot R E 22 lv (.ref x :: rest) h cells slots) : ev G M_Mo_boot R E 21 lv rest h cells slots := ev_aload_n d_Mo_boot_21 rfl hl k
theorem d_Mo_boot_22 : decode prog_10_method_14_code 22 = .ok (.invokevirtual 97, 3) := by decide +kernel
theorem s_Mo_boot_22 {mc ms : Nat} {P : Option Value → HP → Prop}  {b : Nat} {fs : List Value} {v0 : Value} (hm : mt G M_Mo_begin 2 mc ms (.ref b :: []) h P) (hb : h b = mO 7 fs) (hv0 : fs[0]? = some v0) (hR : 2 + 1 ≤ R.frames ∧ 8 + (2 + 11) + 39 * 2 ≤ R.locals) (hcs : cells + mc ≤ R.cells ∧ slots + ms ≤ R.slots) (hrest : (rest.map fun v => v.category).sum ≤ 8) (k : ∀ (r : Option Value) (h' : HP), P r h' → ev G M_Mo_boot R E 25 lv (r.toList ++ rest) h' (cells + mc) (slots + ms)) : ev G M_Mo_boot R E 22 lv (.ref b :: rest) h cells slots := ev_callV (as := []) (ci := 7) d_Mo_boot_22 hm hb hv0 rfl w_776 w_778 w_33 w_70 w_779 hy_Mo_begin hR hcs hrest k
theorem d_Mo_boot_25 : decode prog_10_method_14_code 25 = .ok (.iconst 0, 1) := by decide +kernel
theorem s_Mo_boot_25  (k : ev G M_Mo_boot R E 26 lv (.int 0 :: rest) h cells slots) : ev G M_Mo_boot R E 25 lv rest h cells slots := ev_iconst d_Mo_boot_25 (by decide) k
theorem d_Mo_boot_26 : decode prog_10_method_14_code 26 = .ok (.istore_n 1, 1) := by decide +kernel
theorem s_Mo_boot_26 {x : Int32} (k : ev G M_Mo_boot R E 27 (ls1 lv 1 (.int x)) rest h cells slots) : ev G M_Mo_boot R E 26 lv (.int x :: rest) h cells slots := ev_istore_n d_Mo_boot_26 rfl (by decide) k
theorem d_Mo_boot_27 : decode prog_10_method_14_code 27 = .ok (.iload_n 1, 1) := by decide +kernel
theorem s_Mo_boot_27 {x : Int32} (hl : lg lv 1 = some (.int x)) (k : ev G M_Mo_boot R E 28 lv (.int x :: rest) h cells slots) : ev G M_Mo_boot R E 27 lv rest h cells slots := ev_iload_n d_Mo_boot_27 rfl hl k
theorem d_Mo_boot_28 : decode prog_10_method_14_code 28 = .ok (.iconst 3, 1) := by decide +kernel
theorem s_Mo_boot_28  (k : ev G M_Mo_boot R E 29 lv (.int 3 :: rest) h cells slots) : ev G M_Mo_boot R E 28 lv rest h cells slots := ev_iconst d_Mo_boot_28 (by decide) k
theorem d_Mo_boot_29 : decode prog_10_method_14_code 29 = .ok (.if_icmp .ge 32, 3) := by decide +kernel
theorem s_Mo_boot_29 {x y : Int32} (kt : y ≤ x → ev G M_Mo_boot R E 61 lv rest h cells slots) (kf : ¬ y ≤ x → ev G M_Mo_boot R E 32 lv rest h cells slots) : ev G M_Mo_boot R E 29 lv (.int y :: .int x :: rest) h cells slots := ev_icmp_ge d_Mo_boot_29 (by decide) kt kf
theorem d_Mo_boot_32 : decode prog_10_method_14_code 32 = .ok (.aload_n 0, 1) := by decide +kernel
theorem s_Mo_boot_32 {x : Nat} (hl : lg lv 0 = some (.ref x)) (k : ev G M_Mo_boot R E 33 lv (.ref x :: rest) h cells slots) : ev G M_Mo_boot R E 32 lv rest h cells slots := ev_aload_n d_Mo_boot_32 rfl hl k
theorem d_Mo_boot_33 : decode prog_10_method_14_code 33 = .ok (.getfield 7, 3) := by decide +kernel
theorem s_Mo_boot_33 {a : Nat} {fs : List Value} {v : Value} (hh : h a = mO 7 fs) (hv : fs[1]? = some v) (k : ev G M_Mo_boot R E 36 lv (v :: rest) h cells slots) : ev G M_Mo_boot R E 33 lv (.ref a :: rest) h cells slots := ev_getfield (ci := 7) (kf := 1) d_Mo_boot_33 rfl ck7 (by decide) w_705 hh hv k
theorem d_Mo_boot_36 : decode prog_10_method_14_code 36 = .ok (.iload_n 1, 1) := by decide +kernel
theorem s_Mo_boot_36 {x : Int32} (hl : lg lv 1 = some (.int x)) (k : ev G M_Mo_boot R E 37 lv (.int x :: rest) h cells slots) : ev G M_Mo_boot R E 36 lv rest h cells slots := ev_iload_n d_Mo_boot_36 rfl hl k
theorem d_Mo_boot_37 : decode prog_10_method_14_code 37 = .ok (.aload_n 0, 1) := by decide +kernel
theorem s_Mo_boot_37 {x : Nat} (hl : lg lv 0 = some (.ref x)) (k : ev G M_Mo_boot R E 38 lv (.ref x :: rest) h cells slots) : ev G M_Mo_boot R E 37 lv rest h cells slots := ev_aload_n d_Mo_boot_37 rfl hl k
theorem d_Mo_boot_38 : decode prog_10_method_14_code 38 = .ok (.getfield 54, 3) := by decide +kernel
theorem s_Mo_boot_38 {a : Nat} {fs : List Value} {v : Value} (hh : h a = mO 7 fs) (hv : fs[0]? = some v) (k : ev G M_Mo_boot R E 41 lv (v :: rest) h cells slots) : ev G M_Mo_boot R E 38 lv (.ref a :: rest) h cells slots := ev_getfield (ci := 7) (kf := 0) d_Mo_boot_38 rfl ck7 (by decide) w_704 hh hv k
theorem d_Mo_boot_41 : decode prog_10_method_14_code 41 = .ok (.ifCond .eq 12, 3) := by decide +kernel
theorem s_Mo_boot_41 {x : Int32} (kt : x = 0 → ev G M_Mo_boot R E 53 lv rest h cells slots) (kf : ¬ x = 0 → ev G M_Mo_boot R E 44 lv rest h cells slots) : ev G M_Mo_boot R E 41 lv (.int x :: rest) h cells slots := ev_if_eq d_Mo_boot_41 (by decide) kt kf
theorem d_Mo_boot_44 : decode prog_10_method_14_code 44 = .ok (.aload_n 0, 1) := by decide +kernel
theorem s_Mo_boot_44 {x : Nat} (hl : lg lv 0 = some (.ref x)) (k : ev G M_Mo_boot R E 45 lv (.ref x :: rest) h cells slots) : ev G M_Mo_boot R E 44 lv rest h cells slots := ev_aload_n d_Mo_boot_44 rfl hl k
theorem d_Mo_boot_45 : decode prog_10_method_14_code 45 = .ok (.getfield 7, 3) := by decide +kernel
theorem s_Mo_boot_45 {a : Nat} {fs : List Value} {v : Value} (hh : h a = mO 7 fs) (hv : fs[1]? = some v) (k : ev G M_Mo_boot R E 48 lv (v :: rest) h cells slots) : ev G M_Mo_boot R E 45 lv (.ref a :: rest) h cells slots := ev_getfield (ci := 7) (kf := 1) d_Mo_boot_45 rfl ck7 (by decide) w_705 hh hv k
theorem d_Mo_boot_48 : decode prog_10_method_14_code 48 = .ok (.iload_n 1, 1) := by decide +kernel
theorem s_Mo_boot_48 {x : Int32} (hl : lg lv 1 = some (.int x)) (k : ev G M_Mo_boot R E 49 lv (.int x :: rest) h cells slots) : ev G M_Mo_boot R E 48 lv rest h cells slots := ev_iload_n d_Mo_boot_48 rfl hl k
theorem d_Mo_boot_49 : decode prog_10_method_14_code 49 = .ok (.iaload, 1) := by decide +kernel
theorem s_Mo_boot_49 {a n : Nat} {f : Nat → Int32} {i : Int32} (hh : h a = mI 0 n f) (hin : vp_in i n) (k : ev G M_Mo_boot R E 50 lv (.int (f i.toNatClampNeg) :: rest) h cells slots) : ev G M_Mo_boot R E 49 lv (.int i :: .ref a :: rest) h cells slots := ev_iaload d_Mo_boot_49 rfl hh hin k
theorem d_Mo_boot_50 : decode prog_10_method_14_code 50 = .ok (.goto 4, 3) := by decide +kernel
theorem s_Mo_boot_50  (k : ev G M_Mo_boot R E 54 lv rest h cells slots) : ev G M_Mo_boot R E 50 lv rest h cells slots := ev_goto d_Mo_boot_50 (by decide) k
theorem d_Mo_boot_53 : decode prog_10_method_14_code 53 = .ok (.iconst 0, 1) := by decide +kernel
theorem s_Mo_boot_53  (k : ev G M_Mo_boot R E 54 lv (.int 0 :: rest) h cells slots) : ev G M_Mo_boot R E 53 lv rest h cells slots := ev_iconst d_Mo_boot_53 (by decide) k
theorem d_Mo_boot_54 : decode prog_10_method_14_code 54 = .ok (.iastore, 1) := by decide +kernel
theorem s_Mo_boot_54 {a n : Nat} {f : Nat → Int32} {i : Int32} {x : Int32} (hh : h a = mI 0 n f) (hin : vp_in i n) (k : ev G M_Mo_boot R E 55 lv rest (va_up h a (mI 0 n (upd f i.toNatClampNeg x))) cells slots) : ev G M_Mo_boot R E 54 lv (.int x :: .int i :: .ref a :: rest) h cells slots := ev_iastore d_Mo_boot_54 rfl hh hin k
theorem d_Mo_boot_55 : decode prog_10_method_14_code 55 = .ok (.iinc 1 1, 3) := by decide +kernel
theorem s_Mo_boot_55 {x : Int32} (hl : lg lv 1 = some (.int x)) (k : ev G M_Mo_boot R E 58 (ls1 lv 1 (.int (x + 1))) rest h cells slots) : ev G M_Mo_boot R E 55 lv rest h cells slots := ev_iinc d_Mo_boot_55 (by decide) hl (by decide) k
theorem d_Mo_boot_58 : decode prog_10_method_14_code 58 = .ok (.goto (-31), 3) := by decide +kernel
theorem s_Mo_boot_58  (k : ev G M_Mo_boot R E 27 lv rest h cells slots) : ev G M_Mo_boot R E 58 lv rest h cells slots := ev_goto d_Mo_boot_58 (by decide) k
theorem d_Mo_boot_61 : decode prog_10_method_14_code 61 = .ok (.aload_n 0, 1) := by decide +kernel
theorem s_Mo_boot_61 {x : Nat} (hl : lg lv 0 = some (.ref x)) (k : ev G M_Mo_boot R E 62 lv (.ref x :: rest) h cells slots) : ev G M_Mo_boot R E 61 lv rest h cells slots := ev_aload_n d_Mo_boot_61 rfl hl k
theorem d_Mo_boot_62 : decode prog_10_method_14_code 62 = .ok (.getfield 54, 3) := by decide +kernel
theorem s_Mo_boot_62 {a : Nat} {fs : List Value} {v : Value} (hh : h a = mO 7 fs) (hv : fs[0]? = some v) (k : ev G M_Mo_boot R E 65 lv (v :: rest) h cells slots) : ev G M_Mo_boot R E 62 lv (.ref a :: rest) h cells slots := ev_getfield (ci := 7) (kf := 0) d_Mo_boot_62 rfl ck7 (by decide) w_704 hh hv k
theorem d_Mo_boot_65 : decode prog_10_method_14_code 65 = .ok (.ireturn, 1) := by decide +kernel
theorem s_Mo_boot_65 {P : Option Value → HP → Prop} {mc ms : Nat} {v : Int32} (hz : v = 0 ∨ v = 1) (hP : P (some (.int v)) h) (hc : cells ≤ mc ∧ slots ≤ ms) : ev G M_Mo_boot R (Er M_Mo_boot P mc ms) 65 lv [.int v] h cells slots := ev_exit ⟨hc.1, hc.2, Or.inr (Or.inl ⟨v, .boolean, rfl, (nar_z hz), d_Mo_boot_65, rfl, hP⟩)⟩
abbrev M_Mo_what : MW := (⟨"UseOnceMachineModel", "what", "(I)I"⟩, prog_10_method_5_code, 2, (some .int))
theorem hy_Mo_what : M_Mo_what.1.cls ≠ "java/lang/invoke/MethodHandle" ∧ M_Mo_what.1.cls ≠ "java/lang/invoke/VarHandle" ∧ (parseMethodDescriptor M_Mo_what.1.desc).map (fun d => d.parameters.length) = some 1 := by decide +kernel
theorem d_Mo_what_0 : decode prog_10_method_5_code 0 = .ok (.aload_n 0, 1) := by decide +kernel
theorem s_Mo_what_0 {x : Nat} (hl : lg lv 0 = some (.ref x)) (k : ev G M_Mo_what R E 1 lv (.ref x :: rest) h cells slots) : ev G M_Mo_what R E 0 lv rest h cells slots := ev_aload_n d_Mo_what_0 rfl hl k
theorem d_Mo_what_1 : decode prog_10_method_5_code 1 = .ok (.getfield 16, 3) := by decide +kernel
theorem s_Mo_what_1 {a : Nat} {fs : List Value} {v : Value} (hh : h a = mO 7 fs) (hv : fs[3]? = some v) (k : ev G M_Mo_what R E 4 lv (v :: rest) h cells slots) : ev G M_Mo_what R E 1 lv (.ref a :: rest) h cells slots := ev_getfield (ci := 7) (kf := 3) d_Mo_what_1 rfl ck7 (by decide) w_707 hh hv k
theorem d_Mo_what_4 : decode prog_10_method_5_code 4 = .ok (.iconst 5, 1) := by decide +kernel
theorem s_Mo_what_4  (k : ev G M_Mo_what R E 5 lv (.int 5 :: rest) h cells slots) : ev G M_Mo_what R E 4 lv rest h cells slots := ev_iconst d_Mo_what_4 (by decide) k
theorem d_Mo_what_5 : decode prog_10_method_5_code 5 = .ok (.iload_n 1, 1) := by decide +kernel
theorem s_Mo_what_5 {x : Int32} (hl : lg lv 1 = some (.int x)) (k : ev G M_Mo_what R E 6 lv (.int x :: rest) h cells slots) : ev G M_Mo_what R E 5 lv rest h cells slots := ev_iload_n d_Mo_what_5 rfl hl k
theorem d_Mo_what_6 : decode prog_10_method_5_code 6 = .ok (.imul, 1) := by decide +kernel
theorem s_Mo_what_6 {x y : Int32} (k : ev G M_Mo_what R E 7 lv (.int (x * y) :: rest) h cells slots) : ev G M_Mo_what R E 6 lv (.int y :: .int x :: rest) h cells slots := ev_imul d_Mo_what_6 k
theorem d_Mo_what_7 : decode prog_10_method_5_code 7 = .ok (.iaload, 1) := by decide +kernel
theorem s_Mo_what_7 {a n : Nat} {f : Nat → Int32} {i : Int32} (hh : h a = mI 0 n f) (hin : vp_in i n) (k : ev G M_Mo_what R E 8 lv (.int (f i.toNatClampNeg) :: rest) h cells slots) : ev G M_Mo_what R E 7 lv (.int i :: .ref a :: rest) h cells slots := ev_iaload d_Mo_what_7 rfl hh hin k
theorem d_Mo_what_8 : decode prog_10_method_5_code 8 = .ok (.ireturn, 1) := by decide +kernel
theorem s_Mo_what_8 {P : Option Value → HP → Prop} {mc ms : Nat} {v : Int32} (hP : P (some (.int v)) h) (hc : cells ≤ mc ∧ slots ≤ ms) : ev G M_Mo_what R (Er M_Mo_what P mc ms) 8 lv [.int v] h cells slots := ev_exit ⟨hc.1, hc.2, Or.inr (Or.inl ⟨v, .int, rfl, rfl, d_Mo_what_8, rfl, hP⟩)⟩
abbrev M_Mo_isNumber : MW := (⟨"UseOnceMachineModel", "isNumber", "(I)Z"⟩, prog_10_method_10_code, 2, (some .boolean))
theorem hy_Mo_isNumber : M_Mo_isNumber.1.cls ≠ "java/lang/invoke/MethodHandle" ∧ M_Mo_isNumber.1.cls ≠ "java/lang/invoke/VarHandle" ∧ (parseMethodDescriptor M_Mo_isNumber.1.desc).map (fun d => d.parameters.length) = some 1 := by decide +kernel
theorem d_Mo_isNumber_0 : decode prog_10_method_10_code 0 = .ok (.aload_n 0, 1) := by decide +kernel
theorem s_Mo_isNumber_0 {x : Nat} (hl : lg lv 0 = some (.ref x)) (k : ev G M_Mo_isNumber R E 1 lv (.ref x :: rest) h cells slots) : ev G M_Mo_isNumber R E 0 lv rest h cells slots := ev_aload_n d_Mo_isNumber_0 rfl hl k
theorem d_Mo_isNumber_1 : decode prog_10_method_10_code 1 = .ok (.iload_n 1, 1) := by decide +kernel
theorem s_Mo_isNumber_1 {x : Int32} (hl : lg lv 1 = some (.int x)) (k : ev G M_Mo_isNumber R E 2 lv (.int x :: rest) h cells slots) : ev G M_Mo_isNumber R E 1 lv rest h cells slots := ev_iload_n d_Mo_isNumber_1 rfl hl k
theorem d_Mo_isNumber_2 : decode prog_10_method_10_code 2 = .ok (.invokevirtual 62, 3) := by decide +kernel
theorem s_Mo_isNumber_2 {mc ms : Nat} {P : Option Value → HP → Prop} {a0 : Int32} {b : Nat} {fs : List Value} {v0 : Value} (hm : mt G M_Mo_what 0 mc ms (.ref b :: [.int a0]) h P) (hb : h b = mO 7 fs) (hv0 : fs[0]? = some v0) (hR : 0 + 1 ≤ R.frames ∧ 8 + (2 + 11) + 39 * 0 ≤ R.locals) (hcs : cells + mc ≤ R.cells ∧ slots + ms ≤ R.slots) (hrest : (rest.map fun v => v.category).sum ≤ 8) (k : ∀ (r : Option Value) (h' : HP), P r h' → ev G M_Mo_isNumber R E 5 lv (r.toList ++ rest) h' (cells + mc) (slots + ms)) : ev G M_Mo_isNumber R E 2 lv (.int a0 :: .ref b :: rest) h cells slots := ev_callV (as := [.int a0]) (ci := 7) d_Mo_isNumber_2 hm hb hv0 rfl w_804 w_806 w_39 w_70 w_807 hy_Mo_what hR hcs hrest k
theorem d_Mo_isNumber_5 : decode prog_10_method_10_code 5 = .ok (.ifCond .ne 7, 3) := by decide +kernel
theorem s_Mo_isNumber_5 {x : Int32} (kt : ¬ x = 0 → ev G M_Mo_isNumber R E 12 lv rest h cells slots) (kf : x = 0 → ev G M_Mo_isNumber R E 8 lv rest h cells slots) : ev G M_Mo_isNumber R E 5 lv (.int x :: rest) h cells slots := ev_if_ne d_Mo_isNumber_5 (by decide) kt kf
theorem d_Mo_isNumber_8 : decode prog_10_method_10_code 8 = .ok (.iconst 1, 1) := by decide +kernel
theorem s_Mo_isNumber_8  (k : ev G M_Mo_isNumber R E 9 lv (.int 1 :: rest) h cells slots) : ev G M_Mo_isNumber R E 8 lv rest h cells slots := ev_iconst d_Mo_isNumber_8 (by decide) k
theorem d_Mo_isNumber_9 : decode prog_10_method_10_code 9 = .ok (.goto 4, 3) := by decide +kernel
theorem s_Mo_isNumber_9  (k : ev G M_Mo_isNumber R E 13 lv rest h cells slots) : ev G M_Mo_isNumber R E 9 lv rest h cells slots := ev_goto d_Mo_isNumber_9 (by decide) k
theorem d_Mo_isNumber_12 : decode prog_10_method_10_code 12 = .ok (.iconst 0, 1) := by decide +kernel
theorem s_Mo_isNumber_12  (k : ev G M_Mo_isNumber R E 13 lv (.int 0 :: rest) h cells slots) : ev G M_Mo_isNumber R E 12 lv rest h cells slots := ev_iconst d_Mo_isNumber_12 (by decide) k
theorem d_Mo_isNumber_13 : decode prog_10_method_10_code 13 = .ok (.ireturn, 1) := by decide +kernel
theorem s_Mo_isNumber_13 {P : Option Value → HP → Prop} {mc ms : Nat} {v : Int32} (hz : v = 0 ∨ v = 1) (hP : P (some (.int v)) h) (hc : cells ≤ mc ∧ slots ≤ ms) : ev G M_Mo_isNumber R (Er M_Mo_isNumber P mc ms) 13 lv [.int v] h cells slots := ev_exit ⟨hc.1, hc.2, Or.inr (Or.inl ⟨v, .boolean, rfl, (nar_z hz), d_Mo_isNumber_13, rfl, hP⟩)⟩
abbrev M_Mo_get : MW := (⟨"UseOnceMachineModel", "get", "(II)I"⟩, prog_10_method_4_code, 3, (some .int))
theorem hy_Mo_get : M_Mo_get.1.cls ≠ "java/lang/invoke/MethodHandle" ∧ M_Mo_get.1.cls ≠ "java/lang/invoke/VarHandle" ∧ (parseMethodDescriptor M_Mo_get.1.desc).map (fun d => d.parameters.length) = some 2 := by decide +kernel
theorem d_Mo_get_0 : decode prog_10_method_4_code 0 = .ok (.aload_n 0, 1) := by decide +kernel
theorem s_Mo_get_0 {x : Nat} (hl : lg lv 0 = some (.ref x)) (k : ev G M_Mo_get R E 1 lv (.ref x :: rest) h cells slots) : ev G M_Mo_get R E 0 lv rest h cells slots := ev_aload_n d_Mo_get_0 rfl hl k
theorem d_Mo_get_1 : decode prog_10_method_4_code 1 = .ok (.getfield 16, 3) := by decide +kernel
theorem s_Mo_get_1 {a : Nat} {fs : List Value} {v : Value} (hh : h a = mO 7 fs) (hv : fs[3]? = some v) (k : ev G M_Mo_get R E 4 lv (v :: rest) h cells slots) : ev G M_Mo_get R E 1 lv (.ref a :: rest) h cells slots := ev_getfield (ci := 7) (kf := 3) d_Mo_get_1 rfl ck7 (by decide) w_707 hh hv k
theorem d_Mo_get_4 : decode prog_10_method_4_code 4 = .ok (.iconst 5, 1) := by decide +kernel
theorem s_Mo_get_4  (k : ev G M_Mo_get R E 5 lv (.int 5 :: rest) h cells slots) : ev G M_Mo_get R E 4 lv rest h cells slots := ev_iconst d_Mo_get_4 (by decide) k
theorem d_Mo_get_5 : decode prog_10_method_4_code 5 = .ok (.iload_n 1, 1) := by decide +kernel
theorem s_Mo_get_5 {x : Int32} (hl : lg lv 1 = some (.int x)) (k : ev G M_Mo_get R E 6 lv (.int x :: rest) h cells slots) : ev G M_Mo_get R E 5 lv rest h cells slots := ev_iload_n d_Mo_get_5 rfl hl k
theorem d_Mo_get_6 : decode prog_10_method_4_code 6 = .ok (.imul, 1) := by decide +kernel
theorem s_Mo_get_6 {x y : Int32} (k : ev G M_Mo_get R E 7 lv (.int (x * y) :: rest) h cells slots) : ev G M_Mo_get R E 6 lv (.int y :: .int x :: rest) h cells slots := ev_imul d_Mo_get_6 k
theorem d_Mo_get_7 : decode prog_10_method_4_code 7 = .ok (.iload_n 2, 1) := by decide +kernel
theorem s_Mo_get_7 {x : Int32} (hl : lg lv 2 = some (.int x)) (k : ev G M_Mo_get R E 8 lv (.int x :: rest) h cells slots) : ev G M_Mo_get R E 7 lv rest h cells slots := ev_iload_n d_Mo_get_7 rfl hl k
theorem d_Mo_get_8 : decode prog_10_method_4_code 8 = .ok (.iadd, 1) := by decide +kernel
theorem s_Mo_get_8 {x y : Int32} (k : ev G M_Mo_get R E 9 lv (.int (x + y) :: rest) h cells slots) : ev G M_Mo_get R E 8 lv (.int y :: .int x :: rest) h cells slots := ev_iadd d_Mo_get_8 k
theorem d_Mo_get_9 : decode prog_10_method_4_code 9 = .ok (.iaload, 1) := by decide +kernel
theorem s_Mo_get_9 {a n : Nat} {f : Nat → Int32} {i : Int32} (hh : h a = mI 0 n f) (hin : vp_in i n) (k : ev G M_Mo_get R E 10 lv (.int (f i.toNatClampNeg) :: rest) h cells slots) : ev G M_Mo_get R E 9 lv (.int i :: .ref a :: rest) h cells slots := ev_iaload d_Mo_get_9 rfl hh hin k
theorem d_Mo_get_10 : decode prog_10_method_4_code 10 = .ok (.ireturn, 1) := by decide +kernel
theorem s_Mo_get_10 {P : Option Value → HP → Prop} {mc ms : Nat} {v : Int32} (hP : P (some (.int v)) h) (hc : cells ≤ mc ∧ slots ≤ ms) : ev G M_Mo_get R (Er M_Mo_get P mc ms) 10 lv [.int v] h cells slots := ev_exit ⟨hc.1, hc.2, Or.inr (Or.inl ⟨v, .int, rfl, rfl, d_Mo_get_10, rfl, hP⟩)⟩
abbrev M_Mo_shift : MW := (⟨"UseOnceMachineModel", "shift", "(II)V"⟩, prog_10_method_8_code, 3, none)
theorem hy_Mo_shift : M_Mo_shift.1.cls ≠ "java/lang/invoke/MethodHandle" ∧ M_Mo_shift.1.cls ≠ "java/lang/invoke/VarHandle" ∧ (parseMethodDescriptor M_Mo_shift.1.desc).map (fun d => d.parameters.length) = some 2 := by decide +kernel
theorem d_Mo_shift_0 : decode prog_10_method_8_code 0 = .ok (.aload_n 0, 1) := by decide +kernel
theorem s_Mo_shift_0 {x : Nat} (hl : lg lv 0 = some (.ref x)) (k : ev G M_Mo_shift R E 1 lv (.ref x :: rest) h cells slots) : ev G M_Mo_shift R E 0 lv rest h cells slots := ev_aload_n d_Mo_shift_0 rfl hl k
theorem d_Mo_shift_1 : decode prog_10_method_8_code 1 = .ok (.iload_n 2, 1) := by decide +kernel
theorem s_Mo_shift_1 {x : Int32} (hl : lg lv 2 = some (.int x)) (k : ev G M_Mo_shift R E 2 lv (.int x :: rest) h cells slots) : ev G M_Mo_shift R E 1 lv rest h cells slots := ev_iload_n d_Mo_shift_1 rfl hl k
theorem d_Mo_shift_2 : decode prog_10_method_8_code 2 = .ok (.aload_n 0, 1) := by decide +kernel
theorem s_Mo_shift_2 {x : Nat} (hl : lg lv 0 = some (.ref x)) (k : ev G M_Mo_shift R E 3 lv (.ref x :: rest) h cells slots) : ev G M_Mo_shift R E 2 lv rest h cells slots := ev_aload_n d_Mo_shift_2 rfl hl k
theorem d_Mo_shift_3 : decode prog_10_method_8_code 3 = .ok (.iload_n 1, 1) := by decide +kernel
theorem s_Mo_shift_3 {x : Int32} (hl : lg lv 1 = some (.int x)) (k : ev G M_Mo_shift R E 4 lv (.int x :: rest) h cells slots) : ev G M_Mo_shift R E 3 lv rest h cells slots := ev_iload_n d_Mo_shift_3 rfl hl k
theorem d_Mo_shift_4 : decode prog_10_method_8_code 4 = .ok (.invokevirtual 62, 3) := by decide +kernel
theorem s_Mo_shift_4 {mc ms : Nat} {P : Option Value → HP → Prop} {a0 : Int32} {b : Nat} {fs : List Value} {v0 : Value} (hm : mt G M_Mo_what 0 mc ms (.ref b :: [.int a0]) h P) (hb : h b = mO 7 fs) (hv0 : fs[0]? = some v0) (hR : 0 + 1 ≤ R.frames ∧ 8 + (2 + 11) + 39 * 0 ≤ R.locals) (hcs : cells + mc ≤ R.cells ∧ slots + ms ≤ R.slots) (hrest : (rest.map fun v => v.category).sum ≤ 8) (k : ∀ (r : Option Value) (h' : HP), P r h' → ev G M_Mo_shift R E 7 lv (r.toList ++ rest) h' (cells + mc) (slots + ms)) : ev G M_Mo_shift R E 4 lv (.int a0 :: .ref b :: rest) h cells slots := ev_callV (as := [.int a0]) (ci := 7) d_Mo_shift_4 hm hb hv0 rfl w_804 w_806 w_39 w_70 w_807 hy_Mo_what hR hcs hrest k
theorem d_Mo_shift_7 : decode prog_10_method_8_code 7 = .ok (.aload_n 0, 1) := by decide +kernel
theorem s_Mo_shift_7 {x : Nat} (hl : lg lv 0 = some (.ref x)) (k : ev G M_Mo_shift R E 8 lv (.ref x :: rest) h cells slots) : ev G M_Mo_shift R E 7 lv rest h cells slots := ev_aload_n d_Mo_shift_7 rfl hl k
theorem d_Mo_shift_8 : decode prog_10_method_8_code 8 = .ok (.iload_n 1, 1) := by decide +kernel
theorem s_Mo_shift_8 {x : Int32} (hl : lg lv 1 = some (.int x)) (k : ev G M_Mo_shift R E 9 lv (.int x :: rest) h cells slots) : ev G M_Mo_shift R E 8 lv rest h cells slots := ev_iload_n d_Mo_shift_8 rfl hl k
theorem d_Mo_shift_9 : decode prog_10_method_8_code 9 = .ok (.iconst 1, 1) := by decide +kernel
theorem s_Mo_shift_9  (k : ev G M_Mo_shift R E 10 lv (.int 1 :: rest) h cells slots) : ev G M_Mo_shift R E 9 lv rest h cells slots := ev_iconst d_Mo_shift_9 (by decide) k
theorem d_Mo_shift_10 : decode prog_10_method_8_code 10 = .ok (.invokevirtual 66, 3) := by decide +kernel
theorem s_Mo_shift_10 {mc ms : Nat} {P : Option Value → HP → Prop} {a0 : Int32} {a1 : Int32} {b : Nat} {fs : List Value} {v0 : Value} (hm : mt G M_Mo_get 0 mc ms (.ref b :: [.int a0, .int a1]) h P) (hb : h b = mO 7 fs) (hv0 : fs[0]? = some v0) (hR : 0 + 1 ≤ R.frames ∧ 8 + (3 + 11) + 39 * 0 ≤ R.locals) (hcs : cells + mc ≤ R.cells ∧ slots + ms ≤ R.slots) (hrest : (rest.map fun v => v.category).sum ≤ 8) (k : ∀ (r : Option Value) (h' : HP), P r h' → ev G M_Mo_shift R E 13 lv (r.toList ++ rest) h' (cells + mc) (slots + ms)) : ev G M_Mo_shift R E 10 lv (.int a1 :: .int a0 :: .ref b :: rest) h cells slots := ev_callV (as := [.int a0, .int a1]) (ci := 7) d_Mo_shift_10 hm hb hv0 rfl w_816 w_818 w_42 w_70 w_819 hy_Mo_get hR hcs hrest k
theorem d_Mo_shift_13 : decode prog_10_method_8_code 13 = .ok (.aload_n 0, 1) := by decide +kernel
theorem s_Mo_shift_13 {x : Nat} (hl : lg lv 0 = some (.ref x)) (k : ev G M_Mo_shift R E 14 lv (.ref x :: rest) h cells slots) : ev G M_Mo_shift R E 13 lv rest h cells slots := ev_aload_n d_Mo_shift_13 rfl hl k
theorem d_Mo_shift_14 : decode prog_10_method_8_code 14 = .ok (.iload_n 1, 1) := by decide +kernel
theorem s_Mo_shift_14 {x : Int32} (hl : lg lv 1 = some (.int x)) (k : ev G M_Mo_shift R E 15 lv (.int x :: rest) h cells slots) : ev G M_Mo_shift R E 14 lv rest h cells slots := ev_iload_n d_Mo_shift_14 rfl hl k
theorem d_Mo_shift_15 : decode prog_10_method_8_code 15 = .ok (.iconst 2, 1) := by decide +kernel
theorem s_Mo_shift_15  (k : ev G M_Mo_shift R E 16 lv (.int 2 :: rest) h cells slots) : ev G M_Mo_shift R E 15 lv rest h cells slots := ev_iconst d_Mo_shift_15 (by decide) k
theorem d_Mo_shift_16 : decode prog_10_method_8_code 16 = .ok (.invokevirtual 66, 3) := by decide +kernel
theorem s_Mo_shift_16 {mc ms : Nat} {P : Option Value → HP → Prop} {a0 : Int32} {a1 : Int32} {b : Nat} {fs : List Value} {v0 : Value} (hm : mt G M_Mo_get 0 mc ms (.ref b :: [.int a0, .int a1]) h P) (hb : h b = mO 7 fs) (hv0 : fs[0]? = some v0) (hR : 0 + 1 ≤ R.frames ∧ 8 + (3 + 11) + 39 * 0 ≤ R.locals) (hcs : cells + mc ≤ R.cells ∧ slots + ms ≤ R.slots) (hrest : (rest.map fun v => v.category).sum ≤ 8) (k : ∀ (r : Option Value) (h' : HP), P r h' → ev G M_Mo_shift R E 19 lv (r.toList ++ rest) h' (cells + mc) (slots + ms)) : ev G M_Mo_shift R E 16 lv (.int a1 :: .int a0 :: .ref b :: rest) h cells slots := ev_callV (as := [.int a0, .int a1]) (ci := 7) d_Mo_shift_16 hm hb hv0 rfl w_816 w_818 w_42 w_70 w_819 hy_Mo_get hR hcs hrest k
theorem d_Mo_shift_19 : decode prog_10_method_8_code 19 = .ok (.aload_n 0, 1) := by decide +kernel
theorem s_Mo_shift_19 {x : Nat} (hl : lg lv 0 = some (.ref x)) (k : ev G M_Mo_shift R E 20 lv (.ref x :: rest) h cells slots) : ev G M_Mo_shift R E 19 lv rest h cells slots := ev_aload_n d_Mo_shift_19 rfl hl k
theorem d_Mo_shift_20 : decode prog_10_method_8_code 20 = .ok (.iload_n 1, 1) := by decide +kernel
theorem s_Mo_shift_20 {x : Int32} (hl : lg lv 1 = some (.int x)) (k : ev G M_Mo_shift R E 21 lv (.int x :: rest) h cells slots) : ev G M_Mo_shift R E 20 lv rest h cells slots := ev_iload_n d_Mo_shift_20 rfl hl k
theorem d_Mo_shift_21 : decode prog_10_method_8_code 21 = .ok (.iconst 3, 1) := by decide +kernel
theorem s_Mo_shift_21  (k : ev G M_Mo_shift R E 22 lv (.int 3 :: rest) h cells slots) : ev G M_Mo_shift R E 21 lv rest h cells slots := ev_iconst d_Mo_shift_21 (by decide) k
theorem d_Mo_shift_22 : decode prog_10_method_8_code 22 = .ok (.invokevirtual 66, 3) := by decide +kernel
theorem s_Mo_shift_22 {mc ms : Nat} {P : Option Value → HP → Prop} {a0 : Int32} {a1 : Int32} {b : Nat} {fs : List Value} {v0 : Value} (hm : mt G M_Mo_get 0 mc ms (.ref b :: [.int a0, .int a1]) h P) (hb : h b = mO 7 fs) (hv0 : fs[0]? = some v0) (hR : 0 + 1 ≤ R.frames ∧ 8 + (3 + 11) + 39 * 0 ≤ R.locals) (hcs : cells + mc ≤ R.cells ∧ slots + ms ≤ R.slots) (hrest : (rest.map fun v => v.category).sum ≤ 8) (k : ∀ (r : Option Value) (h' : HP), P r h' → ev G M_Mo_shift R E 25 lv (r.toList ++ rest) h' (cells + mc) (slots + ms)) : ev G M_Mo_shift R E 22 lv (.int a1 :: .int a0 :: .ref b :: rest) h cells slots := ev_callV (as := [.int a0, .int a1]) (ci := 7) d_Mo_shift_22 hm hb hv0 rfl w_816 w_818 w_42 w_70 w_819 hy_Mo_get hR hcs hrest k
theorem d_Mo_shift_25 : decode prog_10_method_8_code 25 = .ok (.aload_n 0, 1) := by decide +kernel
theorem s_Mo_shift_25 {x : Nat} (hl : lg lv 0 = some (.ref x)) (k : ev G M_Mo_shift R E 26 lv (.ref x :: rest) h cells slots) : ev G M_Mo_shift R E 25 lv rest h cells slots := ev_aload_n d_Mo_shift_25 rfl hl k
theorem d_Mo_shift_26 : decode prog_10_method_8_code 26 = .ok (.iload_n 1, 1) := by decide +kernel
theorem s_Mo_shift_26 {x : Int32} (hl : lg lv 1 = some (.int x)) (k : ev G M_Mo_shift R E 27 lv (.int x :: rest) h cells slots) : ev G M_Mo_shift R E 26 lv rest h cells slots := ev_iload_n d_Mo_shift_26 rfl hl k
theorem d_Mo_shift_27 : decode prog_10_method_8_code 27 = .ok (.iconst 4, 1) := by decide +kernel
theorem s_Mo_shift_27  (k : ev G M_Mo_shift R E 28 lv (.int 4 :: rest) h cells slots) : ev G M_Mo_shift R E 27 lv rest h cells slots := ev_iconst d_Mo_shift_27 (by decide) k
theorem d_Mo_shift_28 : decode prog_10_method_8_code 28 = .ok (.invokevirtual 66, 3) := by decide +kernel
theorem s_Mo_shift_28 {mc ms : Nat} {P : Option Value → HP → Prop} {a0 : Int32} {a1 : Int32} {b : Nat} {fs : List Value} {v0 : Value} (hm : mt G M_Mo_get 0 mc ms (.ref b :: [.int a0, .int a1]) h P) (hb : h b = mO 7 fs) (hv0 : fs[0]? = some v0) (hR : 0 + 1 ≤ R.frames ∧ 8 + (3 + 11) + 39 * 0 ≤ R.locals) (hcs : cells + mc ≤ R.cells ∧ slots + ms ≤ R.slots) (hrest : (rest.map fun v => v.category).sum ≤ 8) (k : ∀ (r : Option Value) (h' : HP), P r h' → ev G M_Mo_shift R E 31 lv (r.toList ++ rest) h' (cells + mc) (slots + ms)) : ev G M_Mo_shift R E 28 lv (.int a1 :: .int a0 :: .ref b :: rest) h cells slots := ev_callV (as := [.int a0, .int a1]) (ci := 7) d_Mo_shift_28 hm hb hv0 rfl w_816 w_818 w_42 w_70 w_819 hy_Mo_get hR hcs hrest k
theorem d_Mo_shift_31 : decode prog_10_method_8_code 31 = .ok (.invokevirtual 58, 3) := by decide +kernel
theorem s_Mo_shift_31 {mc ms : Nat} {P : Option Value → HP → Prop} {a0 : Int32} {a1 : Int32} {a2 : Int32} {a3 : Int32} {a4 : Int32} {a5 : Int32} {b : Nat} {fs : List Value} {v0 : Value} (hm : mt G M_Mo_put 0 mc ms (.ref b :: [.int a0, .int a1, .int a2, .int a3, .int a4, .int a5]) h P) (hb : h b = mO 7 fs) (hv0 : fs[0]? = some v0) (hR : 0 + 1 ≤ R.frames ∧ 8 + (7 + 11) + 39 * 0 ≤ R.locals) (hcs : cells + mc ≤ R.cells ∧ slots + ms ≤ R.slots) (hrest : (rest.map fun v => v.category).sum ≤ 8) (k : ∀ (r : Option Value) (h' : HP), P r h' → ev G M_Mo_shift R E 34 lv (r.toList ++ rest) h' (cells + mc) (slots + ms)) : ev G M_Mo_shift R E 31 lv (.int a5 :: .int a4 :: .int a3 :: .int a2 :: .int a1 :: .int a0 :: .ref b :: rest) h cells slots := ev_callV (as := [.int a0, .int a1, .int a2, .int a3, .int a4, .int a5]) (ci := 7) d_Mo_shift_31 hm hb hv0 rfl w_784 w_786 w_35 w_70 w_787 hy_Mo_put hR hcs hrest k
theorem d_Mo_shift_34 : decode prog_10_method_8_code 34 = .ok (.aload_n 0, 1) := by decide +kernel
theorem s_Mo_shift_34 {x : Nat} (hl : lg lv 0 = some (.ref x)) (k : ev G M_Mo_shift R E 35 lv (.ref x :: rest) h cells slots) : ev G M_Mo_shift R E 34 lv rest h cells slots := ev_aload_n d_Mo_shift_34 rfl hl k
theorem d_Mo_shift_35 : decode prog_10_method_8_code 35 = .ok (.iload_n 1, 1) := by decide +kernel
theorem s_Mo_shift_35 {x : Int32} (hl : lg lv 1 = some (.int x)) (k : ev G M_Mo_shift R E 36 lv (.int x :: rest) h cells slots) : ev G M_Mo_shift R E 35 lv rest h cells slots := ev_iload_n d_Mo_shift_35 rfl hl k
theorem d_Mo_shift_36 : decode prog_10_method_8_code 36 = .ok (.invokevirtual 70, 3) := by decide +kernel
theorem s_Mo_shift_36 {mc ms : Nat} {P : Option Value → HP → Prop} {a0 : Int32} {b : Nat} {fs : List Value} {v0 : Value} (hm : mt G M_Mo_clear 1 mc ms (.ref b :: [.int a0]) h P) (hb : h b = mO 7 fs) (hv0 : fs[0]? = some v0) (hR : 1 + 1 ≤ R.frames ∧ 8 + (2 + 11) + 39 * 1 ≤ R.locals) (hcs : cells + mc ≤ R.cells ∧ slots + ms ≤ R.slots) (hrest : (rest.map fun v => v.category).sum ≤ 8) (k : ∀ (r : Option Value) (h' : HP), P r h' → ev G M_Mo_shift R E 39 lv (r.toList ++ rest) h' (cells + mc) (slots + ms)) : ev G M_Mo_shift R E 36 lv (.int a0 :: .ref b :: rest) h cells slots := ev_callV (as := [.int a0]) (ci := 7) d_Mo_shift_36 hm hb hv0 rfl w_780 w_782 w_34 w_70 w_783 hy_Mo_clear hR hcs hrest k
theorem d_Mo_shift_39 : decode prog_10_method_8_code 39 = .ok (.return_, 1) := by decide +kernel
theorem s_Mo_shift_39 {P : Option Value → HP → Prop} {mc ms : Nat} (hP : P none h) (hc : cells ≤ mc ∧ slots ≤ ms) : ev G M_Mo_shift R (Er M_Mo_shift P mc ms) 39 lv [] h cells slots := ev_exit ⟨hc.1, hc.2, Or.inl ⟨rfl, d_Mo_shift_39, rfl, hP⟩⟩
abbrev M_Mo_assign : MW := (⟨"UseOnceMachineModel", "assign", "(II)V"⟩, prog_10_method_9_code, 3, none)
theorem hy_Mo_assign : M_Mo_assign.1.cls ≠ "java/lang/invoke/MethodHandle" ∧ M_Mo_assign.1.cls ≠ "java/lang/invoke/VarHandle" ∧ (parseMethodDescriptor M_Mo_assign.1.desc).map (fun d => d.parameters.length) = some 2 := by decide +kernel
theorem d_Mo_assign_0 : decode prog_10_method_9_code 0 = .ok (.aload_n 0, 1) := by decide +kernel
theorem s_Mo_assign_0 {x : Nat} (hl : lg lv 0 = some (.ref x)) (k : ev G M_Mo_assign R E 1 lv (.ref x :: rest) h cells slots) : ev G M_Mo_assign R E 0 lv rest h cells slots := ev_aload_n d_Mo_assign_0 rfl hl k
theorem d_Mo_assign_1 : decode prog_10_method_9_code 1 = .ok (.iload_n 2, 1) := by decide +kernel
theorem s_Mo_assign_1 {x : Int32} (hl : lg lv 2 = some (.int x)) (k : ev G M_Mo_assign R E 2 lv (.int x :: rest) h cells slots) : ev G M_Mo_assign R E 1 lv rest h cells slots := ev_iload_n d_Mo_assign_1 rfl hl k
theorem d_Mo_assign_2 : decode prog_10_method_9_code 2 = .ok (.invokevirtual 62, 3) := by decide +kernel
theorem s_Mo_assign_2 {mc ms : Nat} {P : Option Value → HP → Prop} {a0 : Int32} {b : Nat} {fs : List Value} {v0 : Value} (hm : mt G M_Mo_what 0 mc ms (.ref b :: [.int a0]) h P) (hb : h b = mO 7 fs) (hv0 : fs[0]? = some v0) (hR : 0 + 1 ≤ R.frames ∧ 8 + (2 + 11) + 39 * 0 ≤ R.locals) (hcs : cells + mc ≤ R.cells ∧ slots + ms ≤ R.slots) (hrest : (rest.map fun v => v.category).sum ≤ 8) (k : ∀ (r : Option Value) (h' : HP), P r h' → ev G M_Mo_assign R E 5 lv (r.toList ++ rest) h' (cells + mc) (slots + ms)) : ev G M_Mo_assign R E 2 lv (.int a0 :: .ref b :: rest) h cells slots := ev_callV (as := [.int a0]) (ci := 7) d_Mo_assign_2 hm hb hv0 rfl w_804 w_806 w_39 w_70 w_807 hy_Mo_what hR hcs hrest k
theorem d_Mo_assign_5 : decode prog_10_method_9_code 5 = .ok (.iconst 1, 1) := by decide +kernel
theorem s_Mo_assign_5  (k : ev G M_Mo_assign R E 6 lv (.int 1 :: rest) h cells slots) : ev G M_Mo_assign R E 5 lv rest h cells slots := ev_iconst d_Mo_assign_5 (by decide) k
theorem d_Mo_assign_6 : decode prog_10_method_9_code 6 = .ok (.if_icmp .eq 12, 3) := by decide +kernel
theorem s_Mo_assign_6 {x y : Int32} (kt : x = y → ev G M_Mo_assign R E 18 lv rest h cells slots) (kf : ¬ x = y → ev G M_Mo_assign R E 9 lv rest h cells slots) : ev G M_Mo_assign R E 6 lv (.int y :: .int x :: rest) h cells slots := ev_icmp_eq d_Mo_assign_6 (by decide) kt kf
theorem d_Mo_assign_9 : decode prog_10_method_9_code 9 = .ok (.aload_n 0, 1) := by decide +kernel
theorem s_Mo_assign_9 {x : Nat} (hl : lg lv 0 = some (.ref x)) (k : ev G M_Mo_assign R E 10 lv (.ref x :: rest) h cells slots) : ev G M_Mo_assign R E 9 lv rest h cells slots := ev_aload_n d_Mo_assign_9 rfl hl k
theorem d_Mo_assign_10 : decode prog_10_method_9_code 10 = .ok (.iload_n 2, 1) := by decide +kernel
theorem s_Mo_assign_10 {x : Int32} (hl : lg lv 2 = some (.int x)) (k : ev G M_Mo_assign R E 11 lv (.int x :: rest) h cells slots) : ev G M_Mo_assign R E 10 lv rest h cells slots := ev_iload_n d_Mo_assign_10 rfl hl k
theorem d_Mo_assign_11 : decode prog_10_method_9_code 11 = .ok (.invokevirtual 62, 3) := by decide +kernel
theorem s_Mo_assign_11 {mc ms : Nat} {P : Option Value → HP → Prop} {a0 : Int32} {b : Nat} {fs : List Value} {v0 : Value} (hm : mt G M_Mo_what 0 mc ms (.ref b :: [.int a0]) h P) (hb : h b = mO 7 fs) (hv0 : fs[0]? = some v0) (hR : 0 + 1 ≤ R.frames ∧ 8 + (2 + 11) + 39 * 0 ≤ R.locals) (hcs : cells + mc ≤ R.cells ∧ slots + ms ≤ R.slots) (hrest : (rest.map fun v => v.category).sum ≤ 8) (k : ∀ (r : Option Value) (h' : HP), P r h' → ev G M_Mo_assign R E 14 lv (r.toList ++ rest) h' (cells + mc) (slots + ms)) : ev G M_Mo_assign R E 11 lv (.int a0 :: .ref b :: rest) h cells slots := ev_callV (as := [.int a0]) (ci := 7) d_Mo_assign_11 hm hb hv0 rfl w_804 w_806 w_39 w_70 w_807 hy_Mo_what hR hcs hrest k
theorem d_Mo_assign_14 : decode prog_10_method_9_code 14 = .ok (.iconst 3, 1) := by decide +kernel
theorem s_Mo_assign_14  (k : ev G M_Mo_assign R E 15 lv (.int 3 :: rest) h cells slots) : ev G M_Mo_assign R E 14 lv rest h cells slots := ev_iconst d_Mo_assign_14 (by decide) k
theorem d_Mo_assign_15 : decode prog_10_method_9_code 15 = .ok (.if_icmp .ne 12, 3) := by decide +kernel
theorem s_Mo_assign_15 {x y : Int32} (kt : ¬ x = y → ev G M_Mo_assign R E 27 lv rest h cells slots) (kf : x = y → ev G M_Mo_assign R E 18 lv rest h cells slots) : ev G M_Mo_assign R E 15 lv (.int y :: .int x :: rest) h cells slots := ev_icmp_ne d_Mo_assign_15 (by decide) kt kf
theorem d_Mo_assign_18 : decode prog_10_method_9_code 18 = .ok (.aload_n 0, 1) := by decide +kernel
theorem s_Mo_assign_18 {x : Nat} (hl : lg lv 0 = some (.ref x)) (k : ev G M_Mo_assign R E 19 lv (.ref x :: rest) h cells slots) : ev G M_Mo_assign R E 18 lv rest h cells slots := ev_aload_n d_Mo_assign_18 rfl hl k
theorem d_Mo_assign_19 : decode prog_10_method_9_code 19 = .ok (.iload_n 2, 1) := by decide +kernel
theorem s_Mo_assign_19 {x : Int32} (hl : lg lv 2 = some (.int x)) (k : ev G M_Mo_assign R E 20 lv (.int x :: rest) h cells slots) : ev G M_Mo_assign R E 19 lv rest h cells slots := ev_iload_n d_Mo_assign_19 rfl hl k
theorem d_Mo_assign_20 : decode prog_10_method_9_code 20 = .ok (.iload_n 1, 1) := by decide +kernel
theorem s_Mo_assign_20 {x : Int32} (hl : lg lv 1 = some (.int x)) (k : ev G M_Mo_assign R E 21 lv (.int x :: rest) h cells slots) : ev G M_Mo_assign R E 20 lv rest h cells slots := ev_iload_n d_Mo_assign_20 rfl hl k
theorem d_Mo_assign_21 : decode prog_10_method_9_code 21 = .ok (.invokevirtual 74, 3) := by decide +kernel
theorem s_Mo_assign_21 {mc ms : Nat} {P : Option Value → HP → Prop} {a0 : Int32} {a1 : Int32} {b : Nat} {fs : List Value} {v0 : Value} (hm : mt G M_Mo_shift 2 mc ms (.ref b :: [.int a0, .int a1]) h P) (hb : h b = mO 7 fs) (hv0 : fs[0]? = some v0) (hR : 2 + 1 ≤ R.frames ∧ 8 + (3 + 11) + 39 * 2 ≤ R.locals) (hcs : cells + mc ≤ R.cells ∧ slots + ms ≤ R.slots) (hrest : (rest.map fun v => v.category).sum ≤ 8) (k : ∀ (r : Option Value) (h' : HP), P r h' → ev G M_Mo_assign R E 24 lv (r.toList ++ rest) h' (cells + mc) (slots + ms)) : ev G M_Mo_assign R E 21 lv (.int a1 :: .int a0 :: .ref b :: rest) h cells slots := ev_callV (as := [.int a0, .int a1]) (ci := 7) d_Mo_assign_21 hm hb hv0 rfl w_812 w_814 w_41 w_70 w_815 hy_Mo_shift hR hcs hrest k
theorem d_Mo_assign_24 : decode prog_10_method_9_code 24 = .ok (.goto 70, 3) := by decide +kernel
theorem s_Mo_assign_24  (k : ev G M_Mo_assign R E 94 lv rest h cells slots) : ev G M_Mo_assign R E 24 lv rest h cells slots := ev_goto d_Mo_assign_24 (by decide) k
theorem d_Mo_assign_27 : decode prog_10_method_9_code 27 = .ok (.aload_n 0, 1) := by decide +kernel
theorem s_Mo_assign_27 {x : Nat} (hl : lg lv 0 = some (.ref x)) (k : ev G M_Mo_assign R E 28 lv (.ref x :: rest) h cells slots) : ev G M_Mo_assign R E 27 lv rest h cells slots := ev_aload_n d_Mo_assign_27 rfl hl k
theorem d_Mo_assign_28 : decode prog_10_method_9_code 28 = .ok (.iload_n 1, 1) := by decide +kernel
theorem s_Mo_assign_28 {x : Int32} (hl : lg lv 1 = some (.int x)) (k : ev G M_Mo_assign R E 29 lv (.int x :: rest) h cells slots) : ev G M_Mo_assign R E 28 lv rest h cells slots := ev_iload_n d_Mo_assign_28 rfl hl k
theorem d_Mo_assign_29 : decode prog_10_method_9_code 29 = .ok (.aload_n 0, 1) := by decide +kernel
theorem s_Mo_assign_29 {x : Nat} (hl : lg lv 0 = some (.ref x)) (k : ev G M_Mo_assign R E 30 lv (.ref x :: rest) h cells slots) : ev G M_Mo_assign R E 29 lv rest h cells slots := ev_aload_n d_Mo_assign_29 rfl hl k
theorem d_Mo_assign_30 : decode prog_10_method_9_code 30 = .ok (.iload_n 2, 1) := by decide +kernel
theorem s_Mo_assign_30 {x : Int32} (hl : lg lv 2 = some (.int x)) (k : ev G M_Mo_assign R E 31 lv (.int x :: rest) h cells slots) : ev G M_Mo_assign R E 30 lv rest h cells slots := ev_iload_n d_Mo_assign_30 rfl hl k
theorem d_Mo_assign_31 : decode prog_10_method_9_code 31 = .ok (.invokevirtual 62, 3) := by decide +kernel
theorem s_Mo_assign_31 {mc ms : Nat} {P : Option Value → HP → Prop} {a0 : Int32} {b : Nat} {fs : List Value} {v0 : Value} (hm : mt G M_Mo_what 0 mc ms (.ref b :: [.int a0]) h P) (hb : h b = mO 7 fs) (hv0 : fs[0]? = some v0) (hR : 0 + 1 ≤ R.frames ∧ 8 + (2 + 11) + 39 * 0 ≤ R.locals) (hcs : cells + mc ≤ R.cells ∧ slots + ms ≤ R.slots) (hrest : (rest.map fun v => v.category).sum ≤ 8) (k : ∀ (r : Option Value) (h' : HP), P r h' → ev G M_Mo_assign R E 34 lv (r.toList ++ rest) h' (cells + mc) (slots + ms)) : ev G M_Mo_assign R E 31 lv (.int a0 :: .ref b :: rest) h cells slots := ev_callV (as := [.int a0]) (ci := 7) d_Mo_assign_31 hm hb hv0 rfl w_804 w_806 w_39 w_70 w_807 hy_Mo_what hR hcs hrest k
theorem d_Mo_assign_34 : decode prog_10_method_9_code 34 = .ok (.aload_n 0, 1) := by decide +kernel
theorem s_Mo_assign_34 {x : Nat} (hl : lg lv 0 = some (.ref x)) (k : ev G M_Mo_assign R E 35 lv (.ref x :: rest) h cells slots) : ev G M_Mo_assign R E 34 lv rest h cells slots := ev_aload_n d_Mo_assign_34 rfl hl k
theorem d_Mo_assign_35 : decode prog_10_method_9_code 35 = .ok (.iload_n 2, 1) := by decide +kernel
theorem s_Mo_assign_35 {x : Int32} (hl : lg lv 2 = some (.int x)) (k : ev G M_Mo_assign R E 36 lv (.int x :: rest) h cells slots) : ev G M_Mo_assign R E 35 lv rest h cells slots := ev_iload_n d_Mo_assign_35 rfl hl k
theorem d_Mo_assign_36 : decode prog_10_method_9_code 36 = .ok (.iconst 1, 1) := by decide +kernel
theorem s_Mo_assign_36  (k : ev G M_Mo_assign R E 37 lv (.int 1 :: rest) h cells slots) : ev G M_Mo_assign R E 36 lv rest h cells slots := ev_iconst d_Mo_assign_36 (by decide) k
theorem d_Mo_assign_37 : decode prog_10_method_9_code 37 = .ok (.invokevirtual 66, 3) := by decide +kernel
theorem s_Mo_assign_37 {mc ms : Nat} {P : Option Value → HP → Prop} {a0 : Int32} {a1 : Int32} {b : Nat} {fs : List Value} {v0 : Value} (hm : mt G M_Mo_get 0 mc ms (.ref b :: [.int a0, .int a1]) h P) (hb : h b = mO 7 fs) (hv0 : fs[0]? = some v0) (hR : 0 + 1 ≤ R.frames ∧ 8 + (3 + 11) + 39 * 0 ≤ R.locals) (hcs : cells + mc ≤ R.cells ∧ slots + ms ≤ R.slots) (hrest : (rest.map fun v => v.category).sum ≤ 8) (k : ∀ (r : Option Value) (h' : HP), P r h' → ev G M_Mo_assign R E 40 lv (r.toList ++ rest) h' (cells + mc) (slots + ms)) : ev G M_Mo_assign R E 37 lv (.int a1 :: .int a0 :: .ref b :: rest) h cells slots := ev_callV (as := [.int a0, .int a1]) (ci := 7) d_Mo_assign_37 hm hb hv0 rfl w_816 w_818 w_42 w_70 w_819 hy_Mo_get hR hcs hrest k
theorem d_Mo_assign_40 : decode prog_10_method_9_code 40 = .ok (.aload_n 0, 1) := by decide +kernel
theorem s_Mo_assign_40 {x : Nat} (hl : lg lv 0 = some (.ref x)) (k : ev G M_Mo_assign R E 41 lv (.ref x :: rest) h cells slots) : ev G M_Mo_assign R E 40 lv rest h cells slots := ev_aload_n d_Mo_assign_40 rfl hl k
theorem d_Mo_assign_41 : decode prog_10_method_9_code 41 = .ok (.iload_n 2, 1) := by decide +kernel
theorem s_Mo_assign_41 {x : Int32} (hl : lg lv 2 = some (.int x)) (k : ev G M_Mo_assign R E 42 lv (.int x :: rest) h cells slots) : ev G M_Mo_assign R E 41 lv rest h cells slots := ev_iload_n d_Mo_assign_41 rfl hl k
theorem d_Mo_assign_42 : decode prog_10_method_9_code 42 = .ok (.iconst 2, 1) := by decide +kernel
theorem s_Mo_assign_42  (k : ev G M_Mo_assign R E 43 lv (.int 2 :: rest) h cells slots) : ev G M_Mo_assign R E 42 lv rest h cells slots := ev_iconst d_Mo_assign_42 (by decide) k
theorem d_Mo_assign_43 : decode prog_10_method_9_code 43 = .ok (.invokevirtual 66, 3) := by decide +kernel
theorem s_Mo_assign_43 {mc ms : Nat} {P : Option Value → HP → Prop} {a0 : Int32} {a1 : Int32} {b : Nat} {fs : List Value} {v0 : Value} (hm : mt G M_Mo_get 0 mc ms (.ref b :: [.int a0, .int a1]) h P) (hb : h b = mO 7 fs) (hv0 : fs[0]? = some v0) (hR : 0 + 1 ≤ R.frames ∧ 8 + (3 + 11) + 39 * 0 ≤ R.locals) (hcs : cells + mc ≤ R.cells ∧ slots + ms ≤ R.slots) (hrest : (rest.map fun v => v.category).sum ≤ 8) (k : ∀ (r : Option Value) (h' : HP), P r h' → ev G M_Mo_assign R E 46 lv (r.toList ++ rest) h' (cells + mc) (slots + ms)) : ev G M_Mo_assign R E 43 lv (.int a1 :: .int a0 :: .ref b :: rest) h cells slots := ev_callV (as := [.int a0, .int a1]) (ci := 7) d_Mo_assign_43 hm hb hv0 rfl w_816 w_818 w_42 w_70 w_819 hy_Mo_get hR hcs hrest k
theorem d_Mo_assign_46 : decode prog_10_method_9_code 46 = .ok (.aload_n 0, 1) := by decide +kernel
theorem s_Mo_assign_46 {x : Nat} (hl : lg lv 0 = some (.ref x)) (k : ev G M_Mo_assign R E 47 lv (.ref x :: rest) h cells slots) : ev G M_Mo_assign R E 46 lv rest h cells slots := ev_aload_n d_Mo_assign_46 rfl hl k
theorem d_Mo_assign_47 : decode prog_10_method_9_code 47 = .ok (.iload_n 2, 1) := by decide +kernel
theorem s_Mo_assign_47 {x : Int32} (hl : lg lv 2 = some (.int x)) (k : ev G M_Mo_assign R E 48 lv (.int x :: rest) h cells slots) : ev G M_Mo_assign R E 47 lv rest h cells slots := ev_iload_n d_Mo_assign_47 rfl hl k
theorem d_Mo_assign_48 : decode prog_10_method_9_code 48 = .ok (.iconst 3, 1) := by decide +kernel
theorem s_Mo_assign_48  (k : ev G M_Mo_assign R E 49 lv (.int 3 :: rest) h cells slots) : ev G M_Mo_assign R E 48 lv rest h cells slots := ev_iconst d_Mo_assign_48 (by decide) k
theorem d_Mo_assign_49 : decode prog_10_method_9_code 49 = .ok (.invokevirtual 66, 3) := by decide +kernel
theorem s_Mo_assign_49 {mc ms : Nat} {P : Option Value → HP → Prop} {a0 : Int32} {a1 : Int32} {b : Nat} {fs : List Value} {v0 : Value} (hm : mt G M_Mo_get 0 mc ms (.ref b :: [.int a0, .int a1]) h P) (hb : h b = mO 7 fs) (hv0 : fs[0]? = some v0) (hR : 0 + 1 ≤ R.frames ∧ 8 + (3 + 11) + 39 * 0 ≤ R.locals) (hcs : cells + mc ≤ R.cells ∧ slots + ms ≤ R.slots) (hrest : (rest.map fun v => v.category).sum ≤ 8) (k : ∀ (r : Option Value) (h' : HP), P r h' → ev G M_Mo_assign R E 52 lv (r.toList ++ rest) h' (cells + mc) (slots + ms)) : ev G M_Mo_assign R E 49 lv (.int a1 :: .int a0 :: .ref b :: rest) h cells slots := ev_callV (as := [.int a0, .int a1]) (ci := 7) d_Mo_assign_49 hm hb hv0 rfl w_816 w_818 w_42 w_70 w_819 hy_Mo_get hR hcs hrest k
theorem d_Mo_assign_52 : decode prog_10_method_9_code 52 = .ok (.aload_n 0, 1) := by decide +kernel
theorem s_Mo_assign_52 {x : Nat} (hl : lg lv 0 = some (.ref x)) (k : ev G M_Mo_assign R E 53 lv (.ref x :: rest) h cells slots) : ev G M_Mo_assign R E 52 lv rest h cells slots := ev_aload_n d_Mo_assign_52 rfl hl k
theorem d_Mo_assign_53 : decode prog_10_method_9_code 53 = .ok (.iload_n 2, 1) := by decide +kernel
theorem s_Mo_assign_53 {x : Int32} (hl : lg lv 2 = some (.int x)) (k : ev G M_Mo_assign R E 54 lv (.int x :: rest) h cells slots) : ev G M_Mo_assign R E 53 lv rest h cells slots := ev_iload_n d_Mo_assign_53 rfl hl k
theorem d_Mo_assign_54 : decode prog_10_method_9_code 54 = .ok (.iconst 4, 1) := by decide +kernel
theorem s_Mo_assign_54  (k : ev G M_Mo_assign R E 55 lv (.int 4 :: rest) h cells slots) : ev G M_Mo_assign R E 54 lv rest h cells slots := ev_iconst d_Mo_assign_54 (by decide) k
theorem d_Mo_assign_55 : decode prog_10_method_9_code 55 = .ok (.invokevirtual 66, 3) := by decide +kernel
theorem s_Mo_assign_55 {mc ms : Nat} {P : Option Value → HP → Prop} {a0 : Int32} {a1 : Int32} {b : Nat} {fs : List Value} {v0 : Value} (hm : mt G M_Mo_get 0 mc ms (.ref b :: [.int a0, .int a1]) h P) (hb : h b = mO 7 fs) (hv0 : fs[0]? = some v0) (hR : 0 + 1 ≤ R.frames ∧ 8 + (3 + 11) + 39 * 0 ≤ R.locals) (hcs : cells + mc ≤ R.cells ∧ slots + ms ≤ R.slots) (hrest : (rest.map fun v => v.category).sum ≤ 8) (k : ∀ (r : Option Value) (h' : HP), P r h' → ev G M_Mo_assign R E 58 lv (r.toList ++ rest) h' (cells + mc) (slots + ms)) : ev G M_Mo_assign R E 55 lv (.int a1 :: .int a0 :: .ref b :: rest) h cells slots := ev_callV (as := [.int a0, .int a1]) (ci := 7) d_Mo_assign_55 hm hb hv0 rfl w_816 w_818 w_42 w_70 w_819 hy_Mo_get hR hcs hrest k
theorem d_Mo_assign_58 : decode prog_10_method_9_code 58 = .ok (.invokevirtual 58, 3) := by decide +kernel
theorem s_Mo_assign_58 {mc ms : Nat} {P : Option Value → HP → Prop} {a0 : Int32} {a1 : Int32} {a2 : Int32} {a3 : Int32} {a4 : Int32} {a5 : Int32} {b : Nat} {fs : List Value} {v0 : Value} (hm : mt G M_Mo_put 0 mc ms (.ref b :: [.int a0, .int a1, .int a2, .int a3, .int a4, .int a5]) h P) (hb : h b = mO 7 fs) (hv0 : fs[0]? = some v0) (hR : 0 + 1 ≤ R.frames ∧ 8 + (7 + 11) + 39 * 0 ≤ R.locals) (hcs : cells + mc ≤ R.cells ∧ slots + ms ≤ R.slots) (hrest : (rest.map fun v => v.category).sum ≤ 8) (k : ∀ (r : Option Value) (h' : HP), P r h' → ev G M_Mo_assign R E 61 lv (r.toList ++ rest) h' (cells + mc) (slots + ms)) : ev G M_Mo_assign R E 58 lv (.int a5 :: .int a4 :: .int a3 :: .int a2 :: .int a1 :: .int a0 :: .ref b :: rest) h cells slots := ev_callV (as := [.int a0, .int a1, .int a2, .int a3, .int a4, .int a5]) (ci := 7) d_Mo_assign_58 hm hb hv0 rfl w_784 w_786 w_35 w_70 w_787 hy_Mo_put hR hcs hrest k
theorem d_Mo_assign_61 : decode prog_10_method_9_code 61 = .ok (.aload_n 0, 1) := by decide +kernel
theorem s_Mo_assign_61 {x : Nat} (hl : lg lv 0 = some (.ref x)) (k : ev G M_Mo_assign R E 62 lv (.ref x :: rest) h cells slots) : ev G M_Mo_assign R E 61 lv rest h cells slots := ev_aload_n d_Mo_assign_61 rfl hl k
theorem d_Mo_assign_62 : decode prog_10_method_9_code 62 = .ok (.iload_n 2, 1) := by decide +kernel
theorem s_Mo_assign_62 {x : Int32} (hl : lg lv 2 = some (.int x)) (k : ev G M_Mo_assign R E 63 lv (.int x :: rest) h cells slots) : ev G M_Mo_assign R E 62 lv rest h cells slots := ev_iload_n d_Mo_assign_62 rfl hl k
theorem d_Mo_assign_63 : decode prog_10_method_9_code 63 = .ok (.invokevirtual 62, 3) := by decide +kernel
theorem s_Mo_assign_63 {mc ms : Nat} {P : Option Value → HP → Prop} {a0 : Int32} {b : Nat} {fs : List Value} {v0 : Value} (hm : mt G M_Mo_what 0 mc ms (.ref b :: [.int a0]) h P) (hb : h b = mO 7 fs) (hv0 : fs[0]? = some v0) (hR : 0 + 1 ≤ R.frames ∧ 8 + (2 + 11) + 39 * 0 ≤ R.locals) (hcs : cells + mc ≤ R.cells ∧ slots + ms ≤ R.slots) (hrest : (rest.map fun v => v.category).sum ≤ 8) (k : ∀ (r : Option Value) (h' : HP), P r h' → ev G M_Mo_assign R E 66 lv (r.toList ++ rest) h' (cells + mc) (slots + ms)) : ev G M_Mo_assign R E 63 lv (.int a0 :: .ref b :: rest) h cells slots := ev_callV (as := [.int a0]) (ci := 7) d_Mo_assign_63 hm hb hv0 rfl w_804 w_806 w_39 w_70 w_807 hy_Mo_what hR hcs hrest k
theorem d_Mo_assign_66 : decode prog_10_method_9_code 66 = .ok (.iconst 2, 1) := by decide +kernel
theorem s_Mo_assign_66  (k : ev G M_Mo_assign R E 67 lv (.int 2 :: rest) h cells slots) : ev G M_Mo_assign R E 66 lv rest h cells slots := ev_iconst d_Mo_assign_66 (by decide) k
theorem d_Mo_assign_67 : decode prog_10_method_9_code 67 = .ok (.if_icmp .ne 27, 3) := by decide +kernel
theorem s_Mo_assign_67 {x y : Int32} (kt : ¬ x = y → ev G M_Mo_assign R E 94 lv rest h cells slots) (kf : x = y → ev G M_Mo_assign R E 70 lv rest h cells slots) : ev G M_Mo_assign R E 67 lv (.int y :: .int x :: rest) h cells slots := ev_icmp_ne d_Mo_assign_67 (by decide) kt kf
theorem d_Mo_assign_70 : decode prog_10_method_9_code 70 = .ok (.aload_n 0, 1) := by decide +kernel
theorem s_Mo_assign_70 {x : Nat} (hl : lg lv 0 = some (.ref x)) (k : ev G M_Mo_assign R E 71 lv (.ref x :: rest) h cells slots) : ev G M_Mo_assign R E 70 lv rest h cells slots := ev_aload_n d_Mo_assign_70 rfl hl k
theorem d_Mo_assign_71 : decode prog_10_method_9_code 71 = .ok (.getfield 19, 3) := by decide +kernel
theorem s_Mo_assign_71 {a : Nat} {fs : List Value} {v : Value} (hh : h a = mO 7 fs) (hv : fs[4]? = some v) (k : ev G M_Mo_assign R E 74 lv (v :: rest) h cells slots) : ev G M_Mo_assign R E 71 lv (.ref a :: rest) h cells slots := ev_getfield (ci := 7) (kf := 4) d_Mo_assign_71 rfl ck7 (by decide) w_708 hh hv k
theorem d_Mo_assign_74 : decode prog_10_method_9_code 74 = .ok (.aload_n 0, 1) := by decide +kernel
theorem s_Mo_assign_74 {x : Nat} (hl : lg lv 0 = some (.ref x)) (k : ev G M_Mo_assign R E 75 lv (.ref x :: rest) h cells slots) : ev G M_Mo_assign R E 74 lv rest h cells slots := ev_aload_n d_Mo_assign_74 rfl hl k
theorem d_Mo_assign_75 : decode prog_10_method_9_code 75 = .ok (.iload_n 2, 1) := by decide +kernel
theorem s_Mo_assign_75 {x : Int32} (hl : lg lv 2 = some (.int x)) (k : ev G M_Mo_assign R E 76 lv (.int x :: rest) h cells slots) : ev G M_Mo_assign R E 75 lv rest h cells slots := ev_iload_n d_Mo_assign_75 rfl hl k
theorem d_Mo_assign_76 : decode prog_10_method_9_code 76 = .ok (.iconst 4, 1) := by decide +kernel
theorem s_Mo_assign_76  (k : ev G M_Mo_assign R E 77 lv (.int 4 :: rest) h cells slots) : ev G M_Mo_assign R E 76 lv rest h cells slots := ev_iconst d_Mo_assign_76 (by decide) k
theorem d_Mo_assign_77 : decode prog_10_method_9_code 77 = .ok (.invokevirtual 66, 3) := by decide +kernel
theorem s_Mo_assign_77 {mc ms : Nat} {P : Option Value → HP → Prop} {a0 : Int32} {a1 : Int32} {b : Nat} {fs : List Value} {v0 : Value} (hm : mt G M_Mo_get 0 mc ms (.ref b :: [.int a0, .int a1]) h P) (hb : h b = mO 7 fs) (hv0 : fs[0]? = some v0) (hR : 0 + 1 ≤ R.frames ∧ 8 + (3 + 11) + 39 * 0 ≤ R.locals) (hcs : cells + mc ≤ R.cells ∧ slots + ms ≤ R.slots) (hrest : (rest.map fun v => v.category).sum ≤ 8) (k : ∀ (r : Option Value) (h' : HP), P r h' → ev G M_Mo_assign R E 80 lv (r.toList ++ rest) h' (cells + mc) (slots + ms)) : ev G M_Mo_assign R E 77 lv (.int a1 :: .int a0 :: .ref b :: rest) h cells slots := ev_callV (as := [.int a0, .int a1]) (ci := 7) d_Mo_assign_77 hm hb hv0 rfl w_816 w_818 w_42 w_70 w_819 hy_Mo_get hR hcs hrest k
theorem d_Mo_assign_80 : decode prog_10_method_9_code 80 = .ok (.aload_n 0, 1) := by decide +kernel
theorem s_Mo_assign_80 {x : Nat} (hl : lg lv 0 = some (.ref x)) (k : ev G M_Mo_assign R E 81 lv (.ref x :: rest) h cells slots) : ev G M_Mo_assign R E 80 lv rest h cells slots := ev_aload_n d_Mo_assign_80 rfl hl k
theorem d_Mo_assign_81 : decode prog_10_method_9_code 81 = .ok (.getfield 19, 3) := by decide +kernel
theorem s_Mo_assign_81 {a : Nat} {fs : List Value} {v : Value} (hh : h a = mO 7 fs) (hv : fs[4]? = some v) (k : ev G M_Mo_assign R E 84 lv (v :: rest) h cells slots) : ev G M_Mo_assign R E 81 lv (.ref a :: rest) h cells slots := ev_getfield (ci := 7) (kf := 4) d_Mo_assign_81 rfl ck7 (by decide) w_708 hh hv k
theorem d_Mo_assign_84 : decode prog_10_method_9_code 84 = .ok (.aload_n 0, 1) := by decide +kernel
theorem s_Mo_assign_84 {x : Nat} (hl : lg lv 0 = some (.ref x)) (k : ev G M_Mo_assign R E 85 lv (.ref x :: rest) h cells slots) : ev G M_Mo_assign R E 84 lv rest h cells slots := ev_aload_n d_Mo_assign_84 rfl hl k
theorem d_Mo_assign_85 : decode prog_10_method_9_code 85 = .ok (.iload_n 2, 1) := by decide +kernel
theorem s_Mo_assign_85 {x : Int32} (hl : lg lv 2 = some (.int x)) (k : ev G M_Mo_assign R E 86 lv (.int x :: rest) h cells slots) : ev G M_Mo_assign R E 85 lv rest h cells slots := ev_iload_n d_Mo_assign_85 rfl hl k
theorem d_Mo_assign_86 : decode prog_10_method_9_code 86 = .ok (.iconst 4, 1) := by decide +kernel
theorem s_Mo_assign_86  (k : ev G M_Mo_assign R E 87 lv (.int 4 :: rest) h cells slots) : ev G M_Mo_assign R E 86 lv rest h cells slots := ev_iconst d_Mo_assign_86 (by decide) k
theorem d_Mo_assign_87 : decode prog_10_method_9_code 87 = .ok (.invokevirtual 66, 3) := by decide +kernel
theorem s_Mo_assign_87 {mc ms : Nat} {P : Option Value → HP → Prop} {a0 : Int32} {a1 : Int32} {b : Nat} {fs : List Value} {v0 : Value} (hm : mt G M_Mo_get 0 mc ms (.ref b :: [.int a0, .int a1]) h P) (hb : h b = mO 7 fs) (hv0 : fs[0]? = some v0) (hR : 0 + 1 ≤ R.frames ∧ 8 + (3 + 11) + 39 * 0 ≤ R.locals) (hcs : cells + mc ≤ R.cells ∧ slots + ms ≤ R.slots) (hrest : (rest.map fun v => v.category).sum ≤ 8) (k : ∀ (r : Option Value) (h' : HP), P r h' → ev G M_Mo_assign R E 90 lv (r.toList ++ rest) h' (cells + mc) (slots + ms)) : ev G M_Mo_assign R E 87 lv (.int a1 :: .int a0 :: .ref b :: rest) h cells slots := ev_callV (as := [.int a0, .int a1]) (ci := 7) d_Mo_assign_87 hm hb hv0 rfl w_816 w_818 w_42 w_70 w_819 hy_Mo_get hR hcs hrest k
theorem d_Mo_assign_90 : decode prog_10_method_9_code 90 = .ok (.iaload, 1) := by decide +kernel
theorem s_Mo_assign_90 {a n : Nat} {f : Nat → Int32} {i : Int32} (hh : h a = mI 0 n f) (hin : vp_in i n) (k : ev G M_Mo_assign R E 91 lv (.int (f i.toNatClampNeg) :: rest) h cells slots) : ev G M_Mo_assign R E 90 lv (.int i :: .ref a :: rest) h cells slots := ev_iaload d_Mo_assign_90 rfl hh hin k
theorem d_Mo_assign_91 : decode prog_10_method_9_code 91 = .ok (.iconst 1, 1) := by decide +kernel
theorem s_Mo_assign_91  (k : ev G M_Mo_assign R E 92 lv (.int 1 :: rest) h cells slots) : ev G M_Mo_assign R E 91 lv rest h cells slots := ev_iconst d_Mo_assign_91 (by decide) k
theorem d_Mo_assign_92 : decode prog_10_method_9_code 92 = .ok (.iadd, 1) := by decide +kernel
theorem s_Mo_assign_92 {x y : Int32} (k : ev G M_Mo_assign R E 93 lv (.int (x + y) :: rest) h cells slots) : ev G M_Mo_assign R E 92 lv (.int y :: .int x :: rest) h cells slots := ev_iadd d_Mo_assign_92 k
theorem d_Mo_assign_93 : decode prog_10_method_9_code 93 = .ok (.iastore, 1) := by decide +kernel
theorem s_Mo_assign_93 {a n : Nat} {f : Nat → Int32} {i : Int32} {x : Int32} (hh : h a = mI 0 n f) (hin : vp_in i n) (k : ev G M_Mo_assign R E 94 lv rest (va_up h a (mI 0 n (upd f i.toNatClampNeg x))) cells slots) : ev G M_Mo_assign R E 93 lv (.int x :: .int i :: .ref a :: rest) h cells slots := ev_iastore d_Mo_assign_93 rfl hh hin k
theorem d_Mo_assign_94 : decode prog_10_method_9_code 94 = .ok (.return_, 1) := by decide +kernel
theorem s_Mo_assign_94 {P : Option Value → HP → Prop} {mc ms : Nat} (hP : P none h) (hc : cells ≤ mc ∧ slots ≤ ms) : ev G M_Mo_assign R (Er M_Mo_assign P mc ms) 94 lv [] h cells slots := ev_exit ⟨hc.1, hc.2, Or.inl ⟨rfl, d_Mo_assign_94, rfl, hP⟩⟩
abbrev M_Mo_simple : MW := (⟨"UseOnceMachineModel", "simple", "(III)I"⟩, prog_10_method_20_code, 4, (some .int))
theorem hy_Mo_simple : M_Mo_simple.1.cls ≠ "java/lang/invoke/MethodHandle" ∧ M_Mo_simple.1.cls ≠ "java/lang/invoke/VarHandle" ∧ (parseMethodDescriptor M_Mo_simple.1.desc).map (fun d => d.parameters.length) = some 3 := by decide +kernel
theorem d_Mo_simple_0 : decode prog_10_method_20_code 0 = .ok (.iload_n 1, 1) := by decide +kernel
theorem s_Mo_simple_0 {x : Int32} (hl : lg lv 1 = some (.int x)) (k : ev G M_Mo_simple R E 1 lv (.int x :: rest) h cells slots) : ev G M_Mo_simple R E 0 lv rest h cells slots := ev_iload_n d_Mo_simple_0 rfl hl k
theorem d_Mo_simple_1 : decode prog_10_method_20_code 1 = .ok (.iconst 1, 1) := by decide +kernel
theorem s_Mo_simple_1  (k : ev G M_Mo_simple R E 2 lv (.int 1 :: rest) h cells slots) : ev G M_Mo_simple R E 1 lv rest h cells slots := ev_iconst d_Mo_simple_1 (by decide) k
theorem d_Mo_simple_2 : decode prog_10_method_20_code 2 = .ok (.if_icmp .le 21, 3) := by decide +kernel
theorem s_Mo_simple_2 {x y : Int32} (kt : x ≤ y → ev G M_Mo_simple R E 23 lv rest h cells slots) (kf : ¬ x ≤ y → ev G M_Mo_simple R E 5 lv rest h cells slots) : ev G M_Mo_simple R E 2 lv (.int y :: .int x :: rest) h cells slots := ev_icmp_le d_Mo_simple_2 (by decide) kt kf
theorem d_Mo_simple_5 : decode prog_10_method_20_code 5 = .ok (.aload_n 0, 1) := by decide +kernel
theorem s_Mo_simple_5 {x : Nat} (hl : lg lv 0 = some (.ref x)) (k : ev G M_Mo_simple R E 6 lv (.ref x :: rest) h cells slots) : ev G M_Mo_simple R E 5 lv rest h cells slots := ev_aload_n d_Mo_simple_5 rfl hl k
theorem d_Mo_simple_6 : decode prog_10_method_20_code 6 = .ok (.iload_n 2, 1) := by decide +kernel
theorem s_Mo_simple_6 {x : Int32} (hl : lg lv 2 = some (.int x)) (k : ev G M_Mo_simple R E 7 lv (.int x :: rest) h cells slots) : ev G M_Mo_simple R E 6 lv rest h cells slots := ev_iload_n d_Mo_simple_6 rfl hl k
theorem d_Mo_simple_7 : decode prog_10_method_20_code 7 = .ok (.invokevirtual 130, 3) := by decide +kernel
theorem s_Mo_simple_7 {mc ms : Nat} {P : Option Value → HP → Prop} {a0 : Int32} {b : Nat} {fs : List Value} {v0 : Value} (hm : mt G M_Mo_isNumber 1 mc ms (.ref b :: [.int a0]) h P) (hb : h b = mO 7 fs) (hv0 : fs[0]? = some v0) (hR : 1 + 1 ≤ R.frames ∧ 8 + (2 + 11) + 39 * 1 ≤ R.locals) (hcs : cells + mc ≤ R.cells ∧ slots + ms ≤ R.slots) (hrest : (rest.map fun v => v.category).sum ≤ 8) (k : ∀ (r : Option Value) (h' : HP), P r h' → ev G M_Mo_simple R E 10 lv (r.toList ++ rest) h' (cells + mc) (slots + ms)) : ev G M_Mo_simple R E 7 lv (.int a0 :: .ref b :: rest) h cells slots := ev_callV (as := [.int a0]) (ci := 7) d_Mo_simple_7 hm hb hv0 rfl w_800 w_802 w_38 w_70 w_803 hy_Mo_isNumber hR hcs hrest k
theorem d_Mo_simple_10 : decode prog_10_method_20_code 10 = .ok (.ifCond .eq 11, 3) := by decide +kernel
theorem s_Mo_simple_10 {x : Int32} (kt : x = 0 → ev G M_Mo_simple R E 21 lv rest h cells slots) (kf : ¬ x = 0 → ev G M_Mo_simple R E 13 lv rest h cells slots) : ev G M_Mo_simple R E 10 lv (.int x :: rest) h cells slots := ev_if_eq d_Mo_simple_10 (by decide) kt kf
theorem d_Mo_simple_13 : decode prog_10_method_20_code 13 = .ok (.aload_n 0, 1) := by decide +kernel
theorem s_Mo_simple_13 {x : Nat} (hl : lg lv 0 = some (.ref x)) (k : ev G M_Mo_simple R E 14 lv (.ref x :: rest) h cells slots) : ev G M_Mo_simple R E 13 lv rest h cells slots := ev_aload_n d_Mo_simple_13 rfl hl k
theorem d_Mo_simple_14 : decode prog_10_method_20_code 14 = .ok (.iload_n 3, 1) := by decide +kernel
theorem s_Mo_simple_14 {x : Int32} (hl : lg lv 3 = some (.int x)) (k : ev G M_Mo_simple R E 15 lv (.int x :: rest) h cells slots) : ev G M_Mo_simple R E 14 lv rest h cells slots := ev_iload_n d_Mo_simple_14 rfl hl k
theorem d_Mo_simple_15 : decode prog_10_method_20_code 15 = .ok (.invokevirtual 130, 3) := by decide +kernel
theorem s_Mo_simple_15 {mc ms : Nat} {P : Option Value → HP → Prop} {a0 : Int32} {b : Nat} {fs : List Value} {v0 : Value} (hm : mt G M_Mo_isNumber 1 mc ms (.ref b :: [.int a0]) h P) (hb : h b = mO 7 fs) (hv0 : fs[0]? = some v0) (hR : 1 + 1 ≤ R.frames ∧ 8 + (2 + 11) + 39 * 1 ≤ R.locals) (hcs : cells + mc ≤ R.cells ∧ slots + ms ≤ R.slots) (hrest : (rest.map fun v => v.category).sum ≤ 8) (k : ∀ (r : Option Value) (h' : HP), P r h' → ev G M_Mo_simple R E 18 lv (r.toList ++ rest) h' (cells + mc) (slots + ms)) : ev G M_Mo_simple R E 15 lv (.int a0 :: .ref b :: rest) h cells slots := ev_callV (as := [.int a0]) (ci := 7) d_Mo_simple_15 hm hb hv0 rfl w_800 w_802 w_38 w_70 w_803 hy_Mo_isNumber hR hcs hrest k
theorem d_Mo_simple_18 : decode prog_10_method_20_code 18 = .ok (.ifCond .ne 5, 3) := by decide +kernel
theorem s_Mo_simple_18 {x : Int32} (kt : ¬ x = 0 → ev G M_Mo_simple R E 23 lv rest h cells slots) (kf : x = 0 → ev G M_Mo_simple R E 21 lv rest h cells slots) : ev G M_Mo_simple R E 18 lv (.int x :: rest) h cells slots := ev_if_ne d_Mo_simple_18 (by decide) kt kf
theorem d_Mo_simple_21 : decode prog_10_method_20_code 21 = .ok (.iconst 1, 1) := by decide +kernel
theorem s_Mo_simple_21  (k : ev G M_Mo_simple R E 22 lv (.int 1 :: rest) h cells slots) : ev G M_Mo_simple R E 21 lv rest h cells slots := ev_iconst d_Mo_simple_21 (by decide) k
theorem d_Mo_simple_22 : decode prog_10_method_20_code 22 = .ok (.ireturn, 1) := by decide +kernel
theorem s_Mo_simple_22 {P : Option Value → HP → Prop} {mc ms : Nat} {v : Int32} (hP : P (some (.int v)) h) (hc : cells ≤ mc ∧ slots ≤ ms) : ev G M_Mo_simple R (Er M_Mo_simple P mc ms) 22 lv [.int v] h cells slots := ev_exit ⟨hc.1, hc.2, Or.inr (Or.inl ⟨v, .int, rfl, rfl, d_Mo_simple_22, rfl, hP⟩)⟩
theorem d_Mo_simple_23 : decode prog_10_method_20_code 23 = .ok (.aload_n 0, 1) := by decide +kernel
theorem s_Mo_simple_23 {x : Nat} (hl : lg lv 0 = some (.ref x)) (k : ev G M_Mo_simple R E 24 lv (.ref x :: rest) h cells slots) : ev G M_Mo_simple R E 23 lv rest h cells slots := ev_aload_n d_Mo_simple_23 rfl hl k
theorem d_Mo_simple_24 : decode prog_10_method_20_code 24 = .ok (.iload_n 2, 1) := by decide +kernel
theorem s_Mo_simple_24 {x : Int32} (hl : lg lv 2 = some (.int x)) (k : ev G M_Mo_simple R E 25 lv (.int x :: rest) h cells slots) : ev G M_Mo_simple R E 24 lv rest h cells slots := ev_iload_n d_Mo_simple_24 rfl hl k
theorem d_Mo_simple_25 : decode prog_10_method_20_code 25 = .ok (.invokevirtual 130, 3) := by decide +kernel
theorem s_Mo_simple_25 {mc ms : Nat} {P : Option Value → HP → Prop} {a0 : Int32} {b : Nat} {fs : List Value} {v0 : Value} (hm : mt G M_Mo_isNumber 1 mc ms (.ref b :: [.int a0]) h P) (hb : h b = mO 7 fs) (hv0 : fs[0]? = some v0) (hR : 1 + 1 ≤ R.frames ∧ 8 + (2 + 11) + 39 * 1 ≤ R.locals) (hcs : cells + mc ≤ R.cells ∧ slots + ms ≤ R.slots) (hrest : (rest.map fun v => v.category).sum ≤ 8) (k : ∀ (r : Option Value) (h' : HP), P r h' → ev G M_Mo_simple R E 28 lv (r.toList ++ rest) h' (cells + mc) (slots + ms)) : ev G M_Mo_simple R E 25 lv (.int a0 :: .ref b :: rest) h cells slots := ev_callV (as := [.int a0]) (ci := 7) d_Mo_simple_25 hm hb hv0 rfl w_800 w_802 w_38 w_70 w_803 hy_Mo_isNumber hR hcs hrest k
theorem d_Mo_simple_28 : decode prog_10_method_20_code 28 = .ok (.ifCond .ne 5, 3) := by decide +kernel
theorem s_Mo_simple_28 {x : Int32} (kt : ¬ x = 0 → ev G M_Mo_simple R E 33 lv rest h cells slots) (kf : x = 0 → ev G M_Mo_simple R E 31 lv rest h cells slots) : ev G M_Mo_simple R E 28 lv (.int x :: rest) h cells slots := ev_if_ne d_Mo_simple_28 (by decide) kt kf
theorem d_Mo_simple_31 : decode prog_10_method_20_code 31 = .ok (.iconst 3, 1) := by decide +kernel
theorem s_Mo_simple_31  (k : ev G M_Mo_simple R E 32 lv (.int 3 :: rest) h cells slots) : ev G M_Mo_simple R E 31 lv rest h cells slots := ev_iconst d_Mo_simple_31 (by decide) k
theorem d_Mo_simple_32 : decode prog_10_method_20_code 32 = .ok (.ireturn, 1) := by decide +kernel
theorem s_Mo_simple_32 {P : Option Value → HP → Prop} {mc ms : Nat} {v : Int32} (hP : P (some (.int v)) h) (hc : cells ≤ mc ∧ slots ≤ ms) : ev G M_Mo_simple R (Er M_Mo_simple P mc ms) 32 lv [.int v] h cells slots := ev_exit ⟨hc.1, hc.2, Or.inr (Or.inl ⟨v, .int, rfl, rfl, d_Mo_simple_32, rfl, hP⟩)⟩
theorem d_Mo_simple_33 : decode prog_10_method_20_code 33 = .ok (.iload_n 1, 1) := by decide +kernel
theorem s_Mo_simple_33 {x : Int32} (hl : lg lv 1 = some (.int x)) (k : ev G M_Mo_simple R E 34 lv (.int x :: rest) h cells slots) : ev G M_Mo_simple R E 33 lv rest h cells slots := ev_iload_n d_Mo_simple_33 rfl hl k
theorem d_Mo_simple_34 : decode prog_10_method_20_code 34 = .ok (.ifCond .ne 13, 3) := by decide +kernel
theorem s_Mo_simple_34 {x : Int32} (kt : ¬ x = 0 → ev G M_Mo_simple R E 47 lv rest h cells slots) (kf : x = 0 → ev G M_Mo_simple R E 37 lv rest h cells slots) : ev G M_Mo_simple R E 34 lv (.int x :: rest) h cells slots := ev_if_ne d_Mo_simple_34 (by decide) kt kf
theorem d_Mo_simple_37 : decode prog_10_method_20_code 37 = .ok (.aload_n 0, 1) := by decide +kernel
theorem s_Mo_simple_37 {x : Nat} (hl : lg lv 0 = some (.ref x)) (k : ev G M_Mo_simple R E 38 lv (.ref x :: rest) h cells slots) : ev G M_Mo_simple R E 37 lv rest h cells slots := ev_aload_n d_Mo_simple_37 rfl hl k
theorem d_Mo_simple_38 : decode prog_10_method_20_code 38 = .ok (.iload_n 2, 1) := by decide +kernel
theorem s_Mo_simple_38 {x : Int32} (hl : lg lv 2 = some (.int x)) (k : ev G M_Mo_simple R E 39 lv (.int x :: rest) h cells slots) : ev G M_Mo_simple R E 38 lv rest h cells slots := ev_iload_n d_Mo_simple_38 rfl hl k
theorem d_Mo_simple_39 : decode prog_10_method_20_code 39 = .ok (.iconst 0, 1) := by decide +kernel
theorem s_Mo_simple_39  (k : ev G M_Mo_simple R E 40 lv (.int 0 :: rest) h cells slots) : ev G M_Mo_simple R E 39 lv rest h cells slots := ev_iconst d_Mo_simple_39 (by decide) k
theorem d_Mo_simple_40 : decode prog_10_method_20_code 40 = .ok (.iload_n 3, 1) := by decide +kernel
theorem s_Mo_simple_40 {x : Int32} (hl : lg lv 3 = some (.int x)) (k : ev G M_Mo_simple R E 41 lv (.int x :: rest) h cells slots) : ev G M_Mo_simple R E 40 lv rest h cells slots := ev_iload_n d_Mo_simple_40 rfl hl k
theorem d_Mo_simple_41 : decode prog_10_method_20_code 41 = .ok (.iconst 0, 1) := by decide +kernel
theorem s_Mo_simple_41  (k : ev G M_Mo_simple R E 42 lv (.int 0 :: rest) h cells slots) : ev G M_Mo_simple R E 41 lv rest h cells slots := ev_iconst d_Mo_simple_41 (by decide) k
theorem d_Mo_simple_42 : decode prog_10_method_20_code 42 = .ok (.iconst 0, 1) := by decide +kernel
theorem s_Mo_simple_42  (k : ev G M_Mo_simple R E 43 lv (.int 0 :: rest) h cells slots) : ev G M_Mo_simple R E 42 lv rest h cells slots := ev_iconst d_Mo_simple_42 (by decide) k
theorem d_Mo_simple_43 : decode prog_10_method_20_code 43 = .ok (.iconst 0, 1) := by decide +kernel
theorem s_Mo_simple_43  (k : ev G M_Mo_simple R E 44 lv (.int 0 :: rest) h cells slots) : ev G M_Mo_simple R E 43 lv rest h cells slots := ev_iconst d_Mo_simple_43 (by decide) k
theorem d_Mo_simple_44 : decode prog_10_method_20_code 44 = .ok (.invokevirtual 58, 3) := by decide +kernel
theorem s_Mo_simple_44 {mc ms : Nat} {P : Option Value → HP → Prop} {a0 : Int32} {a1 : Int32} {a2 : Int32} {a3 : Int32} {a4 : Int32} {a5 : Int32} {b : Nat} {fs : List Value} {v0 : Value} (hm : mt G M_Mo_put 0 mc ms (.ref b :: [.int a0, .int a1, .int a2, .int a3, .int a4, .int a5]) h P) (hb : h b = mO 7 fs) (hv0 : fs[0]? = some v0) (hR : 0 + 1 ≤ R.frames ∧ 8 + (7 + 11) + 39 * 0 ≤ R.locals) (hcs : cells + mc ≤ R.cells ∧ slots + ms ≤ R.slots) (hrest : (rest.map fun v => v.category).sum ≤ 8) (k : ∀ (r : Option Value) (h' : HP), P r h' → ev G M_Mo_simple R E 47 lv (r.toList ++ rest) h' (cells + mc) (slots + ms)) : ev G M_Mo_simple R E 44 lv (.int a5 :: .int a4 :: .int a3 :: .int a2 :: .int a1 :: .int a0 :: .ref b :: rest) h cells slots := ev_callV (as := [.int a0, .int a1, .int a2, .int a3, .int a4, .int a5]) (ci := 7) d_Mo_simple_44 hm hb hv0 rfl w_784 w_786 w_35 w_70 w_787 hy_Mo_put hR hcs hrest k
theorem d_Mo_simple_47 : decode prog_10_method_20_code 47 = .ok (.iload_n 1, 1) := by decide +kernel
theorem s_Mo_simple_47 {x : Int32} (hl : lg lv 1 = some (.int x)) (k : ev G M_Mo_simple R E 48 lv (.int x :: rest) h cells slots) : ev G M_Mo_simple R E 47 lv rest h cells slots := ev_iload_n d_Mo_simple_47 rfl hl k
theorem d_Mo_simple_48 : decode prog_10_method_20_code 48 = .ok (.iconst 1, 1) := by decide +kernel
theorem s_Mo_simple_48  (k : ev G M_Mo_simple R E 49 lv (.int 1 :: rest) h cells slots) : ev G M_Mo_simple R E 48 lv rest h cells slots := ev_iconst d_Mo_simple_48 (by decide) k
theorem d_Mo_simple_49 : decode prog_10_method_20_code 49 = .ok (.if_icmp .ne 14, 3) := by decide +kernel
theorem s_Mo_simple_49 {x y : Int32} (kt : ¬ x = y → ev G M_Mo_simple R E 63 lv rest h cells slots) (kf : x = y → ev G M_Mo_simple R E 52 lv rest h cells slots) : ev G M_Mo_simple R E 49 lv (.int y :: .int x :: rest) h cells slots := ev_icmp_ne d_Mo_simple_49 (by decide) kt kf
theorem d_Mo_simple_52 : decode prog_10_method_20_code 52 = .ok (.iload_n 2, 1) := by decide +kernel
theorem s_Mo_simple_52 {x : Int32} (hl : lg lv 2 = some (.int x)) (k : ev G M_Mo_simple R E 53 lv (.int x :: rest) h cells slots) : ev G M_Mo_simple R E 52 lv rest h cells slots := ev_iload_n d_Mo_simple_52 rfl hl k
theorem d_Mo_simple_53 : decode prog_10_method_20_code 53 = .ok (.iload_n 3, 1) := by decide +kernel
theorem s_Mo_simple_53 {x : Int32} (hl : lg lv 3 = some (.int x)) (k : ev G M_Mo_simple R E 54 lv (.int x :: rest) h cells slots) : ev G M_Mo_simple R E 53 lv rest h cells slots := ev_iload_n d_Mo_simple_53 rfl hl k
theorem d_Mo_simple_54 : decode prog_10_method_20_code 54 = .ok (.if_icmp .eq 9, 3) := by decide +kernel
theorem s_Mo_simple_54 {x y : Int32} (kt : x = y → ev G M_Mo_simple R E 63 lv rest h cells slots) (kf : ¬ x = y → ev G M_Mo_simple R E 57 lv rest h cells slots) : ev G M_Mo_simple R E 54 lv (.int y :: .int x :: rest) h cells slots := ev_icmp_eq d_Mo_simple_54 (by decide) kt kf
theorem d_Mo_simple_57 : decode prog_10_method_20_code 57 = .ok (.aload_n 0, 1) := by decide +kernel
theorem s_Mo_simple_57 {x : Nat} (hl : lg lv 0 = some (.ref x)) (k : ev G M_Mo_simple R E 58 lv (.ref x :: rest) h cells slots) : ev G M_Mo_simple R E 57 lv rest h cells slots := ev_aload_n d_Mo_simple_57 rfl hl k
theorem d_Mo_simple_58 : decode prog_10_method_20_code 58 = .ok (.iload_n 2, 1) := by decide +kernel
theorem s_Mo_simple_58 {x : Int32} (hl : lg lv 2 = some (.int x)) (k : ev G M_Mo_simple R E 59 lv (.int x :: rest) h cells slots) : ev G M_Mo_simple R E 58 lv rest h cells slots := ev_iload_n d_Mo_simple_58 rfl hl k
theorem d_Mo_simple_59 : decode prog_10_method_20_code 59 = .ok (.iload_n 3, 1) := by decide +kernel
theorem s_Mo_simple_59 {x : Int32} (hl : lg lv 3 = some (.int x)) (k : ev G M_Mo_simple R E 60 lv (.int x :: rest) h cells slots) : ev G M_Mo_simple R E 59 lv rest h cells slots := ev_iload_n d_Mo_simple_59 rfl hl k
theorem d_Mo_simple_60 : decode prog_10_method_20_code 60 = .ok (.invokevirtual 134, 3) := by decide +kernel
theorem s_Mo_simple_60 {mc ms : Nat} {P : Option Value → HP → Prop} {a0 : Int32} {a1 : Int32} {b : Nat} {fs : List Value} {v0 : Value} (hm : mt G M_Mo_assign 3 mc ms (.ref b :: [.int a0, .int a1]) h P) (hb : h b = mO 7 fs) (hv0 : fs[0]? = some v0) (hR : 3 + 1 ≤ R.frames ∧ 8 + (3 + 11) + 39 * 3 ≤ R.locals) (hcs : cells + mc ≤ R.cells ∧ slots + ms ≤ R.slots) (hrest : (rest.map fun v => v.category).sum ≤ 8) (k : ∀ (r : Option Value) (h' : HP), P r h' → ev G M_Mo_simple R E 63 lv (r.toList ++ rest) h' (cells + mc) (slots + ms)) : ev G M_Mo_simple R E 60 lv (.int a1 :: .int a0 :: .ref b :: rest) h cells slots := ev_callV (as := [.int a0, .int a1]) (ci := 7) d_Mo_simple_60 hm hb hv0 rfl w_808 w_810 w_40 w_70 w_811 hy_Mo_assign hR hcs hrest k
theorem d_Mo_simple_63 : decode prog_10_method_20_code 63 = .ok (.iload_n 1, 1) := by decide +kernel
theorem s_Mo_simple_63 {x : Int32} (hl : lg lv 1 = some (.int x)) (k : ev G M_Mo_simple R E 64 lv (.int x :: rest) h cells slots) : ev G M_Mo_simple R E 63 lv rest h cells slots := ev_iload_n d_Mo_simple_63 rfl hl k
theorem d_Mo_simple_64 : decode prog_10_method_20_code 64 = .ok (.iconst 1, 1) := by decide +kernel
theorem s_Mo_simple_64  (k : ev G M_Mo_simple R E 65 lv (.int 1 :: rest) h cells slots) : ev G M_Mo_simple R E 64 lv rest h cells slots := ev_iconst d_Mo_simple_64 (by decide) k
theorem d_Mo_simple_65 : decode prog_10_method_20_code 65 = .ok (.if_icmp .le 46, 3) := by decide +kernel
theorem s_Mo_simple_65 {x y : Int32} (kt : x ≤ y → ev G M_Mo_simple R E 111 lv rest h cells slots) (kf : ¬ x ≤ y → ev G M_Mo_simple R E 68 lv rest h cells slots) : ev G M_Mo_simple R E 65 lv (.int y :: .int x :: rest) h cells slots := ev_icmp_le d_Mo_simple_65 (by decide) kt kf
theorem d_Mo_simple_68 : decode prog_10_method_20_code 68 = .ok (.aload_n 0, 1) := by decide +kernel
theorem s_Mo_simple_68 {x : Nat} (hl : lg lv 0 = some (.ref x)) (k : ev G M_Mo_simple R E 69 lv (.ref x :: rest) h cells slots) : ev G M_Mo_simple R E 68 lv rest h cells slots := ev_aload_n d_Mo_simple_68 rfl hl k
theorem d_Mo_simple_69 : decode prog_10_method_20_code 69 = .ok (.iload_n 2, 1) := by decide +kernel
theorem s_Mo_simple_69 {x : Int32} (hl : lg lv 2 = some (.int x)) (k : ev G M_Mo_simple R E 70 lv (.int x :: rest) h cells slots) : ev G M_Mo_simple R E 69 lv rest h cells slots := ev_iload_n d_Mo_simple_69 rfl hl k
theorem d_Mo_simple_70 : decode prog_10_method_20_code 70 = .ok (.iconst 0, 1) := by decide +kernel
theorem s_Mo_simple_70  (k : ev G M_Mo_simple R E 71 lv (.int 0 :: rest) h cells slots) : ev G M_Mo_simple R E 70 lv rest h cells slots := ev_iconst d_Mo_simple_70 (by decide) k
theorem d_Mo_simple_71 : decode prog_10_method_20_code 71 = .ok (.iload_n 1, 1) := by decide +kernel
theorem s_Mo_simple_71 {x : Int32} (hl : lg lv 1 = some (.int x)) (k : ev G M_Mo_simple R E 72 lv (.int x :: rest) h cells slots) : ev G M_Mo_simple R E 71 lv rest h cells slots := ev_iload_n d_Mo_simple_71 rfl hl k
theorem d_Mo_simple_72 : decode prog_10_method_20_code 72 = .ok (.iconst 2, 1) := by decide +kernel
theorem s_Mo_simple_72  (k : ev G M_Mo_simple R E 73 lv (.int 2 :: rest) h cells slots) : ev G M_Mo_simple R E 72 lv rest h cells slots := ev_iconst d_Mo_simple_72 (by decide) k
theorem d_Mo_simple_73 : decode prog_10_method_20_code 73 = .ok (.if_icmp .ne 19, 3) := by decide +kernel
theorem s_Mo_simple_73 {x y : Int32} (kt : ¬ x = y → ev G M_Mo_simple R E 92 lv rest h cells slots) (kf : x = y → ev G M_Mo_simple R E 76 lv rest h cells slots) : ev G M_Mo_simple R E 73 lv (.int y :: .int x :: rest) h cells slots := ev_icmp_ne d_Mo_simple_73 (by decide) kt kf
theorem d_Mo_simple_76 : decode prog_10_method_20_code 76 = .ok (.aload_n 0, 1) := by decide +kernel
theorem s_Mo_simple_76 {x : Nat} (hl : lg lv 0 = some (.ref x)) (k : ev G M_Mo_simple R E 77 lv (.ref x :: rest) h cells slots) : ev G M_Mo_simple R E 76 lv rest h cells slots := ev_aload_n d_Mo_simple_76 rfl hl k
theorem d_Mo_simple_77 : decode prog_10_method_20_code 77 = .ok (.iload_n 2, 1) := by decide +kernel
theorem s_Mo_simple_77 {x : Int32} (hl : lg lv 2 = some (.int x)) (k : ev G M_Mo_simple R E 78 lv (.int x :: rest) h cells slots) : ev G M_Mo_simple R E 77 lv rest h cells slots := ev_iload_n d_Mo_simple_77 rfl hl k
theorem d_Mo_simple_78 : decode prog_10_method_20_code 78 = .ok (.iconst 1, 1) := by decide +kernel
theorem s_Mo_simple_78  (k : ev G M_Mo_simple R E 79 lv (.int 1 :: rest) h cells slots) : ev G M_Mo_simple R E 78 lv rest h cells slots := ev_iconst d_Mo_simple_78 (by decide) k
theorem d_Mo_simple_79 : decode prog_10_method_20_code 79 = .ok (.invokevirtual 66, 3) := by decide +kernel
theorem s_Mo_simple_79 {mc ms : Nat} {P : Option Value → HP → Prop} {a0 : Int32} {a1 : Int32} {b : Nat} {fs : List Value} {v0 : Value} (hm : mt G M_Mo_get 0 mc ms (.ref b :: [.int a0, .int a1]) h P) (hb : h b = mO 7 fs) (hv0 : fs[0]? = some v0) (hR : 0 + 1 ≤ R.frames ∧ 8 + (3 + 11) + 39 * 0 ≤ R.locals) (hcs : cells + mc ≤ R.cells ∧ slots + ms ≤ R.slots) (hrest : (rest.map fun v => v.category).sum ≤ 8) (k : ∀ (r : Option Value) (h' : HP), P r h' → ev G M_Mo_simple R E 82 lv (r.toList ++ rest) h' (cells + mc) (slots + ms)) : ev G M_Mo_simple R E 79 lv (.int a1 :: .int a0 :: .ref b :: rest) h cells slots := ev_callV (as := [.int a0, .int a1]) (ci := 7) d_Mo_simple_79 hm hb hv0 rfl w_816 w_818 w_42 w_70 w_819 hy_Mo_get hR hcs hrest k
theorem d_Mo_simple_82 : decode prog_10_method_20_code 82 = .ok (.aload_n 0, 1) := by decide +kernel
theorem s_Mo_simple_82 {x : Nat} (hl : lg lv 0 = some (.ref x)) (k : ev G M_Mo_simple R E 83 lv (.ref x :: rest) h cells slots) : ev G M_Mo_simple R E 82 lv rest h cells slots := ev_aload_n d_Mo_simple_82 rfl hl k
theorem d_Mo_simple_83 : decode prog_10_method_20_code 83 = .ok (.iload_n 3, 1) := by decide +kernel
theorem s_Mo_simple_83 {x : Int32} (hl : lg lv 3 = some (.int x)) (k : ev G M_Mo_simple R E 84 lv (.int x :: rest) h cells slots) : ev G M_Mo_simple R E 83 lv rest h cells slots := ev_iload_n d_Mo_simple_83 rfl hl k
theorem d_Mo_simple_84 : decode prog_10_method_20_code 84 = .ok (.iconst 1, 1) := by decide +kernel
theorem s_Mo_simple_84  (k : ev G M_Mo_simple R E 85 lv (.int 1 :: rest) h cells slots) : ev G M_Mo_simple R E 84 lv rest h cells slots := ev_iconst d_Mo_simple_84 (by decide) k
theorem d_Mo_simple_85 : decode prog_10_method_20_code 85 = .ok (.invokevirtual 66, 3) := by decide +kernel
theorem s_Mo_simple_85 {mc ms : Nat} {P : Option Value → HP → Prop} {a0 : Int32} {a1 : Int32} {b : Nat} {fs : List Value} {v0 : Value} (hm : mt G M_Mo_get 0 mc ms (.ref b :: [.int a0, .int a1]) h P) (hb : h b = mO 7 fs) (hv0 : fs[0]? = some v0) (hR : 0 + 1 ≤ R.frames ∧ 8 + (3 + 11) + 39 * 0 ≤ R.locals) (hcs : cells + mc ≤ R.cells ∧ slots + ms ≤ R.slots) (hrest : (rest.map fun v => v.category).sum ≤ 8) (k : ∀ (r : Option Value) (h' : HP), P r h' → ev G M_Mo_simple R E 88 lv (r.toList ++ rest) h' (cells + mc) (slots + ms)) : ev G M_Mo_simple R E 85 lv (.int a1 :: .int a0 :: .ref b :: rest) h cells slots := ev_callV (as := [.int a0, .int a1]) (ci := 7) d_Mo_simple_85 hm hb hv0 rfl w_816 w_818 w_42 w_70 w_819 hy_Mo_get hR hcs hrest k
theorem d_Mo_simple_88 : decode prog_10_method_20_code 88 = .ok (.iadd, 1) := by decide +kernel
theorem s_Mo_simple_88 {x y : Int32} (k : ev G M_Mo_simple R E 89 lv (.int (x + y) :: rest) h cells slots) : ev G M_Mo_simple R E 88 lv (.int y :: .int x :: rest) h cells slots := ev_iadd d_Mo_simple_88 k
theorem d_Mo_simple_89 : decode prog_10_method_20_code 89 = .ok (.goto 16, 3) := by decide +kernel
theorem s_Mo_simple_89  (k : ev G M_Mo_simple R E 105 lv rest h cells slots) : ev G M_Mo_simple R E 89 lv rest h cells slots := ev_goto d_Mo_simple_89 (by decide) k
theorem d_Mo_simple_92 : decode prog_10_method_20_code 92 = .ok (.aload_n 0, 1) := by decide +kernel
theorem s_Mo_simple_92 {x : Nat} (hl : lg lv 0 = some (.ref x)) (k : ev G M_Mo_simple R E 93 lv (.ref x :: rest) h cells slots) : ev G M_Mo_simple R E 92 lv rest h cells slots := ev_aload_n d_Mo_simple_92 rfl hl k
theorem d_Mo_simple_93 : decode prog_10_method_20_code 93 = .ok (.iload_n 2, 1) := by decide +kernel
theorem s_Mo_simple_93 {x : Int32} (hl : lg lv 2 = some (.int x)) (k : ev G M_Mo_simple R E 94 lv (.int x :: rest) h cells slots) : ev G M_Mo_simple R E 93 lv rest h cells slots := ev_iload_n d_Mo_simple_93 rfl hl k
theorem d_Mo_simple_94 : decode prog_10_method_20_code 94 = .ok (.iconst 1, 1) := by decide +kernel
theorem s_Mo_simple_94  (k : ev G M_Mo_simple R E 95 lv (.int 1 :: rest) h cells slots) : ev G M_Mo_simple R E 94 lv rest h cells slots := ev_iconst d_Mo_simple_94 (by decide) k
theorem d_Mo_simple_95 : decode prog_10_method_20_code 95 = .ok (.invokevirtual 66, 3) := by decide +kernel
theorem s_Mo_simple_95 {mc ms : Nat} {P : Option Value → HP → Prop} {a0 : Int32} {a1 : Int32} {b : Nat} {fs : List Value} {v0 : Value} (hm : mt G M_Mo_get 0 mc ms (.ref b :: [.int a0, .int a1]) h P) (hb : h b = mO 7 fs) (hv0 : fs[0]? = some v0) (hR : 0 + 1 ≤ R.frames ∧ 8 + (3 + 11) + 39 * 0 ≤ R.locals) (hcs : cells + mc ≤ R.cells ∧ slots + ms ≤ R.slots) (hrest : (rest.map fun v => v.category).sum ≤ 8) (k : ∀ (r : Option Value) (h' : HP), P r h' → ev G M_Mo_simple R E 98 lv (r.toList ++ rest) h' (cells + mc) (slots + ms)) : ev G M_Mo_simple R E 95 lv (.int a1 :: .int a0 :: .ref b :: rest) h cells slots := ev_callV (as := [.int a0, .int a1]) (ci := 7) d_Mo_simple_95 hm hb hv0 rfl w_816 w_818 w_42 w_70 w_819 hy_Mo_get hR hcs hrest k
theorem d_Mo_simple_98 : decode prog_10_method_20_code 98 = .ok (.aload_n 0, 1) := by decide +kernel
theorem s_Mo_simple_98 {x : Nat} (hl : lg lv 0 = some (.ref x)) (k : ev G M_Mo_simple R E 99 lv (.ref x :: rest) h cells slots) : ev G M_Mo_simple R E 98 lv rest h cells slots := ev_aload_n d_Mo_simple_98 rfl hl k
theorem d_Mo_simple_99 : decode prog_10_method_20_code 99 = .ok (.iload_n 3, 1) := by decide +kernel
theorem s_Mo_simple_99 {x : Int32} (hl : lg lv 3 = some (.int x)) (k : ev G M_Mo_simple R E 100 lv (.int x :: rest) h cells slots) : ev G M_Mo_simple R E 99 lv rest h cells slots := ev_iload_n d_Mo_simple_99 rfl hl k
theorem d_Mo_simple_100 : decode prog_10_method_20_code 100 = .ok (.iconst 1, 1) := by decide +kernel
theorem s_Mo_simple_100  (k : ev G M_Mo_simple R E 101 lv (.int 1 :: rest) h cells slots) : ev G M_Mo_simple R E 100 lv rest h cells slots := ev_iconst d_Mo_simple_100 (by decide) k
theorem d_Mo_simple_101 : decode prog_10_method_20_code 101 = .ok (.invokevirtual 66, 3) := by decide +kernel
theorem s_Mo_simple_101 {mc ms : Nat} {P : Option Value → HP → Prop} {a0 : Int32} {a1 : Int32} {b : Nat} {fs : List Value} {v0 : Value} (hm : mt G M_Mo_get 0 mc ms (.ref b :: [.int a0, .int a1]) h P) (hb : h b = mO 7 fs) (hv0 : fs[0]? = some v0) (hR : 0 + 1 ≤ R.frames ∧ 8 + (3 + 11) + 39 * 0 ≤ R.locals) (hcs : cells + mc ≤ R.cells ∧ slots + ms ≤ R.slots) (hrest : (rest.map fun v => v.category).sum ≤ 8) (k : ∀ (r : Option Value) (h' : HP), P r h' → ev G M_Mo_simple R E 104 lv (r.toList ++ rest) h' (cells + mc) (slots + ms)) : ev G M_Mo_simple R E 101 lv (.int a1 :: .int a0 :: .ref b :: rest) h cells slots := ev_callV (as := [.int a0, .int a1]) (ci := 7) d_Mo_simple_101 hm hb hv0 rfl w_816 w_818 w_42 w_70 w_819 hy_Mo_get hR hcs hrest k
theorem d_Mo_simple_104 : decode prog_10_method_20_code 104 = .ok (.isub, 1) := by decide +kernel
theorem s_Mo_simple_104 {x y : Int32} (k : ev G M_Mo_simple R E 105 lv (.int (x - y) :: rest) h cells slots) : ev G M_Mo_simple R E 104 lv (.int y :: .int x :: rest) h cells slots := ev_isub d_Mo_simple_104 k
theorem d_Mo_simple_105 : decode prog_10_method_20_code 105 = .ok (.iconst 0, 1) := by decide +kernel
theorem s_Mo_simple_105  (k : ev G M_Mo_simple R E 106 lv (.int 0 :: rest) h cells slots) : ev G M_Mo_simple R E 105 lv rest h cells slots := ev_iconst d_Mo_simple_105 (by decide) k
theorem d_Mo_simple_106 : decode prog_10_method_20_code 106 = .ok (.iconst 0, 1) := by decide +kernel
theorem s_Mo_simple_106  (k : ev G M_Mo_simple R E 107 lv (.int 0 :: rest) h cells slots) : ev G M_Mo_simple R E 106 lv rest h cells slots := ev_iconst d_Mo_simple_106 (by decide) k
theorem d_Mo_simple_107 : decode prog_10_method_20_code 107 = .ok (.iconst 0, 1) := by decide +kernel
theorem s_Mo_simple_107  (k : ev G M_Mo_simple R E 108 lv (.int 0 :: rest) h cells slots) : ev G M_Mo_simple R E 107 lv rest h cells slots := ev_iconst d_Mo_simple_107 (by decide) k
theorem d_Mo_simple_108 : decode prog_10_method_20_code 108 = .ok (.invokevirtual 58, 3) := by decide +kernel
theorem s_Mo_simple_108 {mc ms : Nat} {P : Option Value → HP → Prop} {a0 : Int32} {a1 : Int32} {a2 : Int32} {a3 : Int32} {a4 : Int32} {a5 : Int32} {b : Nat} {fs : List Value} {v0 : Value} (hm : mt G M_Mo_put 0 mc ms (.ref b :: [.int a0, .int a1, .int a2, .int a3, .int a4, .int a5]) h P) (hb : h b = mO 7 fs) (hv0 : fs[0]? = some v0) (hR : 0 + 1 ≤ R.frames ∧ 8 + (7 + 11) + 39 * 0 ≤ R.locals) (hcs : cells + mc ≤ R.cells ∧ slots + ms ≤ R.slots) (hrest : (rest.map fun v => v.category).sum ≤ 8) (k : ∀ (r : Option Value) (h' : HP), P r h' → ev G M_Mo_simple R E 111 lv (r.toList ++ rest) h' (cells + mc) (slots + ms)) : ev G M_Mo_simple R E 108 lv (.int a5 :: .int a4 :: .int a3 :: .int a2 :: .int a1 :: .int a0 :: .ref b :: rest) h cells slots := ev_callV (as := [.int a0, .int a1, .int a2, .int a3, .int a4, .int a5]) (ci := 7) d_Mo_simple_108 hm hb hv0 rfl w_784 w_786 w_35 w_70 w_787 hy_Mo_put hR hcs hrest k
theorem d_Mo_simple_111 : decode prog_10_method_20_code 111 = .ok (.iconst 0, 1) := by decide +kernel
theorem s_Mo_simple_111  (k : ev G M_Mo_simple R E 112 lv (.int 0 :: rest) h cells slots) : ev G M_Mo_simple R E 111 lv rest h cells slots := ev_iconst d_Mo_simple_111 (by decide) k
theorem d_Mo_simple_112 : decode prog_10_method_20_code 112 = .ok (.ireturn, 1) := by decide +kernel
theorem s_Mo_simple_112 {P : Option Value → HP → Prop} {mc ms : Nat} {v : Int32} (hP : P (some (.int v)) h) (hc : cells ≤ mc ∧ slots ≤ ms) : ev G M_Mo_simple R (Er M_Mo_simple P mc ms) 112 lv [.int v] h cells slots := ev_exit ⟨hc.1, hc.2, Or.inr (Or.inl ⟨v, .int, rfl, rfl, d_Mo_simple_112, rfl, hP⟩)⟩
abbrev M_Mo_merge : MW := (⟨"UseOnceMachineModel", "merge", "(II)I"⟩, prog_10_method_22_code, 7, (some .int))
theorem hy_Mo_merge : M_Mo_merge.1.cls ≠ "java/lang/invoke/MethodHandle" ∧ M_Mo_merge.1.cls ≠ "java/lang/invoke/VarHandle" ∧ (parseMethodDescriptor M_Mo_merge.1.desc).map (fun d => d.parameters.length) = some 2 := by decide +kernel
theorem d_Mo_merge_0 : decode prog_10_method_22_code 0 = .ok (.aload_n 0, 1) := by decide +kernel
theorem s_Mo_merge_0 {x : Nat} (hl : lg lv 0 = some (.ref x)) (k : ev G M_Mo_merge R E 1 lv (.ref x :: rest) h cells slots) : ev G M_Mo_merge R E 0 lv rest h cells slots := ev_aload_n d_Mo_merge_0 rfl hl k
theorem d_Mo_merge_1 : decode prog_10_method_22_code 1 = .ok (.iload_n 1, 1) := by decide +kernel
theorem s_Mo_merge_1 {x : Int32} (hl : lg lv 1 = some (.int x)) (k : ev G M_Mo_merge R E 2 lv (.int x :: rest) h cells slots) : ev G M_Mo_merge R E 1 lv rest h cells slots := ev_iload_n d_Mo_merge_1 rfl hl k
theorem d_Mo_merge_2 : decode prog_10_method_22_code 2 = .ok (.iconst 3, 1) := by decide +kernel
theorem s_Mo_merge_2  (k : ev G M_Mo_merge R E 3 lv (.int 3 :: rest) h cells slots) : ev G M_Mo_merge R E 2 lv rest h cells slots := ev_iconst d_Mo_merge_2 (by decide) k
theorem d_Mo_merge_3 : decode prog_10_method_22_code 3 = .ok (.invokevirtual 66, 3) := by decide +kernel
theorem s_Mo_merge_3 {mc ms : Nat} {P : Option Value → HP → Prop} {a0 : Int32} {a1 : Int32} {b : Nat} {fs : List Value} {v0 : Value} (hm : mt G M_Mo_get 0 mc ms (.ref b :: [.int a0, .int a1]) h P) (hb : h b = mO 7 fs) (hv0 : fs[0]? = some v0) (hR : 0 + 1 ≤ R.frames ∧ 8 + (3 + 11) + 39 * 0 ≤ R.locals) (hcs : cells + mc ≤ R.cells ∧ slots + ms ≤ R.slots) (hrest : (rest.map fun v => v.category).sum ≤ 8) (k : ∀ (r : Option Value) (h' : HP), P r h' → ev G M_Mo_merge R E 6 lv (r.toList ++ rest) h' (cells + mc) (slots + ms)) : ev G M_Mo_merge R E 3 lv (.int a1 :: .int a0 :: .ref b :: rest) h cells slots := ev_callV (as := [.int a0, .int a1]) (ci := 7) d_Mo_merge_3 hm hb hv0 rfl w_816 w_818 w_42 w_70 w_819 hy_Mo_get hR hcs hrest k
theorem d_Mo_merge_6 : decode prog_10_method_22_code 6 = .ok (.aload_n 0, 1) := by decide +kernel
theorem s_Mo_merge_6 {x : Nat} (hl : lg lv 0 = some (.ref x)) (k : ev G M_Mo_merge R E 7 lv (.ref x :: rest) h cells slots) : ev G M_Mo_merge R E 6 lv rest h cells slots := ev_aload_n d_Mo_merge_6 rfl hl k
theorem d_Mo_merge_7 : decode prog_10_method_22_code 7 = .ok (.iload_n 2, 1) := by decide +kernel
theorem s_Mo_merge_7 {x : Int32} (hl : lg lv 2 = some (.int x)) (k : ev G M_Mo_merge R E 8 lv (.int x :: rest) h cells slots) : ev G M_Mo_merge R E 7 lv rest h cells slots := ev_iload_n d_Mo_merge_7 rfl hl k
theorem d_Mo_merge_8 : decode prog_10_method_22_code 8 = .ok (.iconst 3, 1) := by decide +kernel
theorem s_Mo_merge_8  (k : ev G M_Mo_merge R E 9 lv (.int 3 :: rest) h cells slots) : ev G M_Mo_merge R E 8 lv rest h cells slots := ev_iconst d_Mo_merge_8 (by decide) k
theorem d_Mo_merge_9 : decode prog_10_method_22_code 9 = .ok (.invokevirtual 66, 3) := by decide +kernel
theorem s_Mo_merge_9 {mc ms : Nat} {P : Option Value → HP → Prop} {a0 : Int32} {a1 : Int32} {b : Nat} {fs : List Value} {v0 : Value} (hm : mt G M_Mo_get 0 mc ms (.ref b :: [.int a0, .int a1]) h P) (hb : h b = mO 7 fs) (hv0 : fs[0]? = some v0) (hR : 0 + 1 ≤ R.frames ∧ 8 + (3 + 11) + 39 * 0 ≤ R.locals) (hcs : cells + mc ≤ R.cells ∧ slots + ms ≤ R.slots) (hrest : (rest.map fun v => v.category).sum ≤ 8) (k : ∀ (r : Option Value) (h' : HP), P r h' → ev G M_Mo_merge R E 12 lv (r.toList ++ rest) h' (cells + mc) (slots + ms)) : ev G M_Mo_merge R E 9 lv (.int a1 :: .int a0 :: .ref b :: rest) h cells slots := ev_callV (as := [.int a0, .int a1]) (ci := 7) d_Mo_merge_9 hm hb hv0 rfl w_816 w_818 w_42 w_70 w_819 hy_Mo_get hR hcs hrest k
theorem d_Mo_merge_12 : decode prog_10_method_22_code 12 = .ok (.if_icmp .ne 7, 3) := by decide +kernel
theorem s_Mo_merge_12 {x y : Int32} (kt : ¬ x = y → ev G M_Mo_merge R E 19 lv rest h cells slots) (kf : x = y → ev G M_Mo_merge R E 15 lv rest h cells slots) : ev G M_Mo_merge R E 12 lv (.int y :: .int x :: rest) h cells slots := ev_icmp_ne d_Mo_merge_12 (by decide) kt kf
theorem d_Mo_merge_15 : decode prog_10_method_22_code 15 = .ok (.iconst 1, 1) := by decide +kernel
theorem s_Mo_merge_15  (k : ev G M_Mo_merge R E 16 lv (.int 1 :: rest) h cells slots) : ev G M_Mo_merge R E 15 lv rest h cells slots := ev_iconst d_Mo_merge_15 (by decide) k
theorem d_Mo_merge_16 : decode prog_10_method_22_code 16 = .ok (.goto 4, 3) := by decide +kernel
theorem s_Mo_merge_16  (k : ev G M_Mo_merge R E 20 lv rest h cells slots) : ev G M_Mo_merge R E 16 lv rest h cells slots := ev_goto d_Mo_merge_16 (by decide) k
theorem d_Mo_merge_19 : decode prog_10_method_22_code 19 = .ok (.iconst 0, 1) := by decide +kernel
theorem s_Mo_merge_19  (k : ev G M_Mo_merge R E 20 lv (.int 0 :: rest) h cells slots) : ev G M_Mo_merge R E 19 lv rest h cells slots := ev_iconst d_Mo_merge_19 (by decide) k
theorem d_Mo_merge_20 : decode prog_10_method_22_code 20 = .ok (.istore_n 3, 1) := by decide +kernel
theorem s_Mo_merge_20 {x : Int32} (k : ev G M_Mo_merge R E 21 (ls1 lv 3 (.int x)) rest h cells slots) : ev G M_Mo_merge R E 20 lv (.int x :: rest) h cells slots := ev_istore_n d_Mo_merge_20 rfl (by decide) k
theorem d_Mo_merge_21 : decode prog_10_method_22_code 21 = .ok (.iload_n 3, 1) := by decide +kernel
theorem s_Mo_merge_21 {x : Int32} (hl : lg lv 3 = some (.int x)) (k : ev G M_Mo_merge R E 22 lv (.int x :: rest) h cells slots) : ev G M_Mo_merge R E 21 lv rest h cells slots := ev_iload_n d_Mo_merge_21 rfl hl k
theorem d_Mo_merge_22 : decode prog_10_method_22_code 22 = .ok (.ifCond .eq 22, 3) := by decide +kernel
theorem s_Mo_merge_22 {x : Int32} (kt : x = 0 → ev G M_Mo_merge R E 44 lv rest h cells slots) (kf : ¬ x = 0 → ev G M_Mo_merge R E 25 lv rest h cells slots) : ev G M_Mo_merge R E 22 lv (.int x :: rest) h cells slots := ev_if_eq d_Mo_merge_22 (by decide) kt kf
theorem d_Mo_merge_25 : decode prog_10_method_22_code 25 = .ok (.aload_n 0, 1) := by decide +kernel
theorem s_Mo_merge_25 {x : Nat} (hl : lg lv 0 = some (.ref x)) (k : ev G M_Mo_merge R E 26 lv (.ref x :: rest) h cells slots) : ev G M_Mo_merge R E 25 lv rest h cells slots := ev_aload_n d_Mo_merge_25 rfl hl k
theorem d_Mo_merge_26 : decode prog_10_method_22_code 26 = .ok (.iload_n 2, 1) := by decide +kernel
theorem s_Mo_merge_26 {x : Int32} (hl : lg lv 2 = some (.int x)) (k : ev G M_Mo_merge R E 27 lv (.int x :: rest) h cells slots) : ev G M_Mo_merge R E 26 lv rest h cells slots := ev_iload_n d_Mo_merge_26 rfl hl k
theorem d_Mo_merge_27 : decode prog_10_method_22_code 27 = .ok (.iconst 1, 1) := by decide +kernel
theorem s_Mo_merge_27  (k : ev G M_Mo_merge R E 28 lv (.int 1 :: rest) h cells slots) : ev G M_Mo_merge R E 27 lv rest h cells slots := ev_iconst d_Mo_merge_27 (by decide) k
theorem d_Mo_merge_28 : decode prog_10_method_22_code 28 = .ok (.invokevirtual 66, 3) := by decide +kernel
theorem s_Mo_merge_28 {mc ms : Nat} {P : Option Value → HP → Prop} {a0 : Int32} {a1 : Int32} {b : Nat} {fs : List Value} {v0 : Value} (hm : mt G M_Mo_get 0 mc ms (.ref b :: [.int a0, .int a1]) h P) (hb : h b = mO 7 fs) (hv0 : fs[0]? = some v0) (hR : 0 + 1 ≤ R.frames ∧ 8 + (3 + 11) + 39 * 0 ≤ R.locals) (hcs : cells + mc ≤ R.cells ∧ slots + ms ≤ R.slots) (hrest : (rest.map fun v => v.category).sum ≤ 8) (k : ∀ (r : Option Value) (h' : HP), P r h' → ev G M_Mo_merge R E 31 lv (r.toList ++ rest) h' (cells + mc) (slots + ms)) : ev G M_Mo_merge R E 28 lv (.int a1 :: .int a0 :: .ref b :: rest) h cells slots := ev_callV (as := [.int a0, .int a1]) (ci := 7) d_Mo_merge_28 hm hb hv0 rfl w_816 w_818 w_42 w_70 w_819 hy_Mo_get hR hcs hrest k
theorem d_Mo_merge_31 : decode prog_10_method_22_code 31 = .ok (.aload_n 0, 1) := by decide +kernel
theorem s_Mo_merge_31 {x : Nat} (hl : lg lv 0 = some (.ref x)) (k : ev G M_Mo_merge R E 32 lv (.ref x :: rest) h cells slots) : ev G M_Mo_merge R E 31 lv rest h cells slots := ev_aload_n d_Mo_merge_31 rfl hl k
theorem d_Mo_merge_32 : decode prog_10_method_22_code 32 = .ok (.iload_n 1, 1) := by decide +kernel
theorem s_Mo_merge_32 {x : Int32} (hl : lg lv 1 = some (.int x)) (k : ev G M_Mo_merge R E 33 lv (.int x :: rest) h cells slots) : ev G M_Mo_merge R E 32 lv rest h cells slots := ev_iload_n d_Mo_merge_32 rfl hl k
theorem d_Mo_merge_33 : decode prog_10_method_22_code 33 = .ok (.iconst 2, 1) := by decide +kernel
theorem s_Mo_merge_33  (k : ev G M_Mo_merge R E 34 lv (.int 2 :: rest) h cells slots) : ev G M_Mo_merge R E 33 lv rest h cells slots := ev_iconst d_Mo_merge_33 (by decide) k
theorem d_Mo_merge_34 : decode prog_10_method_22_code 34 = .ok (.invokevirtual 66, 3) := by decide +kernel
theorem s_Mo_merge_34 {mc ms : Nat} {P : Option Value → HP → Prop} {a0 : Int32} {a1 : Int32} {b : Nat} {fs : List Value} {v0 : Value} (hm : mt G M_Mo_get 0 mc ms (.ref b :: [.int a0, .int a1]) h P) (hb : h b = mO 7 fs) (hv0 : fs[0]? = some v0) (hR : 0 + 1 ≤ R.frames ∧ 8 + (3 + 11) + 39 * 0 ≤ R.locals) (hcs : cells + mc ≤ R.cells ∧ slots + ms ≤ R.slots) (hrest : (rest.map fun v => v.category).sum ≤ 8) (k : ∀ (r : Option Value) (h' : HP), P r h' → ev G M_Mo_merge R E 37 lv (r.toList ++ rest) h' (cells + mc) (slots + ms)) : ev G M_Mo_merge R E 34 lv (.int a1 :: .int a0 :: .ref b :: rest) h cells slots := ev_callV (as := [.int a0, .int a1]) (ci := 7) d_Mo_merge_34 hm hb hv0 rfl w_816 w_818 w_42 w_70 w_819 hy_Mo_get hR hcs hrest k
theorem d_Mo_merge_37 : decode prog_10_method_22_code 37 = .ok (.if_icmp .ne 7, 3) := by decide +kernel
theorem s_Mo_merge_37 {x y : Int32} (kt : ¬ x = y → ev G M_Mo_merge R E 44 lv rest h cells slots) (kf : x = y → ev G M_Mo_merge R E 40 lv rest h cells slots) : ev G M_Mo_merge R E 37 lv (.int y :: .int x :: rest) h cells slots := ev_icmp_ne d_Mo_merge_37 (by decide) kt kf
theorem d_Mo_merge_40 : decode prog_10_method_22_code 40 = .ok (.iconst 1, 1) := by decide +kernel
theorem s_Mo_merge_40  (k : ev G M_Mo_merge R E 41 lv (.int 1 :: rest) h cells slots) : ev G M_Mo_merge R E 40 lv rest h cells slots := ev_iconst d_Mo_merge_40 (by decide) k
theorem d_Mo_merge_41 : decode prog_10_method_22_code 41 = .ok (.goto 4, 3) := by decide +kernel
theorem s_Mo_merge_41  (k : ev G M_Mo_merge R E 45 lv rest h cells slots) : ev G M_Mo_merge R E 41 lv rest h cells slots := ev_goto d_Mo_merge_41 (by decide) k
theorem d_Mo_merge_44 : decode prog_10_method_22_code 44 = .ok (.iconst 0, 1) := by decide +kernel
theorem s_Mo_merge_44  (k : ev G M_Mo_merge R E 45 lv (.int 0 :: rest) h cells slots) : ev G M_Mo_merge R E 44 lv rest h cells slots := ev_iconst d_Mo_merge_44 (by decide) k
theorem d_Mo_merge_45 : decode prog_10_method_22_code 45 = .ok (.istore 4, 2) := by decide +kernel
theorem s_Mo_merge_45 {x : Int32} (k : ev G M_Mo_merge R E 47 (ls1 lv 4 (.int x)) rest h cells slots) : ev G M_Mo_merge R E 45 lv (.int x :: rest) h cells slots := ev_istore d_Mo_merge_45 (by decide) k
theorem d_Mo_merge_47 : decode prog_10_method_22_code 47 = .ok (.iload_n 3, 1) := by decide +kernel
theorem s_Mo_merge_47 {x : Int32} (hl : lg lv 3 = some (.int x)) (k : ev G M_Mo_merge R E 48 lv (.int x :: rest) h cells slots) : ev G M_Mo_merge R E 47 lv rest h cells slots := ev_iload_n d_Mo_merge_47 rfl hl k
theorem d_Mo_merge_48 : decode prog_10_method_22_code 48 = .ok (.ifCond .eq 22, 3) := by decide +kernel
theorem s_Mo_merge_48 {x : Int32} (kt : x = 0 → ev G M_Mo_merge R E 70 lv rest h cells slots) (kf : ¬ x = 0 → ev G M_Mo_merge R E 51 lv rest h cells slots) : ev G M_Mo_merge R E 48 lv (.int x :: rest) h cells slots := ev_if_eq d_Mo_merge_48 (by decide) kt kf
theorem d_Mo_merge_51 : decode prog_10_method_22_code 51 = .ok (.aload_n 0, 1) := by decide +kernel
theorem s_Mo_merge_51 {x : Nat} (hl : lg lv 0 = some (.ref x)) (k : ev G M_Mo_merge R E 52 lv (.ref x :: rest) h cells slots) : ev G M_Mo_merge R E 51 lv rest h cells slots := ev_aload_n d_Mo_merge_51 rfl hl k
theorem d_Mo_merge_52 : decode prog_10_method_22_code 52 = .ok (.iload_n 1, 1) := by decide +kernel
theorem s_Mo_merge_52 {x : Int32} (hl : lg lv 1 = some (.int x)) (k : ev G M_Mo_merge R E 53 lv (.int x :: rest) h cells slots) : ev G M_Mo_merge R E 52 lv rest h cells slots := ev_iload_n d_Mo_merge_52 rfl hl k
theorem d_Mo_merge_53 : decode prog_10_method_22_code 53 = .ok (.iconst 1, 1) := by decide +kernel
theorem s_Mo_merge_53  (k : ev G M_Mo_merge R E 54 lv (.int 1 :: rest) h cells slots) : ev G M_Mo_merge R E 53 lv rest h cells slots := ev_iconst d_Mo_merge_53 (by decide) k
theorem d_Mo_merge_54 : decode prog_10_method_22_code 54 = .ok (.invokevirtual 66, 3) := by decide +kernel
theorem s_Mo_merge_54 {mc ms : Nat} {P : Option Value → HP → Prop} {a0 : Int32} {a1 : Int32} {b : Nat} {fs : List Value} {v0 : Value} (hm : mt G M_Mo_get 0 mc ms (.ref b :: [.int a0, .int a1]) h P) (hb : h b = mO 7 fs) (hv0 : fs[0]? = some v0) (hR : 0 + 1 ≤ R.frames ∧ 8 + (3 + 11) + 39 * 0 ≤ R.locals) (hcs : cells + mc ≤ R.cells ∧ slots + ms ≤ R.slots) (hrest : (rest.map fun v => v.category).sum ≤ 8) (k : ∀ (r : Option Value) (h' : HP), P r h' → ev G M_Mo_merge R E 57 lv (r.toList ++ rest) h' (cells + mc) (slots + ms)) : ev G M_Mo_merge R E 54 lv (.int a1 :: .int a0 :: .ref b :: rest) h cells slots := ev_callV (as := [.int a0, .int a1]) (ci := 7) d_Mo_merge_54 hm hb hv0 rfl w_816 w_818 w_42 w_70 w_819 hy_Mo_get hR hcs hrest k
theorem d_Mo_merge_57 : decode prog_10_method_22_code 57 = .ok (.aload_n 0, 1) := by decide +kernel
theorem s_Mo_merge_57 {x : Nat} (hl : lg lv 0 = some (.ref x)) (k : ev G M_Mo_merge R E 58 lv (.ref x :: rest) h cells slots) : ev G M_Mo_merge R E 57 lv rest h cells slots := ev_aload_n d_Mo_merge_57 rfl hl k
theorem d_Mo_merge_58 : decode prog_10_method_22_code 58 = .ok (.iload_n 2, 1) := by decide +kernel
theorem s_Mo_merge_58 {x : Int32} (hl : lg lv 2 = some (.int x)) (k : ev G M_Mo_merge R E 59 lv (.int x :: rest) h cells slots) : ev G M_Mo_merge R E 58 lv rest h cells slots := ev_iload_n d_Mo_merge_58 rfl hl k
theorem d_Mo_merge_59 : decode prog_10_method_22_code 59 = .ok (.iconst 2, 1) := by decide +kernel
theorem s_Mo_merge_59  (k : ev G M_Mo_merge R E 60 lv (.int 2 :: rest) h cells slots) : ev G M_Mo_merge R E 59 lv rest h cells slots := ev_iconst d_Mo_merge_59 (by decide) k
theorem d_Mo_merge_60 : decode prog_10_method_22_code 60 = .ok (.invokevirtual 66, 3) := by decide +kernel
theorem s_Mo_merge_60 {mc ms : Nat} {P : Option Value → HP → Prop} {a0 : Int32} {a1 : Int32} {b : Nat} {fs : List Value} {v0 : Value} (hm : mt G M_Mo_get 0 mc ms (.ref b :: [.int a0, .int a1]) h P) (hb : h b = mO 7 fs) (hv0 : fs[0]? = some v0) (hR : 0 + 1 ≤ R.frames ∧ 8 + (3 + 11) + 39 * 0 ≤ R.locals) (hcs : cells + mc ≤ R.cells ∧ slots + ms ≤ R.slots) (hrest : (rest.map fun v => v.category).sum ≤ 8) (k : ∀ (r : Option Value) (h' : HP), P r h' → ev G M_Mo_merge R E 63 lv (r.toList ++ rest) h' (cells + mc) (slots + ms)) : ev G M_Mo_merge R E 60 lv (.int a1 :: .int a0 :: .ref b :: rest) h cells slots := ev_callV (as := [.int a0, .int a1]) (ci := 7) d_Mo_merge_60 hm hb hv0 rfl w_816 w_818 w_42 w_70 w_819 hy_Mo_get hR hcs hrest k
theorem d_Mo_merge_63 : decode prog_10_method_22_code 63 = .ok (.if_icmp .ne 7, 3) := by decide +kernel
theorem s_Mo_merge_63 {x y : Int32} (kt : ¬ x = y → ev G M_Mo_merge R E 70 lv rest h cells slots) (kf : x = y → ev G M_Mo_merge R E 66 lv rest h cells slots) : ev G M_Mo_merge R E 63 lv (.int y :: .int x :: rest) h cells slots := ev_icmp_ne d_Mo_merge_63 (by decide) kt kf
theorem d_Mo_merge_66 : decode prog_10_method_22_code 66 = .ok (.iconst 1, 1) := by decide +kernel
theorem s_Mo_merge_66  (k : ev G M_Mo_merge R E 67 lv (.int 1 :: rest) h cells slots) : ev G M_Mo_merge R E 66 lv rest h cells slots := ev_iconst d_Mo_merge_66 (by decide) k
theorem d_Mo_merge_67 : decode prog_10_method_22_code 67 = .ok (.goto 4, 3) := by decide +kernel
theorem s_Mo_merge_67  (k : ev G M_Mo_merge R E 71 lv rest h cells slots) : ev G M_Mo_merge R E 67 lv rest h cells slots := ev_goto d_Mo_merge_67 (by decide) k
theorem d_Mo_merge_70 : decode prog_10_method_22_code 70 = .ok (.iconst 0, 1) := by decide +kernel
theorem s_Mo_merge_70  (k : ev G M_Mo_merge R E 71 lv (.int 0 :: rest) h cells slots) : ev G M_Mo_merge R E 70 lv rest h cells slots := ev_iconst d_Mo_merge_70 (by decide) k
theorem d_Mo_merge_71 : decode prog_10_method_22_code 71 = .ok (.istore 5, 2) := by decide +kernel
theorem s_Mo_merge_71 {x : Int32} (k : ev G M_Mo_merge R E 73 (ls1 lv 5 (.int x)) rest h cells slots) : ev G M_Mo_merge R E 71 lv (.int x :: rest) h cells slots := ev_istore d_Mo_merge_71 (by decide) k
theorem d_Mo_merge_73 : decode prog_10_method_22_code 73 = .ok (.aload_n 0, 1) := by decide +kernel
theorem s_Mo_merge_73 {x : Nat} (hl : lg lv 0 = some (.ref x)) (k : ev G M_Mo_merge R E 74 lv (.ref x :: rest) h cells slots) : ev G M_Mo_merge R E 73 lv rest h cells slots := ev_aload_n d_Mo_merge_73 rfl hl k
theorem d_Mo_merge_74 : decode prog_10_method_22_code 74 = .ok (.iload_n 1, 1) := by decide +kernel
theorem s_Mo_merge_74 {x : Int32} (hl : lg lv 1 = some (.int x)) (k : ev G M_Mo_merge R E 75 lv (.int x :: rest) h cells slots) : ev G M_Mo_merge R E 74 lv rest h cells slots := ev_iload_n d_Mo_merge_74 rfl hl k
theorem d_Mo_merge_75 : decode prog_10_method_22_code 75 = .ok (.iconst 1, 1) := by decide +kernel
theorem s_Mo_merge_75  (k : ev G M_Mo_merge R E 76 lv (.int 1 :: rest) h cells slots) : ev G M_Mo_merge R E 75 lv rest h cells slots := ev_iconst d_Mo_merge_75 (by decide) k
theorem d_Mo_merge_76 : decode prog_10_method_22_code 76 = .ok (.invokevirtual 66, 3) := by decide +kernel
theorem s_Mo_merge_76 {mc ms : Nat} {P : Option Value → HP → Prop} {a0 : Int32} {a1 : Int32} {b : Nat} {fs : List Value} {v0 : Value} (hm : mt G M_Mo_get 0 mc ms (.ref b :: [.int a0, .int a1]) h P) (hb : h b = mO 7 fs) (hv0 : fs[0]? = some v0) (hR : 0 + 1 ≤ R.frames ∧ 8 + (3 + 11) + 39 * 0 ≤ R.locals) (hcs : cells + mc ≤ R.cells ∧ slots + ms ≤ R.slots) (hrest : (rest.map fun v => v.category).sum ≤ 8) (k : ∀ (r : Option Value) (h' : HP), P r h' → ev G M_Mo_merge R E 79 lv (r.toList ++ rest) h' (cells + mc) (slots + ms)) : ev G M_Mo_merge R E 76 lv (.int a1 :: .int a0 :: .ref b :: rest) h cells slots := ev_callV (as := [.int a0, .int a1]) (ci := 7) d_Mo_merge_76 hm hb hv0 rfl w_816 w_818 w_42 w_70 w_819 hy_Mo_get hR hcs hrest k
theorem d_Mo_merge_79 : decode prog_10_method_22_code 79 = .ok (.aload_n 0, 1) := by decide +kernel
theorem s_Mo_merge_79 {x : Nat} (hl : lg lv 0 = some (.ref x)) (k : ev G M_Mo_merge R E 80 lv (.ref x :: rest) h cells slots) : ev G M_Mo_merge R E 79 lv rest h cells slots := ev_aload_n d_Mo_merge_79 rfl hl k
theorem d_Mo_merge_80 : decode prog_10_method_22_code 80 = .ok (.iload_n 2, 1) := by decide +kernel
theorem s_Mo_merge_80 {x : Int32} (hl : lg lv 2 = some (.int x)) (k : ev G M_Mo_merge R E 81 lv (.int x :: rest) h cells slots) : ev G M_Mo_merge R E 80 lv rest h cells slots := ev_iload_n d_Mo_merge_80 rfl hl k
theorem d_Mo_merge_81 : decode prog_10_method_22_code 81 = .ok (.iconst 1, 1) := by decide +kernel
theorem s_Mo_merge_81  (k : ev G M_Mo_merge R E 82 lv (.int 1 :: rest) h cells slots) : ev G M_Mo_merge R E 81 lv rest h cells slots := ev_iconst d_Mo_merge_81 (by decide) k
theorem d_Mo_merge_82 : decode prog_10_method_22_code 82 = .ok (.invokevirtual 66, 3) := by decide +kernel
theorem s_Mo_merge_82 {mc ms : Nat} {P : Option Value → HP → Prop} {a0 : Int32} {a1 : Int32} {b : Nat} {fs : List Value} {v0 : Value} (hm : mt G M_Mo_get 0 mc ms (.ref b :: [.int a0, .int a1]) h P) (hb : h b = mO 7 fs) (hv0 : fs[0]? = some v0) (hR : 0 + 1 ≤ R.frames ∧ 8 + (3 + 11) + 39 * 0 ≤ R.locals) (hcs : cells + mc ≤ R.cells ∧ slots + ms ≤ R.slots) (hrest : (rest.map fun v => v.category).sum ≤ 8) (k : ∀ (r : Option Value) (h' : HP), P r h' → ev G M_Mo_merge R E 85 lv (r.toList ++ rest) h' (cells + mc) (slots + ms)) : ev G M_Mo_merge R E 82 lv (.int a1 :: .int a0 :: .ref b :: rest) h cells slots := ev_callV (as := [.int a0, .int a1]) (ci := 7) d_Mo_merge_82 hm hb hv0 rfl w_816 w_818 w_42 w_70 w_819 hy_Mo_get hR hcs hrest k
theorem d_Mo_merge_85 : decode prog_10_method_22_code 85 = .ok (.if_icmp .ne 38, 3) := by decide +kernel
theorem s_Mo_merge_85 {x y : Int32} (kt : ¬ x = y → ev G M_Mo_merge R E 123 lv rest h cells slots) (kf : x = y → ev G M_Mo_merge R E 88 lv rest h cells slots) : ev G M_Mo_merge R E 85 lv (.int y :: .int x :: rest) h cells slots := ev_icmp_ne d_Mo_merge_85 (by decide) kt kf
theorem d_Mo_merge_88 : decode prog_10_method_22_code 88 = .ok (.aload_n 0, 1) := by decide +kernel
theorem s_Mo_merge_88 {x : Nat} (hl : lg lv 0 = some (.ref x)) (k : ev G M_Mo_merge R E 89 lv (.ref x :: rest) h cells slots) : ev G M_Mo_merge R E 88 lv rest h cells slots := ev_aload_n d_Mo_merge_88 rfl hl k
theorem d_Mo_merge_89 : decode prog_10_method_22_code 89 = .ok (.iload_n 1, 1) := by decide +kernel
theorem s_Mo_merge_89 {x : Int32} (hl : lg lv 1 = some (.int x)) (k : ev G M_Mo_merge R E 90 lv (.int x :: rest) h cells slots) : ev G M_Mo_merge R E 89 lv rest h cells slots := ev_iload_n d_Mo_merge_89 rfl hl k
theorem d_Mo_merge_90 : decode prog_10_method_22_code 90 = .ok (.iconst 2, 1) := by decide +kernel
theorem s_Mo_merge_90  (k : ev G M_Mo_merge R E 91 lv (.int 2 :: rest) h cells slots) : ev G M_Mo_merge R E 90 lv rest h cells slots := ev_iconst d_Mo_merge_90 (by decide) k
theorem d_Mo_merge_91 : decode prog_10_method_22_code 91 = .ok (.invokevirtual 66, 3) := by decide +kernel
theorem s_Mo_merge_91 {mc ms : Nat} {P : Option Value → HP → Prop} {a0 : Int32} {a1 : Int32} {b : Nat} {fs : List Value} {v0 : Value} (hm : mt G M_Mo_get 0 mc ms (.ref b :: [.int a0, .int a1]) h P) (hb : h b = mO 7 fs) (hv0 : fs[0]? = some v0) (hR : 0 + 1 ≤ R.frames ∧ 8 + (3 + 11) + 39 * 0 ≤ R.locals) (hcs : cells + mc ≤ R.cells ∧ slots + ms ≤ R.slots) (hrest : (rest.map fun v => v.category).sum ≤ 8) (k : ∀ (r : Option Value) (h' : HP), P r h' → ev G M_Mo_merge R E 94 lv (r.toList ++ rest) h' (cells + mc) (slots + ms)) : ev G M_Mo_merge R E 91 lv (.int a1 :: .int a0 :: .ref b :: rest) h cells slots := ev_callV (as := [.int a0, .int a1]) (ci := 7) d_Mo_merge_91 hm hb hv0 rfl w_816 w_818 w_42 w_70 w_819 hy_Mo_get hR hcs hrest k
theorem d_Mo_merge_94 : decode prog_10_method_22_code 94 = .ok (.aload_n 0, 1) := by decide +kernel
theorem s_Mo_merge_94 {x : Nat} (hl : lg lv 0 = some (.ref x)) (k : ev G M_Mo_merge R E 95 lv (.ref x :: rest) h cells slots) : ev G M_Mo_merge R E 94 lv rest h cells slots := ev_aload_n d_Mo_merge_94 rfl hl k
theorem d_Mo_merge_95 : decode prog_10_method_22_code 95 = .ok (.iload_n 2, 1) := by decide +kernel
theorem s_Mo_merge_95 {x : Int32} (hl : lg lv 2 = some (.int x)) (k : ev G M_Mo_merge R E 96 lv (.int x :: rest) h cells slots) : ev G M_Mo_merge R E 95 lv rest h cells slots := ev_iload_n d_Mo_merge_95 rfl hl k
theorem d_Mo_merge_96 : decode prog_10_method_22_code 96 = .ok (.iconst 2, 1) := by decide +kernel
theorem s_Mo_merge_96  (k : ev G M_Mo_merge R E 97 lv (.int 2 :: rest) h cells slots) : ev G M_Mo_merge R E 96 lv rest h cells slots := ev_iconst d_Mo_merge_96 (by decide) k
theorem d_Mo_merge_97 : decode prog_10_method_22_code 97 = .ok (.invokevirtual 66, 3) := by decide +kernel
theorem s_Mo_merge_97 {mc ms : Nat} {P : Option Value → HP → Prop} {a0 : Int32} {a1 : Int32} {b : Nat} {fs : List Value} {v0 : Value} (hm : mt G M_Mo_get 0 mc ms (.ref b :: [.int a0, .int a1]) h P) (hb : h b = mO 7 fs) (hv0 : fs[0]? = some v0) (hR : 0 + 1 ≤ R.frames ∧ 8 + (3 + 11) + 39 * 0 ≤ R.locals) (hcs : cells + mc ≤ R.cells ∧ slots + ms ≤ R.slots) (hrest : (rest.map fun v => v.category).sum ≤ 8) (k : ∀ (r : Option Value) (h' : HP), P r h' → ev G M_Mo_merge R E 100 lv (r.toList ++ rest) h' (cells + mc) (slots + ms)) : ev G M_Mo_merge R E 97 lv (.int a1 :: .int a0 :: .ref b :: rest) h cells slots := ev_callV (as := [.int a0, .int a1]) (ci := 7) d_Mo_merge_97 hm hb hv0 rfl w_816 w_818 w_42 w_70 w_819 hy_Mo_get hR hcs hrest k
theorem d_Mo_merge_100 : decode prog_10_method_22_code 100 = .ok (.if_icmp .ne 23, 3) := by decide +kernel
theorem s_Mo_merge_100 {x y : Int32} (kt : ¬ x = y → ev G M_Mo_merge R E 123 lv rest h cells slots) (kf : x = y → ev G M_Mo_merge R E 103 lv rest h cells slots) : ev G M_Mo_merge R E 100 lv (.int y :: .int x :: rest) h cells slots := ev_icmp_ne d_Mo_merge_100 (by decide) kt kf
theorem d_Mo_merge_103 : decode prog_10_method_22_code 103 = .ok (.aload_n 0, 1) := by decide +kernel
theorem s_Mo_merge_103 {x : Nat} (hl : lg lv 0 = some (.ref x)) (k : ev G M_Mo_merge R E 104 lv (.ref x :: rest) h cells slots) : ev G M_Mo_merge R E 103 lv rest h cells slots := ev_aload_n d_Mo_merge_103 rfl hl k
theorem d_Mo_merge_104 : decode prog_10_method_22_code 104 = .ok (.iload_n 1, 1) := by decide +kernel
theorem s_Mo_merge_104 {x : Int32} (hl : lg lv 1 = some (.int x)) (k : ev G M_Mo_merge R E 105 lv (.int x :: rest) h cells slots) : ev G M_Mo_merge R E 104 lv rest h cells slots := ev_iload_n d_Mo_merge_104 rfl hl k
theorem d_Mo_merge_105 : decode prog_10_method_22_code 105 = .ok (.iconst 3, 1) := by decide +kernel
theorem s_Mo_merge_105  (k : ev G M_Mo_merge R E 106 lv (.int 3 :: rest) h cells slots) : ev G M_Mo_merge R E 105 lv rest h cells slots := ev_iconst d_Mo_merge_105 (by decide) k
theorem d_Mo_merge_106 : decode prog_10_method_22_code 106 = .ok (.invokevirtual 66, 3) := by decide +kernel
theorem s_Mo_merge_106 {mc ms : Nat} {P : Option Value → HP → Prop} {a0 : Int32} {a1 : Int32} {b : Nat} {fs : List Value} {v0 : Value} (hm : mt G M_Mo_get 0 mc ms (.ref b :: [.int a0, .int a1]) h P) (hb : h b = mO 7 fs) (hv0 : fs[0]? = some v0) (hR : 0 + 1 ≤ R.frames ∧ 8 + (3 + 11) + 39 * 0 ≤ R.locals) (hcs : cells + mc ≤ R.cells ∧ slots + ms ≤ R.slots) (hrest : (rest.map fun v => v.category).sum ≤ 8) (k : ∀ (r : Option Value) (h' : HP), P r h' → ev G M_Mo_merge R E 109 lv (r.toList ++ rest) h' (cells + mc) (slots + ms)) : ev G M_Mo_merge R E 106 lv (.int a1 :: .int a0 :: .ref b :: rest) h cells slots := ev_callV (as := [.int a0, .int a1]) (ci := 7) d_Mo_merge_106 hm hb hv0 rfl w_816 w_818 w_42 w_70 w_819 hy_Mo_get hR hcs hrest k
theorem d_Mo_merge_109 : decode prog_10_method_22_code 109 = .ok (.aload_n 0, 1) := by decide +kernel
theorem s_Mo_merge_109 {x : Nat} (hl : lg lv 0 = some (.ref x)) (k : ev G M_Mo_merge R E 110 lv (.ref x :: rest) h cells slots) : ev G M_Mo_merge R E 109 lv rest h cells slots := ev_aload_n d_Mo_merge_109 rfl hl k
theorem d_Mo_merge_110 : decode prog_10_method_22_code 110 = .ok (.iload_n 2, 1) := by decide +kernel
theorem s_Mo_merge_110 {x : Int32} (hl : lg lv 2 = some (.int x)) (k : ev G M_Mo_merge R E 111 lv (.int x :: rest) h cells slots) : ev G M_Mo_merge R E 110 lv rest h cells slots := ev_iload_n d_Mo_merge_110 rfl hl k
theorem d_Mo_merge_111 : decode prog_10_method_22_code 111 = .ok (.iconst 3, 1) := by decide +kernel
theorem s_Mo_merge_111  (k : ev G M_Mo_merge R E 112 lv (.int 3 :: rest) h cells slots) : ev G M_Mo_merge R E 111 lv rest h cells slots := ev_iconst d_Mo_merge_111 (by decide) k
theorem d_Mo_merge_112 : decode prog_10_method_22_code 112 = .ok (.invokevirtual 66, 3) := by decide +kernel
theorem s_Mo_merge_112 {mc ms : Nat} {P : Option Value → HP → Prop} {a0 : Int32} {a1 : Int32} {b : Nat} {fs : List Value} {v0 : Value} (hm : mt G M_Mo_get 0 mc ms (.ref b :: [.int a0, .int a1]) h P) (hb : h b = mO 7 fs) (hv0 : fs[0]? = some v0) (hR : 0 + 1 ≤ R.frames ∧ 8 + (3 + 11) + 39 * 0 ≤ R.locals) (hcs : cells + mc ≤ R.cells ∧ slots + ms ≤ R.slots) (hrest : (rest.map fun v => v.category).sum ≤ 8) (k : ∀ (r : Option Value) (h' : HP), P r h' → ev G M_Mo_merge R E 115 lv (r.toList ++ rest) h' (cells + mc) (slots + ms)) : ev G M_Mo_merge R E 112 lv (.int a1 :: .int a0 :: .ref b :: rest) h cells slots := ev_callV (as := [.int a0, .int a1]) (ci := 7) d_Mo_merge_112 hm hb hv0 rfl w_816 w_818 w_42 w_70 w_819 hy_Mo_get hR hcs hrest k
theorem d_Mo_merge_115 : decode prog_10_method_22_code 115 = .ok (.iand, 1) := by decide +kernel
theorem s_Mo_merge_115 {x y : Int32} (k : ev G M_Mo_merge R E 116 lv (.int (x &&& y) :: rest) h cells slots) : ev G M_Mo_merge R E 115 lv (.int y :: .int x :: rest) h cells slots := ev_iand d_Mo_merge_115 k
theorem d_Mo_merge_116 : decode prog_10_method_22_code 116 = .ok (.ifCond .ne 7, 3) := by decide +kernel
theorem s_Mo_merge_116 {x : Int32} (kt : ¬ x = 0 → ev G M_Mo_merge R E 123 lv rest h cells slots) (kf : x = 0 → ev G M_Mo_merge R E 119 lv rest h cells slots) : ev G M_Mo_merge R E 116 lv (.int x :: rest) h cells slots := ev_if_ne d_Mo_merge_116 (by decide) kt kf
theorem d_Mo_merge_119 : decode prog_10_method_22_code 119 = .ok (.iconst 1, 1) := by decide +kernel
theorem s_Mo_merge_119  (k : ev G M_Mo_merge R E 120 lv (.int 1 :: rest) h cells slots) : ev G M_Mo_merge R E 119 lv rest h cells slots := ev_iconst d_Mo_merge_119 (by decide) k
theorem d_Mo_merge_120 : decode prog_10_method_22_code 120 = .ok (.goto 4, 3) := by decide +kernel
theorem s_Mo_merge_120  (k : ev G M_Mo_merge R E 124 lv rest h cells slots) : ev G M_Mo_merge R E 120 lv rest h cells slots := ev_goto d_Mo_merge_120 (by decide) k
theorem d_Mo_merge_123 : decode prog_10_method_22_code 123 = .ok (.iconst 0, 1) := by decide +kernel
theorem s_Mo_merge_123  (k : ev G M_Mo_merge R E 124 lv (.int 0 :: rest) h cells slots) : ev G M_Mo_merge R E 123 lv rest h cells slots := ev_iconst d_Mo_merge_123 (by decide) k
theorem d_Mo_merge_124 : decode prog_10_method_22_code 124 = .ok (.istore 6, 2) := by decide +kernel
theorem s_Mo_merge_124 {x : Int32} (k : ev G M_Mo_merge R E 126 (ls1 lv 6 (.int x)) rest h cells slots) : ev G M_Mo_merge R E 124 lv (.int x :: rest) h cells slots := ev_istore d_Mo_merge_124 (by decide) k
theorem d_Mo_merge_126 : decode prog_10_method_22_code 126 = .ok (.iload_n 1, 1) := by decide +kernel
theorem s_Mo_merge_126 {x : Int32} (hl : lg lv 1 = some (.int x)) (k : ev G M_Mo_merge R E 127 lv (.int x :: rest) h cells slots) : ev G M_Mo_merge R E 126 lv rest h cells slots := ev_iload_n d_Mo_merge_126 rfl hl k
theorem d_Mo_merge_127 : decode prog_10_method_22_code 127 = .ok (.iload_n 2, 1) := by decide +kernel
theorem s_Mo_merge_127 {x : Int32} (hl : lg lv 2 = some (.int x)) (k : ev G M_Mo_merge R E 128 lv (.int x :: rest) h cells slots) : ev G M_Mo_merge R E 127 lv rest h cells slots := ev_iload_n d_Mo_merge_127 rfl hl k
theorem d_Mo_merge_128 : decode prog_10_method_22_code 128 = .ok (.if_icmp .eq 18, 3) := by decide +kernel
theorem s_Mo_merge_128 {x y : Int32} (kt : x = y → ev G M_Mo_merge R E 146 lv rest h cells slots) (kf : ¬ x = y → ev G M_Mo_merge R E 131 lv rest h cells slots) : ev G M_Mo_merge R E 128 lv (.int y :: .int x :: rest) h cells slots := ev_icmp_eq d_Mo_merge_128 (by decide) kt kf
theorem d_Mo_merge_131 : decode prog_10_method_22_code 131 = .ok (.iload 4, 2) := by decide +kernel
theorem s_Mo_merge_131 {x : Int32} (hl : lg lv 4 = some (.int x)) (k : ev G M_Mo_merge R E 133 lv (.int x :: rest) h cells slots) : ev G M_Mo_merge R E 131 lv rest h cells slots := ev_iload d_Mo_merge_131 hl k
theorem d_Mo_merge_133 : decode prog_10_method_22_code 133 = .ok (.ifCond .ne 15, 3) := by decide +kernel
theorem s_Mo_merge_133 {x : Int32} (kt : ¬ x = 0 → ev G M_Mo_merge R E 148 lv rest h cells slots) (kf : x = 0 → ev G M_Mo_merge R E 136 lv rest h cells slots) : ev G M_Mo_merge R E 133 lv (.int x :: rest) h cells slots := ev_if_ne d_Mo_merge_133 (by decide) kt kf
theorem d_Mo_merge_136 : decode prog_10_method_22_code 136 = .ok (.iload 5, 2) := by decide +kernel
theorem s_Mo_merge_136 {x : Int32} (hl : lg lv 5 = some (.int x)) (k : ev G M_Mo_merge R E 138 lv (.int x :: rest) h cells slots) : ev G M_Mo_merge R E 136 lv rest h cells slots := ev_iload d_Mo_merge_136 hl k
theorem d_Mo_merge_138 : decode prog_10_method_22_code 138 = .ok (.ifCond .ne 10, 3) := by decide +kernel
theorem s_Mo_merge_138 {x : Int32} (kt : ¬ x = 0 → ev G M_Mo_merge R E 148 lv rest h cells slots) (kf : x = 0 → ev G M_Mo_merge R E 141 lv rest h cells slots) : ev G M_Mo_merge R E 138 lv (.int x :: rest) h cells slots := ev_if_ne d_Mo_merge_138 (by decide) kt kf
theorem d_Mo_merge_141 : decode prog_10_method_22_code 141 = .ok (.iload 6, 2) := by decide +kernel
theorem s_Mo_merge_141 {x : Int32} (hl : lg lv 6 = some (.int x)) (k : ev G M_Mo_merge R E 143 lv (.int x :: rest) h cells slots) : ev G M_Mo_merge R E 141 lv rest h cells slots := ev_iload d_Mo_merge_141 hl k
theorem d_Mo_merge_143 : decode prog_10_method_22_code 143 = .ok (.ifCond .ne 5, 3) := by decide +kernel
theorem s_Mo_merge_143 {x : Int32} (kt : ¬ x = 0 → ev G M_Mo_merge R E 148 lv rest h cells slots) (kf : x = 0 → ev G M_Mo_merge R E 146 lv rest h cells slots) : ev G M_Mo_merge R E 143 lv (.int x :: rest) h cells slots := ev_if_ne d_Mo_merge_143 (by decide) kt kf
theorem d_Mo_merge_146 : decode prog_10_method_22_code 146 = .ok (.iconst 4, 1) := by decide +kernel
theorem s_Mo_merge_146  (k : ev G M_Mo_merge R E 147 lv (.int 4 :: rest) h cells slots) : ev G M_Mo_merge R E 146 lv rest h cells slots := ev_iconst d_Mo_merge_146 (by decide) k
theorem d_Mo_merge_147 : decode prog_10_method_22_code 147 = .ok (.ireturn, 1) := by decide +kernel
theorem s_Mo_merge_147 {P : Option Value → HP → Prop} {mc ms : Nat} {v : Int32} (hP : P (some (.int v)) h) (hc : cells ≤ mc ∧ slots ≤ ms) : ev G M_Mo_merge R (Er M_Mo_merge P mc ms) 147 lv [.int v] h cells slots := ev_exit ⟨hc.1, hc.2, Or.inr (Or.inl ⟨v, .int, rfl, rfl, d_Mo_merge_147, rfl, hP⟩)⟩
theorem d_Mo_merge_148 : decode prog_10_method_22_code 148 = .ok (.aload_n 0, 1) := by decide +kernel
theorem s_Mo_merge_148 {x : Nat} (hl : lg lv 0 = some (.ref x)) (k : ev G M_Mo_merge R E 149 lv (.ref x :: rest) h cells slots) : ev G M_Mo_merge R E 148 lv rest h cells slots := ev_aload_n d_Mo_merge_148 rfl hl k
theorem d_Mo_merge_149 : decode prog_10_method_22_code 149 = .ok (.iload_n 1, 1) := by decide +kernel
theorem s_Mo_merge_149 {x : Int32} (hl : lg lv 1 = some (.int x)) (k : ev G M_Mo_merge R E 150 lv (.int x :: rest) h cells slots) : ev G M_Mo_merge R E 149 lv rest h cells slots := ev_iload_n d_Mo_merge_149 rfl hl k
theorem d_Mo_merge_150 : decode prog_10_method_22_code 150 = .ok (.iconst 1, 1) := by decide +kernel
theorem s_Mo_merge_150  (k : ev G M_Mo_merge R E 151 lv (.int 1 :: rest) h cells slots) : ev G M_Mo_merge R E 150 lv rest h cells slots := ev_iconst d_Mo_merge_150 (by decide) k
theorem d_Mo_merge_151 : decode prog_10_method_22_code 151 = .ok (.iload 5, 2) := by decide +kernel
theorem s_Mo_merge_151 {x : Int32} (hl : lg lv 5 = some (.int x)) (k : ev G M_Mo_merge R E 153 lv (.int x :: rest) h cells slots) : ev G M_Mo_merge R E 151 lv rest h cells slots := ev_iload d_Mo_merge_151 hl k
theorem d_Mo_merge_153 : decode prog_10_method_22_code 153 = .ok (.ifCond .eq 12, 3) := by decide +kernel
theorem s_Mo_merge_153 {x : Int32} (kt : x = 0 → ev G M_Mo_merge R E 165 lv rest h cells slots) (kf : ¬ x = 0 → ev G M_Mo_merge R E 156 lv rest h cells slots) : ev G M_Mo_merge R E 153 lv (.int x :: rest) h cells slots := ev_if_eq d_Mo_merge_153 (by decide) kt kf
theorem d_Mo_merge_156 : decode prog_10_method_22_code 156 = .ok (.aload_n 0, 1) := by decide +kernel
theorem s_Mo_merge_156 {x : Nat} (hl : lg lv 0 = some (.ref x)) (k : ev G M_Mo_merge R E 157 lv (.ref x :: rest) h cells slots) : ev G M_Mo_merge R E 156 lv rest h cells slots := ev_aload_n d_Mo_merge_156 rfl hl k
theorem d_Mo_merge_157 : decode prog_10_method_22_code 157 = .ok (.iload_n 2, 1) := by decide +kernel
theorem s_Mo_merge_157 {x : Int32} (hl : lg lv 2 = some (.int x)) (k : ev G M_Mo_merge R E 158 lv (.int x :: rest) h cells slots) : ev G M_Mo_merge R E 157 lv rest h cells slots := ev_iload_n d_Mo_merge_157 rfl hl k
theorem d_Mo_merge_158 : decode prog_10_method_22_code 158 = .ok (.iconst 1, 1) := by decide +kernel
theorem s_Mo_merge_158  (k : ev G M_Mo_merge R E 159 lv (.int 1 :: rest) h cells slots) : ev G M_Mo_merge R E 158 lv rest h cells slots := ev_iconst d_Mo_merge_158 (by decide) k
theorem d_Mo_merge_159 : decode prog_10_method_22_code 159 = .ok (.invokevirtual 66, 3) := by decide +kernel
theorem s_Mo_merge_159 {mc ms : Nat} {P : Option Value → HP → Prop} {a0 : Int32} {a1 : Int32} {b : Nat} {fs : List Value} {v0 : Value} (hm : mt G M_Mo_get 0 mc ms (.ref b :: [.int a0, .int a1]) h P) (hb : h b = mO 7 fs) (hv0 : fs[0]? = some v0) (hR : 0 + 1 ≤ R.frames ∧ 8 + (3 + 11) + 39 * 0 ≤ R.locals) (hcs : cells + mc ≤ R.cells ∧ slots + ms ≤ R.slots) (hrest : (rest.map fun v => v.category).sum ≤ 8) (k : ∀ (r : Option Value) (h' : HP), P r h' → ev G M_Mo_merge R E 162 lv (r.toList ++ rest) h' (cells + mc) (slots + ms)) : ev G M_Mo_merge R E 159 lv (.int a1 :: .int a0 :: .ref b :: rest) h cells slots := ev_callV (as := [.int a0, .int a1]) (ci := 7) d_Mo_merge_159 hm hb hv0 rfl w_816 w_818 w_42 w_70 w_819 hy_Mo_get hR hcs hrest k
theorem d_Mo_merge_162 : decode prog_10_method_22_code 162 = .ok (.goto 9, 3) := by decide +kernel
theorem s_Mo_merge_162  (k : ev G M_Mo_merge R E 171 lv rest h cells slots) : ev G M_Mo_merge R E 162 lv rest h cells slots := ev_goto d_Mo_merge_162 (by decide) k
theorem d_Mo_merge_165 : decode prog_10_method_22_code 165 = .ok (.aload_n 0, 1) := by decide +kernel
theorem s_Mo_merge_165 {x : Nat} (hl : lg lv 0 = some (.ref x)) (k : ev G M_Mo_merge R E 166 lv (.ref x :: rest) h cells slots) : ev G M_Mo_merge R E 165 lv rest h cells slots := ev_aload_n d_Mo_merge_165 rfl hl k
theorem d_Mo_merge_166 : decode prog_10_method_22_code 166 = .ok (.iload_n 1, 1) := by decide +kernel
theorem s_Mo_merge_166 {x : Int32} (hl : lg lv 1 = some (.int x)) (k : ev G M_Mo_merge R E 167 lv (.int x :: rest) h cells slots) : ev G M_Mo_merge R E 166 lv rest h cells slots := ev_iload_n d_Mo_merge_166 rfl hl k
theorem d_Mo_merge_167 : decode prog_10_method_22_code 167 = .ok (.iconst 1, 1) := by decide +kernel
theorem s_Mo_merge_167  (k : ev G M_Mo_merge R E 168 lv (.int 1 :: rest) h cells slots) : ev G M_Mo_merge R E 167 lv rest h cells slots := ev_iconst d_Mo_merge_167 (by decide) k
theorem d_Mo_merge_168 : decode prog_10_method_22_code 168 = .ok (.invokevirtual 66, 3) := by decide +kernel
theorem s_Mo_merge_168 {mc ms : Nat} {P : Option Value → HP → Prop} {a0 : Int32} {a1 : Int32} {b : Nat} {fs : List Value} {v0 : Value} (hm : mt G M_Mo_get 0 mc ms (.ref b :: [.int a0, .int a1]) h P) (hb : h b = mO 7 fs) (hv0 : fs[0]? = some v0) (hR : 0 + 1 ≤ R.frames ∧ 8 + (3 + 11) + 39 * 0 ≤ R.locals) (hcs : cells + mc ≤ R.cells ∧ slots + ms ≤ R.slots) (hrest : (rest.map fun v => v.category).sum ≤ 8) (k : ∀ (r : Option Value) (h' : HP), P r h' → ev G M_Mo_merge R E 171 lv (r.toList ++ rest) h' (cells + mc) (slots + ms)) : ev G M_Mo_merge R E 168 lv (.int a1 :: .int a0 :: .ref b :: rest) h cells slots := ev_callV (as := [.int a0, .int a1]) (ci := 7) d_Mo_merge_168 hm hb hv0 rfl w_816 w_818 w_42 w_70 w_819 hy_Mo_get hR hcs hrest k
theorem d_Mo_merge_171 : decode prog_10_method_22_code 171 = .ok (.iload 4, 2) := by decide +kernel
theorem s_Mo_merge_171 {x : Int32} (hl : lg lv 4 = some (.int x)) (k : ev G M_Mo_merge R E 173 lv (.int x :: rest) h cells slots) : ev G M_Mo_merge R E 171 lv rest h cells slots := ev_iload d_Mo_merge_171 hl k
theorem d_Mo_merge_173 : decode prog_10_method_22_code 173 = .ok (.ifCond .eq 12, 3) := by decide +kernel
theorem s_Mo_merge_173 {x : Int32} (kt : x = 0 → ev G M_Mo_merge R E 185 lv rest h cells slots) (kf : ¬ x = 0 → ev G M_Mo_merge R E 176 lv rest h cells slots) : ev G M_Mo_merge R E 173 lv (.int x :: rest) h cells slots := ev_if_eq d_Mo_merge_173 (by decide) kt kf
theorem d_Mo_merge_176 : decode prog_10_method_22_code 176 = .ok (.aload_n 0, 1) := by decide +kernel
theorem s_Mo_merge_176 {x : Nat} (hl : lg lv 0 = some (.ref x)) (k : ev G M_Mo_merge R E 177 lv (.ref x :: rest) h cells slots) : ev G M_Mo_merge R E 176 lv rest h cells slots := ev_aload_n d_Mo_merge_176 rfl hl k
theorem d_Mo_merge_177 : decode prog_10_method_22_code 177 = .ok (.iload_n 2, 1) := by decide +kernel
theorem s_Mo_merge_177 {x : Int32} (hl : lg lv 2 = some (.int x)) (k : ev G M_Mo_merge R E 178 lv (.int x :: rest) h cells slots) : ev G M_Mo_merge R E 177 lv rest h cells slots := ev_iload_n d_Mo_merge_177 rfl hl k
theorem d_Mo_merge_178 : decode prog_10_method_22_code 178 = .ok (.iconst 2, 1) := by decide +kernel
theorem s_Mo_merge_178  (k : ev G M_Mo_merge R E 179 lv (.int 2 :: rest) h cells slots) : ev G M_Mo_merge R E 178 lv rest h cells slots := ev_iconst d_Mo_merge_178 (by decide) k
theorem d_Mo_merge_179 : decode prog_10_method_22_code 179 = .ok (.invokevirtual 66, 3) := by decide +kernel
theorem s_Mo_merge_179 {mc ms : Nat} {P : Option Value → HP → Prop} {a0 : Int32} {a1 : Int32} {b : Nat} {fs : List Value} {v0 : Value} (hm : mt G M_Mo_get 0 mc ms (.ref b :: [.int a0, .int a1]) h P) (hb : h b = mO 7 fs) (hv0 : fs[0]? = some v0) (hR : 0 + 1 ≤ R.frames ∧ 8 + (3 + 11) + 39 * 0 ≤ R.locals) (hcs : cells + mc ≤ R.cells ∧ slots + ms ≤ R.slots) (hrest : (rest.map fun v => v.category).sum ≤ 8) (k : ∀ (r : Option Value) (h' : HP), P r h' → ev G M_Mo_merge R E 182 lv (r.toList ++ rest) h' (cells + mc) (slots + ms)) : ev G M_Mo_merge R E 179 lv (.int a1 :: .int a0 :: .ref b :: rest) h cells slots := ev_callV (as := [.int a0, .int a1]) (ci := 7) d_Mo_merge_179 hm hb hv0 rfl w_816 w_818 w_42 w_70 w_819 hy_Mo_get hR hcs hrest k
theorem d_Mo_merge_182 : decode prog_10_method_22_code 182 = .ok (.goto 9, 3) := by decide +kernel
theorem s_Mo_merge_182  (k : ev G M_Mo_merge R E 191 lv rest h cells slots) : ev G M_Mo_merge R E 182 lv rest h cells slots := ev_goto d_Mo_merge_182 (by decide) k
theorem d_Mo_merge_185 : decode prog_10_method_22_code 185 = .ok (.aload_n 0, 1) := by decide +kernel
theorem s_Mo_merge_185 {x : Nat} (hl : lg lv 0 = some (.ref x)) (k : ev G M_Mo_merge R E 186 lv (.ref x :: rest) h cells slots) : ev G M_Mo_merge R E 185 lv rest h cells slots := ev_aload_n d_Mo_merge_185 rfl hl k
theorem d_Mo_merge_186 : decode prog_10_method_22_code 186 = .ok (.iload_n 1, 1) := by decide +kernel
theorem s_Mo_merge_186 {x : Int32} (hl : lg lv 1 = some (.int x)) (k : ev G M_Mo_merge R E 187 lv (.int x :: rest) h cells slots) : ev G M_Mo_merge R E 186 lv rest h cells slots := ev_iload_n d_Mo_merge_186 rfl hl k
theorem d_Mo_merge_187 : decode prog_10_method_22_code 187 = .ok (.iconst 2, 1) := by decide +kernel
theorem s_Mo_merge_187  (k : ev G M_Mo_merge R E 188 lv (.int 2 :: rest) h cells slots) : ev G M_Mo_merge R E 187 lv rest h cells slots := ev_iconst d_Mo_merge_187 (by decide) k
theorem d_Mo_merge_188 : decode prog_10_method_22_code 188 = .ok (.invokevirtual 66, 3) := by decide +kernel
theorem s_Mo_merge_188 {mc ms : Nat} {P : Option Value → HP → Prop} {a0 : Int32} {a1 : Int32} {b : Nat} {fs : List Value} {v0 : Value} (hm : mt G M_Mo_get 0 mc ms (.ref b :: [.int a0, .int a1]) h P) (hb : h b = mO 7 fs) (hv0 : fs[0]? = some v0) (hR : 0 + 1 ≤ R.frames ∧ 8 + (3 + 11) + 39 * 0 ≤ R.locals) (hcs : cells + mc ≤ R.cells ∧ slots + ms ≤ R.slots) (hrest : (rest.map fun v => v.category).sum ≤ 8) (k : ∀ (r : Option Value) (h' : HP), P r h' → ev G M_Mo_merge R E 191 lv (r.toList ++ rest) h' (cells + mc) (slots + ms)) : ev G M_Mo_merge R E 188 lv (.int a1 :: .int a0 :: .ref b :: rest) h cells slots := ev_callV (as := [.int a0, .int a1]) (ci := 7) d_Mo_merge_188 hm hb hv0 rfl w_816 w_818 w_42 w_70 w_819 hy_Mo_get hR hcs hrest k
theorem d_Mo_merge_191 : decode prog_10_method_22_code 191 = .ok (.aload_n 0, 1) := by decide +kernel
theorem s_Mo_merge_191 {x : Nat} (hl : lg lv 0 = some (.ref x)) (k : ev G M_Mo_merge R E 192 lv (.ref x :: rest) h cells slots) : ev G M_Mo_merge R E 191 lv rest h cells slots := ev_aload_n d_Mo_merge_191 rfl hl k
theorem d_Mo_merge_192 : decode prog_10_method_22_code 192 = .ok (.iload_n 1, 1) := by decide +kernel
theorem s_Mo_merge_192 {x : Int32} (hl : lg lv 1 = some (.int x)) (k : ev G M_Mo_merge R E 193 lv (.int x :: rest) h cells slots) : ev G M_Mo_merge R E 192 lv rest h cells slots := ev_iload_n d_Mo_merge_192 rfl hl k
theorem d_Mo_merge_193 : decode prog_10_method_22_code 193 = .ok (.iconst 3, 1) := by decide +kernel
theorem s_Mo_merge_193  (k : ev G M_Mo_merge R E 194 lv (.int 3 :: rest) h cells slots) : ev G M_Mo_merge R E 193 lv rest h cells slots := ev_iconst d_Mo_merge_193 (by decide) k
theorem d_Mo_merge_194 : decode prog_10_method_22_code 194 = .ok (.invokevirtual 66, 3) := by decide +kernel
theorem s_Mo_merge_194 {mc ms : Nat} {P : Option Value → HP → Prop} {a0 : Int32} {a1 : Int32} {b : Nat} {fs : List Value} {v0 : Value} (hm : mt G M_Mo_get 0 mc ms (.ref b :: [.int a0, .int a1]) h P) (hb : h b = mO 7 fs) (hv0 : fs[0]? = some v0) (hR : 0 + 1 ≤ R.frames ∧ 8 + (3 + 11) + 39 * 0 ≤ R.locals) (hcs : cells + mc ≤ R.cells ∧ slots + ms ≤ R.slots) (hrest : (rest.map fun v => v.category).sum ≤ 8) (k : ∀ (r : Option Value) (h' : HP), P r h' → ev G M_Mo_merge R E 197 lv (r.toList ++ rest) h' (cells + mc) (slots + ms)) : ev G M_Mo_merge R E 194 lv (.int a1 :: .int a0 :: .ref b :: rest) h cells slots := ev_callV (as := [.int a0, .int a1]) (ci := 7) d_Mo_merge_194 hm hb hv0 rfl w_816 w_818 w_42 w_70 w_819 hy_Mo_get hR hcs hrest k
theorem d_Mo_merge_197 : decode prog_10_method_22_code 197 = .ok (.aload_n 0, 1) := by decide +kernel
theorem s_Mo_merge_197 {x : Nat} (hl : lg lv 0 = some (.ref x)) (k : ev G M_Mo_merge R E 198 lv (.ref x :: rest) h cells slots) : ev G M_Mo_merge R E 197 lv rest h cells slots := ev_aload_n d_Mo_merge_197 rfl hl k
theorem d_Mo_merge_198 : decode prog_10_method_22_code 198 = .ok (.iload_n 2, 1) := by decide +kernel
theorem s_Mo_merge_198 {x : Int32} (hl : lg lv 2 = some (.int x)) (k : ev G M_Mo_merge R E 199 lv (.int x :: rest) h cells slots) : ev G M_Mo_merge R E 198 lv rest h cells slots := ev_iload_n d_Mo_merge_198 rfl hl k
theorem d_Mo_merge_199 : decode prog_10_method_22_code 199 = .ok (.iconst 3, 1) := by decide +kernel
theorem s_Mo_merge_199  (k : ev G M_Mo_merge R E 200 lv (.int 3 :: rest) h cells slots) : ev G M_Mo_merge R E 199 lv rest h cells slots := ev_iconst d_Mo_merge_199 (by decide) k
theorem d_Mo_merge_200 : decode prog_10_method_22_code 200 = .ok (.invokevirtual 66, 3) := by decide +kernel
theorem s_Mo_merge_200 {mc ms : Nat} {P : Option Value → HP → Prop} {a0 : Int32} {a1 : Int32} {b : Nat} {fs : List Value} {v0 : Value} (hm : mt G M_Mo_get 0 mc ms (.ref b :: [.int a0, .int a1]) h P) (hb : h b = mO 7 fs) (hv0 : fs[0]? = some v0) (hR : 0 + 1 ≤ R.frames ∧ 8 + (3 + 11) + 39 * 0 ≤ R.locals) (hcs : cells + mc ≤ R.cells ∧ slots + ms ≤ R.slots) (hrest : (rest.map fun v => v.category).sum ≤ 8) (k : ∀ (r : Option Value) (h' : HP), P r h' → ev G M_Mo_merge R E 203 lv (r.toList ++ rest) h' (cells + mc) (slots + ms)) : ev G M_Mo_merge R E 200 lv (.int a1 :: .int a0 :: .ref b :: rest) h cells slots := ev_callV (as := [.int a0, .int a1]) (ci := 7) d_Mo_merge_200 hm hb hv0 rfl w_816 w_818 w_42 w_70 w_819 hy_Mo_get hR hcs hrest k
theorem d_Mo_merge_203 : decode prog_10_method_22_code 203 = .ok (.ior, 1) := by decide +kernel
theorem s_Mo_merge_203 {x y : Int32} (k : ev G M_Mo_merge R E 204 lv (.int (x ||| y) :: rest) h cells slots) : ev G M_Mo_merge R E 203 lv (.int y :: .int x :: rest) h cells slots := ev_ior d_Mo_merge_203 k
theorem d_Mo_merge_204 : decode prog_10_method_22_code 204 = .ok (.iconst 0, 1) := by decide +kernel
theorem s_Mo_merge_204  (k : ev G M_Mo_merge R E 205 lv (.int 0 :: rest) h cells slots) : ev G M_Mo_merge R E 204 lv rest h cells slots := ev_iconst d_Mo_merge_204 (by decide) k
theorem d_Mo_merge_205 : decode prog_10_method_22_code 205 = .ok (.invokevirtual 58, 3) := by decide +kernel
theorem s_Mo_merge_205 {mc ms : Nat} {P : Option Value → HP → Prop} {a0 : Int32} {a1 : Int32} {a2 : Int32} {a3 : Int32} {a4 : Int32} {a5 : Int32} {b : Nat} {fs : List Value} {v0 : Value} (hm : mt G M_Mo_put 0 mc ms (.ref b :: [.int a0, .int a1, .int a2, .int a3, .int a4, .int a5]) h P) (hb : h b = mO 7 fs) (hv0 : fs[0]? = some v0) (hR : 0 + 1 ≤ R.frames ∧ 8 + (7 + 11) + 39 * 0 ≤ R.locals) (hcs : cells + mc ≤ R.cells ∧ slots + ms ≤ R.slots) (hrest : (rest.map fun v => v.category).sum ≤ 8) (k : ∀ (r : Option Value) (h' : HP), P r h' → ev G M_Mo_merge R E 208 lv (r.toList ++ rest) h' (cells + mc) (slots + ms)) : ev G M_Mo_merge R E 205 lv (.int a5 :: .int a4 :: .int a3 :: .int a2 :: .int a1 :: .int a0 :: .ref b :: rest) h cells slots := ev_callV (as := [.int a0, .int a1, .int a2, .int a3, .int a4, .int a5]) (ci := 7) d_Mo_merge_205 hm hb hv0 rfl w_784 w_786 w_35 w_70 w_787 hy_Mo_put hR hcs hrest k
theorem d_Mo_merge_208 : decode prog_10_method_22_code 208 = .ok (.aload_n 0, 1) := by decide +kernel
theorem s_Mo_merge_208 {x : Nat} (hl : lg lv 0 = some (.ref x)) (k : ev G M_Mo_merge R E 209 lv (.ref x :: rest) h cells slots) : ev G M_Mo_merge R E 208 lv rest h cells slots := ev_aload_n d_Mo_merge_208 rfl hl k
theorem d_Mo_merge_209 : decode prog_10_method_22_code 209 = .ok (.iload_n 2, 1) := by decide +kernel
theorem s_Mo_merge_209 {x : Int32} (hl : lg lv 2 = some (.int x)) (k : ev G M_Mo_merge R E 210 lv (.int x :: rest) h cells slots) : ev G M_Mo_merge R E 209 lv rest h cells slots := ev_iload_n d_Mo_merge_209 rfl hl k
theorem d_Mo_merge_210 : decode prog_10_method_22_code 210 = .ok (.invokevirtual 70, 3) := by decide +kernel
theorem s_Mo_merge_210 {mc ms : Nat} {P : Option Value → HP → Prop} {a0 : Int32} {b : Nat} {fs : List Value} {v0 : Value} (hm : mt G M_Mo_clear 1 mc ms (.ref b :: [.int a0]) h P) (hb : h b = mO 7 fs) (hv0 : fs[0]? = some v0) (hR : 1 + 1 ≤ R.frames ∧ 8 + (2 + 11) + 39 * 1 ≤ R.locals) (hcs : cells + mc ≤ R.cells ∧ slots + ms ≤ R.slots) (hrest : (rest.map fun v => v.category).sum ≤ 8) (k : ∀ (r : Option Value) (h' : HP), P r h' → ev G M_Mo_merge R E 213 lv (r.toList ++ rest) h' (cells + mc) (slots + ms)) : ev G M_Mo_merge R E 210 lv (.int a0 :: .ref b :: rest) h cells slots := ev_callV (as := [.int a0]) (ci := 7) d_Mo_merge_210 hm hb hv0 rfl w_780 w_782 w_34 w_70 w_783 hy_Mo_clear hR hcs hrest k
theorem d_Mo_merge_213 : decode prog_10_method_22_code 213 = .ok (.iconst 0, 1) := by decide +kernel
theorem s_Mo_merge_213  (k : ev G M_Mo_merge R E 214 lv (.int 0 :: rest) h cells slots) : ev G M_Mo_merge R E 213 lv rest h cells slots := ev_iconst d_Mo_merge_213 (by decide) k
theorem d_Mo_merge_214 : decode prog_10_method_22_code 214 = .ok (.ireturn, 1) := by decide +kernel
theorem s_Mo_merge_214 {P : Option Value → HP → Prop} {mc ms : Nat} {v : Int32} (hP : P (some (.int v)) h) (hc : cells ≤ mc ∧ slots ≤ ms) : ev G M_Mo_merge R (Er M_Mo_merge P mc ms) 214 lv [.int v] h cells slots := ev_exit ⟨hc.1, hc.2, Or.inr (Or.inl ⟨v, .int, rfl, rfl, d_Mo_merge_214, rfl, hP⟩)⟩
abbrev M_Mo_ranges : MW := (⟨"UseOnceMachineModel", "ranges", "(IIII)I"⟩, prog_10_method_21_code, 8, (some .int))
theorem hy_Mo_ranges : M_Mo_ranges.1.cls ≠ "java/lang/invoke/MethodHandle" ∧ M_Mo_ranges.1.cls ≠ "java/lang/invoke/VarHandle" ∧ (parseMethodDescriptor M_Mo_ranges.1.desc).map (fun d => d.parameters.length) = some 4 := by decide +kernel
theorem d_Mo_ranges_0 : decode prog_10_method_21_code 0 = .ok (.aload_n 0, 1) := by decide +kernel
theorem s_Mo_ranges_0 {x : Nat} (hl : lg lv 0 = some (.ref x)) (k : ev G M_Mo_ranges R E 1 lv (.ref x :: rest) h cells slots) : ev G M_Mo_ranges R E 0 lv rest h cells slots := ev_aload_n d_Mo_ranges_0 rfl hl k
theorem d_Mo_ranges_1 : decode prog_10_method_21_code 1 = .ok (.iload_n 2, 1) := by decide +kernel
theorem s_Mo_ranges_1 {x : Int32} (hl : lg lv 2 = some (.int x)) (k : ev G M_Mo_ranges R E 2 lv (.int x :: rest) h cells slots) : ev G M_Mo_ranges R E 1 lv rest h cells slots := ev_iload_n d_Mo_ranges_1 rfl hl k
theorem d_Mo_ranges_2 : decode prog_10_method_21_code 2 = .ok (.invokevirtual 62, 3) := by decide +kernel
theorem s_Mo_ranges_2 {mc ms : Nat} {P : Option Value → HP → Prop} {a0 : Int32} {b : Nat} {fs : List Value} {v0 : Value} (hm : mt G M_Mo_what 0 mc ms (.ref b :: [.int a0]) h P) (hb : h b = mO 7 fs) (hv0 : fs[0]? = some v0) (hR : 0 + 1 ≤ R.frames ∧ 8 + (2 + 11) + 39 * 0 ≤ R.locals) (hcs : cells + mc ≤ R.cells ∧ slots + ms ≤ R.slots) (hrest : (rest.map fun v => v.category).sum ≤ 8) (k : ∀ (r : Option Value) (h' : HP), P r h' → ev G M_Mo_ranges R E 5 lv (r.toList ++ rest) h' (cells + mc) (slots + ms)) : ev G M_Mo_ranges R E 2 lv (.int a0 :: .ref b :: rest) h cells slots := ev_callV (as := [.int a0]) (ci := 7) d_Mo_ranges_2 hm hb hv0 rfl w_804 w_806 w_39 w_70 w_807 hy_Mo_what hR hcs hrest k
theorem d_Mo_ranges_5 : decode prog_10_method_21_code 5 = .ok (.iconst 1, 1) := by decide +kernel
theorem s_Mo_ranges_5  (k : ev G M_Mo_ranges R E 6 lv (.int 1 :: rest) h cells slots) : ev G M_Mo_ranges R E 5 lv rest h cells slots := ev_iconst d_Mo_ranges_5 (by decide) k
theorem d_Mo_ranges_6 : decode prog_10_method_21_code 6 = .ok (.if_icmp .ne 17, 3) := by decide +kernel
theorem s_Mo_ranges_6 {x y : Int32} (kt : ¬ x = y → ev G M_Mo_ranges R E 23 lv rest h cells slots) (kf : x = y → ev G M_Mo_ranges R E 9 lv rest h cells slots) : ev G M_Mo_ranges R E 6 lv (.int y :: .int x :: rest) h cells slots := ev_icmp_ne d_Mo_ranges_6 (by decide) kt kf
theorem d_Mo_ranges_9 : decode prog_10_method_21_code 9 = .ok (.iload_n 1, 1) := by decide +kernel
theorem s_Mo_ranges_9 {x : Int32} (hl : lg lv 1 = some (.int x)) (k : ev G M_Mo_ranges R E 10 lv (.int x :: rest) h cells slots) : ev G M_Mo_ranges R E 9 lv rest h cells slots := ev_iload_n d_Mo_ranges_9 rfl hl k
theorem d_Mo_ranges_10 : decode prog_10_method_21_code 10 = .ok (.iconst 5, 1) := by decide +kernel
theorem s_Mo_ranges_10  (k : ev G M_Mo_ranges R E 11 lv (.int 5 :: rest) h cells slots) : ev G M_Mo_ranges R E 10 lv rest h cells slots := ev_iconst d_Mo_ranges_10 (by decide) k
theorem d_Mo_ranges_11 : decode prog_10_method_21_code 11 = .ok (.if_icmp .ne 14, 3) := by decide +kernel
theorem s_Mo_ranges_11 {x y : Int32} (kt : ¬ x = y → ev G M_Mo_ranges R E 25 lv rest h cells slots) (kf : x = y → ev G M_Mo_ranges R E 14 lv rest h cells slots) : ev G M_Mo_ranges R E 11 lv (.int y :: .int x :: rest) h cells slots := ev_icmp_ne d_Mo_ranges_11 (by decide) kt kf
theorem d_Mo_ranges_14 : decode prog_10_method_21_code 14 = .ok (.aload_n 0, 1) := by decide +kernel
theorem s_Mo_ranges_14 {x : Nat} (hl : lg lv 0 = some (.ref x)) (k : ev G M_Mo_ranges R E 15 lv (.ref x :: rest) h cells slots) : ev G M_Mo_ranges R E 14 lv rest h cells slots := ev_aload_n d_Mo_ranges_14 rfl hl k
theorem d_Mo_ranges_15 : decode prog_10_method_21_code 15 = .ok (.iload_n 3, 1) := by decide +kernel
theorem s_Mo_ranges_15 {x : Int32} (hl : lg lv 3 = some (.int x)) (k : ev G M_Mo_ranges R E 16 lv (.int x :: rest) h cells slots) : ev G M_Mo_ranges R E 15 lv rest h cells slots := ev_iload_n d_Mo_ranges_15 rfl hl k
theorem d_Mo_ranges_16 : decode prog_10_method_21_code 16 = .ok (.invokevirtual 62, 3) := by decide +kernel
theorem s_Mo_ranges_16 {mc ms : Nat} {P : Option Value → HP → Prop} {a0 : Int32} {b : Nat} {fs : List Value} {v0 : Value} (hm : mt G M_Mo_what 0 mc ms (.ref b :: [.int a0]) h P) (hb : h b = mO 7 fs) (hv0 : fs[0]? = some v0) (hR : 0 + 1 ≤ R.frames ∧ 8 + (2 + 11) + 39 * 0 ≤ R.locals) (hcs : cells + mc ≤ R.cells ∧ slots + ms ≤ R.slots) (hrest : (rest.map fun v => v.category).sum ≤ 8) (k : ∀ (r : Option Value) (h' : HP), P r h' → ev G M_Mo_ranges R E 19 lv (r.toList ++ rest) h' (cells + mc) (slots + ms)) : ev G M_Mo_ranges R E 16 lv (.int a0 :: .ref b :: rest) h cells slots := ev_callV (as := [.int a0]) (ci := 7) d_Mo_ranges_16 hm hb hv0 rfl w_804 w_806 w_39 w_70 w_807 hy_Mo_what hR hcs hrest k
theorem d_Mo_ranges_19 : decode prog_10_method_21_code 19 = .ok (.iconst 1, 1) := by decide +kernel
theorem s_Mo_ranges_19  (k : ev G M_Mo_ranges R E 20 lv (.int 1 :: rest) h cells slots) : ev G M_Mo_ranges R E 19 lv rest h cells slots := ev_iconst d_Mo_ranges_19 (by decide) k
theorem d_Mo_ranges_20 : decode prog_10_method_21_code 20 = .ok (.if_icmp .eq 5, 3) := by decide +kernel
theorem s_Mo_ranges_20 {x y : Int32} (kt : x = y → ev G M_Mo_ranges R E 25 lv rest h cells slots) (kf : ¬ x = y → ev G M_Mo_ranges R E 23 lv rest h cells slots) : ev G M_Mo_ranges R E 20 lv (.int y :: .int x :: rest) h cells slots := ev_icmp_eq d_Mo_ranges_20 (by decide) kt kf
theorem d_Mo_ranges_23 : decode prog_10_method_21_code 23 = .ok (.iconst 1, 1) := by decide +kernel
theorem s_Mo_ranges_23  (k : ev G M_Mo_ranges R E 24 lv (.int 1 :: rest) h cells slots) : ev G M_Mo_ranges R E 23 lv rest h cells slots := ev_iconst d_Mo_ranges_23 (by decide) k
theorem d_Mo_ranges_24 : decode prog_10_method_21_code 24 = .ok (.ireturn, 1) := by decide +kernel
theorem s_Mo_ranges_24 {P : Option Value → HP → Prop} {mc ms : Nat} {v : Int32} (hP : P (some (.int v)) h) (hc : cells ≤ mc ∧ slots ≤ ms) : ev G M_Mo_ranges R (Er M_Mo_ranges P mc ms) 24 lv [.int v] h cells slots := ev_exit ⟨hc.1, hc.2, Or.inr (Or.inl ⟨v, .int, rfl, rfl, d_Mo_ranges_24, rfl, hP⟩)⟩
theorem d_Mo_ranges_25 : decode prog_10_method_21_code 25 = .ok (.aload_n 0, 1) := by decide +kernel
theorem s_Mo_ranges_25 {x : Nat} (hl : lg lv 0 = some (.ref x)) (k : ev G M_Mo_ranges R E 26 lv (.ref x :: rest) h cells slots) : ev G M_Mo_ranges R E 25 lv rest h cells slots := ev_aload_n d_Mo_ranges_25 rfl hl k
theorem d_Mo_ranges_26 : decode prog_10_method_21_code 26 = .ok (.iload_n 2, 1) := by decide +kernel
theorem s_Mo_ranges_26 {x : Int32} (hl : lg lv 2 = some (.int x)) (k : ev G M_Mo_ranges R E 27 lv (.int x :: rest) h cells slots) : ev G M_Mo_ranges R E 26 lv rest h cells slots := ev_iload_n d_Mo_ranges_26 rfl hl k
theorem d_Mo_ranges_27 : decode prog_10_method_21_code 27 = .ok (.iconst 1, 1) := by decide +kernel
theorem s_Mo_ranges_27  (k : ev G M_Mo_ranges R E 28 lv (.int 1 :: rest) h cells slots) : ev G M_Mo_ranges R E 27 lv rest h cells slots := ev_iconst d_Mo_ranges_27 (by decide) k
theorem d_Mo_ranges_28 : decode prog_10_method_21_code 28 = .ok (.invokevirtual 66, 3) := by decide +kernel
theorem s_Mo_ranges_28 {mc ms : Nat} {P : Option Value → HP → Prop} {a0 : Int32} {a1 : Int32} {b : Nat} {fs : List Value} {v0 : Value} (hm : mt G M_Mo_get 0 mc ms (.ref b :: [.int a0, .int a1]) h P) (hb : h b = mO 7 fs) (hv0 : fs[0]? = some v0) (hR : 0 + 1 ≤ R.frames ∧ 8 + (3 + 11) + 39 * 0 ≤ R.locals) (hcs : cells + mc ≤ R.cells ∧ slots + ms ≤ R.slots) (hrest : (rest.map fun v => v.category).sum ≤ 8) (k : ∀ (r : Option Value) (h' : HP), P r h' → ev G M_Mo_ranges R E 31 lv (r.toList ++ rest) h' (cells + mc) (slots + ms)) : ev G M_Mo_ranges R E 28 lv (.int a1 :: .int a0 :: .ref b :: rest) h cells slots := ev_callV (as := [.int a0, .int a1]) (ci := 7) d_Mo_ranges_28 hm hb hv0 rfl w_816 w_818 w_42 w_70 w_819 hy_Mo_get hR hcs hrest k
theorem d_Mo_ranges_31 : decode prog_10_method_21_code 31 = .ok (.istore 5, 2) := by decide +kernel
theorem s_Mo_ranges_31 {x : Int32} (k : ev G M_Mo_ranges R E 33 (ls1 lv 5 (.int x)) rest h cells slots) : ev G M_Mo_ranges R E 31 lv (.int x :: rest) h cells slots := ev_istore d_Mo_ranges_31 (by decide) k
theorem d_Mo_ranges_33 : decode prog_10_method_21_code 33 = .ok (.aload_n 0, 1) := by decide +kernel
theorem s_Mo_ranges_33 {x : Nat} (hl : lg lv 0 = some (.ref x)) (k : ev G M_Mo_ranges R E 34 lv (.ref x :: rest) h cells slots) : ev G M_Mo_ranges R E 33 lv rest h cells slots := ev_aload_n d_Mo_ranges_33 rfl hl k
theorem d_Mo_ranges_34 : decode prog_10_method_21_code 34 = .ok (.iload_n 2, 1) := by decide +kernel
theorem s_Mo_ranges_34 {x : Int32} (hl : lg lv 2 = some (.int x)) (k : ev G M_Mo_ranges R E 35 lv (.int x :: rest) h cells slots) : ev G M_Mo_ranges R E 34 lv rest h cells slots := ev_iload_n d_Mo_ranges_34 rfl hl k
theorem d_Mo_ranges_35 : decode prog_10_method_21_code 35 = .ok (.iconst 2, 1) := by decide +kernel
theorem s_Mo_ranges_35  (k : ev G M_Mo_ranges R E 36 lv (.int 2 :: rest) h cells slots) : ev G M_Mo_ranges R E 35 lv rest h cells slots := ev_iconst d_Mo_ranges_35 (by decide) k
theorem d_Mo_ranges_36 : decode prog_10_method_21_code 36 = .ok (.invokevirtual 66, 3) := by decide +kernel
theorem s_Mo_ranges_36 {mc ms : Nat} {P : Option Value → HP → Prop} {a0 : Int32} {a1 : Int32} {b : Nat} {fs : List Value} {v0 : Value} (hm : mt G M_Mo_get 0 mc ms (.ref b :: [.int a0, .int a1]) h P) (hb : h b = mO 7 fs) (hv0 : fs[0]? = some v0) (hR : 0 + 1 ≤ R.frames ∧ 8 + (3 + 11) + 39 * 0 ≤ R.locals) (hcs : cells + mc ≤ R.cells ∧ slots + ms ≤ R.slots) (hrest : (rest.map fun v => v.category).sum ≤ 8) (k : ∀ (r : Option Value) (h' : HP), P r h' → ev G M_Mo_ranges R E 39 lv (r.toList ++ rest) h' (cells + mc) (slots + ms)) : ev G M_Mo_ranges R E 36 lv (.int a1 :: .int a0 :: .ref b :: rest) h cells slots := ev_callV (as := [.int a0, .int a1]) (ci := 7) d_Mo_ranges_36 hm hb hv0 rfl w_816 w_818 w_42 w_70 w_819 hy_Mo_get hR hcs hrest k
theorem d_Mo_ranges_39 : decode prog_10_method_21_code 39 = .ok (.istore 6, 2) := by decide +kernel
theorem s_Mo_ranges_39 {x : Int32} (k : ev G M_Mo_ranges R E 41 (ls1 lv 6 (.int x)) rest h cells slots) : ev G M_Mo_ranges R E 39 lv (.int x :: rest) h cells slots := ev_istore d_Mo_ranges_39 (by decide) k
theorem d_Mo_ranges_41 : decode prog_10_method_21_code 41 = .ok (.aload_n 0, 1) := by decide +kernel
theorem s_Mo_ranges_41 {x : Nat} (hl : lg lv 0 = some (.ref x)) (k : ev G M_Mo_ranges R E 42 lv (.ref x :: rest) h cells slots) : ev G M_Mo_ranges R E 41 lv rest h cells slots := ev_aload_n d_Mo_ranges_41 rfl hl k
theorem d_Mo_ranges_42 : decode prog_10_method_21_code 42 = .ok (.iload_n 2, 1) := by decide +kernel
theorem s_Mo_ranges_42 {x : Int32} (hl : lg lv 2 = some (.int x)) (k : ev G M_Mo_ranges R E 43 lv (.int x :: rest) h cells slots) : ev G M_Mo_ranges R E 42 lv rest h cells slots := ev_iload_n d_Mo_ranges_42 rfl hl k
theorem d_Mo_ranges_43 : decode prog_10_method_21_code 43 = .ok (.iconst 3, 1) := by decide +kernel
theorem s_Mo_ranges_43  (k : ev G M_Mo_ranges R E 44 lv (.int 3 :: rest) h cells slots) : ev G M_Mo_ranges R E 43 lv rest h cells slots := ev_iconst d_Mo_ranges_43 (by decide) k
theorem d_Mo_ranges_44 : decode prog_10_method_21_code 44 = .ok (.invokevirtual 66, 3) := by decide +kernel
theorem s_Mo_ranges_44 {mc ms : Nat} {P : Option Value → HP → Prop} {a0 : Int32} {a1 : Int32} {b : Nat} {fs : List Value} {v0 : Value} (hm : mt G M_Mo_get 0 mc ms (.ref b :: [.int a0, .int a1]) h P) (hb : h b = mO 7 fs) (hv0 : fs[0]? = some v0) (hR : 0 + 1 ≤ R.frames ∧ 8 + (3 + 11) + 39 * 0 ≤ R.locals) (hcs : cells + mc ≤ R.cells ∧ slots + ms ≤ R.slots) (hrest : (rest.map fun v => v.category).sum ≤ 8) (k : ∀ (r : Option Value) (h' : HP), P r h' → ev G M_Mo_ranges R E 47 lv (r.toList ++ rest) h' (cells + mc) (slots + ms)) : ev G M_Mo_ranges R E 44 lv (.int a1 :: .int a0 :: .ref b :: rest) h cells slots := ev_callV (as := [.int a0, .int a1]) (ci := 7) d_Mo_ranges_44 hm hb hv0 rfl w_816 w_818 w_42 w_70 w_819 hy_Mo_get hR hcs hrest k
theorem d_Mo_ranges_47 : decode prog_10_method_21_code 47 = .ok (.istore 7, 2) := by decide +kernel
theorem s_Mo_ranges_47 {x : Int32} (k : ev G M_Mo_ranges R E 49 (ls1 lv 7 (.int x)) rest h cells slots) : ev G M_Mo_ranges R E 47 lv (.int x :: rest) h cells slots := ev_istore d_Mo_ranges_47 (by decide) k
theorem d_Mo_ranges_49 : decode prog_10_method_21_code 49 = .ok (.iload_n 1, 1) := by decide +kernel
theorem s_Mo_ranges_49 {x : Int32} (hl : lg lv 1 = some (.int x)) (k : ev G M_Mo_ranges R E 50 lv (.int x :: rest) h cells slots) : ev G M_Mo_ranges R E 49 lv rest h cells slots := ev_iload_n d_Mo_ranges_49 rfl hl k
theorem d_Mo_ranges_50 : decode prog_10_method_21_code 50 = .ok (.iconst 5, 1) := by decide +kernel
theorem s_Mo_ranges_50  (k : ev G M_Mo_ranges R E 51 lv (.int 5 :: rest) h cells slots) : ev G M_Mo_ranges R E 50 lv rest h cells slots := ev_iconst d_Mo_ranges_50 (by decide) k
theorem d_Mo_ranges_51 : decode prog_10_method_21_code 51 = .ok (.if_icmp .ne 10, 3) := by decide +kernel
theorem s_Mo_ranges_51 {x y : Int32} (kt : ¬ x = y → ev G M_Mo_ranges R E 61 lv rest h cells slots) (kf : x = y → ev G M_Mo_ranges R E 54 lv rest h cells slots) : ev G M_Mo_ranges R E 51 lv (.int y :: .int x :: rest) h cells slots := ev_icmp_ne d_Mo_ranges_51 (by decide) kt kf
theorem d_Mo_ranges_54 : decode prog_10_method_21_code 54 = .ok (.aload_n 0, 1) := by decide +kernel
theorem s_Mo_ranges_54 {x : Nat} (hl : lg lv 0 = some (.ref x)) (k : ev G M_Mo_ranges R E 55 lv (.ref x :: rest) h cells slots) : ev G M_Mo_ranges R E 54 lv rest h cells slots := ev_aload_n d_Mo_ranges_54 rfl hl k
theorem d_Mo_ranges_55 : decode prog_10_method_21_code 55 = .ok (.iload_n 2, 1) := by decide +kernel
theorem s_Mo_ranges_55 {x : Int32} (hl : lg lv 2 = some (.int x)) (k : ev G M_Mo_ranges R E 56 lv (.int x :: rest) h cells slots) : ev G M_Mo_ranges R E 55 lv rest h cells slots := ev_iload_n d_Mo_ranges_55 rfl hl k
theorem d_Mo_ranges_56 : decode prog_10_method_21_code 56 = .ok (.iload_n 3, 1) := by decide +kernel
theorem s_Mo_ranges_56 {x : Int32} (hl : lg lv 3 = some (.int x)) (k : ev G M_Mo_ranges R E 57 lv (.int x :: rest) h cells slots) : ev G M_Mo_ranges R E 56 lv rest h cells slots := ev_iload_n d_Mo_ranges_56 rfl hl k
theorem d_Mo_ranges_57 : decode prog_10_method_21_code 57 = .ok (.invokevirtual 137, 3) := by decide +kernel
theorem s_Mo_ranges_57 {mc ms : Nat} {P : Option Value → HP → Prop} {a0 : Int32} {a1 : Int32} {b : Nat} {fs : List Value} {v0 : Value} (hm : mt G M_Mo_merge 2 mc ms (.ref b :: [.int a0, .int a1]) h P) (hb : h b = mO 7 fs) (hv0 : fs[0]? = some v0) (hR : 2 + 1 ≤ R.frames ∧ 8 + (7 + 11) + 39 * 2 ≤ R.locals) (hcs : cells + mc ≤ R.cells ∧ slots + ms ≤ R.slots) (hrest : (rest.map fun v => v.category).sum ≤ 8) (k : ∀ (r : Option Value) (h' : HP), P r h' → ev G M_Mo_ranges R E 60 lv (r.toList ++ rest) h' (cells + mc) (slots + ms)) : ev G M_Mo_ranges R E 57 lv (.int a1 :: .int a0 :: .ref b :: rest) h cells slots := ev_callV (as := [.int a0, .int a1]) (ci := 7) d_Mo_ranges_57 hm hb hv0 rfl w_824 w_826 w_44 w_70 w_827 hy_Mo_merge hR hcs hrest k
theorem d_Mo_ranges_60 : decode prog_10_method_21_code 60 = .ok (.ireturn, 1) := by decide +kernel
theorem s_Mo_ranges_60 {P : Option Value → HP → Prop} {mc ms : Nat} {v : Int32} (hP : P (some (.int v)) h) (hc : cells ≤ mc ∧ slots ≤ ms) : ev G M_Mo_ranges R (Er M_Mo_ranges P mc ms) 60 lv [.int v] h cells slots := ev_exit ⟨hc.1, hc.2, Or.inr (Or.inl ⟨v, .int, rfl, rfl, d_Mo_ranges_60, rfl, hP⟩)⟩
theorem d_Mo_ranges_61 : decode prog_10_method_21_code 61 = .ok (.iload_n 1, 1) := by decide +kernel
theorem s_Mo_ranges_61 {x : Int32} (hl : lg lv 1 = some (.int x)) (k : ev G M_Mo_ranges R E 62 lv (.int x :: rest) h cells slots) : ev G M_Mo_ranges R E 61 lv rest h cells slots := ev_iload_n d_Mo_ranges_61 rfl hl k
theorem d_Mo_ranges_62 : decode prog_10_method_21_code 62 = .ok (.iconst 4, 1) := by decide +kernel
theorem s_Mo_ranges_62  (k : ev G M_Mo_ranges R E 63 lv (.int 4 :: rest) h cells slots) : ev G M_Mo_ranges R E 62 lv rest h cells slots := ev_iconst d_Mo_ranges_62 (by decide) k
theorem d_Mo_ranges_63 : decode prog_10_method_21_code 63 = .ok (.if_icmp .ne 22, 3) := by decide +kernel
theorem s_Mo_ranges_63 {x y : Int32} (kt : ¬ x = y → ev G M_Mo_ranges R E 85 lv rest h cells slots) (kf : x = y → ev G M_Mo_ranges R E 66 lv rest h cells slots) : ev G M_Mo_ranges R E 63 lv (.int y :: .int x :: rest) h cells slots := ev_icmp_ne d_Mo_ranges_63 (by decide) kt kf
theorem d_Mo_ranges_66 : decode prog_10_method_21_code 66 = .ok (.iload 4, 2) := by decide +kernel
theorem s_Mo_ranges_66 {x : Int32} (hl : lg lv 4 = some (.int x)) (k : ev G M_Mo_ranges R E 68 lv (.int x :: rest) h cells slots) : ev G M_Mo_ranges R E 66 lv rest h cells slots := ev_iload d_Mo_ranges_66 hl k
theorem d_Mo_ranges_68 : decode prog_10_method_21_code 68 = .ok (.iconst 1, 1) := by decide +kernel
theorem s_Mo_ranges_68  (k : ev G M_Mo_ranges R E 69 lv (.int 1 :: rest) h cells slots) : ev G M_Mo_ranges R E 68 lv rest h cells slots := ev_iconst d_Mo_ranges_68 (by decide) k
theorem d_Mo_ranges_69 : decode prog_10_method_21_code 69 = .ok (.iload 6, 2) := by decide +kernel
theorem s_Mo_ranges_69 {x : Int32} (hl : lg lv 6 = some (.int x)) (k : ev G M_Mo_ranges R E 71 lv (.int x :: rest) h cells slots) : ev G M_Mo_ranges R E 69 lv rest h cells slots := ev_iload d_Mo_ranges_69 hl k
theorem d_Mo_ranges_71 : decode prog_10_method_21_code 71 = .ok (.iload 5, 2) := by decide +kernel
theorem s_Mo_ranges_71 {x : Int32} (hl : lg lv 5 = some (.int x)) (k : ev G M_Mo_ranges R E 73 lv (.int x :: rest) h cells slots) : ev G M_Mo_ranges R E 71 lv rest h cells slots := ev_iload d_Mo_ranges_71 hl k
theorem d_Mo_ranges_73 : decode prog_10_method_21_code 73 = .ok (.isub, 1) := by decide +kernel
theorem s_Mo_ranges_73 {x y : Int32} (k : ev G M_Mo_ranges R E 74 lv (.int (x - y) :: rest) h cells slots) : ev G M_Mo_ranges R E 73 lv (.int y :: .int x :: rest) h cells slots := ev_isub d_Mo_ranges_73 k
theorem d_Mo_ranges_74 : decode prog_10_method_21_code 74 = .ok (.iconst 1, 1) := by decide +kernel
theorem s_Mo_ranges_74  (k : ev G M_Mo_ranges R E 75 lv (.int 1 :: rest) h cells slots) : ev G M_Mo_ranges R E 74 lv rest h cells slots := ev_iconst d_Mo_ranges_74 (by decide) k
theorem d_Mo_ranges_75 : decode prog_10_method_21_code 75 = .ok (.isub, 1) := by decide +kernel
theorem s_Mo_ranges_75 {x y : Int32} (k : ev G M_Mo_ranges R E 76 lv (.int (x - y) :: rest) h cells slots) : ev G M_Mo_ranges R E 75 lv (.int y :: .int x :: rest) h cells slots := ev_isub d_Mo_ranges_75 k
theorem d_Mo_ranges_76 : decode prog_10_method_21_code 76 = .ok (.invokestatic 50, 3) := by decide +kernel
theorem s_Mo_ranges_76 {mc ms : Nat} {P : Option Value → HP → Prop} {a0 : Int32} {a1 : Int32} {a2 : Int32} (hm : mt G M_Mo_in 0 mc ms [.int a0, .int a1, .int a2] h P) (hR : 0 + 1 ≤ R.frames ∧ 8 + (3 + 11) + 39 * 0 ≤ R.locals) (hcs : cells + mc ≤ R.cells ∧ slots + ms ≤ R.slots) (hrest : (rest.map fun v => v.category).sum ≤ 8) (k : ∀ (r : Option Value) (h' : HP), P r h' → ev G M_Mo_ranges R E 79 lv (r.toList ++ rest) h' (cells + mc) (slots + ms)) : ev G M_Mo_ranges R E 76 lv (.int a2 :: .int a1 :: .int a0 :: rest) h cells slots := ev_callS (as := [.int a0, .int a1, .int a2]) d_Mo_ranges_76 hm w_769 w_770 w_70 w_771 hy_Mo_in hR hcs hrest k
theorem d_Mo_ranges_79 : decode prog_10_method_21_code 79 = .ok (.ifCond .ne 26, 3) := by decide +kernel
theorem s_Mo_ranges_79 {x : Int32} (kt : ¬ x = 0 → ev G M_Mo_ranges R E 105 lv rest h cells slots) (kf : x = 0 → ev G M_Mo_ranges R E 82 lv rest h cells slots) : ev G M_Mo_ranges R E 79 lv (.int x :: rest) h cells slots := ev_if_ne d_Mo_ranges_79 (by decide) kt kf
theorem d_Mo_ranges_82 : decode prog_10_method_21_code 82 = .ok (.goto 21, 3) := by decide +kernel
theorem s_Mo_ranges_82  (k : ev G M_Mo_ranges R E 103 lv rest h cells slots) : ev G M_Mo_ranges R E 82 lv rest h cells slots := ev_goto d_Mo_ranges_82 (by decide) k
theorem d_Mo_ranges_85 : decode prog_10_method_21_code 85 = .ok (.iload 7, 2) := by decide +kernel
theorem s_Mo_ranges_85 {x : Int32} (hl : lg lv 7 = some (.int x)) (k : ev G M_Mo_ranges R E 87 lv (.int x :: rest) h cells slots) : ev G M_Mo_ranges R E 85 lv rest h cells slots := ev_iload d_Mo_ranges_85 hl k
theorem d_Mo_ranges_87 : decode prog_10_method_21_code 87 = .ok (.iload 4, 2) := by decide +kernel
theorem s_Mo_ranges_87 {x : Int32} (hl : lg lv 4 = some (.int x)) (k : ev G M_Mo_ranges R E 89 lv (.int x :: rest) h cells slots) : ev G M_Mo_ranges R E 87 lv rest h cells slots := ev_iload d_Mo_ranges_87 hl k
theorem d_Mo_ranges_89 : decode prog_10_method_21_code 89 = .ok (.iand, 1) := by decide +kernel
theorem s_Mo_ranges_89 {x y : Int32} (k : ev G M_Mo_ranges R E 90 lv (.int (x &&& y) :: rest) h cells slots) : ev G M_Mo_ranges R E 89 lv (.int y :: .int x :: rest) h cells slots := ev_iand d_Mo_ranges_89 k
theorem d_Mo_ranges_90 : decode prog_10_method_21_code 90 = .ok (.ifCond .eq 13, 3) := by decide +kernel
theorem s_Mo_ranges_90 {x : Int32} (kt : x = 0 → ev G M_Mo_ranges R E 103 lv rest h cells slots) (kf : ¬ x = 0 → ev G M_Mo_ranges R E 93 lv rest h cells slots) : ev G M_Mo_ranges R E 90 lv (.int x :: rest) h cells slots := ev_if_eq d_Mo_ranges_90 (by decide) kt kf
theorem d_Mo_ranges_93 : decode prog_10_method_21_code 93 = .ok (.iload 7, 2) := by decide +kernel
theorem s_Mo_ranges_93 {x : Int32} (hl : lg lv 7 = some (.int x)) (k : ev G M_Mo_ranges R E 95 lv (.int x :: rest) h cells slots) : ev G M_Mo_ranges R E 93 lv rest h cells slots := ev_iload d_Mo_ranges_93 hl k
theorem d_Mo_ranges_95 : decode prog_10_method_21_code 95 = .ok (.iload 4, 2) := by decide +kernel
theorem s_Mo_ranges_95 {x : Int32} (hl : lg lv 4 = some (.int x)) (k : ev G M_Mo_ranges R E 97 lv (.int x :: rest) h cells slots) : ev G M_Mo_ranges R E 95 lv rest h cells slots := ev_iload d_Mo_ranges_95 hl k
theorem d_Mo_ranges_97 : decode prog_10_method_21_code 97 = .ok (.iconst (-1), 1) := by decide +kernel
theorem s_Mo_ranges_97  (k : ev G M_Mo_ranges R E 98 lv (.int (-1) :: rest) h cells slots) : ev G M_Mo_ranges R E 97 lv rest h cells slots := ev_iconst d_Mo_ranges_97 (by decide) k
theorem d_Mo_ranges_98 : decode prog_10_method_21_code 98 = .ok (.ixor, 1) := by decide +kernel
theorem s_Mo_ranges_98 {x y : Int32} (k : ev G M_Mo_ranges R E 99 lv (.int (x ^^^ y) :: rest) h cells slots) : ev G M_Mo_ranges R E 98 lv (.int y :: .int x :: rest) h cells slots := ev_ixor d_Mo_ranges_98 k
theorem d_Mo_ranges_99 : decode prog_10_method_21_code 99 = .ok (.iand, 1) := by decide +kernel
theorem s_Mo_ranges_99 {x y : Int32} (k : ev G M_Mo_ranges R E 100 lv (.int (x &&& y) :: rest) h cells slots) : ev G M_Mo_ranges R E 99 lv (.int y :: .int x :: rest) h cells slots := ev_iand d_Mo_ranges_99 k
theorem d_Mo_ranges_100 : decode prog_10_method_21_code 100 = .ok (.ifCond .ne 5, 3) := by decide +kernel
theorem s_Mo_ranges_100 {x : Int32} (kt : ¬ x = 0 → ev G M_Mo_ranges R E 105 lv rest h cells slots) (kf : x = 0 → ev G M_Mo_ranges R E 103 lv rest h cells slots) : ev G M_Mo_ranges R E 100 lv (.int x :: rest) h cells slots := ev_if_ne d_Mo_ranges_100 (by decide) kt kf
theorem d_Mo_ranges_103 : decode prog_10_method_21_code 103 = .ok (.iconst 2, 1) := by decide +kernel
theorem s_Mo_ranges_103  (k : ev G M_Mo_ranges R E 104 lv (.int 2 :: rest) h cells slots) : ev G M_Mo_ranges R E 103 lv rest h cells slots := ev_iconst d_Mo_ranges_103 (by decide) k
theorem d_Mo_ranges_104 : decode prog_10_method_21_code 104 = .ok (.ireturn, 1) := by decide +kernel
theorem s_Mo_ranges_104 {P : Option Value → HP → Prop} {mc ms : Nat} {v : Int32} (hP : P (some (.int v)) h) (hc : cells ≤ mc ∧ slots ≤ ms) : ev G M_Mo_ranges R (Er M_Mo_ranges P mc ms) 104 lv [.int v] h cells slots := ev_exit ⟨hc.1, hc.2, Or.inr (Or.inl ⟨v, .int, rfl, rfl, d_Mo_ranges_104, rfl, hP⟩)⟩
theorem d_Mo_ranges_105 : decode prog_10_method_21_code 105 = .ok (.aload_n 0, 1) := by decide +kernel
theorem s_Mo_ranges_105 {x : Nat} (hl : lg lv 0 = some (.ref x)) (k : ev G M_Mo_ranges R E 106 lv (.ref x :: rest) h cells slots) : ev G M_Mo_ranges R E 105 lv rest h cells slots := ev_aload_n d_Mo_ranges_105 rfl hl k
theorem d_Mo_ranges_106 : decode prog_10_method_21_code 106 = .ok (.iload_n 3, 1) := by decide +kernel
theorem s_Mo_ranges_106 {x : Int32} (hl : lg lv 3 = some (.int x)) (k : ev G M_Mo_ranges R E 107 lv (.int x :: rest) h cells slots) : ev G M_Mo_ranges R E 106 lv rest h cells slots := ev_iload_n d_Mo_ranges_106 rfl hl k
theorem d_Mo_ranges_107 : decode prog_10_method_21_code 107 = .ok (.invokevirtual 130, 3) := by decide +kernel
theorem s_Mo_ranges_107 {mc ms : Nat} {P : Option Value → HP → Prop} {a0 : Int32} {b : Nat} {fs : List Value} {v0 : Value} (hm : mt G M_Mo_isNumber 1 mc ms (.ref b :: [.int a0]) h P) (hb : h b = mO 7 fs) (hv0 : fs[0]? = some v0) (hR : 1 + 1 ≤ R.frames ∧ 8 + (2 + 11) + 39 * 1 ≤ R.locals) (hcs : cells + mc ≤ R.cells ∧ slots + ms ≤ R.slots) (hrest : (rest.map fun v => v.category).sum ≤ 8) (k : ∀ (r : Option Value) (h' : HP), P r h' → ev G M_Mo_ranges R E 110 lv (r.toList ++ rest) h' (cells + mc) (slots + ms)) : ev G M_Mo_ranges R E 107 lv (.int a0 :: .ref b :: rest) h cells slots := ev_callV (as := [.int a0]) (ci := 7) d_Mo_ranges_107 hm hb hv0 rfl w_800 w_802 w_38 w_70 w_803 hy_Mo_isNumber hR hcs hrest k
theorem d_Mo_ranges_110 : decode prog_10_method_21_code 110 = .ok (.ifCond .ne 5, 3) := by decide +kernel
theorem s_Mo_ranges_110 {x : Int32} (kt : ¬ x = 0 → ev G M_Mo_ranges R E 115 lv rest h cells slots) (kf : x = 0 → ev G M_Mo_ranges R E 113 lv rest h cells slots) : ev G M_Mo_ranges R E 110 lv (.int x :: rest) h cells slots := ev_if_ne d_Mo_ranges_110 (by decide) kt kf
theorem d_Mo_ranges_113 : decode prog_10_method_21_code 113 = .ok (.iconst 3, 1) := by decide +kernel
theorem s_Mo_ranges_113  (k : ev G M_Mo_ranges R E 114 lv (.int 3 :: rest) h cells slots) : ev G M_Mo_ranges R E 113 lv rest h cells slots := ev_iconst d_Mo_ranges_113 (by decide) k
theorem d_Mo_ranges_114 : decode prog_10_method_21_code 114 = .ok (.ireturn, 1) := by decide +kernel
theorem s_Mo_ranges_114 {P : Option Value → HP → Prop} {mc ms : Nat} {v : Int32} (hP : P (some (.int v)) h) (hc : cells ≤ mc ∧ slots ≤ ms) : ev G M_Mo_ranges R (Er M_Mo_ranges P mc ms) 114 lv [.int v] h cells slots := ev_exit ⟨hc.1, hc.2, Or.inr (Or.inl ⟨v, .int, rfl, rfl, d_Mo_ranges_114, rfl, hP⟩)⟩
theorem d_Mo_ranges_115 : decode prog_10_method_21_code 115 = .ok (.aload_n 0, 1) := by decide +kernel
theorem s_Mo_ranges_115 {x : Nat} (hl : lg lv 0 = some (.ref x)) (k : ev G M_Mo_ranges R E 116 lv (.ref x :: rest) h cells slots) : ev G M_Mo_ranges R E 115 lv rest h cells slots := ev_aload_n d_Mo_ranges_115 rfl hl k
theorem d_Mo_ranges_116 : decode prog_10_method_21_code 116 = .ok (.iload_n 2, 1) := by decide +kernel
theorem s_Mo_ranges_116 {x : Int32} (hl : lg lv 2 = some (.int x)) (k : ev G M_Mo_ranges R E 117 lv (.int x :: rest) h cells slots) : ev G M_Mo_ranges R E 116 lv rest h cells slots := ev_iload_n d_Mo_ranges_116 rfl hl k
theorem d_Mo_ranges_117 : decode prog_10_method_21_code 117 = .ok (.iconst 1, 1) := by decide +kernel
theorem s_Mo_ranges_117  (k : ev G M_Mo_ranges R E 118 lv (.int 1 :: rest) h cells slots) : ev G M_Mo_ranges R E 117 lv rest h cells slots := ev_iconst d_Mo_ranges_117 (by decide) k
theorem d_Mo_ranges_118 : decode prog_10_method_21_code 118 = .ok (.iload 5, 2) := by decide +kernel
theorem s_Mo_ranges_118 {x : Int32} (hl : lg lv 5 = some (.int x)) (k : ev G M_Mo_ranges R E 120 lv (.int x :: rest) h cells slots) : ev G M_Mo_ranges R E 118 lv rest h cells slots := ev_iload d_Mo_ranges_118 hl k
theorem d_Mo_ranges_120 : decode prog_10_method_21_code 120 = .ok (.iload_n 1, 1) := by decide +kernel
theorem s_Mo_ranges_120 {x : Int32} (hl : lg lv 1 = some (.int x)) (k : ev G M_Mo_ranges R E 121 lv (.int x :: rest) h cells slots) : ev G M_Mo_ranges R E 120 lv rest h cells slots := ev_iload_n d_Mo_ranges_120 rfl hl k
theorem d_Mo_ranges_121 : decode prog_10_method_21_code 121 = .ok (.iconst 4, 1) := by decide +kernel
theorem s_Mo_ranges_121  (k : ev G M_Mo_ranges R E 122 lv (.int 4 :: rest) h cells slots) : ev G M_Mo_ranges R E 121 lv rest h cells slots := ev_iconst d_Mo_ranges_121 (by decide) k
theorem d_Mo_ranges_122 : decode prog_10_method_21_code 122 = .ok (.if_icmp .ne 11, 3) := by decide +kernel
theorem s_Mo_ranges_122 {x y : Int32} (kt : ¬ x = y → ev G M_Mo_ranges R E 133 lv rest h cells slots) (kf : x = y → ev G M_Mo_ranges R E 125 lv rest h cells slots) : ev G M_Mo_ranges R E 122 lv (.int y :: .int x :: rest) h cells slots := ev_icmp_ne d_Mo_ranges_122 (by decide) kt kf
theorem d_Mo_ranges_125 : decode prog_10_method_21_code 125 = .ok (.iload 5, 2) := by decide +kernel
theorem s_Mo_ranges_125 {x : Int32} (hl : lg lv 5 = some (.int x)) (k : ev G M_Mo_ranges R E 127 lv (.int x :: rest) h cells slots) : ev G M_Mo_ranges R E 125 lv rest h cells slots := ev_iload d_Mo_ranges_125 hl k
theorem d_Mo_ranges_127 : decode prog_10_method_21_code 127 = .ok (.iload 4, 2) := by decide +kernel
theorem s_Mo_ranges_127 {x : Int32} (hl : lg lv 4 = some (.int x)) (k : ev G M_Mo_ranges R E 129 lv (.int x :: rest) h cells slots) : ev G M_Mo_ranges R E 127 lv rest h cells slots := ev_iload d_Mo_ranges_127 hl k
theorem d_Mo_ranges_129 : decode prog_10_method_21_code 129 = .ok (.iadd, 1) := by decide +kernel
theorem s_Mo_ranges_129 {x y : Int32} (k : ev G M_Mo_ranges R E 130 lv (.int (x + y) :: rest) h cells slots) : ev G M_Mo_ranges R E 129 lv (.int y :: .int x :: rest) h cells slots := ev_iadd d_Mo_ranges_129 k
theorem d_Mo_ranges_130 : decode prog_10_method_21_code 130 = .ok (.goto 5, 3) := by decide +kernel
theorem s_Mo_ranges_130  (k : ev G M_Mo_ranges R E 135 lv rest h cells slots) : ev G M_Mo_ranges R E 130 lv rest h cells slots := ev_goto d_Mo_ranges_130 (by decide) k
theorem d_Mo_ranges_133 : decode prog_10_method_21_code 133 = .ok (.iload 6, 2) := by decide +kernel
theorem s_Mo_ranges_133 {x : Int32} (hl : lg lv 6 = some (.int x)) (k : ev G M_Mo_ranges R E 135 lv (.int x :: rest) h cells slots) : ev G M_Mo_ranges R E 133 lv rest h cells slots := ev_iload d_Mo_ranges_133 hl k
theorem d_Mo_ranges_135 : decode prog_10_method_21_code 135 = .ok (.iload_n 1, 1) := by decide +kernel
theorem s_Mo_ranges_135 {x : Int32} (hl : lg lv 1 = some (.int x)) (k : ev G M_Mo_ranges R E 136 lv (.int x :: rest) h cells slots) : ev G M_Mo_ranges R E 135 lv rest h cells slots := ev_iload_n d_Mo_ranges_135 rfl hl k
theorem d_Mo_ranges_136 : decode prog_10_method_21_code 136 = .ok (.iconst 4, 1) := by decide +kernel
theorem s_Mo_ranges_136  (k : ev G M_Mo_ranges R E 137 lv (.int 4 :: rest) h cells slots) : ev G M_Mo_ranges R E 136 lv rest h cells slots := ev_iconst d_Mo_ranges_136 (by decide) k
theorem d_Mo_ranges_137 : decode prog_10_method_21_code 137 = .ok (.if_icmp .ne 8, 3) := by decide +kernel
theorem s_Mo_ranges_137 {x y : Int32} (kt : ¬ x = y → ev G M_Mo_ranges R E 145 lv rest h cells slots) (kf : x = y → ev G M_Mo_ranges R E 140 lv rest h cells slots) : ev G M_Mo_ranges R E 137 lv (.int y :: .int x :: rest) h cells slots := ev_icmp_ne d_Mo_ranges_137 (by decide) kt kf
theorem d_Mo_ranges_140 : decode prog_10_method_21_code 140 = .ok (.iload 7, 2) := by decide +kernel
theorem s_Mo_ranges_140 {x : Int32} (hl : lg lv 7 = some (.int x)) (k : ev G M_Mo_ranges R E 142 lv (.int x :: rest) h cells slots) : ev G M_Mo_ranges R E 140 lv rest h cells slots := ev_iload d_Mo_ranges_140 hl k
theorem d_Mo_ranges_142 : decode prog_10_method_21_code 142 = .ok (.goto 8, 3) := by decide +kernel
theorem s_Mo_ranges_142  (k : ev G M_Mo_ranges R E 150 lv rest h cells slots) : ev G M_Mo_ranges R E 142 lv rest h cells slots := ev_goto d_Mo_ranges_142 (by decide) k
theorem d_Mo_ranges_145 : decode prog_10_method_21_code 145 = .ok (.iload 7, 2) := by decide +kernel
theorem s_Mo_ranges_145 {x : Int32} (hl : lg lv 7 = some (.int x)) (k : ev G M_Mo_ranges R E 147 lv (.int x :: rest) h cells slots) : ev G M_Mo_ranges R E 145 lv rest h cells slots := ev_iload d_Mo_ranges_145 hl k
theorem d_Mo_ranges_147 : decode prog_10_method_21_code 147 = .ok (.iload 4, 2) := by decide +kernel
theorem s_Mo_ranges_147 {x : Int32} (hl : lg lv 4 = some (.int x)) (k : ev G M_Mo_ranges R E 149 lv (.int x :: rest) h cells slots) : ev G M_Mo_ranges R E 147 lv rest h cells slots := ev_iload d_Mo_ranges_147 hl k
theorem d_Mo_ranges_149 : decode prog_10_method_21_code 149 = .ok (.iand, 1) := by decide +kernel
theorem s_Mo_ranges_149 {x y : Int32} (k : ev G M_Mo_ranges R E 150 lv (.int (x &&& y) :: rest) h cells slots) : ev G M_Mo_ranges R E 149 lv (.int y :: .int x :: rest) h cells slots := ev_iand d_Mo_ranges_149 k
theorem d_Mo_ranges_150 : decode prog_10_method_21_code 150 = .ok (.iconst 0, 1) := by decide +kernel
theorem s_Mo_ranges_150  (k : ev G M_Mo_ranges R E 151 lv (.int 0 :: rest) h cells slots) : ev G M_Mo_ranges R E 150 lv rest h cells slots := ev_iconst d_Mo_ranges_150 (by decide) k
theorem d_Mo_ranges_151 : decode prog_10_method_21_code 151 = .ok (.invokevirtual 58, 3) := by decide +kernel
theorem s_Mo_ranges_151 {mc ms : Nat} {P : Option Value → HP → Prop} {a0 : Int32} {a1 : Int32} {a2 : Int32} {a3 : Int32} {a4 : Int32} {a5 : Int32} {b : Nat} {fs : List Value} {v0 : Value} (hm : mt G M_Mo_put 0 mc ms (.ref b :: [.int a0, .int a1, .int a2, .int a3, .int a4, .int a5]) h P) (hb : h b = mO 7 fs) (hv0 : fs[0]? = some v0) (hR : 0 + 1 ≤ R.frames ∧ 8 + (7 + 11) + 39 * 0 ≤ R.locals) (hcs : cells + mc ≤ R.cells ∧ slots + ms ≤ R.slots) (hrest : (rest.map fun v => v.category).sum ≤ 8) (k : ∀ (r : Option Value) (h' : HP), P r h' → ev G M_Mo_ranges R E 154 lv (r.toList ++ rest) h' (cells + mc) (slots + ms)) : ev G M_Mo_ranges R E 151 lv (.int a5 :: .int a4 :: .int a3 :: .int a2 :: .int a1 :: .int a0 :: .ref b :: rest) h cells slots := ev_callV (as := [.int a0, .int a1, .int a2, .int a3, .int a4, .int a5]) (ci := 7) d_Mo_ranges_151 hm hb hv0 rfl w_784 w_786 w_35 w_70 w_787 hy_Mo_put hR hcs hrest k
theorem d_Mo_ranges_154 : decode prog_10_method_21_code 154 = .ok (.aload_n 0, 1) := by decide +kernel
theorem s_Mo_ranges_154 {x : Nat} (hl : lg lv 0 = some (.ref x)) (k : ev G M_Mo_ranges R E 155 lv (.ref x :: rest) h cells slots) : ev G M_Mo_ranges R E 154 lv rest h cells slots := ev_aload_n d_Mo_ranges_154 rfl hl k
theorem d_Mo_ranges_155 : decode prog_10_method_21_code 155 = .ok (.iload_n 3, 1) := by decide +kernel
theorem s_Mo_ranges_155 {x : Int32} (hl : lg lv 3 = some (.int x)) (k : ev G M_Mo_ranges R E 156 lv (.int x :: rest) h cells slots) : ev G M_Mo_ranges R E 155 lv rest h cells slots := ev_iload_n d_Mo_ranges_155 rfl hl k
theorem d_Mo_ranges_156 : decode prog_10_method_21_code 156 = .ok (.iconst 1, 1) := by decide +kernel
theorem s_Mo_ranges_156  (k : ev G M_Mo_ranges R E 157 lv (.int 1 :: rest) h cells slots) : ev G M_Mo_ranges R E 156 lv rest h cells slots := ev_iconst d_Mo_ranges_156 (by decide) k
theorem d_Mo_ranges_157 : decode prog_10_method_21_code 157 = .ok (.iload_n 1, 1) := by decide +kernel
theorem s_Mo_ranges_157 {x : Int32} (hl : lg lv 1 = some (.int x)) (k : ev G M_Mo_ranges R E 158 lv (.int x :: rest) h cells slots) : ev G M_Mo_ranges R E 157 lv rest h cells slots := ev_iload_n d_Mo_ranges_157 rfl hl k
theorem d_Mo_ranges_158 : decode prog_10_method_21_code 158 = .ok (.iconst 4, 1) := by decide +kernel
theorem s_Mo_ranges_158  (k : ev G M_Mo_ranges R E 159 lv (.int 4 :: rest) h cells slots) : ev G M_Mo_ranges R E 158 lv rest h cells slots := ev_iconst d_Mo_ranges_158 (by decide) k
theorem d_Mo_ranges_159 : decode prog_10_method_21_code 159 = .ok (.if_icmp .ne 11, 3) := by decide +kernel
theorem s_Mo_ranges_159 {x y : Int32} (kt : ¬ x = y → ev G M_Mo_ranges R E 170 lv rest h cells slots) (kf : x = y → ev G M_Mo_ranges R E 162 lv rest h cells slots) : ev G M_Mo_ranges R E 159 lv (.int y :: .int x :: rest) h cells slots := ev_icmp_ne d_Mo_ranges_159 (by decide) kt kf
theorem d_Mo_ranges_162 : decode prog_10_method_21_code 162 = .ok (.iload 5, 2) := by decide +kernel
theorem s_Mo_ranges_162 {x : Int32} (hl : lg lv 5 = some (.int x)) (k : ev G M_Mo_ranges R E 164 lv (.int x :: rest) h cells slots) : ev G M_Mo_ranges R E 162 lv rest h cells slots := ev_iload d_Mo_ranges_162 hl k
theorem d_Mo_ranges_164 : decode prog_10_method_21_code 164 = .ok (.iload 4, 2) := by decide +kernel
theorem s_Mo_ranges_164 {x : Int32} (hl : lg lv 4 = some (.int x)) (k : ev G M_Mo_ranges R E 166 lv (.int x :: rest) h cells slots) : ev G M_Mo_ranges R E 164 lv rest h cells slots := ev_iload d_Mo_ranges_164 hl k
theorem d_Mo_ranges_166 : decode prog_10_method_21_code 166 = .ok (.iadd, 1) := by decide +kernel
theorem s_Mo_ranges_166 {x y : Int32} (k : ev G M_Mo_ranges R E 167 lv (.int (x + y) :: rest) h cells slots) : ev G M_Mo_ranges R E 166 lv (.int y :: .int x :: rest) h cells slots := ev_iadd d_Mo_ranges_166 k
theorem d_Mo_ranges_167 : decode prog_10_method_21_code 167 = .ok (.goto 5, 3) := by decide +kernel
theorem s_Mo_ranges_167  (k : ev G M_Mo_ranges R E 172 lv rest h cells slots) : ev G M_Mo_ranges R E 167 lv rest h cells slots := ev_goto d_Mo_ranges_167 (by decide) k
theorem d_Mo_ranges_170 : decode prog_10_method_21_code 170 = .ok (.iload 5, 2) := by decide +kernel
theorem s_Mo_ranges_170 {x : Int32} (hl : lg lv 5 = some (.int x)) (k : ev G M_Mo_ranges R E 172 lv (.int x :: rest) h cells slots) : ev G M_Mo_ranges R E 170 lv rest h cells slots := ev_iload d_Mo_ranges_170 hl k
theorem d_Mo_ranges_172 : decode prog_10_method_21_code 172 = .ok (.iload 6, 2) := by decide +kernel
theorem s_Mo_ranges_172 {x : Int32} (hl : lg lv 6 = some (.int x)) (k : ev G M_Mo_ranges R E 174 lv (.int x :: rest) h cells slots) : ev G M_Mo_ranges R E 172 lv rest h cells slots := ev_iload d_Mo_ranges_172 hl k
theorem d_Mo_ranges_174 : decode prog_10_method_21_code 174 = .ok (.iload_n 1, 1) := by decide +kernel
theorem s_Mo_ranges_174 {x : Int32} (hl : lg lv 1 = some (.int x)) (k : ev G M_Mo_ranges R E 175 lv (.int x :: rest) h cells slots) : ev G M_Mo_ranges R E 174 lv rest h cells slots := ev_iload_n d_Mo_ranges_174 rfl hl k
theorem d_Mo_ranges_175 : decode prog_10_method_21_code 175 = .ok (.iconst 4, 1) := by decide +kernel
theorem s_Mo_ranges_175  (k : ev G M_Mo_ranges R E 176 lv (.int 4 :: rest) h cells slots) : ev G M_Mo_ranges R E 175 lv rest h cells slots := ev_iconst d_Mo_ranges_175 (by decide) k
theorem d_Mo_ranges_176 : decode prog_10_method_21_code 176 = .ok (.if_icmp .ne 8, 3) := by decide +kernel
theorem s_Mo_ranges_176 {x y : Int32} (kt : ¬ x = y → ev G M_Mo_ranges R E 184 lv rest h cells slots) (kf : x = y → ev G M_Mo_ranges R E 179 lv rest h cells slots) : ev G M_Mo_ranges R E 176 lv (.int y :: .int x :: rest) h cells slots := ev_icmp_ne d_Mo_ranges_176 (by decide) kt kf
theorem d_Mo_ranges_179 : decode prog_10_method_21_code 179 = .ok (.iload 7, 2) := by decide +kernel
theorem s_Mo_ranges_179 {x : Int32} (hl : lg lv 7 = some (.int x)) (k : ev G M_Mo_ranges R E 181 lv (.int x :: rest) h cells slots) : ev G M_Mo_ranges R E 179 lv rest h cells slots := ev_iload d_Mo_ranges_179 hl k
theorem d_Mo_ranges_181 : decode prog_10_method_21_code 181 = .ok (.goto 10, 3) := by decide +kernel
theorem s_Mo_ranges_181  (k : ev G M_Mo_ranges R E 191 lv rest h cells slots) : ev G M_Mo_ranges R E 181 lv rest h cells slots := ev_goto d_Mo_ranges_181 (by decide) k
theorem d_Mo_ranges_184 : decode prog_10_method_21_code 184 = .ok (.iload 7, 2) := by decide +kernel
theorem s_Mo_ranges_184 {x : Int32} (hl : lg lv 7 = some (.int x)) (k : ev G M_Mo_ranges R E 186 lv (.int x :: rest) h cells slots) : ev G M_Mo_ranges R E 184 lv rest h cells slots := ev_iload d_Mo_ranges_184 hl k
theorem d_Mo_ranges_186 : decode prog_10_method_21_code 186 = .ok (.iload 4, 2) := by decide +kernel
theorem s_Mo_ranges_186 {x : Int32} (hl : lg lv 4 = some (.int x)) (k : ev G M_Mo_ranges R E 188 lv (.int x :: rest) h cells slots) : ev G M_Mo_ranges R E 186 lv rest h cells slots := ev_iload d_Mo_ranges_186 hl k
theorem d_Mo_ranges_188 : decode prog_10_method_21_code 188 = .ok (.iconst (-1), 1) := by decide +kernel
theorem s_Mo_ranges_188  (k : ev G M_Mo_ranges R E 189 lv (.int (-1) :: rest) h cells slots) : ev G M_Mo_ranges R E 188 lv rest h cells slots := ev_iconst d_Mo_ranges_188 (by decide) k
theorem d_Mo_ranges_189 : decode prog_10_method_21_code 189 = .ok (.ixor, 1) := by decide +kernel
theorem s_Mo_ranges_189 {x y : Int32} (k : ev G M_Mo_ranges R E 190 lv (.int (x ^^^ y) :: rest) h cells slots) : ev G M_Mo_ranges R E 189 lv (.int y :: .int x :: rest) h cells slots := ev_ixor d_Mo_ranges_189 k
theorem d_Mo_ranges_190 : decode prog_10_method_21_code 190 = .ok (.iand, 1) := by decide +kernel
theorem s_Mo_ranges_190 {x y : Int32} (k : ev G M_Mo_ranges R E 191 lv (.int (x &&& y) :: rest) h cells slots) : ev G M_Mo_ranges R E 190 lv (.int y :: .int x :: rest) h cells slots := ev_iand d_Mo_ranges_190 k
theorem d_Mo_ranges_191 : decode prog_10_method_21_code 191 = .ok (.iconst 0, 1) := by decide +kernel
theorem s_Mo_ranges_191  (k : ev G M_Mo_ranges R E 192 lv (.int 0 :: rest) h cells slots) : ev G M_Mo_ranges R E 191 lv rest h cells slots := ev_iconst d_Mo_ranges_191 (by decide) k
theorem d_Mo_ranges_192 : decode prog_10_method_21_code 192 = .ok (.invokevirtual 58, 3) := by decide +kernel
theorem s_Mo_ranges_192 {mc ms : Nat} {P : Option Value → HP → Prop} {a0 : Int32} {a1 : Int32} {a2 : Int32} {a3 : Int32} {a4 : Int32} {a5 : Int32} {b : Nat} {fs : List Value} {v0 : Value} (hm : mt G M_Mo_put 0 mc ms (.ref b :: [.int a0, .int a1, .int a2, .int a3, .int a4, .int a5]) h P) (hb : h b = mO 7 fs) (hv0 : fs[0]? = some v0) (hR : 0 + 1 ≤ R.frames ∧ 8 + (7 + 11) + 39 * 0 ≤ R.locals) (hcs : cells + mc ≤ R.cells ∧ slots + ms ≤ R.slots) (hrest : (rest.map fun v => v.category).sum ≤ 8) (k : ∀ (r : Option Value) (h' : HP), P r h' → ev G M_Mo_ranges R E 195 lv (r.toList ++ rest) h' (cells + mc) (slots + ms)) : ev G M_Mo_ranges R E 192 lv (.int a5 :: .int a4 :: .int a3 :: .int a2 :: .int a1 :: .int a0 :: .ref b :: rest) h cells slots := ev_callV (as := [.int a0, .int a1, .int a2, .int a3, .int a4, .int a5]) (ci := 7) d_Mo_ranges_192 hm hb hv0 rfl w_784 w_786 w_35 w_70 w_787 hy_Mo_put hR hcs hrest k
theorem d_Mo_ranges_195 : decode prog_10_method_21_code 195 = .ok (.iconst 0, 1) := by decide +kernel
theorem s_Mo_ranges_195  (k : ev G M_Mo_ranges R E 196 lv (.int 0 :: rest) h cells slots) : ev G M_Mo_ranges R E 195 lv rest h cells slots := ev_iconst d_Mo_ranges_195 (by decide) k
theorem d_Mo_ranges_196 : decode prog_10_method_21_code 196 = .ok (.ireturn, 1) := by decide +kernel
theorem s_Mo_ranges_196 {P : Option Value → HP → Prop} {mc ms : Nat} {v : Int32} (hP : P (some (.int v)) h) (hc : cells ≤ mc ∧ slots ≤ ms) : ev G M_Mo_ranges R (Er M_Mo_ranges P mc ms) 196 lv [.int v] h cells slots := ev_exit ⟨hc.1, hc.2, Or.inr (Or.inl ⟨v, .int, rfl, rfl, d_Mo_ranges_196, rfl, hP⟩)⟩
abbrev M_Mo_lowestCell : MW := (⟨"UseOnceMachineModel", "lowestCell", "()I"⟩, prog_10_method_17_code, 3, (some .int))
theorem hy_Mo_lowestCell : M_Mo_lowestCell.1.cls ≠ "java/lang/invoke/MethodHandle" ∧ M_Mo_lowestCell.1.cls ≠ "java/lang/invoke/VarHandle" ∧ (parseMethodDescriptor M_Mo_lowestCell.1.desc).map (fun d => d.parameters.length) = some 0 := by decide +kernel
theorem d_Mo_lowestCell_0 : decode prog_10_method_17_code 0 = .ok (.iconst (-1), 1) := by decide +kernel
theorem s_Mo_lowestCell_0  (k : ev G M_Mo_lowestCell R E 1 lv (.int (-1) :: rest) h cells slots) : ev G M_Mo_lowestCell R E 0 lv rest h cells slots := ev_iconst d_Mo_lowestCell_0 (by decide) k
theorem d_Mo_lowestCell_1 : decode prog_10_method_17_code 1 = .ok (.istore_n 1, 1) := by decide +kernel
theorem s_Mo_lowestCell_1 {x : Int32} (k : ev G M_Mo_lowestCell R E 2 (ls1 lv 1 (.int x)) rest h cells slots) : ev G M_Mo_lowestCell R E 1 lv (.int x :: rest) h cells slots := ev_istore_n d_Mo_lowestCell_1 rfl (by decide) k
theorem d_Mo_lowestCell_2 : decode prog_10_method_17_code 2 = .ok (.iconst 5, 1) := by decide +kernel
theorem s_Mo_lowestCell_2  (k : ev G M_Mo_lowestCell R E 3 lv (.int 5 :: rest) h cells slots) : ev G M_Mo_lowestCell R E 2 lv rest h cells slots := ev_iconst d_Mo_lowestCell_2 (by decide) k
theorem d_Mo_lowestCell_3 : decode prog_10_method_17_code 3 = .ok (.istore_n 2, 1) := by decide +kernel
theorem s_Mo_lowestCell_3 {x : Int32} (k : ev G M_Mo_lowestCell R E 4 (ls1 lv 2 (.int x)) rest h cells slots) : ev G M_Mo_lowestCell R E 3 lv (.int x :: rest) h cells slots := ev_istore_n d_Mo_lowestCell_3 rfl (by decide) k
theorem d_Mo_lowestCell_4 : decode prog_10_method_17_code 4 = .ok (.iload_n 2, 1) := by decide +kernel
theorem s_Mo_lowestCell_4 {x : Int32} (hl : lg lv 2 = some (.int x)) (k : ev G M_Mo_lowestCell R E 5 lv (.int x :: rest) h cells slots) : ev G M_Mo_lowestCell R E 4 lv rest h cells slots := ev_iload_n d_Mo_lowestCell_4 rfl hl k
theorem d_Mo_lowestCell_5 : decode prog_10_method_17_code 5 = .ok (.ifCond .lt 24, 3) := by decide +kernel
theorem s_Mo_lowestCell_5 {x : Int32} (kt : x < 0 → ev G M_Mo_lowestCell R E 29 lv rest h cells slots) (kf : ¬ x < 0 → ev G M_Mo_lowestCell R E 8 lv rest h cells slots) : ev G M_Mo_lowestCell R E 5 lv (.int x :: rest) h cells slots := ev_if_lt d_Mo_lowestCell_5 (by decide) kt kf
theorem d_Mo_lowestCell_8 : decode prog_10_method_17_code 8 = .ok (.aload_n 0, 1) := by decide +kernel
theorem s_Mo_lowestCell_8 {x : Nat} (hl : lg lv 0 = some (.ref x)) (k : ev G M_Mo_lowestCell R E 9 lv (.ref x :: rest) h cells slots) : ev G M_Mo_lowestCell R E 8 lv rest h cells slots := ev_aload_n d_Mo_lowestCell_8 rfl hl k
theorem d_Mo_lowestCell_9 : decode prog_10_method_17_code 9 = .ok (.getfield 19, 3) := by decide +kernel
theorem s_Mo_lowestCell_9 {a : Nat} {fs : List Value} {v : Value} (hh : h a = mO 7 fs) (hv : fs[4]? = some v) (k : ev G M_Mo_lowestCell R E 12 lv (v :: rest) h cells slots) : ev G M_Mo_lowestCell R E 9 lv (.ref a :: rest) h cells slots := ev_getfield (ci := 7) (kf := 4) d_Mo_lowestCell_9 rfl ck7 (by decide) w_708 hh hv k
theorem d_Mo_lowestCell_12 : decode prog_10_method_17_code 12 = .ok (.iload_n 2, 1) := by decide +kernel
theorem s_Mo_lowestCell_12 {x : Int32} (hl : lg lv 2 = some (.int x)) (k : ev G M_Mo_lowestCell R E 13 lv (.int x :: rest) h cells slots) : ev G M_Mo_lowestCell R E 12 lv rest h cells slots := ev_iload_n d_Mo_lowestCell_12 rfl hl k
theorem d_Mo_lowestCell_13 : decode prog_10_method_17_code 13 = .ok (.iaload, 1) := by decide +kernel
theorem s_Mo_lowestCell_13 {a n : Nat} {f : Nat → Int32} {i : Int32} (hh : h a = mI 0 n f) (hin : vp_in i n) (k : ev G M_Mo_lowestCell R E 14 lv (.int (f i.toNatClampNeg) :: rest) h cells slots) : ev G M_Mo_lowestCell R E 13 lv (.int i :: .ref a :: rest) h cells slots := ev_iaload d_Mo_lowestCell_13 rfl hh hin k
theorem d_Mo_lowestCell_14 : decode prog_10_method_17_code 14 = .ok (.ifCond .ne 7, 3) := by decide +kernel
theorem s_Mo_lowestCell_14 {x : Int32} (kt : ¬ x = 0 → ev G M_Mo_lowestCell R E 21 lv rest h cells slots) (kf : x = 0 → ev G M_Mo_lowestCell R E 17 lv rest h cells slots) : ev G M_Mo_lowestCell R E 14 lv (.int x :: rest) h cells slots := ev_if_ne d_Mo_lowestCell_14 (by decide) kt kf
theorem d_Mo_lowestCell_17 : decode prog_10_method_17_code 17 = .ok (.iload_n 2, 1) := by decide +kernel
theorem s_Mo_lowestCell_17 {x : Int32} (hl : lg lv 2 = some (.int x)) (k : ev G M_Mo_lowestCell R E 18 lv (.int x :: rest) h cells slots) : ev G M_Mo_lowestCell R E 17 lv rest h cells slots := ev_iload_n d_Mo_lowestCell_17 rfl hl k
theorem d_Mo_lowestCell_18 : decode prog_10_method_17_code 18 = .ok (.goto 4, 3) := by decide +kernel
theorem s_Mo_lowestCell_18  (k : ev G M_Mo_lowestCell R E 22 lv rest h cells slots) : ev G M_Mo_lowestCell R E 18 lv rest h cells slots := ev_goto d_Mo_lowestCell_18 (by decide) k
theorem d_Mo_lowestCell_21 : decode prog_10_method_17_code 21 = .ok (.iload_n 1, 1) := by decide +kernel
theorem s_Mo_lowestCell_21 {x : Int32} (hl : lg lv 1 = some (.int x)) (k : ev G M_Mo_lowestCell R E 22 lv (.int x :: rest) h cells slots) : ev G M_Mo_lowestCell R E 21 lv rest h cells slots := ev_iload_n d_Mo_lowestCell_21 rfl hl k
theorem d_Mo_lowestCell_22 : decode prog_10_method_17_code 22 = .ok (.istore_n 1, 1) := by decide +kernel
theorem s_Mo_lowestCell_22 {x : Int32} (k : ev G M_Mo_lowestCell R E 23 (ls1 lv 1 (.int x)) rest h cells slots) : ev G M_Mo_lowestCell R E 22 lv (.int x :: rest) h cells slots := ev_istore_n d_Mo_lowestCell_22 rfl (by decide) k
theorem d_Mo_lowestCell_23 : decode prog_10_method_17_code 23 = .ok (.iinc 2 (-1), 3) := by decide +kernel
theorem s_Mo_lowestCell_23 {x : Int32} (hl : lg lv 2 = some (.int x)) (k : ev G M_Mo_lowestCell R E 26 (ls1 lv 2 (.int (x + (-1)))) rest h cells slots) : ev G M_Mo_lowestCell R E 23 lv rest h cells slots := ev_iinc d_Mo_lowestCell_23 (by decide) hl (by decide) k
theorem d_Mo_lowestCell_26 : decode prog_10_method_17_code 26 = .ok (.goto (-22), 3) := by decide +kernel
theorem s_Mo_lowestCell_26  (k : ev G M_Mo_lowestCell R E 4 lv rest h cells slots) : ev G M_Mo_lowestCell R E 26 lv rest h cells slots := ev_goto d_Mo_lowestCell_26 (by decide) k
theorem d_Mo_lowestCell_29 : decode prog_10_method_17_code 29 = .ok (.iload_n 1, 1) := by decide +kernel
theorem s_Mo_lowestCell_29 {x : Int32} (hl : lg lv 1 = some (.int x)) (k : ev G M_Mo_lowestCell R E 30 lv (.int x :: rest) h cells slots) : ev G M_Mo_lowestCell R E 29 lv rest h cells slots := ev_iload_n d_Mo_lowestCell_29 rfl hl k
theorem d_Mo_lowestCell_30 : decode prog_10_method_17_code 30 = .ok (.ireturn, 1) := by decide +kernel
theorem s_Mo_lowestCell_30 {P : Option Value → HP → Prop} {mc ms : Nat} {v : Int32} (hP : P (some (.int v)) h) (hc : cells ≤ mc ∧ slots ≤ ms) : ev G M_Mo_lowestCell R (Er M_Mo_lowestCell P mc ms) 30 lv [.int v] h cells slots := ev_exit ⟨hc.1, hc.2, Or.inr (Or.inl ⟨v, .int, rfl, rfl, d_Mo_lowestCell_30, rfl, hP⟩)⟩
abbrev M_Mo_cells : MW := (⟨"UseOnceMachineModel", "cells", "(II)I"⟩, prog_10_method_23_code, 6, (some .int))
theorem hy_Mo_cells : M_Mo_cells.1.cls ≠ "java/lang/invoke/MethodHandle" ∧ M_Mo_cells.1.cls ≠ "java/lang/invoke/VarHandle" ∧ (parseMethodDescriptor M_Mo_cells.1.desc).map (fun d => d.parameters.length) = some 2 := by decide +kernel
theorem d_Mo_cells_0 : decode prog_10_method_23_code 0 = .ok (.aload_n 0, 1) := by decide +kernel
theorem s_Mo_cells_0 {x : Nat} (hl : lg lv 0 = some (.ref x)) (k : ev G M_Mo_cells R E 1 lv (.ref x :: rest) h cells slots) : ev G M_Mo_cells R E 0 lv rest h cells slots := ev_aload_n d_Mo_cells_0 rfl hl k
theorem d_Mo_cells_1 : decode prog_10_method_23_code 1 = .ok (.iload_n 2, 1) := by decide +kernel
theorem s_Mo_cells_1 {x : Int32} (hl : lg lv 2 = some (.int x)) (k : ev G M_Mo_cells R E 2 lv (.int x :: rest) h cells slots) : ev G M_Mo_cells R E 1 lv rest h cells slots := ev_iload_n d_Mo_cells_1 rfl hl k
theorem d_Mo_cells_2 : decode prog_10_method_23_code 2 = .ok (.invokevirtual 62, 3) := by decide +kernel
theorem s_Mo_cells_2 {mc ms : Nat} {P : Option Value → HP → Prop} {a0 : Int32} {b : Nat} {fs : List Value} {v0 : Value} (hm : mt G M_Mo_what 0 mc ms (.ref b :: [.int a0]) h P) (hb : h b = mO 7 fs) (hv0 : fs[0]? = some v0) (hR : 0 + 1 ≤ R.frames ∧ 8 + (2 + 11) + 39 * 0 ≤ R.locals) (hcs : cells + mc ≤ R.cells ∧ slots + ms ≤ R.slots) (hrest : (rest.map fun v => v.category).sum ≤ 8) (k : ∀ (r : Option Value) (h' : HP), P r h' → ev G M_Mo_cells R E 5 lv (r.toList ++ rest) h' (cells + mc) (slots + ms)) : ev G M_Mo_cells R E 2 lv (.int a0 :: .ref b :: rest) h cells slots := ev_callV (as := [.int a0]) (ci := 7) d_Mo_cells_2 hm hb hv0 rfl w_804 w_806 w_39 w_70 w_807 hy_Mo_what hR hcs hrest k
theorem d_Mo_cells_5 : decode prog_10_method_23_code 5 = .ok (.iload_n 1, 1) := by decide +kernel
theorem s_Mo_cells_5 {x : Int32} (hl : lg lv 1 = some (.int x)) (k : ev G M_Mo_cells R E 6 lv (.int x :: rest) h cells slots) : ev G M_Mo_cells R E 5 lv rest h cells slots := ev_iload_n d_Mo_cells_5 rfl hl k
theorem d_Mo_cells_6 : decode prog_10_method_23_code 6 = .ok (.bipush 7, 2) := by decide +kernel
theorem s_Mo_cells_6  (k : ev G M_Mo_cells R E 8 lv (.int 7 :: rest) h cells slots) : ev G M_Mo_cells R E 6 lv rest h cells slots := ev_bipush d_Mo_cells_6 (by decide) k
theorem d_Mo_cells_8 : decode prog_10_method_23_code 8 = .ok (.if_icmp .ne 7, 3) := by decide +kernel
theorem s_Mo_cells_8 {x y : Int32} (kt : ¬ x = y → ev G M_Mo_cells R E 15 lv rest h cells slots) (kf : x = y → ev G M_Mo_cells R E 11 lv rest h cells slots) : ev G M_Mo_cells R E 8 lv (.int y :: .int x :: rest) h cells slots := ev_icmp_ne d_Mo_cells_8 (by decide) kt kf
theorem d_Mo_cells_11 : decode prog_10_method_23_code 11 = .ok (.iconst 1, 1) := by decide +kernel
theorem s_Mo_cells_11  (k : ev G M_Mo_cells R E 12 lv (.int 1 :: rest) h cells slots) : ev G M_Mo_cells R E 11 lv rest h cells slots := ev_iconst d_Mo_cells_11 (by decide) k
theorem d_Mo_cells_12 : decode prog_10_method_23_code 12 = .ok (.goto 4, 3) := by decide +kernel
theorem s_Mo_cells_12  (k : ev G M_Mo_cells R E 16 lv rest h cells slots) : ev G M_Mo_cells R E 12 lv rest h cells slots := ev_goto d_Mo_cells_12 (by decide) k
theorem d_Mo_cells_15 : decode prog_10_method_23_code 15 = .ok (.iconst 2, 1) := by decide +kernel
theorem s_Mo_cells_15  (k : ev G M_Mo_cells R E 16 lv (.int 2 :: rest) h cells slots) : ev G M_Mo_cells R E 15 lv rest h cells slots := ev_iconst d_Mo_cells_15 (by decide) k
theorem d_Mo_cells_16 : decode prog_10_method_23_code 16 = .ok (.if_icmp .eq 5, 3) := by decide +kernel
theorem s_Mo_cells_16 {x y : Int32} (kt : x = y → ev G M_Mo_cells R E 21 lv rest h cells slots) (kf : ¬ x = y → ev G M_Mo_cells R E 19 lv rest h cells slots) : ev G M_Mo_cells R E 16 lv (.int y :: .int x :: rest) h cells slots := ev_icmp_eq d_Mo_cells_16 (by decide) kt kf
theorem d_Mo_cells_19 : decode prog_10_method_23_code 19 = .ok (.iconst 1, 1) := by decide +kernel
theorem s_Mo_cells_19  (k : ev G M_Mo_cells R E 20 lv (.int 1 :: rest) h cells slots) : ev G M_Mo_cells R E 19 lv rest h cells slots := ev_iconst d_Mo_cells_19 (by decide) k
theorem d_Mo_cells_20 : decode prog_10_method_23_code 20 = .ok (.ireturn, 1) := by decide +kernel
theorem s_Mo_cells_20 {P : Option Value → HP → Prop} {mc ms : Nat} {v : Int32} (hP : P (some (.int v)) h) (hc : cells ≤ mc ∧ slots ≤ ms) : ev G M_Mo_cells R (Er M_Mo_cells P mc ms) 20 lv [.int v] h cells slots := ev_exit ⟨hc.1, hc.2, Or.inr (Or.inl ⟨v, .int, rfl, rfl, d_Mo_cells_20, rfl, hP⟩)⟩
theorem d_Mo_cells_21 : decode prog_10_method_23_code 21 = .ok (.iload_n 1, 1) := by decide +kernel
theorem s_Mo_cells_21 {x : Int32} (hl : lg lv 1 = some (.int x)) (k : ev G M_Mo_cells R E 22 lv (.int x :: rest) h cells slots) : ev G M_Mo_cells R E 21 lv rest h cells slots := ev_iload_n d_Mo_cells_21 rfl hl k
theorem d_Mo_cells_22 : decode prog_10_method_23_code 22 = .ok (.bipush 7, 2) := by decide +kernel
theorem s_Mo_cells_22  (k : ev G M_Mo_cells R E 24 lv (.int 7 :: rest) h cells slots) : ev G M_Mo_cells R E 22 lv rest h cells slots := ev_bipush d_Mo_cells_22 (by decide) k
theorem d_Mo_cells_24 : decode prog_10_method_23_code 24 = .ok (.if_icmp .ne 10, 3) := by decide +kernel
theorem s_Mo_cells_24 {x y : Int32} (kt : ¬ x = y → ev G M_Mo_cells R E 34 lv rest h cells slots) (kf : x = y → ev G M_Mo_cells R E 27 lv rest h cells slots) : ev G M_Mo_cells R E 24 lv (.int y :: .int x :: rest) h cells slots := ev_icmp_ne d_Mo_cells_24 (by decide) kt kf
theorem d_Mo_cells_27 : decode prog_10_method_23_code 27 = .ok (.aload_n 0, 1) := by decide +kernel
theorem s_Mo_cells_27 {x : Nat} (hl : lg lv 0 = some (.ref x)) (k : ev G M_Mo_cells R E 28 lv (.ref x :: rest) h cells slots) : ev G M_Mo_cells R E 27 lv rest h cells slots := ev_aload_n d_Mo_cells_27 rfl hl k
theorem d_Mo_cells_28 : decode prog_10_method_23_code 28 = .ok (.invokevirtual 140, 3) := by decide +kernel
theorem s_Mo_cells_28 {mc ms : Nat} {P : Option Value → HP → Prop}  {b : Nat} {fs : List Value} {v0 : Value} (hm : mt G M_Mo_lowestCell 0 mc ms (.ref b :: []) h P) (hb : h b = mO 7 fs) (hv0 : fs[0]? = some v0) (hR : 0 + 1 ≤ R.frames ∧ 8 + (3 + 11) + 39 * 0 ≤ R.locals) (hcs : cells + mc ≤ R.cells ∧ slots + ms ≤ R.slots) (hrest : (rest.map fun v => v.category).sum ≤ 8) (k : ∀ (r : Option Value) (h' : HP), P r h' → ev G M_Mo_cells R E 31 lv (r.toList ++ rest) h' (cells + mc) (slots + ms)) : ev G M_Mo_cells R E 28 lv (.ref b :: rest) h cells slots := ev_callV (as := []) (ci := 7) d_Mo_cells_28 hm hb hv0 rfl w_832 w_834 w_46 w_70 w_835 hy_Mo_lowestCell hR hcs hrest k
theorem d_Mo_cells_31 : decode prog_10_method_23_code 31 = .ok (.goto 9, 3) := by decide +kernel
theorem s_Mo_cells_31  (k : ev G M_Mo_cells R E 40 lv rest h cells slots) : ev G M_Mo_cells R E 31 lv rest h cells slots := ev_goto d_Mo_cells_31 (by decide) k
theorem d_Mo_cells_34 : decode prog_10_method_23_code 34 = .ok (.aload_n 0, 1) := by decide +kernel
theorem s_Mo_cells_34 {x : Nat} (hl : lg lv 0 = some (.ref x)) (k : ev G M_Mo_cells R E 35 lv (.ref x :: rest) h cells slots) : ev G M_Mo_cells R E 34 lv rest h cells slots := ev_aload_n d_Mo_cells_34 rfl hl k
theorem d_Mo_cells_35 : decode prog_10_method_23_code 35 = .ok (.iload_n 2, 1) := by decide +kernel
theorem s_Mo_cells_35 {x : Int32} (hl : lg lv 2 = some (.int x)) (k : ev G M_Mo_cells R E 36 lv (.int x :: rest) h cells slots) : ev G M_Mo_cells R E 35 lv rest h cells slots := ev_iload_n d_Mo_cells_35 rfl hl k
theorem d_Mo_cells_36 : decode prog_10_method_23_code 36 = .ok (.iconst 4, 1) := by decide +kernel
theorem s_Mo_cells_36  (k : ev G M_Mo_cells R E 37 lv (.int 4 :: rest) h cells slots) : ev G M_Mo_cells R E 36 lv rest h cells slots := ev_iconst d_Mo_cells_36 (by decide) k
theorem d_Mo_cells_37 : decode prog_10_method_23_code 37 = .ok (.invokevirtual 66, 3) := by decide +kernel
theorem s_Mo_cells_37 {mc ms : Nat} {P : Option Value → HP → Prop} {a0 : Int32} {a1 : Int32} {b : Nat} {fs : List Value} {v0 : Value} (hm : mt G M_Mo_get 0 mc ms (.ref b :: [.int a0, .int a1]) h P) (hb : h b = mO 7 fs) (hv0 : fs[0]? = some v0) (hR : 0 + 1 ≤ R.frames ∧ 8 + (3 + 11) + 39 * 0 ≤ R.locals) (hcs : cells + mc ≤ R.cells ∧ slots + ms ≤ R.slots) (hrest : (rest.map fun v => v.category).sum ≤ 8) (k : ∀ (r : Option Value) (h' : HP), P r h' → ev G M_Mo_cells R E 40 lv (r.toList ++ rest) h' (cells + mc) (slots + ms)) : ev G M_Mo_cells R E 37 lv (.int a1 :: .int a0 :: .ref b :: rest) h cells slots := ev_callV (as := [.int a0, .int a1]) (ci := 7) d_Mo_cells_37 hm hb hv0 rfl w_816 w_818 w_42 w_70 w_819 hy_Mo_get hR hcs hrest k
theorem d_Mo_cells_40 : decode prog_10_method_23_code 40 = .ok (.istore_n 3, 1) := by decide +kernel
theorem s_Mo_cells_40 {x : Int32} (k : ev G M_Mo_cells R E 41 (ls1 lv 3 (.int x)) rest h cells slots) : ev G M_Mo_cells R E 40 lv (.int x :: rest) h cells slots := ev_istore_n d_Mo_cells_40 rfl (by decide) k
theorem d_Mo_cells_41 : decode prog_10_method_23_code 41 = .ok (.iload_n 1, 1) := by decide +kernel
theorem s_Mo_cells_41 {x : Int32} (hl : lg lv 1 = some (.int x)) (k : ev G M_Mo_cells R E 42 lv (.int x :: rest) h cells slots) : ev G M_Mo_cells R E 41 lv rest h cells slots := ev_iload_n d_Mo_cells_41 rfl hl k
theorem d_Mo_cells_42 : decode prog_10_method_23_code 42 = .ok (.bipush 7, 2) := by decide +kernel
theorem s_Mo_cells_42  (k : ev G M_Mo_cells R E 44 lv (.int 7 :: rest) h cells slots) : ev G M_Mo_cells R E 42 lv rest h cells slots := ev_bipush d_Mo_cells_42 (by decide) k
theorem d_Mo_cells_44 : decode prog_10_method_23_code 44 = .ok (.if_icmp .ne 15, 3) := by decide +kernel
theorem s_Mo_cells_44 {x y : Int32} (kt : ¬ x = y → ev G M_Mo_cells R E 59 lv rest h cells slots) (kf : x = y → ev G M_Mo_cells R E 47 lv rest h cells slots) : ev G M_Mo_cells R E 44 lv (.int y :: .int x :: rest) h cells slots := ev_icmp_ne d_Mo_cells_44 (by decide) kt kf
theorem d_Mo_cells_47 : decode prog_10_method_23_code 47 = .ok (.aload_n 0, 1) := by decide +kernel
theorem s_Mo_cells_47 {x : Nat} (hl : lg lv 0 = some (.ref x)) (k : ev G M_Mo_cells R E 48 lv (.ref x :: rest) h cells slots) : ev G M_Mo_cells R E 47 lv rest h cells slots := ev_aload_n d_Mo_cells_47 rfl hl k
theorem d_Mo_cells_48 : decode prog_10_method_23_code 48 = .ok (.iload_n 2, 1) := by decide +kernel
theorem s_Mo_cells_48 {x : Int32} (hl : lg lv 2 = some (.int x)) (k : ev G M_Mo_cells R E 49 lv (.int x :: rest) h cells slots) : ev G M_Mo_cells R E 48 lv rest h cells slots := ev_iload_n d_Mo_cells_48 rfl hl k
theorem d_Mo_cells_49 : decode prog_10_method_23_code 49 = .ok (.iconst 3, 1) := by decide +kernel
theorem s_Mo_cells_49  (k : ev G M_Mo_cells R E 50 lv (.int 3 :: rest) h cells slots) : ev G M_Mo_cells R E 49 lv rest h cells slots := ev_iconst d_Mo_cells_49 (by decide) k
theorem d_Mo_cells_50 : decode prog_10_method_23_code 50 = .ok (.invokevirtual 66, 3) := by decide +kernel
theorem s_Mo_cells_50 {mc ms : Nat} {P : Option Value → HP → Prop} {a0 : Int32} {a1 : Int32} {b : Nat} {fs : List Value} {v0 : Value} (hm : mt G M_Mo_get 0 mc ms (.ref b :: [.int a0, .int a1]) h P) (hb : h b = mO 7 fs) (hv0 : fs[0]? = some v0) (hR : 0 + 1 ≤ R.frames ∧ 8 + (3 + 11) + 39 * 0 ≤ R.locals) (hcs : cells + mc ≤ R.cells ∧ slots + ms ≤ R.slots) (hrest : (rest.map fun v => v.category).sum ≤ 8) (k : ∀ (r : Option Value) (h' : HP), P r h' → ev G M_Mo_cells R E 53 lv (r.toList ++ rest) h' (cells + mc) (slots + ms)) : ev G M_Mo_cells R E 50 lv (.int a1 :: .int a0 :: .ref b :: rest) h cells slots := ev_callV (as := [.int a0, .int a1]) (ci := 7) d_Mo_cells_50 hm hb hv0 rfl w_816 w_818 w_42 w_70 w_819 hy_Mo_get hR hcs hrest k
theorem d_Mo_cells_53 : decode prog_10_method_23_code 53 = .ok (.iconst 1, 1) := by decide +kernel
theorem s_Mo_cells_53  (k : ev G M_Mo_cells R E 54 lv (.int 1 :: rest) h cells slots) : ev G M_Mo_cells R E 53 lv rest h cells slots := ev_iconst d_Mo_cells_53 (by decide) k
theorem d_Mo_cells_54 : decode prog_10_method_23_code 54 = .ok (.if_icmp .eq 5, 3) := by decide +kernel
theorem s_Mo_cells_54 {x y : Int32} (kt : x = y → ev G M_Mo_cells R E 59 lv rest h cells slots) (kf : ¬ x = y → ev G M_Mo_cells R E 57 lv rest h cells slots) : ev G M_Mo_cells R E 54 lv (.int y :: .int x :: rest) h cells slots := ev_icmp_eq d_Mo_cells_54 (by decide) kt kf
theorem d_Mo_cells_57 : decode prog_10_method_23_code 57 = .ok (.iconst 2, 1) := by decide +kernel
theorem s_Mo_cells_57  (k : ev G M_Mo_cells R E 58 lv (.int 2 :: rest) h cells slots) : ev G M_Mo_cells R E 57 lv rest h cells slots := ev_iconst d_Mo_cells_57 (by decide) k
theorem d_Mo_cells_58 : decode prog_10_method_23_code 58 = .ok (.ireturn, 1) := by decide +kernel
theorem s_Mo_cells_58 {P : Option Value → HP → Prop} {mc ms : Nat} {v : Int32} (hP : P (some (.int v)) h) (hc : cells ≤ mc ∧ slots ≤ ms) : ev G M_Mo_cells R (Er M_Mo_cells P mc ms) 58 lv [.int v] h cells slots := ev_exit ⟨hc.1, hc.2, Or.inr (Or.inl ⟨v, .int, rfl, rfl, d_Mo_cells_58, rfl, hP⟩)⟩
theorem d_Mo_cells_59 : decode prog_10_method_23_code 59 = .ok (.iload_n 1, 1) := by decide +kernel
theorem s_Mo_cells_59 {x : Int32} (hl : lg lv 1 = some (.int x)) (k : ev G M_Mo_cells R E 60 lv (.int x :: rest) h cells slots) : ev G M_Mo_cells R E 59 lv rest h cells slots := ev_iload_n d_Mo_cells_59 rfl hl k
theorem d_Mo_cells_60 : decode prog_10_method_23_code 60 = .ok (.bipush 8, 2) := by decide +kernel
theorem s_Mo_cells_60  (k : ev G M_Mo_cells R E 62 lv (.int 8 :: rest) h cells slots) : ev G M_Mo_cells R E 60 lv rest h cells slots := ev_bipush d_Mo_cells_60 (by decide) k
theorem d_Mo_cells_62 : decode prog_10_method_23_code 62 = .ok (.if_icmp .ne 13, 3) := by decide +kernel
theorem s_Mo_cells_62 {x y : Int32} (kt : ¬ x = y → ev G M_Mo_cells R E 75 lv rest h cells slots) (kf : x = y → ev G M_Mo_cells R E 65 lv rest h cells slots) : ev G M_Mo_cells R E 62 lv (.int y :: .int x :: rest) h cells slots := ev_icmp_ne d_Mo_cells_62 (by decide) kt kf
theorem d_Mo_cells_65 : decode prog_10_method_23_code 65 = .ok (.aload_n 0, 1) := by decide +kernel
theorem s_Mo_cells_65 {x : Nat} (hl : lg lv 0 = some (.ref x)) (k : ev G M_Mo_cells R E 66 lv (.ref x :: rest) h cells slots) : ev G M_Mo_cells R E 65 lv rest h cells slots := ev_aload_n d_Mo_cells_65 rfl hl k
theorem d_Mo_cells_66 : decode prog_10_method_23_code 66 = .ok (.getfield 19, 3) := by decide +kernel
theorem s_Mo_cells_66 {a : Nat} {fs : List Value} {v : Value} (hh : h a = mO 7 fs) (hv : fs[4]? = some v) (k : ev G M_Mo_cells R E 69 lv (v :: rest) h cells slots) : ev G M_Mo_cells R E 66 lv (.ref a :: rest) h cells slots := ev_getfield (ci := 7) (kf := 4) d_Mo_cells_66 rfl ck7 (by decide) w_708 hh hv k
theorem d_Mo_cells_69 : decode prog_10_method_23_code 69 = .ok (.iload_n 3, 1) := by decide +kernel
theorem s_Mo_cells_69 {x : Int32} (hl : lg lv 3 = some (.int x)) (k : ev G M_Mo_cells R E 70 lv (.int x :: rest) h cells slots) : ev G M_Mo_cells R E 69 lv rest h cells slots := ev_iload_n d_Mo_cells_69 rfl hl k
theorem d_Mo_cells_70 : decode prog_10_method_23_code 70 = .ok (.iaload, 1) := by decide +kernel
theorem s_Mo_cells_70 {a n : Nat} {f : Nat → Int32} {i : Int32} (hh : h a = mI 0 n f) (hin : vp_in i n) (k : ev G M_Mo_cells R E 71 lv (.int (f i.toNatClampNeg) :: rest) h cells slots) : ev G M_Mo_cells R E 70 lv (.int i :: .ref a :: rest) h cells slots := ev_iaload d_Mo_cells_70 rfl hh hin k
theorem d_Mo_cells_71 : decode prog_10_method_23_code 71 = .ok (.iconst 1, 1) := by decide +kernel
theorem s_Mo_cells_71  (k : ev G M_Mo_cells R E 72 lv (.int 1 :: rest) h cells slots) : ev G M_Mo_cells R E 71 lv rest h cells slots := ev_iconst d_Mo_cells_71 (by decide) k
theorem d_Mo_cells_72 : decode prog_10_method_23_code 72 = .ok (.if_icmp .ne 19, 3) := by decide +kernel
theorem s_Mo_cells_72 {x y : Int32} (kt : ¬ x = y → ev G M_Mo_cells R E 91 lv rest h cells slots) (kf : x = y → ev G M_Mo_cells R E 75 lv rest h cells slots) : ev G M_Mo_cells R E 72 lv (.int y :: .int x :: rest) h cells slots := ev_icmp_ne d_Mo_cells_72 (by decide) kt kf
theorem d_Mo_cells_75 : decode prog_10_method_23_code 75 = .ok (.iload_n 1, 1) := by decide +kernel
theorem s_Mo_cells_75 {x : Int32} (hl : lg lv 1 = some (.int x)) (k : ev G M_Mo_cells R E 76 lv (.int x :: rest) h cells slots) : ev G M_Mo_cells R E 75 lv rest h cells slots := ev_iload_n d_Mo_cells_75 rfl hl k
theorem d_Mo_cells_76 : decode prog_10_method_23_code 76 = .ok (.bipush 9, 2) := by decide +kernel
theorem s_Mo_cells_76  (k : ev G M_Mo_cells R E 78 lv (.int 9 :: rest) h cells slots) : ev G M_Mo_cells R E 76 lv rest h cells slots := ev_bipush d_Mo_cells_76 (by decide) k
theorem d_Mo_cells_78 : decode prog_10_method_23_code 78 = .ok (.if_icmp .ne 16, 3) := by decide +kernel
theorem s_Mo_cells_78 {x y : Int32} (kt : ¬ x = y → ev G M_Mo_cells R E 94 lv rest h cells slots) (kf : x = y → ev G M_Mo_cells R E 81 lv rest h cells slots) : ev G M_Mo_cells R E 78 lv (.int y :: .int x :: rest) h cells slots := ev_icmp_ne d_Mo_cells_78 (by decide) kt kf
theorem d_Mo_cells_81 : decode prog_10_method_23_code 81 = .ok (.aload_n 0, 1) := by decide +kernel
theorem s_Mo_cells_81 {x : Nat} (hl : lg lv 0 = some (.ref x)) (k : ev G M_Mo_cells R E 82 lv (.ref x :: rest) h cells slots) : ev G M_Mo_cells R E 81 lv rest h cells slots := ev_aload_n d_Mo_cells_81 rfl hl k
theorem d_Mo_cells_82 : decode prog_10_method_23_code 82 = .ok (.getfield 19, 3) := by decide +kernel
theorem s_Mo_cells_82 {a : Nat} {fs : List Value} {v : Value} (hh : h a = mO 7 fs) (hv : fs[4]? = some v) (k : ev G M_Mo_cells R E 85 lv (v :: rest) h cells slots) : ev G M_Mo_cells R E 82 lv (.ref a :: rest) h cells slots := ev_getfield (ci := 7) (kf := 4) d_Mo_cells_82 rfl ck7 (by decide) w_708 hh hv k
theorem d_Mo_cells_85 : decode prog_10_method_23_code 85 = .ok (.iload_n 3, 1) := by decide +kernel
theorem s_Mo_cells_85 {x : Int32} (hl : lg lv 3 = some (.int x)) (k : ev G M_Mo_cells R E 86 lv (.int x :: rest) h cells slots) : ev G M_Mo_cells R E 85 lv rest h cells slots := ev_iload_n d_Mo_cells_85 rfl hl k
theorem d_Mo_cells_86 : decode prog_10_method_23_code 86 = .ok (.iaload, 1) := by decide +kernel
theorem s_Mo_cells_86 {a n : Nat} {f : Nat → Int32} {i : Int32} (hh : h a = mI 0 n f) (hin : vp_in i n) (k : ev G M_Mo_cells R E 87 lv (.int (f i.toNatClampNeg) :: rest) h cells slots) : ev G M_Mo_cells R E 86 lv (.int i :: .ref a :: rest) h cells slots := ev_iaload d_Mo_cells_86 rfl hh hin k
theorem d_Mo_cells_87 : decode prog_10_method_23_code 87 = .ok (.iconst 2, 1) := by decide +kernel
theorem s_Mo_cells_87  (k : ev G M_Mo_cells R E 88 lv (.int 2 :: rest) h cells slots) : ev G M_Mo_cells R E 87 lv rest h cells slots := ev_iconst d_Mo_cells_87 (by decide) k
theorem d_Mo_cells_88 : decode prog_10_method_23_code 88 = .ok (.if_icmp .ge 6, 3) := by decide +kernel
theorem s_Mo_cells_88 {x y : Int32} (kt : y ≤ x → ev G M_Mo_cells R E 94 lv rest h cells slots) (kf : ¬ y ≤ x → ev G M_Mo_cells R E 91 lv rest h cells slots) : ev G M_Mo_cells R E 88 lv (.int y :: .int x :: rest) h cells slots := ev_icmp_ge d_Mo_cells_88 (by decide) kt kf
theorem d_Mo_cells_91 : decode prog_10_method_23_code 91 = .ok (.bipush 6, 2) := by decide +kernel
theorem s_Mo_cells_91  (k : ev G M_Mo_cells R E 93 lv (.int 6 :: rest) h cells slots) : ev G M_Mo_cells R E 91 lv rest h cells slots := ev_bipush d_Mo_cells_91 (by decide) k
theorem d_Mo_cells_93 : decode prog_10_method_23_code 93 = .ok (.ireturn, 1) := by decide +kernel
theorem s_Mo_cells_93 {P : Option Value → HP → Prop} {mc ms : Nat} {v : Int32} (hP : P (some (.int v)) h) (hc : cells ≤ mc ∧ slots ≤ ms) : ev G M_Mo_cells R (Er M_Mo_cells P mc ms) 93 lv [.int v] h cells slots := ev_exit ⟨hc.1, hc.2, Or.inr (Or.inl ⟨v, .int, rfl, rfl, d_Mo_cells_93, rfl, hP⟩)⟩
theorem d_Mo_cells_94 : decode prog_10_method_23_code 94 = .ok (.iload_n 3, 1) := by decide +kernel
theorem s_Mo_cells_94 {x : Int32} (hl : lg lv 3 = some (.int x)) (k : ev G M_Mo_cells R E 95 lv (.int x :: rest) h cells slots) : ev G M_Mo_cells R E 94 lv rest h cells slots := ev_iload_n d_Mo_cells_94 rfl hl k
theorem d_Mo_cells_95 : decode prog_10_method_23_code 95 = .ok (.ifCond .ge 6, 3) := by decide +kernel
theorem s_Mo_cells_95 {x : Int32} (kt : 0 ≤ x → ev G M_Mo_cells R E 101 lv rest h cells slots) (kf : ¬ 0 ≤ x → ev G M_Mo_cells R E 98 lv rest h cells slots) : ev G M_Mo_cells R E 95 lv (.int x :: rest) h cells slots := ev_if_ge d_Mo_cells_95 (by decide) kt kf
theorem d_Mo_cells_98 : decode prog_10_method_23_code 98 = .ok (.bipush 7, 2) := by decide +kernel
theorem s_Mo_cells_98  (k : ev G M_Mo_cells R E 100 lv (.int 7 :: rest) h cells slots) : ev G M_Mo_cells R E 98 lv rest h cells slots := ev_bipush d_Mo_cells_98 (by decide) k
theorem d_Mo_cells_100 : decode prog_10_method_23_code 100 = .ok (.ireturn, 1) := by decide +kernel
theorem s_Mo_cells_100 {P : Option Value → HP → Prop} {mc ms : Nat} {v : Int32} (hP : P (some (.int v)) h) (hc : cells ≤ mc ∧ slots ≤ ms) : ev G M_Mo_cells R (Er M_Mo_cells P mc ms) 100 lv [.int v] h cells slots := ev_exit ⟨hc.1, hc.2, Or.inr (Or.inl ⟨v, .int, rfl, rfl, d_Mo_cells_100, rfl, hP⟩)⟩
theorem d_Mo_cells_101 : decode prog_10_method_23_code 101 = .ok (.aload_n 0, 1) := by decide +kernel
theorem s_Mo_cells_101 {x : Nat} (hl : lg lv 0 = some (.ref x)) (k : ev G M_Mo_cells R E 102 lv (.ref x :: rest) h cells slots) : ev G M_Mo_cells R E 101 lv rest h cells slots := ev_aload_n d_Mo_cells_101 rfl hl k
theorem d_Mo_cells_102 : decode prog_10_method_23_code 102 = .ok (.iload_n 2, 1) := by decide +kernel
theorem s_Mo_cells_102 {x : Int32} (hl : lg lv 2 = some (.int x)) (k : ev G M_Mo_cells R E 103 lv (.int x :: rest) h cells slots) : ev G M_Mo_cells R E 102 lv rest h cells slots := ev_iload_n d_Mo_cells_102 rfl hl k
theorem d_Mo_cells_103 : decode prog_10_method_23_code 103 = .ok (.iconst 1, 1) := by decide +kernel
theorem s_Mo_cells_103  (k : ev G M_Mo_cells R E 104 lv (.int 1 :: rest) h cells slots) : ev G M_Mo_cells R E 103 lv rest h cells slots := ev_iconst d_Mo_cells_103 (by decide) k
theorem d_Mo_cells_104 : decode prog_10_method_23_code 104 = .ok (.invokevirtual 66, 3) := by decide +kernel
theorem s_Mo_cells_104 {mc ms : Nat} {P : Option Value → HP → Prop} {a0 : Int32} {a1 : Int32} {b : Nat} {fs : List Value} {v0 : Value} (hm : mt G M_Mo_get 0 mc ms (.ref b :: [.int a0, .int a1]) h P) (hb : h b = mO 7 fs) (hv0 : fs[0]? = some v0) (hR : 0 + 1 ≤ R.frames ∧ 8 + (3 + 11) + 39 * 0 ≤ R.locals) (hcs : cells + mc ≤ R.cells ∧ slots + ms ≤ R.slots) (hrest : (rest.map fun v => v.category).sum ≤ 8) (k : ∀ (r : Option Value) (h' : HP), P r h' → ev G M_Mo_cells R E 107 lv (r.toList ++ rest) h' (cells + mc) (slots + ms)) : ev G M_Mo_cells R E 104 lv (.int a1 :: .int a0 :: .ref b :: rest) h cells slots := ev_callV (as := [.int a0, .int a1]) (ci := 7) d_Mo_cells_104 hm hb hv0 rfl w_816 w_818 w_42 w_70 w_819 hy_Mo_get hR hcs hrest k
theorem d_Mo_cells_107 : decode prog_10_method_23_code 107 = .ok (.istore 4, 2) := by decide +kernel
theorem s_Mo_cells_107 {x : Int32} (k : ev G M_Mo_cells R E 109 (ls1 lv 4 (.int x)) rest h cells slots) : ev G M_Mo_cells R E 107 lv (.int x :: rest) h cells slots := ev_istore d_Mo_cells_107 (by decide) k
theorem d_Mo_cells_109 : decode prog_10_method_23_code 109 = .ok (.aload_n 0, 1) := by decide +kernel
theorem s_Mo_cells_109 {x : Nat} (hl : lg lv 0 = some (.ref x)) (k : ev G M_Mo_cells R E 110 lv (.ref x :: rest) h cells slots) : ev G M_Mo_cells R E 109 lv rest h cells slots := ev_aload_n d_Mo_cells_109 rfl hl k
theorem d_Mo_cells_110 : decode prog_10_method_23_code 110 = .ok (.iload_n 2, 1) := by decide +kernel
theorem s_Mo_cells_110 {x : Int32} (hl : lg lv 2 = some (.int x)) (k : ev G M_Mo_cells R E 111 lv (.int x :: rest) h cells slots) : ev G M_Mo_cells R E 110 lv rest h cells slots := ev_iload_n d_Mo_cells_110 rfl hl k
theorem d_Mo_cells_111 : decode prog_10_method_23_code 111 = .ok (.iconst 2, 1) := by decide +kernel
theorem s_Mo_cells_111  (k : ev G M_Mo_cells R E 112 lv (.int 2 :: rest) h cells slots) : ev G M_Mo_cells R E 111 lv rest h cells slots := ev_iconst d_Mo_cells_111 (by decide) k
theorem d_Mo_cells_112 : decode prog_10_method_23_code 112 = .ok (.invokevirtual 66, 3) := by decide +kernel
theorem s_Mo_cells_112 {mc ms : Nat} {P : Option Value → HP → Prop} {a0 : Int32} {a1 : Int32} {b : Nat} {fs : List Value} {v0 : Value} (hm : mt G M_Mo_get 0 mc ms (.ref b :: [.int a0, .int a1]) h P) (hb : h b = mO 7 fs) (hv0 : fs[0]? = some v0) (hR : 0 + 1 ≤ R.frames ∧ 8 + (3 + 11) + 39 * 0 ≤ R.locals) (hcs : cells + mc ≤ R.cells ∧ slots + ms ≤ R.slots) (hrest : (rest.map fun v => v.category).sum ≤ 8) (k : ∀ (r : Option Value) (h' : HP), P r h' → ev G M_Mo_cells R E 115 lv (r.toList ++ rest) h' (cells + mc) (slots + ms)) : ev G M_Mo_cells R E 112 lv (.int a1 :: .int a0 :: .ref b :: rest) h cells slots := ev_callV (as := [.int a0, .int a1]) (ci := 7) d_Mo_cells_112 hm hb hv0 rfl w_816 w_818 w_42 w_70 w_819 hy_Mo_get hR hcs hrest k
theorem d_Mo_cells_115 : decode prog_10_method_23_code 115 = .ok (.istore 5, 2) := by decide +kernel
theorem s_Mo_cells_115 {x : Int32} (k : ev G M_Mo_cells R E 117 (ls1 lv 5 (.int x)) rest h cells slots) : ev G M_Mo_cells R E 115 lv (.int x :: rest) h cells slots := ev_istore d_Mo_cells_115 (by decide) k
theorem d_Mo_cells_117 : decode prog_10_method_23_code 117 = .ok (.aload_n 0, 1) := by decide +kernel
theorem s_Mo_cells_117 {x : Nat} (hl : lg lv 0 = some (.ref x)) (k : ev G M_Mo_cells R E 118 lv (.ref x :: rest) h cells slots) : ev G M_Mo_cells R E 117 lv rest h cells slots := ev_aload_n d_Mo_cells_117 rfl hl k
theorem d_Mo_cells_118 : decode prog_10_method_23_code 118 = .ok (.getfield 19, 3) := by decide +kernel
theorem s_Mo_cells_118 {a : Nat} {fs : List Value} {v : Value} (hh : h a = mO 7 fs) (hv : fs[4]? = some v) (k : ev G M_Mo_cells R E 121 lv (v :: rest) h cells slots) : ev G M_Mo_cells R E 118 lv (.ref a :: rest) h cells slots := ev_getfield (ci := 7) (kf := 4) d_Mo_cells_118 rfl ck7 (by decide) w_708 hh hv k
theorem d_Mo_cells_121 : decode prog_10_method_23_code 121 = .ok (.iload_n 3, 1) := by decide +kernel
theorem s_Mo_cells_121 {x : Int32} (hl : lg lv 3 = some (.int x)) (k : ev G M_Mo_cells R E 122 lv (.int x :: rest) h cells slots) : ev G M_Mo_cells R E 121 lv rest h cells slots := ev_iload_n d_Mo_cells_121 rfl hl k
theorem d_Mo_cells_122 : decode prog_10_method_23_code 122 = .ok (.iload_n 1, 1) := by decide +kernel
theorem s_Mo_cells_122 {x : Int32} (hl : lg lv 1 = some (.int x)) (k : ev G M_Mo_cells R E 123 lv (.int x :: rest) h cells slots) : ev G M_Mo_cells R E 122 lv rest h cells slots := ev_iload_n d_Mo_cells_122 rfl hl k
theorem d_Mo_cells_123 : decode prog_10_method_23_code 123 = .ok (.bipush 7, 2) := by decide +kernel
theorem s_Mo_cells_123  (k : ev G M_Mo_cells R E 125 lv (.int 7 :: rest) h cells slots) : ev G M_Mo_cells R E 123 lv rest h cells slots := ev_bipush d_Mo_cells_123 (by decide) k
theorem d_Mo_cells_125 : decode prog_10_method_23_code 125 = .ok (.if_icmp .ne 7, 3) := by decide +kernel
theorem s_Mo_cells_125 {x y : Int32} (kt : ¬ x = y → ev G M_Mo_cells R E 132 lv rest h cells slots) (kf : x = y → ev G M_Mo_cells R E 128 lv rest h cells slots) : ev G M_Mo_cells R E 125 lv (.int y :: .int x :: rest) h cells slots := ev_icmp_ne d_Mo_cells_125 (by decide) kt kf
theorem d_Mo_cells_128 : decode prog_10_method_23_code 128 = .ok (.iconst 1, 1) := by decide +kernel
theorem s_Mo_cells_128  (k : ev G M_Mo_cells R E 129 lv (.int 1 :: rest) h cells slots) : ev G M_Mo_cells R E 128 lv rest h cells slots := ev_iconst d_Mo_cells_128 (by decide) k
theorem d_Mo_cells_129 : decode prog_10_method_23_code 129 = .ok (.goto 11, 3) := by decide +kernel
theorem s_Mo_cells_129  (k : ev G M_Mo_cells R E 140 lv rest h cells slots) : ev G M_Mo_cells R E 129 lv rest h cells slots := ev_goto d_Mo_cells_129 (by decide) k
theorem d_Mo_cells_132 : decode prog_10_method_23_code 132 = .ok (.aload_n 0, 1) := by decide +kernel
theorem s_Mo_cells_132 {x : Nat} (hl : lg lv 0 = some (.ref x)) (k : ev G M_Mo_cells R E 133 lv (.ref x :: rest) h cells slots) : ev G M_Mo_cells R E 132 lv rest h cells slots := ev_aload_n d_Mo_cells_132 rfl hl k
theorem d_Mo_cells_133 : decode prog_10_method_23_code 133 = .ok (.getfield 19, 3) := by decide +kernel
theorem s_Mo_cells_133 {a : Nat} {fs : List Value} {v : Value} (hh : h a = mO 7 fs) (hv : fs[4]? = some v) (k : ev G M_Mo_cells R E 136 lv (v :: rest) h cells slots) : ev G M_Mo_cells R E 133 lv (.ref a :: rest) h cells slots := ev_getfield (ci := 7) (kf := 4) d_Mo_cells_133 rfl ck7 (by decide) w_708 hh hv k
theorem d_Mo_cells_136 : decode prog_10_method_23_code 136 = .ok (.iload_n 3, 1) := by decide +kernel
theorem s_Mo_cells_136 {x : Int32} (hl : lg lv 3 = some (.int x)) (k : ev G M_Mo_cells R E 137 lv (.int x :: rest) h cells slots) : ev G M_Mo_cells R E 136 lv rest h cells slots := ev_iload_n d_Mo_cells_136 rfl hl k
theorem d_Mo_cells_137 : decode prog_10_method_23_code 137 = .ok (.iaload, 1) := by decide +kernel
theorem s_Mo_cells_137 {a n : Nat} {f : Nat → Int32} {i : Int32} (hh : h a = mI 0 n f) (hin : vp_in i n) (k : ev G M_Mo_cells R E 138 lv (.int (f i.toNatClampNeg) :: rest) h cells slots) : ev G M_Mo_cells R E 137 lv (.int i :: .ref a :: rest) h cells slots := ev_iaload d_Mo_cells_137 rfl hh hin k
theorem d_Mo_cells_138 : decode prog_10_method_23_code 138 = .ok (.iconst 1, 1) := by decide +kernel
theorem s_Mo_cells_138  (k : ev G M_Mo_cells R E 139 lv (.int 1 :: rest) h cells slots) : ev G M_Mo_cells R E 138 lv rest h cells slots := ev_iconst d_Mo_cells_138 (by decide) k
theorem d_Mo_cells_139 : decode prog_10_method_23_code 139 = .ok (.isub, 1) := by decide +kernel
theorem s_Mo_cells_139 {x y : Int32} (k : ev G M_Mo_cells R E 140 lv (.int (x - y) :: rest) h cells slots) : ev G M_Mo_cells R E 139 lv (.int y :: .int x :: rest) h cells slots := ev_isub d_Mo_cells_139 k
theorem d_Mo_cells_140 : decode prog_10_method_23_code 140 = .ok (.iastore, 1) := by decide +kernel
theorem s_Mo_cells_140 {a n : Nat} {f : Nat → Int32} {i : Int32} {x : Int32} (hh : h a = mI 0 n f) (hin : vp_in i n) (k : ev G M_Mo_cells R E 141 lv rest (va_up h a (mI 0 n (upd f i.toNatClampNeg x))) cells slots) : ev G M_Mo_cells R E 140 lv (.int x :: .int i :: .ref a :: rest) h cells slots := ev_iastore d_Mo_cells_140 rfl hh hin k
theorem d_Mo_cells_141 : decode prog_10_method_23_code 141 = .ok (.aload_n 0, 1) := by decide +kernel
theorem s_Mo_cells_141 {x : Nat} (hl : lg lv 0 = some (.ref x)) (k : ev G M_Mo_cells R E 142 lv (.ref x :: rest) h cells slots) : ev G M_Mo_cells R E 141 lv rest h cells slots := ev_aload_n d_Mo_cells_141 rfl hl k
theorem d_Mo_cells_142 : decode prog_10_method_23_code 142 = .ok (.getfield 22, 3) := by decide +kernel
theorem s_Mo_cells_142 {a : Nat} {fs : List Value} {v : Value} (hh : h a = mO 7 fs) (hv : fs[5]? = some v) (k : ev G M_Mo_cells R E 145 lv (v :: rest) h cells slots) : ev G M_Mo_cells R E 142 lv (.ref a :: rest) h cells slots := ev_getfield (ci := 7) (kf := 5) d_Mo_cells_142 rfl ck7 (by decide) w_709 hh hv k
theorem d_Mo_cells_145 : decode prog_10_method_23_code 145 = .ok (.iload_n 3, 1) := by decide +kernel
theorem s_Mo_cells_145 {x : Int32} (hl : lg lv 3 = some (.int x)) (k : ev G M_Mo_cells R E 146 lv (.int x :: rest) h cells slots) : ev G M_Mo_cells R E 145 lv rest h cells slots := ev_iload_n d_Mo_cells_145 rfl hl k
theorem d_Mo_cells_146 : decode prog_10_method_23_code 146 = .ok (.iload_n 1, 1) := by decide +kernel
theorem s_Mo_cells_146 {x : Int32} (hl : lg lv 1 = some (.int x)) (k : ev G M_Mo_cells R E 147 lv (.int x :: rest) h cells slots) : ev G M_Mo_cells R E 146 lv rest h cells slots := ev_iload_n d_Mo_cells_146 rfl hl k
theorem d_Mo_cells_147 : decode prog_10_method_23_code 147 = .ok (.bipush 7, 2) := by decide +kernel
theorem s_Mo_cells_147  (k : ev G M_Mo_cells R E 149 lv (.int 7 :: rest) h cells slots) : ev G M_Mo_cells R E 147 lv rest h cells slots := ev_bipush d_Mo_cells_147 (by decide) k
theorem d_Mo_cells_149 : decode prog_10_method_23_code 149 = .ok (.if_icmp .ne 8, 3) := by decide +kernel
theorem s_Mo_cells_149 {x y : Int32} (kt : ¬ x = y → ev G M_Mo_cells R E 157 lv rest h cells slots) (kf : x = y → ev G M_Mo_cells R E 152 lv rest h cells slots) : ev G M_Mo_cells R E 149 lv (.int y :: .int x :: rest) h cells slots := ev_icmp_ne d_Mo_cells_149 (by decide) kt kf
theorem d_Mo_cells_152 : decode prog_10_method_23_code 152 = .ok (.iload 4, 2) := by decide +kernel
theorem s_Mo_cells_152 {x : Int32} (hl : lg lv 4 = some (.int x)) (k : ev G M_Mo_cells R E 154 lv (.int x :: rest) h cells slots) : ev G M_Mo_cells R E 152 lv rest h cells slots := ev_iload d_Mo_cells_152 hl k
theorem d_Mo_cells_154 : decode prog_10_method_23_code 154 = .ok (.goto 9, 3) := by decide +kernel
theorem s_Mo_cells_154  (k : ev G M_Mo_cells R E 163 lv rest h cells slots) : ev G M_Mo_cells R E 154 lv rest h cells slots := ev_goto d_Mo_cells_154 (by decide) k
theorem d_Mo_cells_157 : decode prog_10_method_23_code 157 = .ok (.aload_n 0, 1) := by decide +kernel
theorem s_Mo_cells_157 {x : Nat} (hl : lg lv 0 = some (.ref x)) (k : ev G M_Mo_cells R E 158 lv (.ref x :: rest) h cells slots) : ev G M_Mo_cells R E 157 lv rest h cells slots := ev_aload_n d_Mo_cells_157 rfl hl k
theorem d_Mo_cells_158 : decode prog_10_method_23_code 158 = .ok (.getfield 22, 3) := by decide +kernel
theorem s_Mo_cells_158 {a : Nat} {fs : List Value} {v : Value} (hh : h a = mO 7 fs) (hv : fs[5]? = some v) (k : ev G M_Mo_cells R E 161 lv (v :: rest) h cells slots) : ev G M_Mo_cells R E 158 lv (.ref a :: rest) h cells slots := ev_getfield (ci := 7) (kf := 5) d_Mo_cells_158 rfl ck7 (by decide) w_709 hh hv k
theorem d_Mo_cells_161 : decode prog_10_method_23_code 161 = .ok (.iload_n 3, 1) := by decide +kernel
theorem s_Mo_cells_161 {x : Int32} (hl : lg lv 3 = some (.int x)) (k : ev G M_Mo_cells R E 162 lv (.int x :: rest) h cells slots) : ev G M_Mo_cells R E 161 lv rest h cells slots := ev_iload_n d_Mo_cells_161 rfl hl k
theorem d_Mo_cells_162 : decode prog_10_method_23_code 162 = .ok (.iaload, 1) := by decide +kernel
theorem s_Mo_cells_162 {a n : Nat} {f : Nat → Int32} {i : Int32} (hh : h a = mI 0 n f) (hin : vp_in i n) (k : ev G M_Mo_cells R E 163 lv (.int (f i.toNatClampNeg) :: rest) h cells slots) : ev G M_Mo_cells R E 162 lv (.int i :: .ref a :: rest) h cells slots := ev_iaload d_Mo_cells_162 rfl hh hin k
theorem d_Mo_cells_163 : decode prog_10_method_23_code 163 = .ok (.iastore, 1) := by decide +kernel
theorem s_Mo_cells_163 {a n : Nat} {f : Nat → Int32} {i : Int32} {x : Int32} (hh : h a = mI 0 n f) (hin : vp_in i n) (k : ev G M_Mo_cells R E 164 lv rest (va_up h a (mI 0 n (upd f i.toNatClampNeg x))) cells slots) : ev G M_Mo_cells R E 163 lv (.int x :: .int i :: .ref a :: rest) h cells slots := ev_iastore d_Mo_cells_163 rfl hh hin k
theorem d_Mo_cells_164 : decode prog_10_method_23_code 164 = .ok (.aload_n 0, 1) := by decide +kernel
theorem s_Mo_cells_164 {x : Nat} (hl : lg lv 0 = some (.ref x)) (k : ev G M_Mo_cells R E 165 lv (.ref x :: rest) h cells slots) : ev G M_Mo_cells R E 164 lv rest h cells slots := ev_aload_n d_Mo_cells_164 rfl hl k
theorem d_Mo_cells_165 : decode prog_10_method_23_code 165 = .ok (.getfield 25, 3) := by decide +kernel
theorem s_Mo_cells_165 {a : Nat} {fs : List Value} {v : Value} (hh : h a = mO 7 fs) (hv : fs[6]? = some v) (k : ev G M_Mo_cells R E 168 lv (v :: rest) h cells slots) : ev G M_Mo_cells R E 165 lv (.ref a :: rest) h cells slots := ev_getfield (ci := 7) (kf := 6) d_Mo_cells_165 rfl ck7 (by decide) w_710 hh hv k
theorem d_Mo_cells_168 : decode prog_10_method_23_code 168 = .ok (.iload_n 3, 1) := by decide +kernel
theorem s_Mo_cells_168 {x : Int32} (hl : lg lv 3 = some (.int x)) (k : ev G M_Mo_cells R E 169 lv (.int x :: rest) h cells slots) : ev G M_Mo_cells R E 168 lv rest h cells slots := ev_iload_n d_Mo_cells_168 rfl hl k
theorem d_Mo_cells_169 : decode prog_10_method_23_code 169 = .ok (.iload_n 1, 1) := by decide +kernel
theorem s_Mo_cells_169 {x : Int32} (hl : lg lv 1 = some (.int x)) (k : ev G M_Mo_cells R E 170 lv (.int x :: rest) h cells slots) : ev G M_Mo_cells R E 169 lv rest h cells slots := ev_iload_n d_Mo_cells_169 rfl hl k
theorem d_Mo_cells_170 : decode prog_10_method_23_code 170 = .ok (.bipush 7, 2) := by decide +kernel
theorem s_Mo_cells_170  (k : ev G M_Mo_cells R E 172 lv (.int 7 :: rest) h cells slots) : ev G M_Mo_cells R E 170 lv rest h cells slots := ev_bipush d_Mo_cells_170 (by decide) k
theorem d_Mo_cells_172 : decode prog_10_method_23_code 172 = .ok (.if_icmp .ne 8, 3) := by decide +kernel
theorem s_Mo_cells_172 {x y : Int32} (kt : ¬ x = y → ev G M_Mo_cells R E 180 lv rest h cells slots) (kf : x = y → ev G M_Mo_cells R E 175 lv rest h cells slots) : ev G M_Mo_cells R E 172 lv (.int y :: .int x :: rest) h cells slots := ev_icmp_ne d_Mo_cells_172 (by decide) kt kf
theorem d_Mo_cells_175 : decode prog_10_method_23_code 175 = .ok (.iload 5, 2) := by decide +kernel
theorem s_Mo_cells_175 {x : Int32} (hl : lg lv 5 = some (.int x)) (k : ev G M_Mo_cells R E 177 lv (.int x :: rest) h cells slots) : ev G M_Mo_cells R E 175 lv rest h cells slots := ev_iload d_Mo_cells_175 hl k
theorem d_Mo_cells_177 : decode prog_10_method_23_code 177 = .ok (.goto 9, 3) := by decide +kernel
theorem s_Mo_cells_177  (k : ev G M_Mo_cells R E 186 lv rest h cells slots) : ev G M_Mo_cells R E 177 lv rest h cells slots := ev_goto d_Mo_cells_177 (by decide) k
theorem d_Mo_cells_180 : decode prog_10_method_23_code 180 = .ok (.aload_n 0, 1) := by decide +kernel
theorem s_Mo_cells_180 {x : Nat} (hl : lg lv 0 = some (.ref x)) (k : ev G M_Mo_cells R E 181 lv (.ref x :: rest) h cells slots) : ev G M_Mo_cells R E 180 lv rest h cells slots := ev_aload_n d_Mo_cells_180 rfl hl k
theorem d_Mo_cells_181 : decode prog_10_method_23_code 181 = .ok (.getfield 25, 3) := by decide +kernel
theorem s_Mo_cells_181 {a : Nat} {fs : List Value} {v : Value} (hh : h a = mO 7 fs) (hv : fs[6]? = some v) (k : ev G M_Mo_cells R E 184 lv (v :: rest) h cells slots) : ev G M_Mo_cells R E 181 lv (.ref a :: rest) h cells slots := ev_getfield (ci := 7) (kf := 6) d_Mo_cells_181 rfl ck7 (by decide) w_710 hh hv k
theorem d_Mo_cells_184 : decode prog_10_method_23_code 184 = .ok (.iload_n 3, 1) := by decide +kernel
theorem s_Mo_cells_184 {x : Int32} (hl : lg lv 3 = some (.int x)) (k : ev G M_Mo_cells R E 185 lv (.int x :: rest) h cells slots) : ev G M_Mo_cells R E 184 lv rest h cells slots := ev_iload_n d_Mo_cells_184 rfl hl k
theorem d_Mo_cells_185 : decode prog_10_method_23_code 185 = .ok (.iaload, 1) := by decide +kernel
theorem s_Mo_cells_185 {a n : Nat} {f : Nat → Int32} {i : Int32} (hh : h a = mI 0 n f) (hin : vp_in i n) (k : ev G M_Mo_cells R E 186 lv (.int (f i.toNatClampNeg) :: rest) h cells slots) : ev G M_Mo_cells R E 185 lv (.int i :: .ref a :: rest) h cells slots := ev_iaload d_Mo_cells_185 rfl hh hin k
theorem d_Mo_cells_186 : decode prog_10_method_23_code 186 = .ok (.iastore, 1) := by decide +kernel
theorem s_Mo_cells_186 {a n : Nat} {f : Nat → Int32} {i : Int32} {x : Int32} (hh : h a = mI 0 n f) (hin : vp_in i n) (k : ev G M_Mo_cells R E 187 lv rest (va_up h a (mI 0 n (upd f i.toNatClampNeg x))) cells slots) : ev G M_Mo_cells R E 186 lv (.int x :: .int i :: .ref a :: rest) h cells slots := ev_iastore d_Mo_cells_186 rfl hh hin k
theorem d_Mo_cells_187 : decode prog_10_method_23_code 187 = .ok (.iload_n 1, 1) := by decide +kernel
theorem s_Mo_cells_187 {x : Int32} (hl : lg lv 1 = some (.int x)) (k : ev G M_Mo_cells R E 188 lv (.int x :: rest) h cells slots) : ev G M_Mo_cells R E 187 lv rest h cells slots := ev_iload_n d_Mo_cells_187 rfl hl k
theorem d_Mo_cells_188 : decode prog_10_method_23_code 188 = .ok (.bipush 7, 2) := by decide +kernel
theorem s_Mo_cells_188  (k : ev G M_Mo_cells R E 190 lv (.int 7 :: rest) h cells slots) : ev G M_Mo_cells R E 188 lv rest h cells slots := ev_bipush d_Mo_cells_188 (by decide) k
theorem d_Mo_cells_190 : decode prog_10_method_23_code 190 = .ok (.if_icmp .ne 15, 3) := by decide +kernel
theorem s_Mo_cells_190 {x y : Int32} (kt : ¬ x = y → ev G M_Mo_cells R E 205 lv rest h cells slots) (kf : x = y → ev G M_Mo_cells R E 193 lv rest h cells slots) : ev G M_Mo_cells R E 190 lv (.int y :: .int x :: rest) h cells slots := ev_icmp_ne d_Mo_cells_190 (by decide) kt kf
theorem d_Mo_cells_193 : decode prog_10_method_23_code 193 = .ok (.aload_n 0, 1) := by decide +kernel
theorem s_Mo_cells_193 {x : Nat} (hl : lg lv 0 = some (.ref x)) (k : ev G M_Mo_cells R E 194 lv (.ref x :: rest) h cells slots) : ev G M_Mo_cells R E 193 lv rest h cells slots := ev_aload_n d_Mo_cells_193 rfl hl k
theorem d_Mo_cells_194 : decode prog_10_method_23_code 194 = .ok (.iload_n 2, 1) := by decide +kernel
theorem s_Mo_cells_194 {x : Int32} (hl : lg lv 2 = some (.int x)) (k : ev G M_Mo_cells R E 195 lv (.int x :: rest) h cells slots) : ev G M_Mo_cells R E 194 lv rest h cells slots := ev_iload_n d_Mo_cells_194 rfl hl k
theorem d_Mo_cells_195 : decode prog_10_method_23_code 195 = .ok (.iconst 2, 1) := by decide +kernel
theorem s_Mo_cells_195  (k : ev G M_Mo_cells R E 196 lv (.int 2 :: rest) h cells slots) : ev G M_Mo_cells R E 195 lv rest h cells slots := ev_iconst d_Mo_cells_195 (by decide) k
theorem d_Mo_cells_196 : decode prog_10_method_23_code 196 = .ok (.iload 4, 2) := by decide +kernel
theorem s_Mo_cells_196 {x : Int32} (hl : lg lv 4 = some (.int x)) (k : ev G M_Mo_cells R E 198 lv (.int x :: rest) h cells slots) : ev G M_Mo_cells R E 196 lv rest h cells slots := ev_iload d_Mo_cells_196 hl k
theorem d_Mo_cells_198 : decode prog_10_method_23_code 198 = .ok (.iload 5, 2) := by decide +kernel
theorem s_Mo_cells_198 {x : Int32} (hl : lg lv 5 = some (.int x)) (k : ev G M_Mo_cells R E 200 lv (.int x :: rest) h cells slots) : ev G M_Mo_cells R E 198 lv rest h cells slots := ev_iload d_Mo_cells_198 hl k
theorem d_Mo_cells_200 : decode prog_10_method_23_code 200 = .ok (.iconst 1, 1) := by decide +kernel
theorem s_Mo_cells_200  (k : ev G M_Mo_cells R E 201 lv (.int 1 :: rest) h cells slots) : ev G M_Mo_cells R E 200 lv rest h cells slots := ev_iconst d_Mo_cells_200 (by decide) k
theorem d_Mo_cells_201 : decode prog_10_method_23_code 201 = .ok (.iload_n 3, 1) := by decide +kernel
theorem s_Mo_cells_201 {x : Int32} (hl : lg lv 3 = some (.int x)) (k : ev G M_Mo_cells R E 202 lv (.int x :: rest) h cells slots) : ev G M_Mo_cells R E 201 lv rest h cells slots := ev_iload_n d_Mo_cells_201 rfl hl k
theorem d_Mo_cells_202 : decode prog_10_method_23_code 202 = .ok (.invokevirtual 58, 3) := by decide +kernel
theorem s_Mo_cells_202 {mc ms : Nat} {P : Option Value → HP → Prop} {a0 : Int32} {a1 : Int32} {a2 : Int32} {a3 : Int32} {a4 : Int32} {a5 : Int32} {b : Nat} {fs : List Value} {v0 : Value} (hm : mt G M_Mo_put 0 mc ms (.ref b :: [.int a0, .int a1, .int a2, .int a3, .int a4, .int a5]) h P) (hb : h b = mO 7 fs) (hv0 : fs[0]? = some v0) (hR : 0 + 1 ≤ R.frames ∧ 8 + (7 + 11) + 39 * 0 ≤ R.locals) (hcs : cells + mc ≤ R.cells ∧ slots + ms ≤ R.slots) (hrest : (rest.map fun v => v.category).sum ≤ 8) (k : ∀ (r : Option Value) (h' : HP), P r h' → ev G M_Mo_cells R E 205 lv (r.toList ++ rest) h' (cells + mc) (slots + ms)) : ev G M_Mo_cells R E 202 lv (.int a5 :: .int a4 :: .int a3 :: .int a2 :: .int a1 :: .int a0 :: .ref b :: rest) h cells slots := ev_callV (as := [.int a0, .int a1, .int a2, .int a3, .int a4, .int a5]) (ci := 7) d_Mo_cells_202 hm hb hv0 rfl w_784 w_786 w_35 w_70 w_787 hy_Mo_put hR hcs hrest k
theorem d_Mo_cells_205 : decode prog_10_method_23_code 205 = .ok (.iload_n 1, 1) := by decide +kernel
theorem s_Mo_cells_205 {x : Int32} (hl : lg lv 1 = some (.int x)) (k : ev G M_Mo_cells R E 206 lv (.int x :: rest) h cells slots) : ev G M_Mo_cells R E 205 lv rest h cells slots := ev_iload_n d_Mo_cells_205 rfl hl k
theorem d_Mo_cells_206 : decode prog_10_method_23_code 206 = .ok (.bipush 8, 2) := by decide +kernel
theorem s_Mo_cells_206  (k : ev G M_Mo_cells R E 208 lv (.int 8 :: rest) h cells slots) : ev G M_Mo_cells R E 206 lv rest h cells slots := ev_bipush d_Mo_cells_206 (by decide) k
theorem d_Mo_cells_208 : decode prog_10_method_23_code 208 = .ok (.if_icmp .ne 15, 3) := by decide +kernel
theorem s_Mo_cells_208 {x y : Int32} (kt : ¬ x = y → ev G M_Mo_cells R E 223 lv rest h cells slots) (kf : x = y → ev G M_Mo_cells R E 211 lv rest h cells slots) : ev G M_Mo_cells R E 208 lv (.int y :: .int x :: rest) h cells slots := ev_icmp_ne d_Mo_cells_208 (by decide) kt kf
theorem d_Mo_cells_211 : decode prog_10_method_23_code 211 = .ok (.aload_n 0, 1) := by decide +kernel
theorem s_Mo_cells_211 {x : Nat} (hl : lg lv 0 = some (.ref x)) (k : ev G M_Mo_cells R E 212 lv (.ref x :: rest) h cells slots) : ev G M_Mo_cells R E 211 lv rest h cells slots := ev_aload_n d_Mo_cells_211 rfl hl k
theorem d_Mo_cells_212 : decode prog_10_method_23_code 212 = .ok (.iload_n 2, 1) := by decide +kernel
theorem s_Mo_cells_212 {x : Int32} (hl : lg lv 2 = some (.int x)) (k : ev G M_Mo_cells R E 213 lv (.int x :: rest) h cells slots) : ev G M_Mo_cells R E 212 lv rest h cells slots := ev_iload_n d_Mo_cells_212 rfl hl k
theorem d_Mo_cells_213 : decode prog_10_method_23_code 213 = .ok (.iconst 1, 1) := by decide +kernel
theorem s_Mo_cells_213  (k : ev G M_Mo_cells R E 214 lv (.int 1 :: rest) h cells slots) : ev G M_Mo_cells R E 213 lv rest h cells slots := ev_iconst d_Mo_cells_213 (by decide) k
theorem d_Mo_cells_214 : decode prog_10_method_23_code 214 = .ok (.iload 4, 2) := by decide +kernel
theorem s_Mo_cells_214 {x : Int32} (hl : lg lv 4 = some (.int x)) (k : ev G M_Mo_cells R E 216 lv (.int x :: rest) h cells slots) : ev G M_Mo_cells R E 214 lv rest h cells slots := ev_iload d_Mo_cells_214 hl k
theorem d_Mo_cells_216 : decode prog_10_method_23_code 216 = .ok (.iload 5, 2) := by decide +kernel
theorem s_Mo_cells_216 {x : Int32} (hl : lg lv 5 = some (.int x)) (k : ev G M_Mo_cells R E 218 lv (.int x :: rest) h cells slots) : ev G M_Mo_cells R E 216 lv rest h cells slots := ev_iload d_Mo_cells_216 hl k
theorem d_Mo_cells_218 : decode prog_10_method_23_code 218 = .ok (.iconst 1, 1) := by decide +kernel
theorem s_Mo_cells_218  (k : ev G M_Mo_cells R E 219 lv (.int 1 :: rest) h cells slots) : ev G M_Mo_cells R E 218 lv rest h cells slots := ev_iconst d_Mo_cells_218 (by decide) k
theorem d_Mo_cells_219 : decode prog_10_method_23_code 219 = .ok (.iconst 0, 1) := by decide +kernel
theorem s_Mo_cells_219  (k : ev G M_Mo_cells R E 220 lv (.int 0 :: rest) h cells slots) : ev G M_Mo_cells R E 219 lv rest h cells slots := ev_iconst d_Mo_cells_219 (by decide) k
theorem d_Mo_cells_220 : decode prog_10_method_23_code 220 = .ok (.invokevirtual 58, 3) := by decide +kernel
theorem s_Mo_cells_220 {mc ms : Nat} {P : Option Value → HP → Prop} {a0 : Int32} {a1 : Int32} {a2 : Int32} {a3 : Int32} {a4 : Int32} {a5 : Int32} {b : Nat} {fs : List Value} {v0 : Value} (hm : mt G M_Mo_put 0 mc ms (.ref b :: [.int a0, .int a1, .int a2, .int a3, .int a4, .int a5]) h P) (hb : h b = mO 7 fs) (hv0 : fs[0]? = some v0) (hR : 0 + 1 ≤ R.frames ∧ 8 + (7 + 11) + 39 * 0 ≤ R.locals) (hcs : cells + mc ≤ R.cells ∧ slots + ms ≤ R.slots) (hrest : (rest.map fun v => v.category).sum ≤ 8) (k : ∀ (r : Option Value) (h' : HP), P r h' → ev G M_Mo_cells R E 223 lv (r.toList ++ rest) h' (cells + mc) (slots + ms)) : ev G M_Mo_cells R E 220 lv (.int a5 :: .int a4 :: .int a3 :: .int a2 :: .int a1 :: .int a0 :: .ref b :: rest) h cells slots := ev_callV (as := [.int a0, .int a1, .int a2, .int a3, .int a4, .int a5]) (ci := 7) d_Mo_cells_220 hm hb hv0 rfl w_784 w_786 w_35 w_70 w_787 hy_Mo_put hR hcs hrest k
theorem d_Mo_cells_223 : decode prog_10_method_23_code 223 = .ok (.iload_n 1, 1) := by decide +kernel
theorem s_Mo_cells_223 {x : Int32} (hl : lg lv 1 = some (.int x)) (k : ev G M_Mo_cells R E 224 lv (.int x :: rest) h cells slots) : ev G M_Mo_cells R E 223 lv rest h cells slots := ev_iload_n d_Mo_cells_223 rfl hl k
theorem d_Mo_cells_224 : decode prog_10_method_23_code 224 = .ok (.bipush 9, 2) := by decide +kernel
theorem s_Mo_cells_224  (k : ev G M_Mo_cells R E 226 lv (.int 9 :: rest) h cells slots) : ev G M_Mo_cells R E 224 lv rest h cells slots := ev_bipush d_Mo_cells_224 (by decide) k
theorem d_Mo_cells_226 : decode prog_10_method_23_code 226 = .ok (.if_icmp .ne 8, 3) := by decide +kernel
theorem s_Mo_cells_226 {x y : Int32} (kt : ¬ x = y → ev G M_Mo_cells R E 234 lv rest h cells slots) (kf : x = y → ev G M_Mo_cells R E 229 lv rest h cells slots) : ev G M_Mo_cells R E 226 lv (.int y :: .int x :: rest) h cells slots := ev_icmp_ne d_Mo_cells_226 (by decide) kt kf
theorem d_Mo_cells_229 : decode prog_10_method_23_code 229 = .ok (.aload_n 0, 1) := by decide +kernel
theorem s_Mo_cells_229 {x : Nat} (hl : lg lv 0 = some (.ref x)) (k : ev G M_Mo_cells R E 230 lv (.ref x :: rest) h cells slots) : ev G M_Mo_cells R E 229 lv rest h cells slots := ev_aload_n d_Mo_cells_229 rfl hl k
theorem d_Mo_cells_230 : decode prog_10_method_23_code 230 = .ok (.iload_n 2, 1) := by decide +kernel
theorem s_Mo_cells_230 {x : Int32} (hl : lg lv 2 = some (.int x)) (k : ev G M_Mo_cells R E 231 lv (.int x :: rest) h cells slots) : ev G M_Mo_cells R E 230 lv rest h cells slots := ev_iload_n d_Mo_cells_230 rfl hl k
theorem d_Mo_cells_231 : decode prog_10_method_23_code 231 = .ok (.invokevirtual 70, 3) := by decide +kernel
theorem s_Mo_cells_231 {mc ms : Nat} {P : Option Value → HP → Prop} {a0 : Int32} {b : Nat} {fs : List Value} {v0 : Value} (hm : mt G M_Mo_clear 1 mc ms (.ref b :: [.int a0]) h P) (hb : h b = mO 7 fs) (hv0 : fs[0]? = some v0) (hR : 1 + 1 ≤ R.frames ∧ 8 + (2 + 11) + 39 * 1 ≤ R.locals) (hcs : cells + mc ≤ R.cells ∧ slots + ms ≤ R.slots) (hrest : (rest.map fun v => v.category).sum ≤ 8) (k : ∀ (r : Option Value) (h' : HP), P r h' → ev G M_Mo_cells R E 234 lv (r.toList ++ rest) h' (cells + mc) (slots + ms)) : ev G M_Mo_cells R E 231 lv (.int a0 :: .ref b :: rest) h cells slots := ev_callV (as := [.int a0]) (ci := 7) d_Mo_cells_231 hm hb hv0 rfl w_780 w_782 w_34 w_70 w_783 hy_Mo_clear hR hcs hrest k
theorem d_Mo_cells_234 : decode prog_10_method_23_code 234 = .ok (.iconst 0, 1) := by decide +kernel
theorem s_Mo_cells_234  (k : ev G M_Mo_cells R E 235 lv (.int 0 :: rest) h cells slots) : ev G M_Mo_cells R E 234 lv rest h cells slots := ev_iconst d_Mo_cells_234 (by decide) k
theorem d_Mo_cells_235 : decode prog_10_method_23_code 235 = .ok (.ireturn, 1) := by decide +kernel
theorem s_Mo_cells_235 {P : Option Value → HP → Prop} {mc ms : Nat} {v : Int32} (hP : P (some (.int v)) h) (hc : cells ≤ mc ∧ slots ≤ ms) : ev G M_Mo_cells R (Er M_Mo_cells P mc ms) 235 lv [.int v] h cells slots := ev_exit ⟨hc.1, hc.2, Or.inr (Or.inl ⟨v, .int, rfl, rfl, d_Mo_cells_235, rfl, hP⟩)⟩
abbrev M_Mo_length : MW := (⟨"UseOnceMachineModel", "length", "(I)I"⟩, prog_10_method_12_code, 2, (some .int))
theorem hy_Mo_length : M_Mo_length.1.cls ≠ "java/lang/invoke/MethodHandle" ∧ M_Mo_length.1.cls ≠ "java/lang/invoke/VarHandle" ∧ (parseMethodDescriptor M_Mo_length.1.desc).map (fun d => d.parameters.length) = some 1 := by decide +kernel
theorem d_Mo_length_0 : decode prog_10_method_12_code 0 = .ok (.aload_n 0, 1) := by decide +kernel
theorem s_Mo_length_0 {x : Nat} (hl : lg lv 0 = some (.ref x)) (k : ev G M_Mo_length R E 1 lv (.ref x :: rest) h cells slots) : ev G M_Mo_length R E 0 lv rest h cells slots := ev_aload_n d_Mo_length_0 rfl hl k
theorem d_Mo_length_1 : decode prog_10_method_12_code 1 = .ok (.iload_n 1, 1) := by decide +kernel
theorem s_Mo_length_1 {x : Int32} (hl : lg lv 1 = some (.int x)) (k : ev G M_Mo_length R E 2 lv (.int x :: rest) h cells slots) : ev G M_Mo_length R E 1 lv rest h cells slots := ev_iload_n d_Mo_length_1 rfl hl k
theorem d_Mo_length_2 : decode prog_10_method_12_code 2 = .ok (.iconst 2, 1) := by decide +kernel
theorem s_Mo_length_2  (k : ev G M_Mo_length R E 3 lv (.int 2 :: rest) h cells slots) : ev G M_Mo_length R E 2 lv rest h cells slots := ev_iconst d_Mo_length_2 (by decide) k
theorem d_Mo_length_3 : decode prog_10_method_12_code 3 = .ok (.invokevirtual 66, 3) := by decide +kernel
theorem s_Mo_length_3 {mc ms : Nat} {P : Option Value → HP → Prop} {a0 : Int32} {a1 : Int32} {b : Nat} {fs : List Value} {v0 : Value} (hm : mt G M_Mo_get 0 mc ms (.ref b :: [.int a0, .int a1]) h P) (hb : h b = mO 7 fs) (hv0 : fs[0]? = some v0) (hR : 0 + 1 ≤ R.frames ∧ 8 + (3 + 11) + 39 * 0 ≤ R.locals) (hcs : cells + mc ≤ R.cells ∧ slots + ms ≤ R.slots) (hrest : (rest.map fun v => v.category).sum ≤ 8) (k : ∀ (r : Option Value) (h' : HP), P r h' → ev G M_Mo_length R E 6 lv (r.toList ++ rest) h' (cells + mc) (slots + ms)) : ev G M_Mo_length R E 3 lv (.int a1 :: .int a0 :: .ref b :: rest) h cells slots := ev_callV (as := [.int a0, .int a1]) (ci := 7) d_Mo_length_3 hm hb hv0 rfl w_816 w_818 w_42 w_70 w_819 hy_Mo_get hR hcs hrest k
theorem d_Mo_length_6 : decode prog_10_method_12_code 6 = .ok (.aload_n 0, 1) := by decide +kernel
theorem s_Mo_length_6 {x : Nat} (hl : lg lv 0 = some (.ref x)) (k : ev G M_Mo_length R E 7 lv (.ref x :: rest) h cells slots) : ev G M_Mo_length R E 6 lv rest h cells slots := ev_aload_n d_Mo_length_6 rfl hl k
theorem d_Mo_length_7 : decode prog_10_method_12_code 7 = .ok (.iload_n 1, 1) := by decide +kernel
theorem s_Mo_length_7 {x : Int32} (hl : lg lv 1 = some (.int x)) (k : ev G M_Mo_length R E 8 lv (.int x :: rest) h cells slots) : ev G M_Mo_length R E 7 lv rest h cells slots := ev_iload_n d_Mo_length_7 rfl hl k
theorem d_Mo_length_8 : decode prog_10_method_12_code 8 = .ok (.iconst 1, 1) := by decide +kernel
theorem s_Mo_length_8  (k : ev G M_Mo_length R E 9 lv (.int 1 :: rest) h cells slots) : ev G M_Mo_length R E 8 lv rest h cells slots := ev_iconst d_Mo_length_8 (by decide) k
theorem d_Mo_length_9 : decode prog_10_method_12_code 9 = .ok (.invokevirtual 66, 3) := by decide +kernel
theorem s_Mo_length_9 {mc ms : Nat} {P : Option Value → HP → Prop} {a0 : Int32} {a1 : Int32} {b : Nat} {fs : List Value} {v0 : Value} (hm : mt G M_Mo_get 0 mc ms (.ref b :: [.int a0, .int a1]) h P) (hb : h b = mO 7 fs) (hv0 : fs[0]? = some v0) (hR : 0 + 1 ≤ R.frames ∧ 8 + (3 + 11) + 39 * 0 ≤ R.locals) (hcs : cells + mc ≤ R.cells ∧ slots + ms ≤ R.slots) (hrest : (rest.map fun v => v.category).sum ≤ 8) (k : ∀ (r : Option Value) (h' : HP), P r h' → ev G M_Mo_length R E 12 lv (r.toList ++ rest) h' (cells + mc) (slots + ms)) : ev G M_Mo_length R E 9 lv (.int a1 :: .int a0 :: .ref b :: rest) h cells slots := ev_callV (as := [.int a0, .int a1]) (ci := 7) d_Mo_length_9 hm hb hv0 rfl w_816 w_818 w_42 w_70 w_819 hy_Mo_get hR hcs hrest k
theorem d_Mo_length_12 : decode prog_10_method_12_code 12 = .ok (.isub, 1) := by decide +kernel
theorem s_Mo_length_12 {x y : Int32} (k : ev G M_Mo_length R E 13 lv (.int (x - y) :: rest) h cells slots) : ev G M_Mo_length R E 12 lv (.int y :: .int x :: rest) h cells slots := ev_isub d_Mo_length_12 k
theorem d_Mo_length_13 : decode prog_10_method_12_code 13 = .ok (.ireturn, 1) := by decide +kernel
theorem s_Mo_length_13 {P : Option Value → HP → Prop} {mc ms : Nat} {v : Int32} (hP : P (some (.int v)) h) (hc : cells ≤ mc ∧ slots ≤ ms) : ev G M_Mo_length R (Er M_Mo_length P mc ms) 13 lv [.int v] h cells slots := ev_exit ⟨hc.1, hc.2, Or.inr (Or.inl ⟨v, .int, rfl, rfl, d_Mo_length_13, rfl, hP⟩)⟩
abbrev M_Mo_has : MW := (⟨"UseOnceMachineModel", "has", "(II)Z"⟩, prog_10_method_11_code, 3, (some .boolean))
theorem hy_Mo_has : M_Mo_has.1.cls ≠ "java/lang/invoke/MethodHandle" ∧ M_Mo_has.1.cls ≠ "java/lang/invoke/VarHandle" ∧ (parseMethodDescriptor M_Mo_has.1.desc).map (fun d => d.parameters.length) = some 2 := by decide +kernel
theorem d_Mo_has_0 : decode prog_10_method_11_code 0 = .ok (.aload_n 0, 1) := by decide +kernel
theorem s_Mo_has_0 {x : Nat} (hl : lg lv 0 = some (.ref x)) (k : ev G M_Mo_has R E 1 lv (.ref x :: rest) h cells slots) : ev G M_Mo_has R E 0 lv rest h cells slots := ev_aload_n d_Mo_has_0 rfl hl k
theorem d_Mo_has_1 : decode prog_10_method_11_code 1 = .ok (.iload_n 1, 1) := by decide +kernel
theorem s_Mo_has_1 {x : Int32} (hl : lg lv 1 = some (.int x)) (k : ev G M_Mo_has R E 2 lv (.int x :: rest) h cells slots) : ev G M_Mo_has R E 1 lv rest h cells slots := ev_iload_n d_Mo_has_1 rfl hl k
theorem d_Mo_has_2 : decode prog_10_method_11_code 2 = .ok (.iconst 3, 1) := by decide +kernel
theorem s_Mo_has_2  (k : ev G M_Mo_has R E 3 lv (.int 3 :: rest) h cells slots) : ev G M_Mo_has R E 2 lv rest h cells slots := ev_iconst d_Mo_has_2 (by decide) k
theorem d_Mo_has_3 : decode prog_10_method_11_code 3 = .ok (.invokevirtual 66, 3) := by decide +kernel
theorem s_Mo_has_3 {mc ms : Nat} {P : Option Value → HP → Prop} {a0 : Int32} {a1 : Int32} {b : Nat} {fs : List Value} {v0 : Value} (hm : mt G M_Mo_get 0 mc ms (.ref b :: [.int a0, .int a1]) h P) (hb : h b = mO 7 fs) (hv0 : fs[0]? = some v0) (hR : 0 + 1 ≤ R.frames ∧ 8 + (3 + 11) + 39 * 0 ≤ R.locals) (hcs : cells + mc ≤ R.cells ∧ slots + ms ≤ R.slots) (hrest : (rest.map fun v => v.category).sum ≤ 8) (k : ∀ (r : Option Value) (h' : HP), P r h' → ev G M_Mo_has R E 6 lv (r.toList ++ rest) h' (cells + mc) (slots + ms)) : ev G M_Mo_has R E 3 lv (.int a1 :: .int a0 :: .ref b :: rest) h cells slots := ev_callV (as := [.int a0, .int a1]) (ci := 7) d_Mo_has_3 hm hb hv0 rfl w_816 w_818 w_42 w_70 w_819 hy_Mo_get hR hcs hrest k
theorem d_Mo_has_6 : decode prog_10_method_11_code 6 = .ok (.iload_n 2, 1) := by decide +kernel
theorem s_Mo_has_6 {x : Int32} (hl : lg lv 2 = some (.int x)) (k : ev G M_Mo_has R E 7 lv (.int x :: rest) h cells slots) : ev G M_Mo_has R E 6 lv rest h cells slots := ev_iload_n d_Mo_has_6 rfl hl k
theorem d_Mo_has_7 : decode prog_10_method_11_code 7 = .ok (.iand, 1) := by decide +kernel
theorem s_Mo_has_7 {x y : Int32} (k : ev G M_Mo_has R E 8 lv (.int (x &&& y) :: rest) h cells slots) : ev G M_Mo_has R E 7 lv (.int y :: .int x :: rest) h cells slots := ev_iand d_Mo_has_7 k
theorem d_Mo_has_8 : decode prog_10_method_11_code 8 = .ok (.ifCond .eq 7, 3) := by decide +kernel
theorem s_Mo_has_8 {x : Int32} (kt : x = 0 → ev G M_Mo_has R E 15 lv rest h cells slots) (kf : ¬ x = 0 → ev G M_Mo_has R E 11 lv rest h cells slots) : ev G M_Mo_has R E 8 lv (.int x :: rest) h cells slots := ev_if_eq d_Mo_has_8 (by decide) kt kf
theorem d_Mo_has_11 : decode prog_10_method_11_code 11 = .ok (.iconst 1, 1) := by decide +kernel
theorem s_Mo_has_11  (k : ev G M_Mo_has R E 12 lv (.int 1 :: rest) h cells slots) : ev G M_Mo_has R E 11 lv rest h cells slots := ev_iconst d_Mo_has_11 (by decide) k
theorem d_Mo_has_12 : decode prog_10_method_11_code 12 = .ok (.goto 4, 3) := by decide +kernel
theorem s_Mo_has_12  (k : ev G M_Mo_has R E 16 lv rest h cells slots) : ev G M_Mo_has R E 12 lv rest h cells slots := ev_goto d_Mo_has_12 (by decide) k
theorem d_Mo_has_15 : decode prog_10_method_11_code 15 = .ok (.iconst 0, 1) := by decide +kernel
theorem s_Mo_has_15  (k : ev G M_Mo_has R E 16 lv (.int 0 :: rest) h cells slots) : ev G M_Mo_has R E 15 lv rest h cells slots := ev_iconst d_Mo_has_15 (by decide) k
theorem d_Mo_has_16 : decode prog_10_method_11_code 16 = .ok (.ireturn, 1) := by decide +kernel
theorem s_Mo_has_16 {P : Option Value → HP → Prop} {mc ms : Nat} {v : Int32} (hz : v = 0 ∨ v = 1) (hP : P (some (.int v)) h) (hc : cells ≤ mc ∧ slots ≤ ms) : ev G M_Mo_has R (Er M_Mo_has P mc ms) 16 lv [.int v] h cells slots := ev_exit ⟨hc.1, hc.2, Or.inr (Or.inl ⟨v, .boolean, rfl, (nar_z hz), d_Mo_has_16, rfl, hP⟩)⟩
abbrev M_Mo_memory : MW := (⟨"UseOnceMachineModel", "memory", "(IIII)I"⟩, prog_10_method_24_code, 9, (some .int))
theorem hy_Mo_memory : M_Mo_memory.1.cls ≠ "java/lang/invoke/MethodHandle" ∧ M_Mo_memory.1.cls ≠ "java/lang/invoke/VarHandle" ∧ (parseMethodDescriptor M_Mo_memory.1.desc).map (fun d => d.parameters.length) = some 4 := by decide +kernel
theorem d_Mo_memory_0 : decode prog_10_method_24_code 0 = .ok (.aload_n 0, 1) := by decide +kernel
theorem s_Mo_memory_0 {x : Nat} (hl : lg lv 0 = some (.ref x)) (k : ev G M_Mo_memory R E 1 lv (.ref x :: rest) h cells slots) : ev G M_Mo_memory R E 0 lv rest h cells slots := ev_aload_n d_Mo_memory_0 rfl hl k
theorem d_Mo_memory_1 : decode prog_10_method_24_code 1 = .ok (.iload_n 3, 1) := by decide +kernel
theorem s_Mo_memory_1 {x : Int32} (hl : lg lv 3 = some (.int x)) (k : ev G M_Mo_memory R E 2 lv (.int x :: rest) h cells slots) : ev G M_Mo_memory R E 1 lv rest h cells slots := ev_iload_n d_Mo_memory_1 rfl hl k
theorem d_Mo_memory_2 : decode prog_10_method_24_code 2 = .ok (.invokevirtual 62, 3) := by decide +kernel
theorem s_Mo_memory_2 {mc ms : Nat} {P : Option Value → HP → Prop} {a0 : Int32} {b : Nat} {fs : List Value} {v0 : Value} (hm : mt G M_Mo_what 0 mc ms (.ref b :: [.int a0]) h P) (hb : h b = mO 7 fs) (hv0 : fs[0]? = some v0) (hR : 0 + 1 ≤ R.frames ∧ 8 + (2 + 11) + 39 * 0 ≤ R.locals) (hcs : cells + mc ≤ R.cells ∧ slots + ms ≤ R.slots) (hrest : (rest.map fun v => v.category).sum ≤ 8) (k : ∀ (r : Option Value) (h' : HP), P r h' → ev G M_Mo_memory R E 5 lv (r.toList ++ rest) h' (cells + mc) (slots + ms)) : ev G M_Mo_memory R E 2 lv (.int a0 :: .ref b :: rest) h cells slots := ev_callV (as := [.int a0]) (ci := 7) d_Mo_memory_2 hm hb hv0 rfl w_804 w_806 w_39 w_70 w_807 hy_Mo_what hR hcs hrest k
theorem d_Mo_memory_5 : decode prog_10_method_24_code 5 = .ok (.ifCond .eq 12, 3) := by decide +kernel
theorem s_Mo_memory_5 {x : Int32} (kt : x = 0 → ev G M_Mo_memory R E 17 lv rest h cells slots) (kf : ¬ x = 0 → ev G M_Mo_memory R E 8 lv rest h cells slots) : ev G M_Mo_memory R E 5 lv (.int x :: rest) h cells slots := ev_if_eq d_Mo_memory_5 (by decide) kt kf
theorem d_Mo_memory_8 : decode prog_10_method_24_code 8 = .ok (.aload_n 0, 1) := by decide +kernel
theorem s_Mo_memory_8 {x : Nat} (hl : lg lv 0 = some (.ref x)) (k : ev G M_Mo_memory R E 9 lv (.ref x :: rest) h cells slots) : ev G M_Mo_memory R E 8 lv rest h cells slots := ev_aload_n d_Mo_memory_8 rfl hl k
theorem d_Mo_memory_9 : decode prog_10_method_24_code 9 = .ok (.iload_n 3, 1) := by decide +kernel
theorem s_Mo_memory_9 {x : Int32} (hl : lg lv 3 = some (.int x)) (k : ev G M_Mo_memory R E 10 lv (.int x :: rest) h cells slots) : ev G M_Mo_memory R E 9 lv rest h cells slots := ev_iload_n d_Mo_memory_9 rfl hl k
theorem d_Mo_memory_10 : decode prog_10_method_24_code 10 = .ok (.invokevirtual 62, 3) := by decide +kernel
theorem s_Mo_memory_10 {mc ms : Nat} {P : Option Value → HP → Prop} {a0 : Int32} {b : Nat} {fs : List Value} {v0 : Value} (hm : mt G M_Mo_what 0 mc ms (.ref b :: [.int a0]) h P) (hb : h b = mO 7 fs) (hv0 : fs[0]? = some v0) (hR : 0 + 1 ≤ R.frames ∧ 8 + (2 + 11) + 39 * 0 ≤ R.locals) (hcs : cells + mc ≤ R.cells ∧ slots + ms ≤ R.slots) (hrest : (rest.map fun v => v.category).sum ≤ 8) (k : ∀ (r : Option Value) (h' : HP), P r h' → ev G M_Mo_memory R E 13 lv (r.toList ++ rest) h' (cells + mc) (slots + ms)) : ev G M_Mo_memory R E 10 lv (.int a0 :: .ref b :: rest) h cells slots := ev_callV (as := [.int a0]) (ci := 7) d_Mo_memory_10 hm hb hv0 rfl w_804 w_806 w_39 w_70 w_807 hy_Mo_what hR hcs hrest k
theorem d_Mo_memory_13 : decode prog_10_method_24_code 13 = .ok (.iconst 3, 1) := by decide +kernel
theorem s_Mo_memory_13  (k : ev G M_Mo_memory R E 14 lv (.int 3 :: rest) h cells slots) : ev G M_Mo_memory R E 13 lv rest h cells slots := ev_iconst d_Mo_memory_13 (by decide) k
theorem d_Mo_memory_14 : decode prog_10_method_24_code 14 = .ok (.if_icmp .ne 5, 3) := by decide +kernel
theorem s_Mo_memory_14 {x y : Int32} (kt : ¬ x = y → ev G M_Mo_memory R E 19 lv rest h cells slots) (kf : x = y → ev G M_Mo_memory R E 17 lv rest h cells slots) : ev G M_Mo_memory R E 14 lv (.int y :: .int x :: rest) h cells slots := ev_icmp_ne d_Mo_memory_14 (by decide) kt kf
theorem d_Mo_memory_17 : decode prog_10_method_24_code 17 = .ok (.iconst 1, 1) := by decide +kernel
theorem s_Mo_memory_17  (k : ev G M_Mo_memory R E 18 lv (.int 1 :: rest) h cells slots) : ev G M_Mo_memory R E 17 lv rest h cells slots := ev_iconst d_Mo_memory_17 (by decide) k
theorem d_Mo_memory_18 : decode prog_10_method_24_code 18 = .ok (.ireturn, 1) := by decide +kernel
theorem s_Mo_memory_18 {P : Option Value → HP → Prop} {mc ms : Nat} {v : Int32} (hP : P (some (.int v)) h) (hc : cells ≤ mc ∧ slots ≤ ms) : ev G M_Mo_memory R (Er M_Mo_memory P mc ms) 18 lv [.int v] h cells slots := ev_exit ⟨hc.1, hc.2, Or.inr (Or.inl ⟨v, .int, rfl, rfl, d_Mo_memory_18, rfl, hP⟩)⟩
theorem d_Mo_memory_19 : decode prog_10_method_24_code 19 = .ok (.iload 4, 2) := by decide +kernel
theorem s_Mo_memory_19 {x : Int32} (hl : lg lv 4 = some (.int x)) (k : ev G M_Mo_memory R E 21 lv (.int x :: rest) h cells slots) : ev G M_Mo_memory R E 19 lv rest h cells slots := ev_iload d_Mo_memory_19 hl k
theorem d_Mo_memory_21 : decode prog_10_method_24_code 21 = .ok (.iconst 0, 1) := by decide +kernel
theorem s_Mo_memory_21  (k : ev G M_Mo_memory R E 22 lv (.int 0 :: rest) h cells slots) : ev G M_Mo_memory R E 21 lv rest h cells slots := ev_iconst d_Mo_memory_21 (by decide) k
theorem d_Mo_memory_22 : decode prog_10_method_24_code 22 = .ok (.aload_n 0, 1) := by decide +kernel
theorem s_Mo_memory_22 {x : Nat} (hl : lg lv 0 = some (.ref x)) (k : ev G M_Mo_memory R E 23 lv (.ref x :: rest) h cells slots) : ev G M_Mo_memory R E 22 lv rest h cells slots := ev_aload_n d_Mo_memory_22 rfl hl k
theorem d_Mo_memory_23 : decode prog_10_method_24_code 23 = .ok (.iload_n 3, 1) := by decide +kernel
theorem s_Mo_memory_23 {x : Int32} (hl : lg lv 3 = some (.int x)) (k : ev G M_Mo_memory R E 24 lv (.int x :: rest) h cells slots) : ev G M_Mo_memory R E 23 lv rest h cells slots := ev_iload_n d_Mo_memory_23 rfl hl k
theorem d_Mo_memory_24 : decode prog_10_method_24_code 24 = .ok (.invokevirtual 143, 3) := by decide +kernel
theorem s_Mo_memory_24 {mc ms : Nat} {P : Option Value → HP → Prop} {a0 : Int32} {b : Nat} {fs : List Value} {v0 : Value} (hm : mt G M_Mo_length 1 mc ms (.ref b :: [.int a0]) h P) (hb : h b = mO 7 fs) (hv0 : fs[0]? = some v0) (hR : 1 + 1 ≤ R.frames ∧ 8 + (2 + 11) + 39 * 1 ≤ R.locals) (hcs : cells + mc ≤ R.cells ∧ slots + ms ≤ R.slots) (hrest : (rest.map fun v => v.category).sum ≤ 8) (k : ∀ (r : Option Value) (h' : HP), P r h' → ev G M_Mo_memory R E 27 lv (r.toList ++ rest) h' (cells + mc) (slots + ms)) : ev G M_Mo_memory R E 24 lv (.int a0 :: .ref b :: rest) h cells slots := ev_callV (as := [.int a0]) (ci := 7) d_Mo_memory_24 hm hb hv0 rfl w_840 w_842 w_48 w_70 w_843 hy_Mo_length hR hcs hrest k
theorem d_Mo_memory_27 : decode prog_10_method_24_code 27 = .ok (.iconst 1, 1) := by decide +kernel
theorem s_Mo_memory_27  (k : ev G M_Mo_memory R E 28 lv (.int 1 :: rest) h cells slots) : ev G M_Mo_memory R E 27 lv rest h cells slots := ev_iconst d_Mo_memory_27 (by decide) k
theorem d_Mo_memory_28 : decode prog_10_method_24_code 28 = .ok (.isub, 1) := by decide +kernel
theorem s_Mo_memory_28 {x y : Int32} (k : ev G M_Mo_memory R E 29 lv (.int (x - y) :: rest) h cells slots) : ev G M_Mo_memory R E 28 lv (.int y :: .int x :: rest) h cells slots := ev_isub d_Mo_memory_28 k
theorem d_Mo_memory_29 : decode prog_10_method_24_code 29 = .ok (.invokestatic 50, 3) := by decide +kernel
theorem s_Mo_memory_29 {mc ms : Nat} {P : Option Value → HP → Prop} {a0 : Int32} {a1 : Int32} {a2 : Int32} (hm : mt G M_Mo_in 0 mc ms [.int a0, .int a1, .int a2] h P) (hR : 0 + 1 ≤ R.frames ∧ 8 + (3 + 11) + 39 * 0 ≤ R.locals) (hcs : cells + mc ≤ R.cells ∧ slots + ms ≤ R.slots) (hrest : (rest.map fun v => v.category).sum ≤ 8) (k : ∀ (r : Option Value) (h' : HP), P r h' → ev G M_Mo_memory R E 32 lv (r.toList ++ rest) h' (cells + mc) (slots + ms)) : ev G M_Mo_memory R E 29 lv (.int a2 :: .int a1 :: .int a0 :: rest) h cells slots := ev_callS (as := [.int a0, .int a1, .int a2]) d_Mo_memory_29 hm w_769 w_770 w_70 w_771 hy_Mo_in hR hcs hrest k
theorem d_Mo_memory_32 : decode prog_10_method_24_code 32 = .ok (.istore 5, 2) := by decide +kernel
theorem s_Mo_memory_32 {x : Int32} (k : ev G M_Mo_memory R E 34 (ls1 lv 5 (.int x)) rest h cells slots) : ev G M_Mo_memory R E 32 lv (.int x :: rest) h cells slots := ev_istore d_Mo_memory_32 (by decide) k
theorem d_Mo_memory_34 : decode prog_10_method_24_code 34 = .ok (.bipush 8, 2) := by decide +kernel
theorem s_Mo_memory_34  (k : ev G M_Mo_memory R E 36 lv (.int 8 :: rest) h cells slots) : ev G M_Mo_memory R E 34 lv rest h cells slots := ev_bipush d_Mo_memory_34 (by decide) k
theorem d_Mo_memory_36 : decode prog_10_method_24_code 36 = .ok (.iload 5, 2) := by decide +kernel
theorem s_Mo_memory_36 {x : Int32} (hl : lg lv 5 = some (.int x)) (k : ev G M_Mo_memory R E 38 lv (.int x :: rest) h cells slots) : ev G M_Mo_memory R E 36 lv rest h cells slots := ev_iload d_Mo_memory_36 hl k
theorem d_Mo_memory_38 : decode prog_10_method_24_code 38 = .ok (.ifCond .eq 15, 3) := by decide +kernel
theorem s_Mo_memory_38 {x : Int32} (kt : x = 0 → ev G M_Mo_memory R E 53 lv rest h cells slots) (kf : ¬ x = 0 → ev G M_Mo_memory R E 41 lv rest h cells slots) : ev G M_Mo_memory R E 38 lv (.int x :: rest) h cells slots := ev_if_eq d_Mo_memory_38 (by decide) kt kf
theorem d_Mo_memory_41 : decode prog_10_method_24_code 41 = .ok (.aload_n 0, 1) := by decide +kernel
theorem s_Mo_memory_41 {x : Nat} (hl : lg lv 0 = some (.ref x)) (k : ev G M_Mo_memory R E 42 lv (.ref x :: rest) h cells slots) : ev G M_Mo_memory R E 41 lv rest h cells slots := ev_aload_n d_Mo_memory_41 rfl hl k
theorem d_Mo_memory_42 : decode prog_10_method_24_code 42 = .ok (.iload_n 3, 1) := by decide +kernel
theorem s_Mo_memory_42 {x : Int32} (hl : lg lv 3 = some (.int x)) (k : ev G M_Mo_memory R E 43 lv (.int x :: rest) h cells slots) : ev G M_Mo_memory R E 42 lv rest h cells slots := ev_iload_n d_Mo_memory_42 rfl hl k
theorem d_Mo_memory_43 : decode prog_10_method_24_code 43 = .ok (.iconst 1, 1) := by decide +kernel
theorem s_Mo_memory_43  (k : ev G M_Mo_memory R E 44 lv (.int 1 :: rest) h cells slots) : ev G M_Mo_memory R E 43 lv rest h cells slots := ev_iconst d_Mo_memory_43 (by decide) k
theorem d_Mo_memory_44 : decode prog_10_method_24_code 44 = .ok (.invokevirtual 66, 3) := by decide +kernel
theorem s_Mo_memory_44 {mc ms : Nat} {P : Option Value → HP → Prop} {a0 : Int32} {a1 : Int32} {b : Nat} {fs : List Value} {v0 : Value} (hm : mt G M_Mo_get 0 mc ms (.ref b :: [.int a0, .int a1]) h P) (hb : h b = mO 7 fs) (hv0 : fs[0]? = some v0) (hR : 0 + 1 ≤ R.frames ∧ 8 + (3 + 11) + 39 * 0 ≤ R.locals) (hcs : cells + mc ≤ R.cells ∧ slots + ms ≤ R.slots) (hrest : (rest.map fun v => v.category).sum ≤ 8) (k : ∀ (r : Option Value) (h' : HP), P r h' → ev G M_Mo_memory R E 47 lv (r.toList ++ rest) h' (cells + mc) (slots + ms)) : ev G M_Mo_memory R E 44 lv (.int a1 :: .int a0 :: .ref b :: rest) h cells slots := ev_callV (as := [.int a0, .int a1]) (ci := 7) d_Mo_memory_44 hm hb hv0 rfl w_816 w_818 w_42 w_70 w_819 hy_Mo_get hR hcs hrest k
theorem d_Mo_memory_47 : decode prog_10_method_24_code 47 = .ok (.iload 4, 2) := by decide +kernel
theorem s_Mo_memory_47 {x : Int32} (hl : lg lv 4 = some (.int x)) (k : ev G M_Mo_memory R E 49 lv (.int x :: rest) h cells slots) : ev G M_Mo_memory R E 47 lv rest h cells slots := ev_iload d_Mo_memory_47 hl k
theorem d_Mo_memory_49 : decode prog_10_method_24_code 49 = .ok (.iadd, 1) := by decide +kernel
theorem s_Mo_memory_49 {x y : Int32} (k : ev G M_Mo_memory R E 50 lv (.int (x + y) :: rest) h cells slots) : ev G M_Mo_memory R E 49 lv (.int y :: .int x :: rest) h cells slots := ev_iadd d_Mo_memory_49 k
theorem d_Mo_memory_50 : decode prog_10_method_24_code 50 = .ok (.goto 4, 3) := by decide +kernel
theorem s_Mo_memory_50  (k : ev G M_Mo_memory R E 54 lv rest h cells slots) : ev G M_Mo_memory R E 50 lv rest h cells slots := ev_goto d_Mo_memory_50 (by decide) k
theorem d_Mo_memory_53 : decode prog_10_method_24_code 53 = .ok (.iconst 0, 1) := by decide +kernel
theorem s_Mo_memory_53  (k : ev G M_Mo_memory R E 54 lv (.int 0 :: rest) h cells slots) : ev G M_Mo_memory R E 53 lv rest h cells slots := ev_iconst d_Mo_memory_53 (by decide) k
theorem d_Mo_memory_54 : decode prog_10_method_24_code 54 = .ok (.iadd, 1) := by decide +kernel
theorem s_Mo_memory_54 {x y : Int32} (k : ev G M_Mo_memory R E 55 lv (.int (x + y) :: rest) h cells slots) : ev G M_Mo_memory R E 54 lv (.int y :: .int x :: rest) h cells slots := ev_iadd d_Mo_memory_54 k
theorem d_Mo_memory_55 : decode prog_10_method_24_code 55 = .ok (.istore 6, 2) := by decide +kernel
theorem s_Mo_memory_55 {x : Int32} (k : ev G M_Mo_memory R E 57 (ls1 lv 6 (.int x)) rest h cells slots) : ev G M_Mo_memory R E 55 lv (.int x :: rest) h cells slots := ev_istore d_Mo_memory_55 (by decide) k
theorem d_Mo_memory_57 : decode prog_10_method_24_code 57 = .ok (.iload 5, 2) := by decide +kernel
theorem s_Mo_memory_57 {x : Int32} (hl : lg lv 5 = some (.int x)) (k : ev G M_Mo_memory R E 59 lv (.int x :: rest) h cells slots) : ev G M_Mo_memory R E 57 lv rest h cells slots := ev_iload d_Mo_memory_57 hl k
theorem d_Mo_memory_59 : decode prog_10_method_24_code 59 = .ok (.ifCond .eq 22, 3) := by decide +kernel
theorem s_Mo_memory_59 {x : Int32} (kt : x = 0 → ev G M_Mo_memory R E 81 lv rest h cells slots) (kf : ¬ x = 0 → ev G M_Mo_memory R E 62 lv rest h cells slots) : ev G M_Mo_memory R E 59 lv (.int x :: rest) h cells slots := ev_if_eq d_Mo_memory_59 (by decide) kt kf
theorem d_Mo_memory_62 : decode prog_10_method_24_code 62 = .ok (.aload_n 0, 1) := by decide +kernel
theorem s_Mo_memory_62 {x : Nat} (hl : lg lv 0 = some (.ref x)) (k : ev G M_Mo_memory R E 63 lv (.ref x :: rest) h cells slots) : ev G M_Mo_memory R E 62 lv rest h cells slots := ev_aload_n d_Mo_memory_62 rfl hl k
theorem d_Mo_memory_63 : decode prog_10_method_24_code 63 = .ok (.iload_n 3, 1) := by decide +kernel
theorem s_Mo_memory_63 {x : Int32} (hl : lg lv 3 = some (.int x)) (k : ev G M_Mo_memory R E 64 lv (.int x :: rest) h cells slots) : ev G M_Mo_memory R E 63 lv rest h cells slots := ev_iload_n d_Mo_memory_63 rfl hl k
theorem d_Mo_memory_64 : decode prog_10_method_24_code 64 = .ok (.iload_n 1, 1) := by decide +kernel
theorem s_Mo_memory_64 {x : Int32} (hl : lg lv 1 = some (.int x)) (k : ev G M_Mo_memory R E 65 lv (.int x :: rest) h cells slots) : ev G M_Mo_memory R E 64 lv rest h cells slots := ev_iload_n d_Mo_memory_64 rfl hl k
theorem d_Mo_memory_65 : decode prog_10_method_24_code 65 = .ok (.bipush 10, 2) := by decide +kernel
theorem s_Mo_memory_65  (k : ev G M_Mo_memory R E 67 lv (.int 10 :: rest) h cells slots) : ev G M_Mo_memory R E 65 lv rest h cells slots := ev_bipush d_Mo_memory_65 (by decide) k
theorem d_Mo_memory_67 : decode prog_10_method_24_code 67 = .ok (.if_icmp .ne 7, 3) := by decide +kernel
theorem s_Mo_memory_67 {x y : Int32} (kt : ¬ x = y → ev G M_Mo_memory R E 74 lv rest h cells slots) (kf : x = y → ev G M_Mo_memory R E 70 lv rest h cells slots) : ev G M_Mo_memory R E 67 lv (.int y :: .int x :: rest) h cells slots := ev_icmp_ne d_Mo_memory_67 (by decide) kt kf
theorem d_Mo_memory_70 : decode prog_10_method_24_code 70 = .ok (.iconst 1, 1) := by decide +kernel
theorem s_Mo_memory_70  (k : ev G M_Mo_memory R E 71 lv (.int 1 :: rest) h cells slots) : ev G M_Mo_memory R E 70 lv rest h cells slots := ev_iconst d_Mo_memory_70 (by decide) k
theorem d_Mo_memory_71 : decode prog_10_method_24_code 71 = .ok (.goto 4, 3) := by decide +kernel
theorem s_Mo_memory_71  (k : ev G M_Mo_memory R E 75 lv rest h cells slots) : ev G M_Mo_memory R E 71 lv rest h cells slots := ev_goto d_Mo_memory_71 (by decide) k
theorem d_Mo_memory_74 : decode prog_10_method_24_code 74 = .ok (.iconst 2, 1) := by decide +kernel
theorem s_Mo_memory_74  (k : ev G M_Mo_memory R E 75 lv (.int 2 :: rest) h cells slots) : ev G M_Mo_memory R E 74 lv rest h cells slots := ev_iconst d_Mo_memory_74 (by decide) k
theorem d_Mo_memory_75 : decode prog_10_method_24_code 75 = .ok (.invokevirtual 146, 3) := by decide +kernel
theorem s_Mo_memory_75 {mc ms : Nat} {P : Option Value → HP → Prop} {a0 : Int32} {a1 : Int32} {b : Nat} {fs : List Value} {v0 : Value} (hm : mt G M_Mo_has 1 mc ms (.ref b :: [.int a0, .int a1]) h P) (hb : h b = mO 7 fs) (hv0 : fs[0]? = some v0) (hR : 1 + 1 ≤ R.frames ∧ 8 + (3 + 11) + 39 * 1 ≤ R.locals) (hcs : cells + mc ≤ R.cells ∧ slots + ms ≤ R.slots) (hrest : (rest.map fun v => v.category).sum ≤ 8) (k : ∀ (r : Option Value) (h' : HP), P r h' → ev G M_Mo_memory R E 78 lv (r.toList ++ rest) h' (cells + mc) (slots + ms)) : ev G M_Mo_memory R E 75 lv (.int a1 :: .int a0 :: .ref b :: rest) h cells slots := ev_callV (as := [.int a0, .int a1]) (ci := 7) d_Mo_memory_75 hm hb hv0 rfl w_844 w_846 w_49 w_70 w_847 hy_Mo_has hR hcs hrest k
theorem d_Mo_memory_78 : decode prog_10_method_24_code 78 = .ok (.ifCond .ne 5, 3) := by decide +kernel
theorem s_Mo_memory_78 {x : Int32} (kt : ¬ x = 0 → ev G M_Mo_memory R E 83 lv rest h cells slots) (kf : x = 0 → ev G M_Mo_memory R E 81 lv rest h cells slots) : ev G M_Mo_memory R E 78 lv (.int x :: rest) h cells slots := ev_if_ne d_Mo_memory_78 (by decide) kt kf
theorem d_Mo_memory_81 : decode prog_10_method_24_code 81 = .ok (.iconst 2, 1) := by decide +kernel
theorem s_Mo_memory_81  (k : ev G M_Mo_memory R E 82 lv (.int 2 :: rest) h cells slots) : ev G M_Mo_memory R E 81 lv rest h cells slots := ev_iconst d_Mo_memory_81 (by decide) k
theorem d_Mo_memory_82 : decode prog_10_method_24_code 82 = .ok (.ireturn, 1) := by decide +kernel
theorem s_Mo_memory_82 {P : Option Value → HP → Prop} {mc ms : Nat} {v : Int32} (hP : P (some (.int v)) h) (hc : cells ≤ mc ∧ slots ≤ ms) : ev G M_Mo_memory R (Er M_Mo_memory P mc ms) 82 lv [.int v] h cells slots := ev_exit ⟨hc.1, hc.2, Or.inr (Or.inl ⟨v, .int, rfl, rfl, d_Mo_memory_82, rfl, hP⟩)⟩
theorem d_Mo_memory_83 : decode prog_10_method_24_code 83 = .ok (.aload_n 0, 1) := by decide +kernel
theorem s_Mo_memory_83 {x : Nat} (hl : lg lv 0 = some (.ref x)) (k : ev G M_Mo_memory R E 84 lv (.ref x :: rest) h cells slots) : ev G M_Mo_memory R E 83 lv rest h cells slots := ev_aload_n d_Mo_memory_83 rfl hl k
theorem d_Mo_memory_84 : decode prog_10_method_24_code 84 = .ok (.iload 6, 2) := by decide +kernel
theorem s_Mo_memory_84 {x : Int32} (hl : lg lv 6 = some (.int x)) (k : ev G M_Mo_memory R E 86 lv (.int x :: rest) h cells slots) : ev G M_Mo_memory R E 84 lv rest h cells slots := ev_iload d_Mo_memory_84 hl k
theorem d_Mo_memory_86 : decode prog_10_method_24_code 86 = .ok (.invokevirtual 62, 3) := by decide +kernel
theorem s_Mo_memory_86 {mc ms : Nat} {P : Option Value → HP → Prop} {a0 : Int32} {b : Nat} {fs : List Value} {v0 : Value} (hm : mt G M_Mo_what 0 mc ms (.ref b :: [.int a0]) h P) (hb : h b = mO 7 fs) (hv0 : fs[0]? = some v0) (hR : 0 + 1 ≤ R.frames ∧ 8 + (2 + 11) + 39 * 0 ≤ R.locals) (hcs : cells + mc ≤ R.cells ∧ slots + ms ≤ R.slots) (hrest : (rest.map fun v => v.category).sum ≤ 8) (k : ∀ (r : Option Value) (h' : HP), P r h' → ev G M_Mo_memory R E 89 lv (r.toList ++ rest) h' (cells + mc) (slots + ms)) : ev G M_Mo_memory R E 86 lv (.int a0 :: .ref b :: rest) h cells slots := ev_callV (as := [.int a0]) (ci := 7) d_Mo_memory_86 hm hb hv0 rfl w_804 w_806 w_39 w_70 w_807 hy_Mo_what hR hcs hrest k
theorem d_Mo_memory_89 : decode prog_10_method_24_code 89 = .ok (.iconst 1, 1) := by decide +kernel
theorem s_Mo_memory_89  (k : ev G M_Mo_memory R E 90 lv (.int 1 :: rest) h cells slots) : ev G M_Mo_memory R E 89 lv rest h cells slots := ev_iconst d_Mo_memory_89 (by decide) k
theorem d_Mo_memory_90 : decode prog_10_method_24_code 90 = .ok (.if_icmp .eq 13, 3) := by decide +kernel
theorem s_Mo_memory_90 {x y : Int32} (kt : x = y → ev G M_Mo_memory R E 103 lv rest h cells slots) (kf : ¬ x = y → ev G M_Mo_memory R E 93 lv rest h cells slots) : ev G M_Mo_memory R E 90 lv (.int y :: .int x :: rest) h cells slots := ev_icmp_eq d_Mo_memory_90 (by decide) kt kf
theorem d_Mo_memory_93 : decode prog_10_method_24_code 93 = .ok (.aload_n 0, 1) := by decide +kernel
theorem s_Mo_memory_93 {x : Nat} (hl : lg lv 0 = some (.ref x)) (k : ev G M_Mo_memory R E 94 lv (.ref x :: rest) h cells slots) : ev G M_Mo_memory R E 93 lv rest h cells slots := ev_aload_n d_Mo_memory_93 rfl hl k
theorem d_Mo_memory_94 : decode prog_10_method_24_code 94 = .ok (.iload 6, 2) := by decide +kernel
theorem s_Mo_memory_94 {x : Int32} (hl : lg lv 6 = some (.int x)) (k : ev G M_Mo_memory R E 96 lv (.int x :: rest) h cells slots) : ev G M_Mo_memory R E 94 lv rest h cells slots := ev_iload d_Mo_memory_94 hl k
theorem d_Mo_memory_96 : decode prog_10_method_24_code 96 = .ok (.invokevirtual 62, 3) := by decide +kernel
theorem s_Mo_memory_96 {mc ms : Nat} {P : Option Value → HP → Prop} {a0 : Int32} {b : Nat} {fs : List Value} {v0 : Value} (hm : mt G M_Mo_what 0 mc ms (.ref b :: [.int a0]) h P) (hb : h b = mO 7 fs) (hv0 : fs[0]? = some v0) (hR : 0 + 1 ≤ R.frames ∧ 8 + (2 + 11) + 39 * 0 ≤ R.locals) (hcs : cells + mc ≤ R.cells ∧ slots + ms ≤ R.slots) (hrest : (rest.map fun v => v.category).sum ≤ 8) (k : ∀ (r : Option Value) (h' : HP), P r h' → ev G M_Mo_memory R E 99 lv (r.toList ++ rest) h' (cells + mc) (slots + ms)) : ev G M_Mo_memory R E 96 lv (.int a0 :: .ref b :: rest) h cells slots := ev_callV (as := [.int a0]) (ci := 7) d_Mo_memory_96 hm hb hv0 rfl w_804 w_806 w_39 w_70 w_807 hy_Mo_what hR hcs hrest k
theorem d_Mo_memory_99 : decode prog_10_method_24_code 99 = .ok (.iconst 3, 1) := by decide +kernel
theorem s_Mo_memory_99  (k : ev G M_Mo_memory R E 100 lv (.int 3 :: rest) h cells slots) : ev G M_Mo_memory R E 99 lv rest h cells slots := ev_iconst d_Mo_memory_99 (by decide) k
theorem d_Mo_memory_100 : decode prog_10_method_24_code 100 = .ok (.if_icmp .ne 7, 3) := by decide +kernel
theorem s_Mo_memory_100 {x y : Int32} (kt : ¬ x = y → ev G M_Mo_memory R E 107 lv rest h cells slots) (kf : x = y → ev G M_Mo_memory R E 103 lv rest h cells slots) : ev G M_Mo_memory R E 100 lv (.int y :: .int x :: rest) h cells slots := ev_icmp_ne d_Mo_memory_100 (by decide) kt kf
theorem d_Mo_memory_103 : decode prog_10_method_24_code 103 = .ok (.iconst 1, 1) := by decide +kernel
theorem s_Mo_memory_103  (k : ev G M_Mo_memory R E 104 lv (.int 1 :: rest) h cells slots) : ev G M_Mo_memory R E 103 lv rest h cells slots := ev_iconst d_Mo_memory_103 (by decide) k
theorem d_Mo_memory_104 : decode prog_10_method_24_code 104 = .ok (.goto 4, 3) := by decide +kernel
theorem s_Mo_memory_104  (k : ev G M_Mo_memory R E 108 lv rest h cells slots) : ev G M_Mo_memory R E 104 lv rest h cells slots := ev_goto d_Mo_memory_104 (by decide) k
theorem d_Mo_memory_107 : decode prog_10_method_24_code 107 = .ok (.iconst 0, 1) := by decide +kernel
theorem s_Mo_memory_107  (k : ev G M_Mo_memory R E 108 lv (.int 0 :: rest) h cells slots) : ev G M_Mo_memory R E 107 lv rest h cells slots := ev_iconst d_Mo_memory_107 (by decide) k
theorem d_Mo_memory_108 : decode prog_10_method_24_code 108 = .ok (.istore 7, 2) := by decide +kernel
theorem s_Mo_memory_108 {x : Int32} (k : ev G M_Mo_memory R E 110 (ls1 lv 7 (.int x)) rest h cells slots) : ev G M_Mo_memory R E 108 lv (.int x :: rest) h cells slots := ev_istore d_Mo_memory_108 (by decide) k
theorem d_Mo_memory_110 : decode prog_10_method_24_code 110 = .ok (.iload_n 1, 1) := by decide +kernel
theorem s_Mo_memory_110 {x : Int32} (hl : lg lv 1 = some (.int x)) (k : ev G M_Mo_memory R E 111 lv (.int x :: rest) h cells slots) : ev G M_Mo_memory R E 110 lv rest h cells slots := ev_iload_n d_Mo_memory_110 rfl hl k
theorem d_Mo_memory_111 : decode prog_10_method_24_code 111 = .ok (.bipush 10, 2) := by decide +kernel
theorem s_Mo_memory_111  (k : ev G M_Mo_memory R E 113 lv (.int 10 :: rest) h cells slots) : ev G M_Mo_memory R E 111 lv rest h cells slots := ev_bipush d_Mo_memory_111 (by decide) k
theorem d_Mo_memory_113 : decode prog_10_method_24_code 113 = .ok (.if_icmp .ne 19, 3) := by decide +kernel
theorem s_Mo_memory_113 {x y : Int32} (kt : ¬ x = y → ev G M_Mo_memory R E 132 lv rest h cells slots) (kf : x = y → ev G M_Mo_memory R E 116 lv rest h cells slots) : ev G M_Mo_memory R E 113 lv (.int y :: .int x :: rest) h cells slots := ev_icmp_ne d_Mo_memory_113 (by decide) kt kf
theorem d_Mo_memory_116 : decode prog_10_method_24_code 116 = .ok (.iload 7, 2) := by decide +kernel
theorem s_Mo_memory_116 {x : Int32} (hl : lg lv 7 = some (.int x)) (k : ev G M_Mo_memory R E 118 lv (.int x :: rest) h cells slots) : ev G M_Mo_memory R E 116 lv rest h cells slots := ev_iload d_Mo_memory_116 hl k
theorem d_Mo_memory_118 : decode prog_10_method_24_code 118 = .ok (.ifCond .eq 14, 3) := by decide +kernel
theorem s_Mo_memory_118 {x : Int32} (kt : x = 0 → ev G M_Mo_memory R E 132 lv rest h cells slots) (kf : ¬ x = 0 → ev G M_Mo_memory R E 121 lv rest h cells slots) : ev G M_Mo_memory R E 118 lv (.int x :: rest) h cells slots := ev_if_eq d_Mo_memory_118 (by decide) kt kf
theorem d_Mo_memory_121 : decode prog_10_method_24_code 121 = .ok (.aload_n 0, 1) := by decide +kernel
theorem s_Mo_memory_121 {x : Nat} (hl : lg lv 0 = some (.ref x)) (k : ev G M_Mo_memory R E 122 lv (.ref x :: rest) h cells slots) : ev G M_Mo_memory R E 121 lv rest h cells slots := ev_aload_n d_Mo_memory_121 rfl hl k
theorem d_Mo_memory_122 : decode prog_10_method_24_code 122 = .ok (.iload_n 3, 1) := by decide +kernel
theorem s_Mo_memory_122 {x : Int32} (hl : lg lv 3 = some (.int x)) (k : ev G M_Mo_memory R E 123 lv (.int x :: rest) h cells slots) : ev G M_Mo_memory R E 122 lv rest h cells slots := ev_iload_n d_Mo_memory_122 rfl hl k
theorem d_Mo_memory_123 : decode prog_10_method_24_code 123 = .ok (.iconst 2, 1) := by decide +kernel
theorem s_Mo_memory_123  (k : ev G M_Mo_memory R E 124 lv (.int 2 :: rest) h cells slots) : ev G M_Mo_memory R E 123 lv rest h cells slots := ev_iconst d_Mo_memory_123 (by decide) k
theorem d_Mo_memory_124 : decode prog_10_method_24_code 124 = .ok (.invokevirtual 146, 3) := by decide +kernel
theorem s_Mo_memory_124 {mc ms : Nat} {P : Option Value → HP → Prop} {a0 : Int32} {a1 : Int32} {b : Nat} {fs : List Value} {v0 : Value} (hm : mt G M_Mo_has 1 mc ms (.ref b :: [.int a0, .int a1]) h P) (hb : h b = mO 7 fs) (hv0 : fs[0]? = some v0) (hR : 1 + 1 ≤ R.frames ∧ 8 + (3 + 11) + 39 * 1 ≤ R.locals) (hcs : cells + mc ≤ R.cells ∧ slots + ms ≤ R.slots) (hrest : (rest.map fun v => v.category).sum ≤ 8) (k : ∀ (r : Option Value) (h' : HP), P r h' → ev G M_Mo_memory R E 127 lv (r.toList ++ rest) h' (cells + mc) (slots + ms)) : ev G M_Mo_memory R E 124 lv (.int a1 :: .int a0 :: .ref b :: rest) h cells slots := ev_callV (as := [.int a0, .int a1]) (ci := 7) d_Mo_memory_124 hm hb hv0 rfl w_844 w_846 w_49 w_70 w_847 hy_Mo_has hR hcs hrest k
theorem d_Mo_memory_127 : decode prog_10_method_24_code 127 = .ok (.ifCond .ne 5, 3) := by decide +kernel
theorem s_Mo_memory_127 {x : Int32} (kt : ¬ x = 0 → ev G M_Mo_memory R E 132 lv rest h cells slots) (kf : x = 0 → ev G M_Mo_memory R E 130 lv rest h cells slots) : ev G M_Mo_memory R E 127 lv (.int x :: rest) h cells slots := ev_if_ne d_Mo_memory_127 (by decide) kt kf
theorem d_Mo_memory_130 : decode prog_10_method_24_code 130 = .ok (.iconst 2, 1) := by decide +kernel
theorem s_Mo_memory_130  (k : ev G M_Mo_memory R E 131 lv (.int 2 :: rest) h cells slots) : ev G M_Mo_memory R E 130 lv rest h cells slots := ev_iconst d_Mo_memory_130 (by decide) k
theorem d_Mo_memory_131 : decode prog_10_method_24_code 131 = .ok (.ireturn, 1) := by decide +kernel
theorem s_Mo_memory_131 {P : Option Value → HP → Prop} {mc ms : Nat} {v : Int32} (hP : P (some (.int v)) h) (hc : cells ≤ mc ∧ slots ≤ ms) : ev G M_Mo_memory R (Er M_Mo_memory P mc ms) 131 lv [.int v] h cells slots := ev_exit ⟨hc.1, hc.2, Or.inr (Or.inl ⟨v, .int, rfl, rfl, d_Mo_memory_131, rfl, hP⟩)⟩
theorem d_Mo_memory_132 : decode prog_10_method_24_code 132 = .ok (.iload_n 1, 1) := by decide +kernel
theorem s_Mo_memory_132 {x : Int32} (hl : lg lv 1 = some (.int x)) (k : ev G M_Mo_memory R E 133 lv (.int x :: rest) h cells slots) : ev G M_Mo_memory R E 132 lv rest h cells slots := ev_iload_n d_Mo_memory_132 rfl hl k
theorem d_Mo_memory_133 : decode prog_10_method_24_code 133 = .ok (.bipush 10, 2) := by decide +kernel
theorem s_Mo_memory_133  (k : ev G M_Mo_memory R E 135 lv (.int 10 :: rest) h cells slots) : ev G M_Mo_memory R E 133 lv rest h cells slots := ev_bipush d_Mo_memory_133 (by decide) k
theorem d_Mo_memory_135 : decode prog_10_method_24_code 135 = .ok (.if_icmp .ne 7, 3) := by decide +kernel
theorem s_Mo_memory_135 {x y : Int32} (kt : ¬ x = y → ev G M_Mo_memory R E 142 lv rest h cells slots) (kf : x = y → ev G M_Mo_memory R E 138 lv rest h cells slots) : ev G M_Mo_memory R E 135 lv (.int y :: .int x :: rest) h cells slots := ev_icmp_ne d_Mo_memory_135 (by decide) kt kf
theorem d_Mo_memory_138 : decode prog_10_method_24_code 138 = .ok (.iload_n 2, 1) := by decide +kernel
theorem s_Mo_memory_138 {x : Int32} (hl : lg lv 2 = some (.int x)) (k : ev G M_Mo_memory R E 139 lv (.int x :: rest) h cells slots) : ev G M_Mo_memory R E 138 lv rest h cells slots := ev_iload_n d_Mo_memory_138 rfl hl k
theorem d_Mo_memory_139 : decode prog_10_method_24_code 139 = .ok (.goto 5, 3) := by decide +kernel
theorem s_Mo_memory_139  (k : ev G M_Mo_memory R E 144 lv rest h cells slots) : ev G M_Mo_memory R E 139 lv rest h cells slots := ev_goto d_Mo_memory_139 (by decide) k
theorem d_Mo_memory_142 : decode prog_10_method_24_code 142 = .ok (.iload 6, 2) := by decide +kernel
theorem s_Mo_memory_142 {x : Int32} (hl : lg lv 6 = some (.int x)) (k : ev G M_Mo_memory R E 144 lv (.int x :: rest) h cells slots) : ev G M_Mo_memory R E 142 lv rest h cells slots := ev_iload d_Mo_memory_142 hl k
theorem d_Mo_memory_144 : decode prog_10_method_24_code 144 = .ok (.istore 8, 2) := by decide +kernel
theorem s_Mo_memory_144 {x : Int32} (k : ev G M_Mo_memory R E 146 (ls1 lv 8 (.int x)) rest h cells slots) : ev G M_Mo_memory R E 144 lv (.int x :: rest) h cells slots := ev_istore d_Mo_memory_144 (by decide) k
theorem d_Mo_memory_146 : decode prog_10_method_24_code 146 = .ok (.aload_n 0, 1) := by decide +kernel
theorem s_Mo_memory_146 {x : Nat} (hl : lg lv 0 = some (.ref x)) (k : ev G M_Mo_memory R E 147 lv (.ref x :: rest) h cells slots) : ev G M_Mo_memory R E 146 lv rest h cells slots := ev_aload_n d_Mo_memory_146 rfl hl k
theorem d_Mo_memory_147 : decode prog_10_method_24_code 147 = .ok (.iload 8, 2) := by decide +kernel
theorem s_Mo_memory_147 {x : Int32} (hl : lg lv 8 = some (.int x)) (k : ev G M_Mo_memory R E 149 lv (.int x :: rest) h cells slots) : ev G M_Mo_memory R E 147 lv rest h cells slots := ev_iload d_Mo_memory_147 hl k
theorem d_Mo_memory_149 : decode prog_10_method_24_code 149 = .ok (.invokevirtual 130, 3) := by decide +kernel
theorem s_Mo_memory_149 {mc ms : Nat} {P : Option Value → HP → Prop} {a0 : Int32} {b : Nat} {fs : List Value} {v0 : Value} (hm : mt G M_Mo_isNumber 1 mc ms (.ref b :: [.int a0]) h P) (hb : h b = mO 7 fs) (hv0 : fs[0]? = some v0) (hR : 1 + 1 ≤ R.frames ∧ 8 + (2 + 11) + 39 * 1 ≤ R.locals) (hcs : cells + mc ≤ R.cells ∧ slots + ms ≤ R.slots) (hrest : (rest.map fun v => v.category).sum ≤ 8) (k : ∀ (r : Option Value) (h' : HP), P r h' → ev G M_Mo_memory R E 152 lv (r.toList ++ rest) h' (cells + mc) (slots + ms)) : ev G M_Mo_memory R E 149 lv (.int a0 :: .ref b :: rest) h cells slots := ev_callV (as := [.int a0]) (ci := 7) d_Mo_memory_149 hm hb hv0 rfl w_800 w_802 w_38 w_70 w_803 hy_Mo_isNumber hR hcs hrest k
theorem d_Mo_memory_152 : decode prog_10_method_24_code 152 = .ok (.ifCond .ne 5, 3) := by decide +kernel
theorem s_Mo_memory_152 {x : Int32} (kt : ¬ x = 0 → ev G M_Mo_memory R E 157 lv rest h cells slots) (kf : x = 0 → ev G M_Mo_memory R E 155 lv rest h cells slots) : ev G M_Mo_memory R E 152 lv (.int x :: rest) h cells slots := ev_if_ne d_Mo_memory_152 (by decide) kt kf
theorem d_Mo_memory_155 : decode prog_10_method_24_code 155 = .ok (.iconst 3, 1) := by decide +kernel
theorem s_Mo_memory_155  (k : ev G M_Mo_memory R E 156 lv (.int 3 :: rest) h cells slots) : ev G M_Mo_memory R E 155 lv rest h cells slots := ev_iconst d_Mo_memory_155 (by decide) k
theorem d_Mo_memory_156 : decode prog_10_method_24_code 156 = .ok (.ireturn, 1) := by decide +kernel
theorem s_Mo_memory_156 {P : Option Value → HP → Prop} {mc ms : Nat} {v : Int32} (hP : P (some (.int v)) h) (hc : cells ≤ mc ∧ slots ≤ ms) : ev G M_Mo_memory R (Er M_Mo_memory P mc ms) 156 lv [.int v] h cells slots := ev_exit ⟨hc.1, hc.2, Or.inr (Or.inl ⟨v, .int, rfl, rfl, d_Mo_memory_156, rfl, hP⟩)⟩
theorem d_Mo_memory_157 : decode prog_10_method_24_code 157 = .ok (.aload_n 0, 1) := by decide +kernel
theorem s_Mo_memory_157 {x : Nat} (hl : lg lv 0 = some (.ref x)) (k : ev G M_Mo_memory R E 158 lv (.ref x :: rest) h cells slots) : ev G M_Mo_memory R E 157 lv rest h cells slots := ev_aload_n d_Mo_memory_157 rfl hl k
theorem d_Mo_memory_158 : decode prog_10_method_24_code 158 = .ok (.iload 8, 2) := by decide +kernel
theorem s_Mo_memory_158 {x : Int32} (hl : lg lv 8 = some (.int x)) (k : ev G M_Mo_memory R E 160 lv (.int x :: rest) h cells slots) : ev G M_Mo_memory R E 158 lv rest h cells slots := ev_iload d_Mo_memory_158 hl k
theorem d_Mo_memory_160 : decode prog_10_method_24_code 160 = .ok (.iload_n 1, 1) := by decide +kernel
theorem s_Mo_memory_160 {x : Int32} (hl : lg lv 1 = some (.int x)) (k : ev G M_Mo_memory R E 161 lv (.int x :: rest) h cells slots) : ev G M_Mo_memory R E 160 lv rest h cells slots := ev_iload_n d_Mo_memory_160 rfl hl k
theorem d_Mo_memory_161 : decode prog_10_method_24_code 161 = .ok (.bipush 10, 2) := by decide +kernel
theorem s_Mo_memory_161  (k : ev G M_Mo_memory R E 163 lv (.int 10 :: rest) h cells slots) : ev G M_Mo_memory R E 161 lv rest h cells slots := ev_bipush d_Mo_memory_161 (by decide) k
theorem d_Mo_memory_163 : decode prog_10_method_24_code 163 = .ok (.if_icmp .ne 8, 3) := by decide +kernel
theorem s_Mo_memory_163 {x y : Int32} (kt : ¬ x = y → ev G M_Mo_memory R E 171 lv rest h cells slots) (kf : x = y → ev G M_Mo_memory R E 166 lv rest h cells slots) : ev G M_Mo_memory R E 163 lv (.int y :: .int x :: rest) h cells slots := ev_icmp_ne d_Mo_memory_163 (by decide) kt kf
theorem d_Mo_memory_166 : decode prog_10_method_24_code 166 = .ok (.iload 6, 2) := by decide +kernel
theorem s_Mo_memory_166 {x : Int32} (hl : lg lv 6 = some (.int x)) (k : ev G M_Mo_memory R E 168 lv (.int x :: rest) h cells slots) : ev G M_Mo_memory R E 166 lv rest h cells slots := ev_iload d_Mo_memory_166 hl k
theorem d_Mo_memory_168 : decode prog_10_method_24_code 168 = .ok (.goto 4, 3) := by decide +kernel
theorem s_Mo_memory_168  (k : ev G M_Mo_memory R E 172 lv rest h cells slots) : ev G M_Mo_memory R E 168 lv rest h cells slots := ev_goto d_Mo_memory_168 (by decide) k
theorem d_Mo_memory_171 : decode prog_10_method_24_code 171 = .ok (.iload_n 2, 1) := by decide +kernel
theorem s_Mo_memory_171 {x : Int32} (hl : lg lv 2 = some (.int x)) (k : ev G M_Mo_memory R E 172 lv (.int x :: rest) h cells slots) : ev G M_Mo_memory R E 171 lv rest h cells slots := ev_iload_n d_Mo_memory_171 rfl hl k
theorem d_Mo_memory_172 : decode prog_10_method_24_code 172 = .ok (.invokevirtual 134, 3) := by decide +kernel
theorem s_Mo_memory_172 {mc ms : Nat} {P : Option Value → HP → Prop} {a0 : Int32} {a1 : Int32} {b : Nat} {fs : List Value} {v0 : Value} (hm : mt G M_Mo_assign 3 mc ms (.ref b :: [.int a0, .int a1]) h P) (hb : h b = mO 7 fs) (hv0 : fs[0]? = some v0) (hR : 3 + 1 ≤ R.frames ∧ 8 + (3 + 11) + 39 * 3 ≤ R.locals) (hcs : cells + mc ≤ R.cells ∧ slots + ms ≤ R.slots) (hrest : (rest.map fun v => v.category).sum ≤ 8) (k : ∀ (r : Option Value) (h' : HP), P r h' → ev G M_Mo_memory R E 175 lv (r.toList ++ rest) h' (cells + mc) (slots + ms)) : ev G M_Mo_memory R E 172 lv (.int a1 :: .int a0 :: .ref b :: rest) h cells slots := ev_callV (as := [.int a0, .int a1]) (ci := 7) d_Mo_memory_172 hm hb hv0 rfl w_808 w_810 w_40 w_70 w_811 hy_Mo_assign hR hcs hrest k
theorem d_Mo_memory_175 : decode prog_10_method_24_code 175 = .ok (.iconst 0, 1) := by decide +kernel
theorem s_Mo_memory_175  (k : ev G M_Mo_memory R E 176 lv (.int 0 :: rest) h cells slots) : ev G M_Mo_memory R E 175 lv rest h cells slots := ev_iconst d_Mo_memory_175 (by decide) k
theorem d_Mo_memory_176 : decode prog_10_method_24_code 176 = .ok (.ireturn, 1) := by decide +kernel
theorem s_Mo_memory_176 {P : Option Value → HP → Prop} {mc ms : Nat} {v : Int32} (hP : P (some (.int v)) h) (hc : cells ≤ mc ∧ slots ≤ ms) : ev G M_Mo_memory R (Er M_Mo_memory P mc ms) 176 lv [.int v] h cells slots := ev_exit ⟨hc.1, hc.2, Or.inr (Or.inl ⟨v, .int, rfl, rfl, d_Mo_memory_176, rfl, hP⟩)⟩
abbrev M_Mo_jumps : MW := (⟨"UseOnceMachineModel", "jumps", "(IIII)I"⟩, prog_10_method_25_code, 7, (some .int))
theorem hy_Mo_jumps : M_Mo_jumps.1.cls ≠ "java/lang/invoke/MethodHandle" ∧ M_Mo_jumps.1.cls ≠ "java/lang/invoke/VarHandle" ∧ (parseMethodDescriptor M_Mo_jumps.1.desc).map (fun d => d.parameters.length) = some 4 := by decide +kernel
theorem d_Mo_jumps_0 : decode prog_10_method_25_code 0 = .ok (.iload_n 1, 1) := by decide +kernel
theorem s_Mo_jumps_0 {x : Int32} (hl : lg lv 1 = some (.int x)) (k : ev G M_Mo_jumps R E 1 lv (.int x :: rest) h cells slots) : ev G M_Mo_jumps R E 0 lv rest h cells slots := ev_iload_n d_Mo_jumps_0 rfl hl k
theorem d_Mo_jumps_1 : decode prog_10_method_25_code 1 = .ok (.bipush 12, 2) := by decide +kernel
theorem s_Mo_jumps_1  (k : ev G M_Mo_jumps R E 3 lv (.int 12 :: rest) h cells slots) : ev G M_Mo_jumps R E 1 lv rest h cells slots := ev_bipush d_Mo_jumps_1 (by decide) k
theorem d_Mo_jumps_3 : decode prog_10_method_25_code 3 = .ok (.if_icmp .le 11, 3) := by decide +kernel
theorem s_Mo_jumps_3 {x y : Int32} (kt : x ≤ y → ev G M_Mo_jumps R E 14 lv rest h cells slots) (kf : ¬ x ≤ y → ev G M_Mo_jumps R E 6 lv rest h cells slots) : ev G M_Mo_jumps R E 3 lv (.int y :: .int x :: rest) h cells slots := ev_icmp_le d_Mo_jumps_3 (by decide) kt kf
theorem d_Mo_jumps_6 : decode prog_10_method_25_code 6 = .ok (.aload_n 0, 1) := by decide +kernel
theorem s_Mo_jumps_6 {x : Nat} (hl : lg lv 0 = some (.ref x)) (k : ev G M_Mo_jumps R E 7 lv (.ref x :: rest) h cells slots) : ev G M_Mo_jumps R E 6 lv rest h cells slots := ev_aload_n d_Mo_jumps_6 rfl hl k
theorem d_Mo_jumps_7 : decode prog_10_method_25_code 7 = .ok (.iload_n 2, 1) := by decide +kernel
theorem s_Mo_jumps_7 {x : Int32} (hl : lg lv 2 = some (.int x)) (k : ev G M_Mo_jumps R E 8 lv (.int x :: rest) h cells slots) : ev G M_Mo_jumps R E 7 lv rest h cells slots := ev_iload_n d_Mo_jumps_7 rfl hl k
theorem d_Mo_jumps_8 : decode prog_10_method_25_code 8 = .ok (.invokevirtual 130, 3) := by decide +kernel
theorem s_Mo_jumps_8 {mc ms : Nat} {P : Option Value → HP → Prop} {a0 : Int32} {b : Nat} {fs : List Value} {v0 : Value} (hm : mt G M_Mo_isNumber 1 mc ms (.ref b :: [.int a0]) h P) (hb : h b = mO 7 fs) (hv0 : fs[0]? = some v0) (hR : 1 + 1 ≤ R.frames ∧ 8 + (2 + 11) + 39 * 1 ≤ R.locals) (hcs : cells + mc ≤ R.cells ∧ slots + ms ≤ R.slots) (hrest : (rest.map fun v => v.category).sum ≤ 8) (k : ∀ (r : Option Value) (h' : HP), P r h' → ev G M_Mo_jumps R E 11 lv (r.toList ++ rest) h' (cells + mc) (slots + ms)) : ev G M_Mo_jumps R E 8 lv (.int a0 :: .ref b :: rest) h cells slots := ev_callV (as := [.int a0]) (ci := 7) d_Mo_jumps_8 hm hb hv0 rfl w_800 w_802 w_38 w_70 w_803 hy_Mo_isNumber hR hcs hrest k
theorem d_Mo_jumps_11 : decode prog_10_method_25_code 11 = .ok (.ifCond .eq 17, 3) := by decide +kernel
theorem s_Mo_jumps_11 {x : Int32} (kt : x = 0 → ev G M_Mo_jumps R E 28 lv rest h cells slots) (kf : ¬ x = 0 → ev G M_Mo_jumps R E 14 lv rest h cells slots) : ev G M_Mo_jumps R E 11 lv (.int x :: rest) h cells slots := ev_if_eq d_Mo_jumps_11 (by decide) kt kf
theorem d_Mo_jumps_14 : decode prog_10_method_25_code 14 = .ok (.iload_n 1, 1) := by decide +kernel
theorem s_Mo_jumps_14 {x : Int32} (hl : lg lv 1 = some (.int x)) (k : ev G M_Mo_jumps R E 15 lv (.int x :: rest) h cells slots) : ev G M_Mo_jumps R E 14 lv rest h cells slots := ev_iload_n d_Mo_jumps_14 rfl hl k
theorem d_Mo_jumps_15 : decode prog_10_method_25_code 15 = .ok (.bipush 14, 2) := by decide +kernel
theorem s_Mo_jumps_15  (k : ev G M_Mo_jumps R E 17 lv (.int 14 :: rest) h cells slots) : ev G M_Mo_jumps R E 15 lv rest h cells slots := ev_bipush d_Mo_jumps_15 (by decide) k
theorem d_Mo_jumps_17 : decode prog_10_method_25_code 17 = .ok (.if_icmp .ne 13, 3) := by decide +kernel
theorem s_Mo_jumps_17 {x y : Int32} (kt : ¬ x = y → ev G M_Mo_jumps R E 30 lv rest h cells slots) (kf : x = y → ev G M_Mo_jumps R E 20 lv rest h cells slots) : ev G M_Mo_jumps R E 17 lv (.int y :: .int x :: rest) h cells slots := ev_icmp_ne d_Mo_jumps_17 (by decide) kt kf
theorem d_Mo_jumps_20 : decode prog_10_method_25_code 20 = .ok (.aload_n 0, 1) := by decide +kernel
theorem s_Mo_jumps_20 {x : Nat} (hl : lg lv 0 = some (.ref x)) (k : ev G M_Mo_jumps R E 21 lv (.ref x :: rest) h cells slots) : ev G M_Mo_jumps R E 20 lv rest h cells slots := ev_aload_n d_Mo_jumps_20 rfl hl k
theorem d_Mo_jumps_21 : decode prog_10_method_25_code 21 = .ok (.iload_n 3, 1) := by decide +kernel
theorem s_Mo_jumps_21 {x : Int32} (hl : lg lv 3 = some (.int x)) (k : ev G M_Mo_jumps R E 22 lv (.int x :: rest) h cells slots) : ev G M_Mo_jumps R E 21 lv rest h cells slots := ev_iload_n d_Mo_jumps_21 rfl hl k
theorem d_Mo_jumps_22 : decode prog_10_method_25_code 22 = .ok (.invokevirtual 130, 3) := by decide +kernel
theorem s_Mo_jumps_22 {mc ms : Nat} {P : Option Value → HP → Prop} {a0 : Int32} {b : Nat} {fs : List Value} {v0 : Value} (hm : mt G M_Mo_isNumber 1 mc ms (.ref b :: [.int a0]) h P) (hb : h b = mO 7 fs) (hv0 : fs[0]? = some v0) (hR : 1 + 1 ≤ R.frames ∧ 8 + (2 + 11) + 39 * 1 ≤ R.locals) (hcs : cells + mc ≤ R.cells ∧ slots + ms ≤ R.slots) (hrest : (rest.map fun v => v.category).sum ≤ 8) (k : ∀ (r : Option Value) (h' : HP), P r h' → ev G M_Mo_jumps R E 25 lv (r.toList ++ rest) h' (cells + mc) (slots + ms)) : ev G M_Mo_jumps R E 22 lv (.int a0 :: .ref b :: rest) h cells slots := ev_callV (as := [.int a0]) (ci := 7) d_Mo_jumps_22 hm hb hv0 rfl w_800 w_802 w_38 w_70 w_803 hy_Mo_isNumber hR hcs hrest k
theorem d_Mo_jumps_25 : decode prog_10_method_25_code 25 = .ok (.ifCond .ne 5, 3) := by decide +kernel
theorem s_Mo_jumps_25 {x : Int32} (kt : ¬ x = 0 → ev G M_Mo_jumps R E 30 lv rest h cells slots) (kf : x = 0 → ev G M_Mo_jumps R E 28 lv rest h cells slots) : ev G M_Mo_jumps R E 25 lv (.int x :: rest) h cells slots := ev_if_ne d_Mo_jumps_25 (by decide) kt kf
theorem d_Mo_jumps_28 : decode prog_10_method_25_code 28 = .ok (.iconst 1, 1) := by decide +kernel
theorem s_Mo_jumps_28  (k : ev G M_Mo_jumps R E 29 lv (.int 1 :: rest) h cells slots) : ev G M_Mo_jumps R E 28 lv rest h cells slots := ev_iconst d_Mo_jumps_28 (by decide) k
theorem d_Mo_jumps_29 : decode prog_10_method_25_code 29 = .ok (.ireturn, 1) := by decide +kernel
theorem s_Mo_jumps_29 {P : Option Value → HP → Prop} {mc ms : Nat} {v : Int32} (hP : P (some (.int v)) h) (hc : cells ≤ mc ∧ slots ≤ ms) : ev G M_Mo_jumps R (Er M_Mo_jumps P mc ms) 29 lv [.int v] h cells slots := ev_exit ⟨hc.1, hc.2, Or.inr (Or.inl ⟨v, .int, rfl, rfl, d_Mo_jumps_29, rfl, hP⟩)⟩
theorem d_Mo_jumps_30 : decode prog_10_method_25_code 30 = .ok (.iload_n 1, 1) := by decide +kernel
theorem s_Mo_jumps_30 {x : Int32} (hl : lg lv 1 = some (.int x)) (k : ev G M_Mo_jumps R E 31 lv (.int x :: rest) h cells slots) : ev G M_Mo_jumps R E 30 lv rest h cells slots := ev_iload_n d_Mo_jumps_30 rfl hl k
theorem d_Mo_jumps_31 : decode prog_10_method_25_code 31 = .ok (.bipush 12, 2) := by decide +kernel
theorem s_Mo_jumps_31  (k : ev G M_Mo_jumps R E 33 lv (.int 12 :: rest) h cells slots) : ev G M_Mo_jumps R E 31 lv rest h cells slots := ev_bipush d_Mo_jumps_31 (by decide) k
theorem d_Mo_jumps_33 : decode prog_10_method_25_code 33 = .ok (.if_icmp .eq 39, 3) := by decide +kernel
theorem s_Mo_jumps_33 {x y : Int32} (kt : x = y → ev G M_Mo_jumps R E 72 lv rest h cells slots) (kf : ¬ x = y → ev G M_Mo_jumps R E 36 lv rest h cells slots) : ev G M_Mo_jumps R E 33 lv (.int y :: .int x :: rest) h cells slots := ev_icmp_eq d_Mo_jumps_33 (by decide) kt kf
theorem d_Mo_jumps_36 : decode prog_10_method_25_code 36 = .ok (.iload_n 1, 1) := by decide +kernel
theorem s_Mo_jumps_36 {x : Int32} (hl : lg lv 1 = some (.int x)) (k : ev G M_Mo_jumps R E 37 lv (.int x :: rest) h cells slots) : ev G M_Mo_jumps R E 36 lv rest h cells slots := ev_iload_n d_Mo_jumps_36 rfl hl k
theorem d_Mo_jumps_37 : decode prog_10_method_25_code 37 = .ok (.bipush 13, 2) := by decide +kernel
theorem s_Mo_jumps_37  (k : ev G M_Mo_jumps R E 39 lv (.int 13 :: rest) h cells slots) : ev G M_Mo_jumps R E 37 lv rest h cells slots := ev_bipush d_Mo_jumps_37 (by decide) k
theorem d_Mo_jumps_39 : decode prog_10_method_25_code 39 = .ok (.if_icmp .ne 12, 3) := by decide +kernel
theorem s_Mo_jumps_39 {x y : Int32} (kt : ¬ x = y → ev G M_Mo_jumps R E 51 lv rest h cells slots) (kf : x = y → ev G M_Mo_jumps R E 42 lv rest h cells slots) : ev G M_Mo_jumps R E 39 lv (.int y :: .int x :: rest) h cells slots := ev_icmp_ne d_Mo_jumps_39 (by decide) kt kf
theorem d_Mo_jumps_42 : decode prog_10_method_25_code 42 = .ok (.aload_n 0, 1) := by decide +kernel
theorem s_Mo_jumps_42 {x : Nat} (hl : lg lv 0 = some (.ref x)) (k : ev G M_Mo_jumps R E 43 lv (.ref x :: rest) h cells slots) : ev G M_Mo_jumps R E 42 lv rest h cells slots := ev_aload_n d_Mo_jumps_42 rfl hl k
theorem d_Mo_jumps_43 : decode prog_10_method_25_code 43 = .ok (.iload_n 2, 1) := by decide +kernel
theorem s_Mo_jumps_43 {x : Int32} (hl : lg lv 2 = some (.int x)) (k : ev G M_Mo_jumps R E 44 lv (.int x :: rest) h cells slots) : ev G M_Mo_jumps R E 43 lv rest h cells slots := ev_iload_n d_Mo_jumps_43 rfl hl k
theorem d_Mo_jumps_44 : decode prog_10_method_25_code 44 = .ok (.iconst 1, 1) := by decide +kernel
theorem s_Mo_jumps_44  (k : ev G M_Mo_jumps R E 45 lv (.int 1 :: rest) h cells slots) : ev G M_Mo_jumps R E 44 lv rest h cells slots := ev_iconst d_Mo_jumps_44 (by decide) k
theorem d_Mo_jumps_45 : decode prog_10_method_25_code 45 = .ok (.invokevirtual 66, 3) := by decide +kernel
theorem s_Mo_jumps_45 {mc ms : Nat} {P : Option Value → HP → Prop} {a0 : Int32} {a1 : Int32} {b : Nat} {fs : List Value} {v0 : Value} (hm : mt G M_Mo_get 0 mc ms (.ref b :: [.int a0, .int a1]) h P) (hb : h b = mO 7 fs) (hv0 : fs[0]? = some v0) (hR : 0 + 1 ≤ R.frames ∧ 8 + (3 + 11) + 39 * 0 ≤ R.locals) (hcs : cells + mc ≤ R.cells ∧ slots + ms ≤ R.slots) (hrest : (rest.map fun v => v.category).sum ≤ 8) (k : ∀ (r : Option Value) (h' : HP), P r h' → ev G M_Mo_jumps R E 48 lv (r.toList ++ rest) h' (cells + mc) (slots + ms)) : ev G M_Mo_jumps R E 45 lv (.int a1 :: .int a0 :: .ref b :: rest) h cells slots := ev_callV (as := [.int a0, .int a1]) (ci := 7) d_Mo_jumps_45 hm hb hv0 rfl w_816 w_818 w_42 w_70 w_819 hy_Mo_get hR hcs hrest k
theorem d_Mo_jumps_48 : decode prog_10_method_25_code 48 = .ok (.ifCond .eq 24, 3) := by decide +kernel
theorem s_Mo_jumps_48 {x : Int32} (kt : x = 0 → ev G M_Mo_jumps R E 72 lv rest h cells slots) (kf : ¬ x = 0 → ev G M_Mo_jumps R E 51 lv rest h cells slots) : ev G M_Mo_jumps R E 48 lv (.int x :: rest) h cells slots := ev_if_eq d_Mo_jumps_48 (by decide) kt kf
theorem d_Mo_jumps_51 : decode prog_10_method_25_code 51 = .ok (.iload_n 1, 1) := by decide +kernel
theorem s_Mo_jumps_51 {x : Int32} (hl : lg lv 1 = some (.int x)) (k : ev G M_Mo_jumps R E 52 lv (.int x :: rest) h cells slots) : ev G M_Mo_jumps R E 51 lv rest h cells slots := ev_iload_n d_Mo_jumps_51 rfl hl k
theorem d_Mo_jumps_52 : decode prog_10_method_25_code 52 = .ok (.bipush 14, 2) := by decide +kernel
theorem s_Mo_jumps_52  (k : ev G M_Mo_jumps R E 54 lv (.int 14 :: rest) h cells slots) : ev G M_Mo_jumps R E 52 lv rest h cells slots := ev_bipush d_Mo_jumps_52 (by decide) k
theorem d_Mo_jumps_54 : decode prog_10_method_25_code 54 = .ok (.if_icmp .ne 22, 3) := by decide +kernel
theorem s_Mo_jumps_54 {x y : Int32} (kt : ¬ x = y → ev G M_Mo_jumps R E 76 lv rest h cells slots) (kf : x = y → ev G M_Mo_jumps R E 57 lv rest h cells slots) : ev G M_Mo_jumps R E 54 lv (.int y :: .int x :: rest) h cells slots := ev_icmp_ne d_Mo_jumps_54 (by decide) kt kf
theorem d_Mo_jumps_57 : decode prog_10_method_25_code 57 = .ok (.aload_n 0, 1) := by decide +kernel
theorem s_Mo_jumps_57 {x : Nat} (hl : lg lv 0 = some (.ref x)) (k : ev G M_Mo_jumps R E 58 lv (.ref x :: rest) h cells slots) : ev G M_Mo_jumps R E 57 lv rest h cells slots := ev_aload_n d_Mo_jumps_57 rfl hl k
theorem d_Mo_jumps_58 : decode prog_10_method_25_code 58 = .ok (.iload_n 2, 1) := by decide +kernel
theorem s_Mo_jumps_58 {x : Int32} (hl : lg lv 2 = some (.int x)) (k : ev G M_Mo_jumps R E 59 lv (.int x :: rest) h cells slots) : ev G M_Mo_jumps R E 58 lv rest h cells slots := ev_iload_n d_Mo_jumps_58 rfl hl k
theorem d_Mo_jumps_59 : decode prog_10_method_25_code 59 = .ok (.iconst 1, 1) := by decide +kernel
theorem s_Mo_jumps_59  (k : ev G M_Mo_jumps R E 60 lv (.int 1 :: rest) h cells slots) : ev G M_Mo_jumps R E 59 lv rest h cells slots := ev_iconst d_Mo_jumps_59 (by decide) k
theorem d_Mo_jumps_60 : decode prog_10_method_25_code 60 = .ok (.invokevirtual 66, 3) := by decide +kernel
theorem s_Mo_jumps_60 {mc ms : Nat} {P : Option Value → HP → Prop} {a0 : Int32} {a1 : Int32} {b : Nat} {fs : List Value} {v0 : Value} (hm : mt G M_Mo_get 0 mc ms (.ref b :: [.int a0, .int a1]) h P) (hb : h b = mO 7 fs) (hv0 : fs[0]? = some v0) (hR : 0 + 1 ≤ R.frames ∧ 8 + (3 + 11) + 39 * 0 ≤ R.locals) (hcs : cells + mc ≤ R.cells ∧ slots + ms ≤ R.slots) (hrest : (rest.map fun v => v.category).sum ≤ 8) (k : ∀ (r : Option Value) (h' : HP), P r h' → ev G M_Mo_jumps R E 63 lv (r.toList ++ rest) h' (cells + mc) (slots + ms)) : ev G M_Mo_jumps R E 60 lv (.int a1 :: .int a0 :: .ref b :: rest) h cells slots := ev_callV (as := [.int a0, .int a1]) (ci := 7) d_Mo_jumps_60 hm hb hv0 rfl w_816 w_818 w_42 w_70 w_819 hy_Mo_get hR hcs hrest k
theorem d_Mo_jumps_63 : decode prog_10_method_25_code 63 = .ok (.aload_n 0, 1) := by decide +kernel
theorem s_Mo_jumps_63 {x : Nat} (hl : lg lv 0 = some (.ref x)) (k : ev G M_Mo_jumps R E 64 lv (.ref x :: rest) h cells slots) : ev G M_Mo_jumps R E 63 lv rest h cells slots := ev_aload_n d_Mo_jumps_63 rfl hl k
theorem d_Mo_jumps_64 : decode prog_10_method_25_code 64 = .ok (.iload_n 3, 1) := by decide +kernel
theorem s_Mo_jumps_64 {x : Int32} (hl : lg lv 3 = some (.int x)) (k : ev G M_Mo_jumps R E 65 lv (.int x :: rest) h cells slots) : ev G M_Mo_jumps R E 64 lv rest h cells slots := ev_iload_n d_Mo_jumps_64 rfl hl k
theorem d_Mo_jumps_65 : decode prog_10_method_25_code 65 = .ok (.iconst 1, 1) := by decide +kernel
theorem s_Mo_jumps_65  (k : ev G M_Mo_jumps R E 66 lv (.int 1 :: rest) h cells slots) : ev G M_Mo_jumps R E 65 lv rest h cells slots := ev_iconst d_Mo_jumps_65 (by decide) k
theorem d_Mo_jumps_66 : decode prog_10_method_25_code 66 = .ok (.invokevirtual 66, 3) := by decide +kernel
theorem s_Mo_jumps_66 {mc ms : Nat} {P : Option Value → HP → Prop} {a0 : Int32} {a1 : Int32} {b : Nat} {fs : List Value} {v0 : Value} (hm : mt G M_Mo_get 0 mc ms (.ref b :: [.int a0, .int a1]) h P) (hb : h b = mO 7 fs) (hv0 : fs[0]? = some v0) (hR : 0 + 1 ≤ R.frames ∧ 8 + (3 + 11) + 39 * 0 ≤ R.locals) (hcs : cells + mc ≤ R.cells ∧ slots + ms ≤ R.slots) (hrest : (rest.map fun v => v.category).sum ≤ 8) (k : ∀ (r : Option Value) (h' : HP), P r h' → ev G M_Mo_jumps R E 69 lv (r.toList ++ rest) h' (cells + mc) (slots + ms)) : ev G M_Mo_jumps R E 66 lv (.int a1 :: .int a0 :: .ref b :: rest) h cells slots := ev_callV (as := [.int a0, .int a1]) (ci := 7) d_Mo_jumps_66 hm hb hv0 rfl w_816 w_818 w_42 w_70 w_819 hy_Mo_get hR hcs hrest k
theorem d_Mo_jumps_69 : decode prog_10_method_25_code 69 = .ok (.if_icmp .ge 7, 3) := by decide +kernel
theorem s_Mo_jumps_69 {x y : Int32} (kt : y ≤ x → ev G M_Mo_jumps R E 76 lv rest h cells slots) (kf : ¬ y ≤ x → ev G M_Mo_jumps R E 72 lv rest h cells slots) : ev G M_Mo_jumps R E 69 lv (.int y :: .int x :: rest) h cells slots := ev_icmp_ge d_Mo_jumps_69 (by decide) kt kf
theorem d_Mo_jumps_72 : decode prog_10_method_25_code 72 = .ok (.iconst 1, 1) := by decide +kernel
theorem s_Mo_jumps_72  (k : ev G M_Mo_jumps R E 73 lv (.int 1 :: rest) h cells slots) : ev G M_Mo_jumps R E 72 lv rest h cells slots := ev_iconst d_Mo_jumps_72 (by decide) k
theorem d_Mo_jumps_73 : decode prog_10_method_25_code 73 = .ok (.goto 4, 3) := by decide +kernel
theorem s_Mo_jumps_73  (k : ev G M_Mo_jumps R E 77 lv rest h cells slots) : ev G M_Mo_jumps R E 73 lv rest h cells slots := ev_goto d_Mo_jumps_73 (by decide) k
theorem d_Mo_jumps_76 : decode prog_10_method_25_code 76 = .ok (.iconst 0, 1) := by decide +kernel
theorem s_Mo_jumps_76  (k : ev G M_Mo_jumps R E 77 lv (.int 0 :: rest) h cells slots) : ev G M_Mo_jumps R E 76 lv rest h cells slots := ev_iconst d_Mo_jumps_76 (by decide) k
theorem d_Mo_jumps_77 : decode prog_10_method_25_code 77 = .ok (.istore 5, 2) := by decide +kernel
theorem s_Mo_jumps_77 {x : Int32} (k : ev G M_Mo_jumps R E 79 (ls1 lv 5 (.int x)) rest h cells slots) : ev G M_Mo_jumps R E 77 lv (.int x :: rest) h cells slots := ev_istore d_Mo_jumps_77 (by decide) k
theorem d_Mo_jumps_79 : decode prog_10_method_25_code 79 = .ok (.iload_n 1, 1) := by decide +kernel
theorem s_Mo_jumps_79 {x : Int32} (hl : lg lv 1 = some (.int x)) (k : ev G M_Mo_jumps R E 80 lv (.int x :: rest) h cells slots) : ev G M_Mo_jumps R E 79 lv rest h cells slots := ev_iload_n d_Mo_jumps_79 rfl hl k
theorem d_Mo_jumps_80 : decode prog_10_method_25_code 80 = .ok (.bipush 12, 2) := by decide +kernel
theorem s_Mo_jumps_80  (k : ev G M_Mo_jumps R E 82 lv (.int 12 :: rest) h cells slots) : ev G M_Mo_jumps R E 80 lv rest h cells slots := ev_bipush d_Mo_jumps_80 (by decide) k
theorem d_Mo_jumps_82 : decode prog_10_method_25_code 82 = .ok (.if_icmp .ne 7, 3) := by decide +kernel
theorem s_Mo_jumps_82 {x y : Int32} (kt : ¬ x = y → ev G M_Mo_jumps R E 89 lv rest h cells slots) (kf : x = y → ev G M_Mo_jumps R E 85 lv rest h cells slots) : ev G M_Mo_jumps R E 82 lv (.int y :: .int x :: rest) h cells slots := ev_icmp_ne d_Mo_jumps_82 (by decide) kt kf
theorem d_Mo_jumps_85 : decode prog_10_method_25_code 85 = .ok (.iload_n 2, 1) := by decide +kernel
theorem s_Mo_jumps_85 {x : Int32} (hl : lg lv 2 = some (.int x)) (k : ev G M_Mo_jumps R E 86 lv (.int x :: rest) h cells slots) : ev G M_Mo_jumps R E 85 lv rest h cells slots := ev_iload_n d_Mo_jumps_85 rfl hl k
theorem d_Mo_jumps_86 : decode prog_10_method_25_code 86 = .ok (.goto 15, 3) := by decide +kernel
theorem s_Mo_jumps_86  (k : ev G M_Mo_jumps R E 101 lv rest h cells slots) : ev G M_Mo_jumps R E 86 lv rest h cells slots := ev_goto d_Mo_jumps_86 (by decide) k
theorem d_Mo_jumps_89 : decode prog_10_method_25_code 89 = .ok (.iload_n 1, 1) := by decide +kernel
theorem s_Mo_jumps_89 {x : Int32} (hl : lg lv 1 = some (.int x)) (k : ev G M_Mo_jumps R E 90 lv (.int x :: rest) h cells slots) : ev G M_Mo_jumps R E 89 lv rest h cells slots := ev_iload_n d_Mo_jumps_89 rfl hl k
theorem d_Mo_jumps_90 : decode prog_10_method_25_code 90 = .ok (.bipush 13, 2) := by decide +kernel
theorem s_Mo_jumps_90  (k : ev G M_Mo_jumps R E 92 lv (.int 13 :: rest) h cells slots) : ev G M_Mo_jumps R E 90 lv rest h cells slots := ev_bipush d_Mo_jumps_90 (by decide) k
theorem d_Mo_jumps_92 : decode prog_10_method_25_code 92 = .ok (.if_icmp .ne 7, 3) := by decide +kernel
theorem s_Mo_jumps_92 {x y : Int32} (kt : ¬ x = y → ev G M_Mo_jumps R E 99 lv rest h cells slots) (kf : x = y → ev G M_Mo_jumps R E 95 lv rest h cells slots) : ev G M_Mo_jumps R E 92 lv (.int y :: .int x :: rest) h cells slots := ev_icmp_ne d_Mo_jumps_92 (by decide) kt kf
theorem d_Mo_jumps_95 : decode prog_10_method_25_code 95 = .ok (.iload_n 3, 1) := by decide +kernel
theorem s_Mo_jumps_95 {x : Int32} (hl : lg lv 3 = some (.int x)) (k : ev G M_Mo_jumps R E 96 lv (.int x :: rest) h cells slots) : ev G M_Mo_jumps R E 95 lv rest h cells slots := ev_iload_n d_Mo_jumps_95 rfl hl k
theorem d_Mo_jumps_96 : decode prog_10_method_25_code 96 = .ok (.goto 5, 3) := by decide +kernel
theorem s_Mo_jumps_96  (k : ev G M_Mo_jumps R E 101 lv rest h cells slots) : ev G M_Mo_jumps R E 96 lv rest h cells slots := ev_goto d_Mo_jumps_96 (by decide) k
theorem d_Mo_jumps_99 : decode prog_10_method_25_code 99 = .ok (.iload 4, 2) := by decide +kernel
theorem s_Mo_jumps_99 {x : Int32} (hl : lg lv 4 = some (.int x)) (k : ev G M_Mo_jumps R E 101 lv (.int x :: rest) h cells slots) : ev G M_Mo_jumps R E 99 lv rest h cells slots := ev_iload d_Mo_jumps_99 hl k
theorem d_Mo_jumps_101 : decode prog_10_method_25_code 101 = .ok (.istore 6, 2) := by decide +kernel
theorem s_Mo_jumps_101 {x : Int32} (k : ev G M_Mo_jumps R E 103 (ls1 lv 6 (.int x)) rest h cells slots) : ev G M_Mo_jumps R E 101 lv (.int x :: rest) h cells slots := ev_istore d_Mo_jumps_101 (by decide) k
theorem d_Mo_jumps_103 : decode prog_10_method_25_code 103 = .ok (.aload_n 0, 1) := by decide +kernel
theorem s_Mo_jumps_103 {x : Nat} (hl : lg lv 0 = some (.ref x)) (k : ev G M_Mo_jumps R E 104 lv (.ref x :: rest) h cells slots) : ev G M_Mo_jumps R E 103 lv rest h cells slots := ev_aload_n d_Mo_jumps_103 rfl hl k
theorem d_Mo_jumps_104 : decode prog_10_method_25_code 104 = .ok (.iload 5, 2) := by decide +kernel
theorem s_Mo_jumps_104 {x : Int32} (hl : lg lv 5 = some (.int x)) (k : ev G M_Mo_jumps R E 106 lv (.int x :: rest) h cells slots) : ev G M_Mo_jumps R E 104 lv rest h cells slots := ev_iload d_Mo_jumps_104 hl k
theorem d_Mo_jumps_106 : decode prog_10_method_25_code 106 = .ok (.ifCond .eq 10, 3) := by decide +kernel
theorem s_Mo_jumps_106 {x : Int32} (kt : x = 0 → ev G M_Mo_jumps R E 116 lv rest h cells slots) (kf : ¬ x = 0 → ev G M_Mo_jumps R E 109 lv rest h cells slots) : ev G M_Mo_jumps R E 106 lv (.int x :: rest) h cells slots := ev_if_eq d_Mo_jumps_106 (by decide) kt kf
theorem d_Mo_jumps_109 : decode prog_10_method_25_code 109 = .ok (.iload 6, 2) := by decide +kernel
theorem s_Mo_jumps_109 {x : Int32} (hl : lg lv 6 = some (.int x)) (k : ev G M_Mo_jumps R E 111 lv (.int x :: rest) h cells slots) : ev G M_Mo_jumps R E 109 lv rest h cells slots := ev_iload d_Mo_jumps_109 hl k
theorem d_Mo_jumps_111 : decode prog_10_method_25_code 111 = .ok (.iconst 1, 1) := by decide +kernel
theorem s_Mo_jumps_111  (k : ev G M_Mo_jumps R E 112 lv (.int 1 :: rest) h cells slots) : ev G M_Mo_jumps R E 111 lv rest h cells slots := ev_iconst d_Mo_jumps_111 (by decide) k
theorem d_Mo_jumps_112 : decode prog_10_method_25_code 112 = .ok (.isub, 1) := by decide +kernel
theorem s_Mo_jumps_112 {x y : Int32} (k : ev G M_Mo_jumps R E 113 lv (.int (x - y) :: rest) h cells slots) : ev G M_Mo_jumps R E 112 lv (.int y :: .int x :: rest) h cells slots := ev_isub d_Mo_jumps_112 k
theorem d_Mo_jumps_113 : decode prog_10_method_25_code 113 = .ok (.goto 7, 3) := by decide +kernel
theorem s_Mo_jumps_113  (k : ev G M_Mo_jumps R E 120 lv rest h cells slots) : ev G M_Mo_jumps R E 113 lv rest h cells slots := ev_goto d_Mo_jumps_113 (by decide) k
theorem d_Mo_jumps_116 : decode prog_10_method_25_code 116 = .ok (.aload_n 0, 1) := by decide +kernel
theorem s_Mo_jumps_116 {x : Nat} (hl : lg lv 0 = some (.ref x)) (k : ev G M_Mo_jumps R E 117 lv (.ref x :: rest) h cells slots) : ev G M_Mo_jumps R E 116 lv rest h cells slots := ev_aload_n d_Mo_jumps_116 rfl hl k
theorem d_Mo_jumps_117 : decode prog_10_method_25_code 117 = .ok (.getfield 85, 3) := by decide +kernel
theorem s_Mo_jumps_117 {a : Nat} {fs : List Value} {v : Value} (hh : h a = mO 7 fs) (hv : fs[14]? = some v) (k : ev G M_Mo_jumps R E 120 lv (v :: rest) h cells slots) : ev G M_Mo_jumps R E 117 lv (.ref a :: rest) h cells slots := ev_getfield (ci := 7) (kf := 14) d_Mo_jumps_117 rfl ck7 (by decide) w_718 hh hv k
theorem d_Mo_jumps_120 : decode prog_10_method_25_code 120 = .ok (.putfield 85, 3) := by decide +kernel
theorem s_Mo_jumps_120 {x : Int32} {a : Nat} {fs : List Value} (hh : h a = mO 7 fs) (hlen : 14 < fs.length) (k : ev G M_Mo_jumps R E 123 lv rest (va_up h a (mO 7 (fs.set 14 (.int x)))) cells slots) : ev G M_Mo_jumps R E 120 lv (.int x :: .ref a :: rest) h cells slots := ev_putfield (ci := 7) (kf := 14) d_Mo_jumps_120 rfl ck7 (by decide) w_718 rfl hh hlen (fun _ _ => rfl) (fun _ _ => rfl) k
theorem d_Mo_jumps_123 : decode prog_10_method_25_code 123 = .ok (.iconst 0, 1) := by decide +kernel
theorem s_Mo_jumps_123  (k : ev G M_Mo_jumps R E 124 lv (.int 0 :: rest) h cells slots) : ev G M_Mo_jumps R E 123 lv rest h cells slots := ev_iconst d_Mo_jumps_123 (by decide) k
theorem d_Mo_jumps_124 : decode prog_10_method_25_code 124 = .ok (.ireturn, 1) := by decide +kernel
theorem s_Mo_jumps_124 {P : Option Value → HP → Prop} {mc ms : Nat} {v : Int32} (hP : P (some (.int v)) h) (hc : cells ≤ mc ∧ slots ≤ ms) : ev G M_Mo_jumps R (Er M_Mo_jumps P mc ms) 124 lv [.int v] h cells slots := ev_exit ⟨hc.1, hc.2, Or.inr (Or.inl ⟨v, .int, rfl, rfl, d_Mo_jumps_124, rfl, hP⟩)⟩
abbrev M_Mo_lowestGate : MW := (⟨"UseOnceMachineModel", "lowestGate", "()I"⟩, prog_10_method_18_code, 3, (some .int))
theorem hy_Mo_lowestGate : M_Mo_lowestGate.1.cls ≠ "java/lang/invoke/MethodHandle" ∧ M_Mo_lowestGate.1.cls ≠ "java/lang/invoke/VarHandle" ∧ (parseMethodDescriptor M_Mo_lowestGate.1.desc).map (fun d => d.parameters.length) = some 0 := by decide +kernel
theorem d_Mo_lowestGate_0 : decode prog_10_method_18_code 0 = .ok (.iconst (-1), 1) := by decide +kernel
theorem s_Mo_lowestGate_0  (k : ev G M_Mo_lowestGate R E 1 lv (.int (-1) :: rest) h cells slots) : ev G M_Mo_lowestGate R E 0 lv rest h cells slots := ev_iconst d_Mo_lowestGate_0 (by decide) k
theorem d_Mo_lowestGate_1 : decode prog_10_method_18_code 1 = .ok (.istore_n 1, 1) := by decide +kernel
theorem s_Mo_lowestGate_1 {x : Int32} (k : ev G M_Mo_lowestGate R E 2 (ls1 lv 1 (.int x)) rest h cells slots) : ev G M_Mo_lowestGate R E 1 lv (.int x :: rest) h cells slots := ev_istore_n d_Mo_lowestGate_1 rfl (by decide) k
theorem d_Mo_lowestGate_2 : decode prog_10_method_18_code 2 = .ok (.iconst 5, 1) := by decide +kernel
theorem s_Mo_lowestGate_2  (k : ev G M_Mo_lowestGate R E 3 lv (.int 5 :: rest) h cells slots) : ev G M_Mo_lowestGate R E 2 lv rest h cells slots := ev_iconst d_Mo_lowestGate_2 (by decide) k
theorem d_Mo_lowestGate_3 : decode prog_10_method_18_code 3 = .ok (.istore_n 2, 1) := by decide +kernel
theorem s_Mo_lowestGate_3 {x : Int32} (k : ev G M_Mo_lowestGate R E 4 (ls1 lv 2 (.int x)) rest h cells slots) : ev G M_Mo_lowestGate R E 3 lv (.int x :: rest) h cells slots := ev_istore_n d_Mo_lowestGate_3 rfl (by decide) k
theorem d_Mo_lowestGate_4 : decode prog_10_method_18_code 4 = .ok (.iload_n 2, 1) := by decide +kernel
theorem s_Mo_lowestGate_4 {x : Int32} (hl : lg lv 2 = some (.int x)) (k : ev G M_Mo_lowestGate R E 5 lv (.int x :: rest) h cells slots) : ev G M_Mo_lowestGate R E 4 lv rest h cells slots := ev_iload_n d_Mo_lowestGate_4 rfl hl k
theorem d_Mo_lowestGate_5 : decode prog_10_method_18_code 5 = .ok (.ifCond .lt 24, 3) := by decide +kernel
theorem s_Mo_lowestGate_5 {x : Int32} (kt : x < 0 → ev G M_Mo_lowestGate R E 29 lv rest h cells slots) (kf : ¬ x < 0 → ev G M_Mo_lowestGate R E 8 lv rest h cells slots) : ev G M_Mo_lowestGate R E 5 lv (.int x :: rest) h cells slots := ev_if_lt d_Mo_lowestGate_5 (by decide) kt kf
theorem d_Mo_lowestGate_8 : decode prog_10_method_18_code 8 = .ok (.aload_n 0, 1) := by decide +kernel
theorem s_Mo_lowestGate_8 {x : Nat} (hl : lg lv 0 = some (.ref x)) (k : ev G M_Mo_lowestGate R E 9 lv (.ref x :: rest) h cells slots) : ev G M_Mo_lowestGate R E 8 lv rest h cells slots := ev_aload_n d_Mo_lowestGate_8 rfl hl k
theorem d_Mo_lowestGate_9 : decode prog_10_method_18_code 9 = .ok (.getfield 28, 3) := by decide +kernel
theorem s_Mo_lowestGate_9 {a : Nat} {fs : List Value} {v : Value} (hh : h a = mO 7 fs) (hv : fs[7]? = some v) (k : ev G M_Mo_lowestGate R E 12 lv (v :: rest) h cells slots) : ev G M_Mo_lowestGate R E 9 lv (.ref a :: rest) h cells slots := ev_getfield (ci := 7) (kf := 7) d_Mo_lowestGate_9 rfl ck7 (by decide) w_711 hh hv k
theorem d_Mo_lowestGate_12 : decode prog_10_method_18_code 12 = .ok (.iload_n 2, 1) := by decide +kernel
theorem s_Mo_lowestGate_12 {x : Int32} (hl : lg lv 2 = some (.int x)) (k : ev G M_Mo_lowestGate R E 13 lv (.int x :: rest) h cells slots) : ev G M_Mo_lowestGate R E 12 lv rest h cells slots := ev_iload_n d_Mo_lowestGate_12 rfl hl k
theorem d_Mo_lowestGate_13 : decode prog_10_method_18_code 13 = .ok (.iaload, 1) := by decide +kernel
theorem s_Mo_lowestGate_13 {a n : Nat} {f : Nat → Int32} {i : Int32} (hh : h a = mI 0 n f) (hin : vp_in i n) (k : ev G M_Mo_lowestGate R E 14 lv (.int (f i.toNatClampNeg) :: rest) h cells slots) : ev G M_Mo_lowestGate R E 13 lv (.int i :: .ref a :: rest) h cells slots := ev_iaload d_Mo_lowestGate_13 rfl hh hin k
theorem d_Mo_lowestGate_14 : decode prog_10_method_18_code 14 = .ok (.ifCond .ne 7, 3) := by decide +kernel
theorem s_Mo_lowestGate_14 {x : Int32} (kt : ¬ x = 0 → ev G M_Mo_lowestGate R E 21 lv rest h cells slots) (kf : x = 0 → ev G M_Mo_lowestGate R E 17 lv rest h cells slots) : ev G M_Mo_lowestGate R E 14 lv (.int x :: rest) h cells slots := ev_if_ne d_Mo_lowestGate_14 (by decide) kt kf
theorem d_Mo_lowestGate_17 : decode prog_10_method_18_code 17 = .ok (.iload_n 2, 1) := by decide +kernel
theorem s_Mo_lowestGate_17 {x : Int32} (hl : lg lv 2 = some (.int x)) (k : ev G M_Mo_lowestGate R E 18 lv (.int x :: rest) h cells slots) : ev G M_Mo_lowestGate R E 17 lv rest h cells slots := ev_iload_n d_Mo_lowestGate_17 rfl hl k
theorem d_Mo_lowestGate_18 : decode prog_10_method_18_code 18 = .ok (.goto 4, 3) := by decide +kernel
theorem s_Mo_lowestGate_18  (k : ev G M_Mo_lowestGate R E 22 lv rest h cells slots) : ev G M_Mo_lowestGate R E 18 lv rest h cells slots := ev_goto d_Mo_lowestGate_18 (by decide) k
theorem d_Mo_lowestGate_21 : decode prog_10_method_18_code 21 = .ok (.iload_n 1, 1) := by decide +kernel
theorem s_Mo_lowestGate_21 {x : Int32} (hl : lg lv 1 = some (.int x)) (k : ev G M_Mo_lowestGate R E 22 lv (.int x :: rest) h cells slots) : ev G M_Mo_lowestGate R E 21 lv rest h cells slots := ev_iload_n d_Mo_lowestGate_21 rfl hl k
theorem d_Mo_lowestGate_22 : decode prog_10_method_18_code 22 = .ok (.istore_n 1, 1) := by decide +kernel
theorem s_Mo_lowestGate_22 {x : Int32} (k : ev G M_Mo_lowestGate R E 23 (ls1 lv 1 (.int x)) rest h cells slots) : ev G M_Mo_lowestGate R E 22 lv (.int x :: rest) h cells slots := ev_istore_n d_Mo_lowestGate_22 rfl (by decide) k
theorem d_Mo_lowestGate_23 : decode prog_10_method_18_code 23 = .ok (.iinc 2 (-1), 3) := by decide +kernel
theorem s_Mo_lowestGate_23 {x : Int32} (hl : lg lv 2 = some (.int x)) (k : ev G M_Mo_lowestGate R E 26 (ls1 lv 2 (.int (x + (-1)))) rest h cells slots) : ev G M_Mo_lowestGate R E 23 lv rest h cells slots := ev_iinc d_Mo_lowestGate_23 (by decide) hl (by decide) k
theorem d_Mo_lowestGate_26 : decode prog_10_method_18_code 26 = .ok (.goto (-22), 3) := by decide +kernel
theorem s_Mo_lowestGate_26  (k : ev G M_Mo_lowestGate R E 4 lv rest h cells slots) : ev G M_Mo_lowestGate R E 26 lv rest h cells slots := ev_goto d_Mo_lowestGate_26 (by decide) k
theorem d_Mo_lowestGate_29 : decode prog_10_method_18_code 29 = .ok (.iload_n 1, 1) := by decide +kernel
theorem s_Mo_lowestGate_29 {x : Int32} (hl : lg lv 1 = some (.int x)) (k : ev G M_Mo_lowestGate R E 30 lv (.int x :: rest) h cells slots) : ev G M_Mo_lowestGate R E 29 lv rest h cells slots := ev_iload_n d_Mo_lowestGate_29 rfl hl k
theorem d_Mo_lowestGate_30 : decode prog_10_method_18_code 30 = .ok (.ireturn, 1) := by decide +kernel
theorem s_Mo_lowestGate_30 {P : Option Value → HP → Prop} {mc ms : Nat} {v : Int32} (hP : P (some (.int v)) h) (hc : cells ≤ mc ∧ slots ≤ ms) : ev G M_Mo_lowestGate R (Er M_Mo_lowestGate P mc ms) 30 lv [.int v] h cells slots := ev_exit ⟨hc.1, hc.2, Or.inr (Or.inl ⟨v, .int, rfl, rfl, d_Mo_lowestGate_30, rfl, hP⟩)⟩
abbrev M_Mo_seal : MW := (⟨"UseOnceMachineModel", "seal", "(III)I"⟩, prog_10_method_26_code, 5, (some .int))
theorem hy_Mo_seal : M_Mo_seal.1.cls ≠ "java/lang/invoke/MethodHandle" ∧ M_Mo_seal.1.cls ≠ "java/lang/invoke/VarHandle" ∧ (parseMethodDescriptor M_Mo_seal.1.desc).map (fun d => d.parameters.length) = some 3 := by decide +kernel
theorem d_Mo_seal_0 : decode prog_10_method_26_code 0 = .ok (.aload_n 0, 1) := by decide +kernel
theorem s_Mo_seal_0 {x : Nat} (hl : lg lv 0 = some (.ref x)) (k : ev G M_Mo_seal R E 1 lv (.ref x :: rest) h cells slots) : ev G M_Mo_seal R E 0 lv rest h cells slots := ev_aload_n d_Mo_seal_0 rfl hl k
theorem d_Mo_seal_1 : decode prog_10_method_26_code 1 = .ok (.iload_n 1, 1) := by decide +kernel
theorem s_Mo_seal_1 {x : Int32} (hl : lg lv 1 = some (.int x)) (k : ev G M_Mo_seal R E 2 lv (.int x :: rest) h cells slots) : ev G M_Mo_seal R E 1 lv rest h cells slots := ev_iload_n d_Mo_seal_1 rfl hl k
theorem d_Mo_seal_2 : decode prog_10_method_26_code 2 = .ok (.invokevirtual 62, 3) := by decide +kernel
theorem s_Mo_seal_2 {mc ms : Nat} {P : Option Value → HP → Prop} {a0 : Int32} {b : Nat} {fs : List Value} {v0 : Value} (hm : mt G M_Mo_what 0 mc ms (.ref b :: [.int a0]) h P) (hb : h b = mO 7 fs) (hv0 : fs[0]? = some v0) (hR : 0 + 1 ≤ R.frames ∧ 8 + (2 + 11) + 39 * 0 ≤ R.locals) (hcs : cells + mc ≤ R.cells ∧ slots + ms ≤ R.slots) (hrest : (rest.map fun v => v.category).sum ≤ 8) (k : ∀ (r : Option Value) (h' : HP), P r h' → ev G M_Mo_seal R E 5 lv (r.toList ++ rest) h' (cells + mc) (slots + ms)) : ev G M_Mo_seal R E 2 lv (.int a0 :: .ref b :: rest) h cells slots := ev_callV (as := [.int a0]) (ci := 7) d_Mo_seal_2 hm hb hv0 rfl w_804 w_806 w_39 w_70 w_807 hy_Mo_what hR hcs hrest k
theorem d_Mo_seal_5 : decode prog_10_method_26_code 5 = .ok (.iconst 1, 1) := by decide +kernel
theorem s_Mo_seal_5  (k : ev G M_Mo_seal R E 6 lv (.int 1 :: rest) h cells slots) : ev G M_Mo_seal R E 5 lv rest h cells slots := ev_iconst d_Mo_seal_5 (by decide) k
theorem d_Mo_seal_6 : decode prog_10_method_26_code 6 = .ok (.if_icmp .eq 5, 3) := by decide +kernel
theorem s_Mo_seal_6 {x y : Int32} (kt : x = y → ev G M_Mo_seal R E 11 lv rest h cells slots) (kf : ¬ x = y → ev G M_Mo_seal R E 9 lv rest h cells slots) : ev G M_Mo_seal R E 6 lv (.int y :: .int x :: rest) h cells slots := ev_icmp_eq d_Mo_seal_6 (by decide) kt kf
theorem d_Mo_seal_9 : decode prog_10_method_26_code 9 = .ok (.iconst 1, 1) := by decide +kernel
theorem s_Mo_seal_9  (k : ev G M_Mo_seal R E 10 lv (.int 1 :: rest) h cells slots) : ev G M_Mo_seal R E 9 lv rest h cells slots := ev_iconst d_Mo_seal_9 (by decide) k
theorem d_Mo_seal_10 : decode prog_10_method_26_code 10 = .ok (.ireturn, 1) := by decide +kernel
theorem s_Mo_seal_10 {P : Option Value → HP → Prop} {mc ms : Nat} {v : Int32} (hP : P (some (.int v)) h) (hc : cells ≤ mc ∧ slots ≤ ms) : ev G M_Mo_seal R (Er M_Mo_seal P mc ms) 10 lv [.int v] h cells slots := ev_exit ⟨hc.1, hc.2, Or.inr (Or.inl ⟨v, .int, rfl, rfl, d_Mo_seal_10, rfl, hP⟩)⟩
theorem d_Mo_seal_11 : decode prog_10_method_26_code 11 = .ok (.aload_n 0, 1) := by decide +kernel
theorem s_Mo_seal_11 {x : Nat} (hl : lg lv 0 = some (.ref x)) (k : ev G M_Mo_seal R E 12 lv (.ref x :: rest) h cells slots) : ev G M_Mo_seal R E 11 lv rest h cells slots := ev_aload_n d_Mo_seal_11 rfl hl k
theorem d_Mo_seal_12 : decode prog_10_method_26_code 12 = .ok (.invokevirtual 150, 3) := by decide +kernel
theorem s_Mo_seal_12 {mc ms : Nat} {P : Option Value → HP → Prop}  {b : Nat} {fs : List Value} {v0 : Value} (hm : mt G M_Mo_lowestGate 0 mc ms (.ref b :: []) h P) (hb : h b = mO 7 fs) (hv0 : fs[0]? = some v0) (hR : 0 + 1 ≤ R.frames ∧ 8 + (3 + 11) + 39 * 0 ≤ R.locals) (hcs : cells + mc ≤ R.cells ∧ slots + ms ≤ R.slots) (hrest : (rest.map fun v => v.category).sum ≤ 8) (k : ∀ (r : Option Value) (h' : HP), P r h' → ev G M_Mo_seal R E 15 lv (r.toList ++ rest) h' (cells + mc) (slots + ms)) : ev G M_Mo_seal R E 12 lv (.ref b :: rest) h cells slots := ev_callV (as := []) (ci := 7) d_Mo_seal_12 hm hb hv0 rfl w_856 w_858 w_52 w_70 w_859 hy_Mo_lowestGate hR hcs hrest k
theorem d_Mo_seal_15 : decode prog_10_method_26_code 15 = .ok (.istore 4, 2) := by decide +kernel
theorem s_Mo_seal_15 {x : Int32} (k : ev G M_Mo_seal R E 17 (ls1 lv 4 (.int x)) rest h cells slots) : ev G M_Mo_seal R E 15 lv (.int x :: rest) h cells slots := ev_istore d_Mo_seal_15 (by decide) k
theorem d_Mo_seal_17 : decode prog_10_method_26_code 17 = .ok (.iload 4, 2) := by decide +kernel
theorem s_Mo_seal_17 {x : Int32} (hl : lg lv 4 = some (.int x)) (k : ev G M_Mo_seal R E 19 lv (.int x :: rest) h cells slots) : ev G M_Mo_seal R E 17 lv rest h cells slots := ev_iload d_Mo_seal_17 hl k
theorem d_Mo_seal_19 : decode prog_10_method_26_code 19 = .ok (.ifCond .ge 6, 3) := by decide +kernel
theorem s_Mo_seal_19 {x : Int32} (kt : 0 ≤ x → ev G M_Mo_seal R E 25 lv rest h cells slots) (kf : ¬ 0 ≤ x → ev G M_Mo_seal R E 22 lv rest h cells slots) : ev G M_Mo_seal R E 19 lv (.int x :: rest) h cells slots := ev_if_ge d_Mo_seal_19 (by decide) kt kf
theorem d_Mo_seal_22 : decode prog_10_method_26_code 22 = .ok (.bipush 7, 2) := by decide +kernel
theorem s_Mo_seal_22  (k : ev G M_Mo_seal R E 24 lv (.int 7 :: rest) h cells slots) : ev G M_Mo_seal R E 22 lv rest h cells slots := ev_bipush d_Mo_seal_22 (by decide) k
theorem d_Mo_seal_24 : decode prog_10_method_26_code 24 = .ok (.ireturn, 1) := by decide +kernel
theorem s_Mo_seal_24 {P : Option Value → HP → Prop} {mc ms : Nat} {v : Int32} (hP : P (some (.int v)) h) (hc : cells ≤ mc ∧ slots ≤ ms) : ev G M_Mo_seal R (Er M_Mo_seal P mc ms) 24 lv [.int v] h cells slots := ev_exit ⟨hc.1, hc.2, Or.inr (Or.inl ⟨v, .int, rfl, rfl, d_Mo_seal_24, rfl, hP⟩)⟩
theorem d_Mo_seal_25 : decode prog_10_method_26_code 25 = .ok (.aload_n 0, 1) := by decide +kernel
theorem s_Mo_seal_25 {x : Nat} (hl : lg lv 0 = some (.ref x)) (k : ev G M_Mo_seal R E 26 lv (.ref x :: rest) h cells slots) : ev G M_Mo_seal R E 25 lv rest h cells slots := ev_aload_n d_Mo_seal_25 rfl hl k
theorem d_Mo_seal_26 : decode prog_10_method_26_code 26 = .ok (.iload_n 1, 1) := by decide +kernel
theorem s_Mo_seal_26 {x : Int32} (hl : lg lv 1 = some (.int x)) (k : ev G M_Mo_seal R E 27 lv (.int x :: rest) h cells slots) : ev G M_Mo_seal R E 26 lv rest h cells slots := ev_iload_n d_Mo_seal_26 rfl hl k
theorem d_Mo_seal_27 : decode prog_10_method_26_code 27 = .ok (.bipush 96, 2) := by decide +kernel
theorem s_Mo_seal_27  (k : ev G M_Mo_seal R E 29 lv (.int 96 :: rest) h cells slots) : ev G M_Mo_seal R E 27 lv rest h cells slots := ev_bipush d_Mo_seal_27 (by decide) k
theorem d_Mo_seal_29 : decode prog_10_method_26_code 29 = .ok (.iload 4, 2) := by decide +kernel
theorem s_Mo_seal_29 {x : Int32} (hl : lg lv 4 = some (.int x)) (k : ev G M_Mo_seal R E 31 lv (.int x :: rest) h cells slots) : ev G M_Mo_seal R E 29 lv rest h cells slots := ev_iload d_Mo_seal_29 hl k
theorem d_Mo_seal_31 : decode prog_10_method_26_code 31 = .ok (.iadd, 1) := by decide +kernel
theorem s_Mo_seal_31 {x y : Int32} (k : ev G M_Mo_seal R E 32 lv (.int (x + y) :: rest) h cells slots) : ev G M_Mo_seal R E 31 lv (.int y :: .int x :: rest) h cells slots := ev_iadd d_Mo_seal_31 k
theorem d_Mo_seal_32 : decode prog_10_method_26_code 32 = .ok (.invokevirtual 74, 3) := by decide +kernel
theorem s_Mo_seal_32 {mc ms : Nat} {P : Option Value → HP → Prop} {a0 : Int32} {a1 : Int32} {b : Nat} {fs : List Value} {v0 : Value} (hm : mt G M_Mo_shift 2 mc ms (.ref b :: [.int a0, .int a1]) h P) (hb : h b = mO 7 fs) (hv0 : fs[0]? = some v0) (hR : 2 + 1 ≤ R.frames ∧ 8 + (3 + 11) + 39 * 2 ≤ R.locals) (hcs : cells + mc ≤ R.cells ∧ slots + ms ≤ R.slots) (hrest : (rest.map fun v => v.category).sum ≤ 8) (k : ∀ (r : Option Value) (h' : HP), P r h' → ev G M_Mo_seal R E 35 lv (r.toList ++ rest) h' (cells + mc) (slots + ms)) : ev G M_Mo_seal R E 32 lv (.int a1 :: .int a0 :: .ref b :: rest) h cells slots := ev_callV (as := [.int a0, .int a1]) (ci := 7) d_Mo_seal_32 hm hb hv0 rfl w_812 w_814 w_41 w_70 w_815 hy_Mo_shift hR hcs hrest k
theorem d_Mo_seal_35 : decode prog_10_method_26_code 35 = .ok (.aload_n 0, 1) := by decide +kernel
theorem s_Mo_seal_35 {x : Nat} (hl : lg lv 0 = some (.ref x)) (k : ev G M_Mo_seal R E 36 lv (.ref x :: rest) h cells slots) : ev G M_Mo_seal R E 35 lv rest h cells slots := ev_aload_n d_Mo_seal_35 rfl hl k
theorem d_Mo_seal_36 : decode prog_10_method_26_code 36 = .ok (.getfield 28, 3) := by decide +kernel
theorem s_Mo_seal_36 {a : Nat} {fs : List Value} {v : Value} (hh : h a = mO 7 fs) (hv : fs[7]? = some v) (k : ev G M_Mo_seal R E 39 lv (v :: rest) h cells slots) : ev G M_Mo_seal R E 36 lv (.ref a :: rest) h cells slots := ev_getfield (ci := 7) (kf := 7) d_Mo_seal_36 rfl ck7 (by decide) w_711 hh hv k
theorem d_Mo_seal_39 : decode prog_10_method_26_code 39 = .ok (.iload 4, 2) := by decide +kernel
theorem s_Mo_seal_39 {x : Int32} (hl : lg lv 4 = some (.int x)) (k : ev G M_Mo_seal R E 41 lv (.int x :: rest) h cells slots) : ev G M_Mo_seal R E 39 lv rest h cells slots := ev_iload d_Mo_seal_39 hl k
theorem d_Mo_seal_41 : decode prog_10_method_26_code 41 = .ok (.iconst 1, 1) := by decide +kernel
theorem s_Mo_seal_41  (k : ev G M_Mo_seal R E 42 lv (.int 1 :: rest) h cells slots) : ev G M_Mo_seal R E 41 lv rest h cells slots := ev_iconst d_Mo_seal_41 (by decide) k
theorem d_Mo_seal_42 : decode prog_10_method_26_code 42 = .ok (.iastore, 1) := by decide +kernel
theorem s_Mo_seal_42 {a n : Nat} {f : Nat → Int32} {i : Int32} {x : Int32} (hh : h a = mI 0 n f) (hin : vp_in i n) (k : ev G M_Mo_seal R E 43 lv rest (va_up h a (mI 0 n (upd f i.toNatClampNeg x))) cells slots) : ev G M_Mo_seal R E 42 lv (.int x :: .int i :: .ref a :: rest) h cells slots := ev_iastore d_Mo_seal_42 rfl hh hin k
theorem d_Mo_seal_43 : decode prog_10_method_26_code 43 = .ok (.aload_n 0, 1) := by decide +kernel
theorem s_Mo_seal_43 {x : Nat} (hl : lg lv 0 = some (.ref x)) (k : ev G M_Mo_seal R E 44 lv (.ref x :: rest) h cells slots) : ev G M_Mo_seal R E 43 lv rest h cells slots := ev_aload_n d_Mo_seal_43 rfl hl k
theorem d_Mo_seal_44 : decode prog_10_method_26_code 44 = .ok (.getfield 31, 3) := by decide +kernel
theorem s_Mo_seal_44 {a : Nat} {fs : List Value} {v : Value} (hh : h a = mO 7 fs) (hv : fs[8]? = some v) (k : ev G M_Mo_seal R E 47 lv (v :: rest) h cells slots) : ev G M_Mo_seal R E 44 lv (.ref a :: rest) h cells slots := ev_getfield (ci := 7) (kf := 8) d_Mo_seal_44 rfl ck7 (by decide) w_712 hh hv k
theorem d_Mo_seal_47 : decode prog_10_method_26_code 47 = .ok (.iload 4, 2) := by decide +kernel
theorem s_Mo_seal_47 {x : Int32} (hl : lg lv 4 = some (.int x)) (k : ev G M_Mo_seal R E 49 lv (.int x :: rest) h cells slots) : ev G M_Mo_seal R E 47 lv rest h cells slots := ev_iload d_Mo_seal_47 hl k
theorem d_Mo_seal_49 : decode prog_10_method_26_code 49 = .ok (.iload_n 2, 1) := by decide +kernel
theorem s_Mo_seal_49 {x : Int32} (hl : lg lv 2 = some (.int x)) (k : ev G M_Mo_seal R E 50 lv (.int x :: rest) h cells slots) : ev G M_Mo_seal R E 49 lv rest h cells slots := ev_iload_n d_Mo_seal_49 rfl hl k
theorem d_Mo_seal_50 : decode prog_10_method_26_code 50 = .ok (.iastore, 1) := by decide +kernel
theorem s_Mo_seal_50 {a n : Nat} {f : Nat → Int32} {i : Int32} {x : Int32} (hh : h a = mI 0 n f) (hin : vp_in i n) (k : ev G M_Mo_seal R E 51 lv rest (va_up h a (mI 0 n (upd f i.toNatClampNeg x))) cells slots) : ev G M_Mo_seal R E 50 lv (.int x :: .int i :: .ref a :: rest) h cells slots := ev_iastore d_Mo_seal_50 rfl hh hin k
theorem d_Mo_seal_51 : decode prog_10_method_26_code 51 = .ok (.aload_n 0, 1) := by decide +kernel
theorem s_Mo_seal_51 {x : Nat} (hl : lg lv 0 = some (.ref x)) (k : ev G M_Mo_seal R E 52 lv (.ref x :: rest) h cells slots) : ev G M_Mo_seal R E 51 lv rest h cells slots := ev_aload_n d_Mo_seal_51 rfl hl k
theorem d_Mo_seal_52 : decode prog_10_method_26_code 52 = .ok (.getfield 34, 3) := by decide +kernel
theorem s_Mo_seal_52 {a : Nat} {fs : List Value} {v : Value} (hh : h a = mO 7 fs) (hv : fs[9]? = some v) (k : ev G M_Mo_seal R E 55 lv (v :: rest) h cells slots) : ev G M_Mo_seal R E 52 lv (.ref a :: rest) h cells slots := ev_getfield (ci := 7) (kf := 9) d_Mo_seal_52 rfl ck7 (by decide) w_713 hh hv k
theorem d_Mo_seal_55 : decode prog_10_method_26_code 55 = .ok (.iload 4, 2) := by decide +kernel
theorem s_Mo_seal_55 {x : Int32} (hl : lg lv 4 = some (.int x)) (k : ev G M_Mo_seal R E 57 lv (.int x :: rest) h cells slots) : ev G M_Mo_seal R E 55 lv rest h cells slots := ev_iload d_Mo_seal_55 hl k
theorem d_Mo_seal_57 : decode prog_10_method_26_code 57 = .ok (.iload_n 3, 1) := by decide +kernel
theorem s_Mo_seal_57 {x : Int32} (hl : lg lv 3 = some (.int x)) (k : ev G M_Mo_seal R E 58 lv (.int x :: rest) h cells slots) : ev G M_Mo_seal R E 57 lv rest h cells slots := ev_iload_n d_Mo_seal_57 rfl hl k
theorem d_Mo_seal_58 : decode prog_10_method_26_code 58 = .ok (.iastore, 1) := by decide +kernel
theorem s_Mo_seal_58 {a n : Nat} {f : Nat → Int32} {i : Int32} {x : Int32} (hh : h a = mI 0 n f) (hin : vp_in i n) (k : ev G M_Mo_seal R E 59 lv rest (va_up h a (mI 0 n (upd f i.toNatClampNeg x))) cells slots) : ev G M_Mo_seal R E 58 lv (.int x :: .int i :: .ref a :: rest) h cells slots := ev_iastore d_Mo_seal_58 rfl hh hin k
theorem d_Mo_seal_59 : decode prog_10_method_26_code 59 = .ok (.aload_n 0, 1) := by decide +kernel
theorem s_Mo_seal_59 {x : Nat} (hl : lg lv 0 = some (.ref x)) (k : ev G M_Mo_seal R E 60 lv (.ref x :: rest) h cells slots) : ev G M_Mo_seal R E 59 lv rest h cells slots := ev_aload_n d_Mo_seal_59 rfl hl k
theorem d_Mo_seal_60 : decode prog_10_method_26_code 60 = .ok (.iload_n 1, 1) := by decide +kernel
theorem s_Mo_seal_60 {x : Int32} (hl : lg lv 1 = some (.int x)) (k : ev G M_Mo_seal R E 61 lv (.int x :: rest) h cells slots) : ev G M_Mo_seal R E 60 lv rest h cells slots := ev_iload_n d_Mo_seal_60 rfl hl k
theorem d_Mo_seal_61 : decode prog_10_method_26_code 61 = .ok (.iconst 3, 1) := by decide +kernel
theorem s_Mo_seal_61  (k : ev G M_Mo_seal R E 62 lv (.int 3 :: rest) h cells slots) : ev G M_Mo_seal R E 61 lv rest h cells slots := ev_iconst d_Mo_seal_61 (by decide) k
theorem d_Mo_seal_62 : decode prog_10_method_26_code 62 = .ok (.iconst 0, 1) := by decide +kernel
theorem s_Mo_seal_62  (k : ev G M_Mo_seal R E 63 lv (.int 0 :: rest) h cells slots) : ev G M_Mo_seal R E 62 lv rest h cells slots := ev_iconst d_Mo_seal_62 (by decide) k
theorem d_Mo_seal_63 : decode prog_10_method_26_code 63 = .ok (.iconst 0, 1) := by decide +kernel
theorem s_Mo_seal_63  (k : ev G M_Mo_seal R E 64 lv (.int 0 :: rest) h cells slots) : ev G M_Mo_seal R E 63 lv rest h cells slots := ev_iconst d_Mo_seal_63 (by decide) k
theorem d_Mo_seal_64 : decode prog_10_method_26_code 64 = .ok (.iconst 0, 1) := by decide +kernel
theorem s_Mo_seal_64  (k : ev G M_Mo_seal R E 65 lv (.int 0 :: rest) h cells slots) : ev G M_Mo_seal R E 64 lv rest h cells slots := ev_iconst d_Mo_seal_64 (by decide) k
theorem d_Mo_seal_65 : decode prog_10_method_26_code 65 = .ok (.iload 4, 2) := by decide +kernel
theorem s_Mo_seal_65 {x : Int32} (hl : lg lv 4 = some (.int x)) (k : ev G M_Mo_seal R E 67 lv (.int x :: rest) h cells slots) : ev G M_Mo_seal R E 65 lv rest h cells slots := ev_iload d_Mo_seal_65 hl k
theorem d_Mo_seal_67 : decode prog_10_method_26_code 67 = .ok (.invokevirtual 58, 3) := by decide +kernel
theorem s_Mo_seal_67 {mc ms : Nat} {P : Option Value → HP → Prop} {a0 : Int32} {a1 : Int32} {a2 : Int32} {a3 : Int32} {a4 : Int32} {a5 : Int32} {b : Nat} {fs : List Value} {v0 : Value} (hm : mt G M_Mo_put 0 mc ms (.ref b :: [.int a0, .int a1, .int a2, .int a3, .int a4, .int a5]) h P) (hb : h b = mO 7 fs) (hv0 : fs[0]? = some v0) (hR : 0 + 1 ≤ R.frames ∧ 8 + (7 + 11) + 39 * 0 ≤ R.locals) (hcs : cells + mc ≤ R.cells ∧ slots + ms ≤ R.slots) (hrest : (rest.map fun v => v.category).sum ≤ 8) (k : ∀ (r : Option Value) (h' : HP), P r h' → ev G M_Mo_seal R E 70 lv (r.toList ++ rest) h' (cells + mc) (slots + ms)) : ev G M_Mo_seal R E 67 lv (.int a5 :: .int a4 :: .int a3 :: .int a2 :: .int a1 :: .int a0 :: .ref b :: rest) h cells slots := ev_callV (as := [.int a0, .int a1, .int a2, .int a3, .int a4, .int a5]) (ci := 7) d_Mo_seal_67 hm hb hv0 rfl w_784 w_786 w_35 w_70 w_787 hy_Mo_put hR hcs hrest k
theorem d_Mo_seal_70 : decode prog_10_method_26_code 70 = .ok (.iconst 0, 1) := by decide +kernel
theorem s_Mo_seal_70  (k : ev G M_Mo_seal R E 71 lv (.int 0 :: rest) h cells slots) : ev G M_Mo_seal R E 70 lv rest h cells slots := ev_iconst d_Mo_seal_70 (by decide) k
theorem d_Mo_seal_71 : decode prog_10_method_26_code 71 = .ok (.ireturn, 1) := by decide +kernel
theorem s_Mo_seal_71 {P : Option Value → HP → Prop} {mc ms : Nat} {v : Int32} (hP : P (some (.int v)) h) (hc : cells ≤ mc ∧ slots ≤ ms) : ev G M_Mo_seal R (Er M_Mo_seal P mc ms) 71 lv [.int v] h cells slots := ev_exit ⟨hc.1, hc.2, Or.inr (Or.inl ⟨v, .int, rfl, rfl, d_Mo_seal_71, rfl, hP⟩)⟩
abbrev M_Mo_noteDown : MW := (⟨"UseOnceMachineModel", "noteDown", "(III)V"⟩, prog_10_method_27_code, 5, none)
theorem hy_Mo_noteDown : M_Mo_noteDown.1.cls ≠ "java/lang/invoke/MethodHandle" ∧ M_Mo_noteDown.1.cls ≠ "java/lang/invoke/VarHandle" ∧ (parseMethodDescriptor M_Mo_noteDown.1.desc).map (fun d => d.parameters.length) = some 3 := by decide +kernel
theorem d_Mo_noteDown_0 : decode prog_10_method_27_code 0 = .ok (.iconst 0, 1) := by decide +kernel
theorem s_Mo_noteDown_0  (k : ev G M_Mo_noteDown R E 1 lv (.int 0 :: rest) h cells slots) : ev G M_Mo_noteDown R E 0 lv rest h cells slots := ev_iconst d_Mo_noteDown_0 (by decide) k
theorem d_Mo_noteDown_1 : decode prog_10_method_27_code 1 = .ok (.istore 4, 2) := by decide +kernel
theorem s_Mo_noteDown_1 {x : Int32} (k : ev G M_Mo_noteDown R E 3 (ls1 lv 4 (.int x)) rest h cells slots) : ev G M_Mo_noteDown R E 1 lv (.int x :: rest) h cells slots := ev_istore d_Mo_noteDown_1 (by decide) k
theorem d_Mo_noteDown_3 : decode prog_10_method_27_code 3 = .ok (.iload 4, 2) := by decide +kernel
theorem s_Mo_noteDown_3 {x : Int32} (hl : lg lv 4 = some (.int x)) (k : ev G M_Mo_noteDown R E 5 lv (.int x :: rest) h cells slots) : ev G M_Mo_noteDown R E 3 lv rest h cells slots := ev_iload d_Mo_noteDown_3 hl k
theorem d_Mo_noteDown_5 : decode prog_10_method_27_code 5 = .ok (.iconst 5, 1) := by decide +kernel
theorem s_Mo_noteDown_5  (k : ev G M_Mo_noteDown R E 6 lv (.int 5 :: rest) h cells slots) : ev G M_Mo_noteDown R E 5 lv rest h cells slots := ev_iconst d_Mo_noteDown_5 (by decide) k
theorem d_Mo_noteDown_6 : decode prog_10_method_27_code 6 = .ok (.if_icmp .ge 32, 3) := by decide +kernel
theorem s_Mo_noteDown_6 {x y : Int32} (kt : y ≤ x → ev G M_Mo_noteDown R E 38 lv rest h cells slots) (kf : ¬ y ≤ x → ev G M_Mo_noteDown R E 9 lv rest h cells slots) : ev G M_Mo_noteDown R E 6 lv (.int y :: .int x :: rest) h cells slots := ev_icmp_ge d_Mo_noteDown_6 (by decide) kt kf
theorem d_Mo_noteDown_9 : decode prog_10_method_27_code 9 = .ok (.aload_n 0, 1) := by decide +kernel
theorem s_Mo_noteDown_9 {x : Nat} (hl : lg lv 0 = some (.ref x)) (k : ev G M_Mo_noteDown R E 10 lv (.ref x :: rest) h cells slots) : ev G M_Mo_noteDown R E 9 lv rest h cells slots := ev_aload_n d_Mo_noteDown_9 rfl hl k
theorem d_Mo_noteDown_10 : decode prog_10_method_27_code 10 = .ok (.getfield 40, 3) := by decide +kernel
theorem s_Mo_noteDown_10 {a : Nat} {fs : List Value} {v : Value} (hh : h a = mO 7 fs) (hv : fs[12]? = some v) (k : ev G M_Mo_noteDown R E 13 lv (v :: rest) h cells slots) : ev G M_Mo_noteDown R E 10 lv (.ref a :: rest) h cells slots := ev_getfield (ci := 7) (kf := 12) d_Mo_noteDown_10 rfl ck7 (by decide) w_716 hh hv k
theorem d_Mo_noteDown_13 : decode prog_10_method_27_code 13 = .ok (.bipush 35, 2) := by decide +kernel
theorem s_Mo_noteDown_13  (k : ev G M_Mo_noteDown R E 15 lv (.int 35 :: rest) h cells slots) : ev G M_Mo_noteDown R E 13 lv rest h cells slots := ev_bipush d_Mo_noteDown_13 (by decide) k
theorem d_Mo_noteDown_15 : decode prog_10_method_27_code 15 = .ok (.iload_n 1, 1) := by decide +kernel
theorem s_Mo_noteDown_15 {x : Int32} (hl : lg lv 1 = some (.int x)) (k : ev G M_Mo_noteDown R E 16 lv (.int x :: rest) h cells slots) : ev G M_Mo_noteDown R E 15 lv rest h cells slots := ev_iload_n d_Mo_noteDown_15 rfl hl k
theorem d_Mo_noteDown_16 : decode prog_10_method_27_code 16 = .ok (.imul, 1) := by decide +kernel
theorem s_Mo_noteDown_16 {x y : Int32} (k : ev G M_Mo_noteDown R E 17 lv (.int (x * y) :: rest) h cells slots) : ev G M_Mo_noteDown R E 16 lv (.int y :: .int x :: rest) h cells slots := ev_imul d_Mo_noteDown_16 k
theorem d_Mo_noteDown_17 : decode prog_10_method_27_code 17 = .ok (.iconst 5, 1) := by decide +kernel
theorem s_Mo_noteDown_17  (k : ev G M_Mo_noteDown R E 18 lv (.int 5 :: rest) h cells slots) : ev G M_Mo_noteDown R E 17 lv rest h cells slots := ev_iconst d_Mo_noteDown_17 (by decide) k
theorem d_Mo_noteDown_18 : decode prog_10_method_27_code 18 = .ok (.iload_n 2, 1) := by decide +kernel
theorem s_Mo_noteDown_18 {x : Int32} (hl : lg lv 2 = some (.int x)) (k : ev G M_Mo_noteDown R E 19 lv (.int x :: rest) h cells slots) : ev G M_Mo_noteDown R E 18 lv rest h cells slots := ev_iload_n d_Mo_noteDown_18 rfl hl k
theorem d_Mo_noteDown_19 : decode prog_10_method_27_code 19 = .ok (.imul, 1) := by decide +kernel
theorem s_Mo_noteDown_19 {x y : Int32} (k : ev G M_Mo_noteDown R E 20 lv (.int (x * y) :: rest) h cells slots) : ev G M_Mo_noteDown R E 19 lv (.int y :: .int x :: rest) h cells slots := ev_imul d_Mo_noteDown_19 k
theorem d_Mo_noteDown_20 : decode prog_10_method_27_code 20 = .ok (.iadd, 1) := by decide +kernel
theorem s_Mo_noteDown_20 {x y : Int32} (k : ev G M_Mo_noteDown R E 21 lv (.int (x + y) :: rest) h cells slots) : ev G M_Mo_noteDown R E 20 lv (.int y :: .int x :: rest) h cells slots := ev_iadd d_Mo_noteDown_20 k
theorem d_Mo_noteDown_21 : decode prog_10_method_27_code 21 = .ok (.iload 4, 2) := by decide +kernel
theorem s_Mo_noteDown_21 {x : Int32} (hl : lg lv 4 = some (.int x)) (k : ev G M_Mo_noteDown R E 23 lv (.int x :: rest) h cells slots) : ev G M_Mo_noteDown R E 21 lv rest h cells slots := ev_iload d_Mo_noteDown_21 hl k
theorem d_Mo_noteDown_23 : decode prog_10_method_27_code 23 = .ok (.iadd, 1) := by decide +kernel
theorem s_Mo_noteDown_23 {x y : Int32} (k : ev G M_Mo_noteDown R E 24 lv (.int (x + y) :: rest) h cells slots) : ev G M_Mo_noteDown R E 23 lv (.int y :: .int x :: rest) h cells slots := ev_iadd d_Mo_noteDown_23 k
theorem d_Mo_noteDown_24 : decode prog_10_method_27_code 24 = .ok (.aload_n 0, 1) := by decide +kernel
theorem s_Mo_noteDown_24 {x : Nat} (hl : lg lv 0 = some (.ref x)) (k : ev G M_Mo_noteDown R E 25 lv (.ref x :: rest) h cells slots) : ev G M_Mo_noteDown R E 24 lv rest h cells slots := ev_aload_n d_Mo_noteDown_24 rfl hl k
theorem d_Mo_noteDown_25 : decode prog_10_method_27_code 25 = .ok (.iload_n 3, 1) := by decide +kernel
theorem s_Mo_noteDown_25 {x : Int32} (hl : lg lv 3 = some (.int x)) (k : ev G M_Mo_noteDown R E 26 lv (.int x :: rest) h cells slots) : ev G M_Mo_noteDown R E 25 lv rest h cells slots := ev_iload_n d_Mo_noteDown_25 rfl hl k
theorem d_Mo_noteDown_26 : decode prog_10_method_27_code 26 = .ok (.iload 4, 2) := by decide +kernel
theorem s_Mo_noteDown_26 {x : Int32} (hl : lg lv 4 = some (.int x)) (k : ev G M_Mo_noteDown R E 28 lv (.int x :: rest) h cells slots) : ev G M_Mo_noteDown R E 26 lv rest h cells slots := ev_iload d_Mo_noteDown_26 hl k
theorem d_Mo_noteDown_28 : decode prog_10_method_27_code 28 = .ok (.invokevirtual 66, 3) := by decide +kernel
theorem s_Mo_noteDown_28 {mc ms : Nat} {P : Option Value → HP → Prop} {a0 : Int32} {a1 : Int32} {b : Nat} {fs : List Value} {v0 : Value} (hm : mt G M_Mo_get 0 mc ms (.ref b :: [.int a0, .int a1]) h P) (hb : h b = mO 7 fs) (hv0 : fs[0]? = some v0) (hR : 0 + 1 ≤ R.frames ∧ 8 + (3 + 11) + 39 * 0 ≤ R.locals) (hcs : cells + mc ≤ R.cells ∧ slots + ms ≤ R.slots) (hrest : (rest.map fun v => v.category).sum ≤ 8) (k : ∀ (r : Option Value) (h' : HP), P r h' → ev G M_Mo_noteDown R E 31 lv (r.toList ++ rest) h' (cells + mc) (slots + ms)) : ev G M_Mo_noteDown R E 28 lv (.int a1 :: .int a0 :: .ref b :: rest) h cells slots := ev_callV (as := [.int a0, .int a1]) (ci := 7) d_Mo_noteDown_28 hm hb hv0 rfl w_816 w_818 w_42 w_70 w_819 hy_Mo_get hR hcs hrest k
theorem d_Mo_noteDown_31 : decode prog_10_method_27_code 31 = .ok (.iastore, 1) := by decide +kernel
theorem s_Mo_noteDown_31 {a n : Nat} {f : Nat → Int32} {i : Int32} {x : Int32} (hh : h a = mI 0 n f) (hin : vp_in i n) (k : ev G M_Mo_noteDown R E 32 lv rest (va_up h a (mI 0 n (upd f i.toNatClampNeg x))) cells slots) : ev G M_Mo_noteDown R E 31 lv (.int x :: .int i :: .ref a :: rest) h cells slots := ev_iastore d_Mo_noteDown_31 rfl hh hin k
theorem d_Mo_noteDown_32 : decode prog_10_method_27_code 32 = .ok (.iinc 4 1, 3) := by decide +kernel
theorem s_Mo_noteDown_32 {x : Int32} (hl : lg lv 4 = some (.int x)) (k : ev G M_Mo_noteDown R E 35 (ls1 lv 4 (.int (x + 1))) rest h cells slots) : ev G M_Mo_noteDown R E 32 lv rest h cells slots := ev_iinc d_Mo_noteDown_32 (by decide) hl (by decide) k
theorem d_Mo_noteDown_35 : decode prog_10_method_27_code 35 = .ok (.goto (-32), 3) := by decide +kernel
theorem s_Mo_noteDown_35  (k : ev G M_Mo_noteDown R E 3 lv rest h cells slots) : ev G M_Mo_noteDown R E 35 lv rest h cells slots := ev_goto d_Mo_noteDown_35 (by decide) k
theorem d_Mo_noteDown_38 : decode prog_10_method_27_code 38 = .ok (.return_, 1) := by decide +kernel
theorem s_Mo_noteDown_38 {P : Option Value → HP → Prop} {mc ms : Nat} (hP : P none h) (hc : cells ≤ mc ∧ slots ≤ ms) : ev G M_Mo_noteDown R (Er M_Mo_noteDown P mc ms) 38 lv [] h cells slots := ev_exit ⟨hc.1, hc.2, Or.inl ⟨rfl, d_Mo_noteDown_38, rfl, hP⟩⟩
abbrev M_Mo_call : MW := (⟨"UseOnceMachineModel", "call", "(II)I"⟩, prog_10_method_29_code, 6, (some .int))
theorem hy_Mo_call : M_Mo_call.1.cls ≠ "java/lang/invoke/MethodHandle" ∧ M_Mo_call.1.cls ≠ "java/lang/invoke/VarHandle" ∧ (parseMethodDescriptor M_Mo_call.1.desc).map (fun d => d.parameters.length) = some 2 := by decide +kernel
theorem d_Mo_call_0 : decode prog_10_method_29_code 0 = .ok (.aload_n 0, 1) := by decide +kernel
theorem s_Mo_call_0 {x : Nat} (hl : lg lv 0 = some (.ref x)) (k : ev G M_Mo_call R E 1 lv (.ref x :: rest) h cells slots) : ev G M_Mo_call R E 0 lv rest h cells slots := ev_aload_n d_Mo_call_0 rfl hl k
theorem d_Mo_call_1 : decode prog_10_method_29_code 1 = .ok (.iload_n 1, 1) := by decide +kernel
theorem s_Mo_call_1 {x : Int32} (hl : lg lv 1 = some (.int x)) (k : ev G M_Mo_call R E 2 lv (.int x :: rest) h cells slots) : ev G M_Mo_call R E 1 lv rest h cells slots := ev_iload_n d_Mo_call_1 rfl hl k
theorem d_Mo_call_2 : decode prog_10_method_29_code 2 = .ok (.invokevirtual 62, 3) := by decide +kernel
theorem s_Mo_call_2 {mc ms : Nat} {P : Option Value → HP → Prop} {a0 : Int32} {b : Nat} {fs : List Value} {v0 : Value} (hm : mt G M_Mo_what 0 mc ms (.ref b :: [.int a0]) h P) (hb : h b = mO 7 fs) (hv0 : fs[0]? = some v0) (hR : 0 + 1 ≤ R.frames ∧ 8 + (2 + 11) + 39 * 0 ≤ R.locals) (hcs : cells + mc ≤ R.cells ∧ slots + ms ≤ R.slots) (hrest : (rest.map fun v => v.category).sum ≤ 8) (k : ∀ (r : Option Value) (h' : HP), P r h' → ev G M_Mo_call R E 5 lv (r.toList ++ rest) h' (cells + mc) (slots + ms)) : ev G M_Mo_call R E 2 lv (.int a0 :: .ref b :: rest) h cells slots := ev_callV (as := [.int a0]) (ci := 7) d_Mo_call_2 hm hb hv0 rfl w_804 w_806 w_39 w_70 w_807 hy_Mo_what hR hcs hrest k
theorem d_Mo_call_5 : decode prog_10_method_29_code 5 = .ok (.iconst 3, 1) := by decide +kernel
theorem s_Mo_call_5  (k : ev G M_Mo_call R E 6 lv (.int 3 :: rest) h cells slots) : ev G M_Mo_call R E 5 lv rest h cells slots := ev_iconst d_Mo_call_5 (by decide) k
theorem d_Mo_call_6 : decode prog_10_method_29_code 6 = .ok (.if_icmp .eq 5, 3) := by decide +kernel
theorem s_Mo_call_6 {x y : Int32} (kt : x = y → ev G M_Mo_call R E 11 lv rest h cells slots) (kf : ¬ x = y → ev G M_Mo_call R E 9 lv rest h cells slots) : ev G M_Mo_call R E 6 lv (.int y :: .int x :: rest) h cells slots := ev_icmp_eq d_Mo_call_6 (by decide) kt kf
theorem d_Mo_call_9 : decode prog_10_method_29_code 9 = .ok (.iconst 1, 1) := by decide +kernel
theorem s_Mo_call_9  (k : ev G M_Mo_call R E 10 lv (.int 1 :: rest) h cells slots) : ev G M_Mo_call R E 9 lv rest h cells slots := ev_iconst d_Mo_call_9 (by decide) k
theorem d_Mo_call_10 : decode prog_10_method_29_code 10 = .ok (.ireturn, 1) := by decide +kernel
theorem s_Mo_call_10 {P : Option Value → HP → Prop} {mc ms : Nat} {v : Int32} (hP : P (some (.int v)) h) (hc : cells ≤ mc ∧ slots ≤ ms) : ev G M_Mo_call R (Er M_Mo_call P mc ms) 10 lv [.int v] h cells slots := ev_exit ⟨hc.1, hc.2, Or.inr (Or.inl ⟨v, .int, rfl, rfl, d_Mo_call_10, rfl, hP⟩)⟩
theorem d_Mo_call_11 : decode prog_10_method_29_code 11 = .ok (.aload_n 0, 1) := by decide +kernel
theorem s_Mo_call_11 {x : Nat} (hl : lg lv 0 = some (.ref x)) (k : ev G M_Mo_call R E 12 lv (.ref x :: rest) h cells slots) : ev G M_Mo_call R E 11 lv rest h cells slots := ev_aload_n d_Mo_call_11 rfl hl k
theorem d_Mo_call_12 : decode prog_10_method_29_code 12 = .ok (.iconst 0, 1) := by decide +kernel
theorem s_Mo_call_12  (k : ev G M_Mo_call R E 13 lv (.int 0 :: rest) h cells slots) : ev G M_Mo_call R E 12 lv rest h cells slots := ev_iconst d_Mo_call_12 (by decide) k
theorem d_Mo_call_13 : decode prog_10_method_29_code 13 = .ok (.invokevirtual 130, 3) := by decide +kernel
theorem s_Mo_call_13 {mc ms : Nat} {P : Option Value → HP → Prop} {a0 : Int32} {b : Nat} {fs : List Value} {v0 : Value} (hm : mt G M_Mo_isNumber 1 mc ms (.ref b :: [.int a0]) h P) (hb : h b = mO 7 fs) (hv0 : fs[0]? = some v0) (hR : 1 + 1 ≤ R.frames ∧ 8 + (2 + 11) + 39 * 1 ≤ R.locals) (hcs : cells + mc ≤ R.cells ∧ slots + ms ≤ R.slots) (hrest : (rest.map fun v => v.category).sum ≤ 8) (k : ∀ (r : Option Value) (h' : HP), P r h' → ev G M_Mo_call R E 16 lv (r.toList ++ rest) h' (cells + mc) (slots + ms)) : ev G M_Mo_call R E 13 lv (.int a0 :: .ref b :: rest) h cells slots := ev_callV (as := [.int a0]) (ci := 7) d_Mo_call_13 hm hb hv0 rfl w_800 w_802 w_38 w_70 w_803 hy_Mo_isNumber hR hcs hrest k
theorem d_Mo_call_16 : decode prog_10_method_29_code 16 = .ok (.ifCond .ne 5, 3) := by decide +kernel
theorem s_Mo_call_16 {x : Int32} (kt : ¬ x = 0 → ev G M_Mo_call R E 21 lv rest h cells slots) (kf : x = 0 → ev G M_Mo_call R E 19 lv rest h cells slots) : ev G M_Mo_call R E 16 lv (.int x :: rest) h cells slots := ev_if_ne d_Mo_call_16 (by decide) kt kf
theorem d_Mo_call_19 : decode prog_10_method_29_code 19 = .ok (.iconst 3, 1) := by decide +kernel
theorem s_Mo_call_19  (k : ev G M_Mo_call R E 20 lv (.int 3 :: rest) h cells slots) : ev G M_Mo_call R E 19 lv rest h cells slots := ev_iconst d_Mo_call_19 (by decide) k
theorem d_Mo_call_20 : decode prog_10_method_29_code 20 = .ok (.ireturn, 1) := by decide +kernel
theorem s_Mo_call_20 {P : Option Value → HP → Prop} {mc ms : Nat} {v : Int32} (hP : P (some (.int v)) h) (hc : cells ≤ mc ∧ slots ≤ ms) : ev G M_Mo_call R (Er M_Mo_call P mc ms) 20 lv [.int v] h cells slots := ev_exit ⟨hc.1, hc.2, Or.inr (Or.inl ⟨v, .int, rfl, rfl, d_Mo_call_20, rfl, hP⟩)⟩
theorem d_Mo_call_21 : decode prog_10_method_29_code 21 = .ok (.aload_n 0, 1) := by decide +kernel
theorem s_Mo_call_21 {x : Nat} (hl : lg lv 0 = some (.ref x)) (k : ev G M_Mo_call R E 22 lv (.ref x :: rest) h cells slots) : ev G M_Mo_call R E 21 lv rest h cells slots := ev_aload_n d_Mo_call_21 rfl hl k
theorem d_Mo_call_22 : decode prog_10_method_29_code 22 = .ok (.iload_n 1, 1) := by decide +kernel
theorem s_Mo_call_22 {x : Int32} (hl : lg lv 1 = some (.int x)) (k : ev G M_Mo_call R E 23 lv (.int x :: rest) h cells slots) : ev G M_Mo_call R E 22 lv rest h cells slots := ev_iload_n d_Mo_call_22 rfl hl k
theorem d_Mo_call_23 : decode prog_10_method_29_code 23 = .ok (.iconst 4, 1) := by decide +kernel
theorem s_Mo_call_23  (k : ev G M_Mo_call R E 24 lv (.int 4 :: rest) h cells slots) : ev G M_Mo_call R E 23 lv rest h cells slots := ev_iconst d_Mo_call_23 (by decide) k
theorem d_Mo_call_24 : decode prog_10_method_29_code 24 = .ok (.invokevirtual 66, 3) := by decide +kernel
theorem s_Mo_call_24 {mc ms : Nat} {P : Option Value → HP → Prop} {a0 : Int32} {a1 : Int32} {b : Nat} {fs : List Value} {v0 : Value} (hm : mt G M_Mo_get 0 mc ms (.ref b :: [.int a0, .int a1]) h P) (hb : h b = mO 7 fs) (hv0 : fs[0]? = some v0) (hR : 0 + 1 ≤ R.frames ∧ 8 + (3 + 11) + 39 * 0 ≤ R.locals) (hcs : cells + mc ≤ R.cells ∧ slots + ms ≤ R.slots) (hrest : (rest.map fun v => v.category).sum ≤ 8) (k : ∀ (r : Option Value) (h' : HP), P r h' → ev G M_Mo_call R E 27 lv (r.toList ++ rest) h' (cells + mc) (slots + ms)) : ev G M_Mo_call R E 24 lv (.int a1 :: .int a0 :: .ref b :: rest) h cells slots := ev_callV (as := [.int a0, .int a1]) (ci := 7) d_Mo_call_24 hm hb hv0 rfl w_816 w_818 w_42 w_70 w_819 hy_Mo_get hR hcs hrest k
theorem d_Mo_call_27 : decode prog_10_method_29_code 27 = .ok (.istore_n 3, 1) := by decide +kernel
theorem s_Mo_call_27 {x : Int32} (k : ev G M_Mo_call R E 28 (ls1 lv 3 (.int x)) rest h cells slots) : ev G M_Mo_call R E 27 lv (.int x :: rest) h cells slots := ev_istore_n d_Mo_call_27 rfl (by decide) k
theorem d_Mo_call_28 : decode prog_10_method_29_code 28 = .ok (.aload_n 0, 1) := by decide +kernel
theorem s_Mo_call_28 {x : Nat} (hl : lg lv 0 = some (.ref x)) (k : ev G M_Mo_call R E 29 lv (.ref x :: rest) h cells slots) : ev G M_Mo_call R E 28 lv rest h cells slots := ev_aload_n d_Mo_call_28 rfl hl k
theorem d_Mo_call_29 : decode prog_10_method_29_code 29 = .ok (.getfield 28, 3) := by decide +kernel
theorem s_Mo_call_29 {a : Nat} {fs : List Value} {v : Value} (hh : h a = mO 7 fs) (hv : fs[7]? = some v) (k : ev G M_Mo_call R E 32 lv (v :: rest) h cells slots) : ev G M_Mo_call R E 29 lv (.ref a :: rest) h cells slots := ev_getfield (ci := 7) (kf := 7) d_Mo_call_29 rfl ck7 (by decide) w_711 hh hv k
theorem d_Mo_call_32 : decode prog_10_method_29_code 32 = .ok (.iload_n 3, 1) := by decide +kernel
theorem s_Mo_call_32 {x : Int32} (hl : lg lv 3 = some (.int x)) (k : ev G M_Mo_call R E 33 lv (.int x :: rest) h cells slots) : ev G M_Mo_call R E 32 lv rest h cells slots := ev_iload_n d_Mo_call_32 rfl hl k
theorem d_Mo_call_33 : decode prog_10_method_29_code 33 = .ok (.iaload, 1) := by decide +kernel
theorem s_Mo_call_33 {a n : Nat} {f : Nat → Int32} {i : Int32} (hh : h a = mI 0 n f) (hin : vp_in i n) (k : ev G M_Mo_call R E 34 lv (.int (f i.toNatClampNeg) :: rest) h cells slots) : ev G M_Mo_call R E 33 lv (.int i :: .ref a :: rest) h cells slots := ev_iaload d_Mo_call_33 rfl hh hin k
theorem d_Mo_call_34 : decode prog_10_method_29_code 34 = .ok (.iconst 2, 1) := by decide +kernel
theorem s_Mo_call_34  (k : ev G M_Mo_call R E 35 lv (.int 2 :: rest) h cells slots) : ev G M_Mo_call R E 34 lv rest h cells slots := ev_iconst d_Mo_call_34 (by decide) k
theorem d_Mo_call_35 : decode prog_10_method_29_code 35 = .ok (.if_icmp .eq 11, 3) := by decide +kernel
theorem s_Mo_call_35 {x y : Int32} (kt : x = y → ev G M_Mo_call R E 46 lv rest h cells slots) (kf : ¬ x = y → ev G M_Mo_call R E 38 lv rest h cells slots) : ev G M_Mo_call R E 35 lv (.int y :: .int x :: rest) h cells slots := ev_icmp_eq d_Mo_call_35 (by decide) kt kf
theorem d_Mo_call_38 : decode prog_10_method_29_code 38 = .ok (.aload_n 0, 1) := by decide +kernel
theorem s_Mo_call_38 {x : Nat} (hl : lg lv 0 = some (.ref x)) (k : ev G M_Mo_call R E 39 lv (.ref x :: rest) h cells slots) : ev G M_Mo_call R E 38 lv rest h cells slots := ev_aload_n d_Mo_call_38 rfl hl k
theorem d_Mo_call_39 : decode prog_10_method_29_code 39 = .ok (.getfield 78, 3) := by decide +kernel
theorem s_Mo_call_39 {a : Nat} {fs : List Value} {v : Value} (hh : h a = mO 7 fs) (hv : fs[10]? = some v) (k : ev G M_Mo_call R E 42 lv (v :: rest) h cells slots) : ev G M_Mo_call R E 39 lv (.ref a :: rest) h cells slots := ev_getfield (ci := 7) (kf := 10) d_Mo_call_39 rfl ck7 (by decide) w_714 hh hv k
theorem d_Mo_call_42 : decode prog_10_method_29_code 42 = .ok (.iconst 5, 1) := by decide +kernel
theorem s_Mo_call_42  (k : ev G M_Mo_call R E 43 lv (.int 5 :: rest) h cells slots) : ev G M_Mo_call R E 42 lv rest h cells slots := ev_iconst d_Mo_call_42 (by decide) k
theorem d_Mo_call_43 : decode prog_10_method_29_code 43 = .ok (.if_icmp .ne 6, 3) := by decide +kernel
theorem s_Mo_call_43 {x y : Int32} (kt : ¬ x = y → ev G M_Mo_call R E 49 lv rest h cells slots) (kf : x = y → ev G M_Mo_call R E 46 lv rest h cells slots) : ev G M_Mo_call R E 43 lv (.int y :: .int x :: rest) h cells slots := ev_icmp_ne d_Mo_call_43 (by decide) kt kf
theorem d_Mo_call_46 : decode prog_10_method_29_code 46 = .ok (.bipush 7, 2) := by decide +kernel
theorem s_Mo_call_46  (k : ev G M_Mo_call R E 48 lv (.int 7 :: rest) h cells slots) : ev G M_Mo_call R E 46 lv rest h cells slots := ev_bipush d_Mo_call_46 (by decide) k
theorem d_Mo_call_48 : decode prog_10_method_29_code 48 = .ok (.ireturn, 1) := by decide +kernel
theorem s_Mo_call_48 {P : Option Value → HP → Prop} {mc ms : Nat} {v : Int32} (hP : P (some (.int v)) h) (hc : cells ≤ mc ∧ slots ≤ ms) : ev G M_Mo_call R (Er M_Mo_call P mc ms) 48 lv [.int v] h cells slots := ev_exit ⟨hc.1, hc.2, Or.inr (Or.inl ⟨v, .int, rfl, rfl, d_Mo_call_48, rfl, hP⟩)⟩
theorem d_Mo_call_49 : decode prog_10_method_29_code 49 = .ok (.aload_n 0, 1) := by decide +kernel
theorem s_Mo_call_49 {x : Nat} (hl : lg lv 0 = some (.ref x)) (k : ev G M_Mo_call R E 50 lv (.ref x :: rest) h cells slots) : ev G M_Mo_call R E 49 lv rest h cells slots := ev_aload_n d_Mo_call_49 rfl hl k
theorem d_Mo_call_50 : decode prog_10_method_29_code 50 = .ok (.getfield 78, 3) := by decide +kernel
theorem s_Mo_call_50 {a : Nat} {fs : List Value} {v : Value} (hh : h a = mO 7 fs) (hv : fs[10]? = some v) (k : ev G M_Mo_call R E 53 lv (v :: rest) h cells slots) : ev G M_Mo_call R E 50 lv (.ref a :: rest) h cells slots := ev_getfield (ci := 7) (kf := 10) d_Mo_call_50 rfl ck7 (by decide) w_714 hh hv k
theorem d_Mo_call_53 : decode prog_10_method_29_code 53 = .ok (.istore 4, 2) := by decide +kernel
theorem s_Mo_call_53 {x : Int32} (k : ev G M_Mo_call R E 55 (ls1 lv 4 (.int x)) rest h cells slots) : ev G M_Mo_call R E 53 lv (.int x :: rest) h cells slots := ev_istore d_Mo_call_53 (by decide) k
theorem d_Mo_call_55 : decode prog_10_method_29_code 55 = .ok (.aload_n 0, 1) := by decide +kernel
theorem s_Mo_call_55 {x : Nat} (hl : lg lv 0 = some (.ref x)) (k : ev G M_Mo_call R E 56 lv (.ref x :: rest) h cells slots) : ev G M_Mo_call R E 55 lv rest h cells slots := ev_aload_n d_Mo_call_55 rfl hl k
theorem d_Mo_call_56 : decode prog_10_method_29_code 56 = .ok (.getfield 37, 3) := by decide +kernel
theorem s_Mo_call_56 {a : Nat} {fs : List Value} {v : Value} (hh : h a = mO 7 fs) (hv : fs[11]? = some v) (k : ev G M_Mo_call R E 59 lv (v :: rest) h cells slots) : ev G M_Mo_call R E 56 lv (.ref a :: rest) h cells slots := ev_getfield (ci := 7) (kf := 11) d_Mo_call_56 rfl ck7 (by decide) w_715 hh hv k
theorem d_Mo_call_59 : decode prog_10_method_29_code 59 = .ok (.iconst 4, 1) := by decide +kernel
theorem s_Mo_call_59  (k : ev G M_Mo_call R E 60 lv (.int 4 :: rest) h cells slots) : ev G M_Mo_call R E 59 lv rest h cells slots := ev_iconst d_Mo_call_59 (by decide) k
theorem d_Mo_call_60 : decode prog_10_method_29_code 60 = .ok (.iload 4, 2) := by decide +kernel
theorem s_Mo_call_60 {x : Int32} (hl : lg lv 4 = some (.int x)) (k : ev G M_Mo_call R E 62 lv (.int x :: rest) h cells slots) : ev G M_Mo_call R E 60 lv rest h cells slots := ev_iload d_Mo_call_60 hl k
theorem d_Mo_call_62 : decode prog_10_method_29_code 62 = .ok (.imul, 1) := by decide +kernel
theorem s_Mo_call_62 {x y : Int32} (k : ev G M_Mo_call R E 63 lv (.int (x * y) :: rest) h cells slots) : ev G M_Mo_call R E 62 lv (.int y :: .int x :: rest) h cells slots := ev_imul d_Mo_call_62 k
theorem d_Mo_call_63 : decode prog_10_method_29_code 63 = .ok (.aload_n 0, 1) := by decide +kernel
theorem s_Mo_call_63 {x : Nat} (hl : lg lv 0 = some (.ref x)) (k : ev G M_Mo_call R E 64 lv (.ref x :: rest) h cells slots) : ev G M_Mo_call R E 63 lv rest h cells slots := ev_aload_n d_Mo_call_63 rfl hl k
theorem d_Mo_call_64 : decode prog_10_method_29_code 64 = .ok (.getfield 85, 3) := by decide +kernel
theorem s_Mo_call_64 {a : Nat} {fs : List Value} {v : Value} (hh : h a = mO 7 fs) (hv : fs[14]? = some v) (k : ev G M_Mo_call R E 67 lv (v :: rest) h cells slots) : ev G M_Mo_call R E 64 lv (.ref a :: rest) h cells slots := ev_getfield (ci := 7) (kf := 14) d_Mo_call_64 rfl ck7 (by decide) w_718 hh hv k
theorem d_Mo_call_67 : decode prog_10_method_29_code 67 = .ok (.iconst 1, 1) := by decide +kernel
theorem s_Mo_call_67  (k : ev G M_Mo_call R E 68 lv (.int 1 :: rest) h cells slots) : ev G M_Mo_call R E 67 lv rest h cells slots := ev_iconst d_Mo_call_67 (by decide) k
theorem d_Mo_call_68 : decode prog_10_method_29_code 68 = .ok (.iadd, 1) := by decide +kernel
theorem s_Mo_call_68 {x y : Int32} (k : ev G M_Mo_call R E 69 lv (.int (x + y) :: rest) h cells slots) : ev G M_Mo_call R E 68 lv (.int y :: .int x :: rest) h cells slots := ev_iadd d_Mo_call_68 k
theorem d_Mo_call_69 : decode prog_10_method_29_code 69 = .ok (.iastore, 1) := by decide +kernel
theorem s_Mo_call_69 {a n : Nat} {f : Nat → Int32} {i : Int32} {x : Int32} (hh : h a = mI 0 n f) (hin : vp_in i n) (k : ev G M_Mo_call R E 70 lv rest (va_up h a (mI 0 n (upd f i.toNatClampNeg x))) cells slots) : ev G M_Mo_call R E 69 lv (.int x :: .int i :: .ref a :: rest) h cells slots := ev_iastore d_Mo_call_69 rfl hh hin k
theorem d_Mo_call_70 : decode prog_10_method_29_code 70 = .ok (.aload_n 0, 1) := by decide +kernel
theorem s_Mo_call_70 {x : Nat} (hl : lg lv 0 = some (.ref x)) (k : ev G M_Mo_call R E 71 lv (.ref x :: rest) h cells slots) : ev G M_Mo_call R E 70 lv rest h cells slots := ev_aload_n d_Mo_call_70 rfl hl k
theorem d_Mo_call_71 : decode prog_10_method_29_code 71 = .ok (.getfield 37, 3) := by decide +kernel
theorem s_Mo_call_71 {a : Nat} {fs : List Value} {v : Value} (hh : h a = mO 7 fs) (hv : fs[11]? = some v) (k : ev G M_Mo_call R E 74 lv (v :: rest) h cells slots) : ev G M_Mo_call R E 71 lv (.ref a :: rest) h cells slots := ev_getfield (ci := 7) (kf := 11) d_Mo_call_71 rfl ck7 (by decide) w_715 hh hv k
theorem d_Mo_call_74 : decode prog_10_method_29_code 74 = .ok (.iconst 4, 1) := by decide +kernel
theorem s_Mo_call_74  (k : ev G M_Mo_call R E 75 lv (.int 4 :: rest) h cells slots) : ev G M_Mo_call R E 74 lv rest h cells slots := ev_iconst d_Mo_call_74 (by decide) k
theorem d_Mo_call_75 : decode prog_10_method_29_code 75 = .ok (.iload 4, 2) := by decide +kernel
theorem s_Mo_call_75 {x : Int32} (hl : lg lv 4 = some (.int x)) (k : ev G M_Mo_call R E 77 lv (.int x :: rest) h cells slots) : ev G M_Mo_call R E 75 lv rest h cells slots := ev_iload d_Mo_call_75 hl k
theorem d_Mo_call_77 : decode prog_10_method_29_code 77 = .ok (.imul, 1) := by decide +kernel
theorem s_Mo_call_77 {x y : Int32} (k : ev G M_Mo_call R E 78 lv (.int (x * y) :: rest) h cells slots) : ev G M_Mo_call R E 77 lv (.int y :: .int x :: rest) h cells slots := ev_imul d_Mo_call_77 k
theorem d_Mo_call_78 : decode prog_10_method_29_code 78 = .ok (.iconst 1, 1) := by decide +kernel
theorem s_Mo_call_78  (k : ev G M_Mo_call R E 79 lv (.int 1 :: rest) h cells slots) : ev G M_Mo_call R E 78 lv rest h cells slots := ev_iconst d_Mo_call_78 (by decide) k
theorem d_Mo_call_79 : decode prog_10_method_29_code 79 = .ok (.iadd, 1) := by decide +kernel
theorem s_Mo_call_79 {x y : Int32} (k : ev G M_Mo_call R E 80 lv (.int (x + y) :: rest) h cells slots) : ev G M_Mo_call R E 79 lv (.int y :: .int x :: rest) h cells slots := ev_iadd d_Mo_call_79 k
theorem d_Mo_call_80 : decode prog_10_method_29_code 80 = .ok (.aload_n 0, 1) := by decide +kernel
theorem s_Mo_call_80 {x : Nat} (hl : lg lv 0 = some (.ref x)) (k : ev G M_Mo_call R E 81 lv (.ref x :: rest) h cells slots) : ev G M_Mo_call R E 80 lv rest h cells slots := ev_aload_n d_Mo_call_80 rfl hl k
theorem d_Mo_call_81 : decode prog_10_method_29_code 81 = .ok (.getfield 82, 3) := by decide +kernel
theorem s_Mo_call_81 {a : Nat} {fs : List Value} {v : Value} (hh : h a = mO 7 fs) (hv : fs[13]? = some v) (k : ev G M_Mo_call R E 84 lv (v :: rest) h cells slots) : ev G M_Mo_call R E 81 lv (.ref a :: rest) h cells slots := ev_getfield (ci := 7) (kf := 13) d_Mo_call_81 rfl ck7 (by decide) w_717 hh hv k
theorem d_Mo_call_84 : decode prog_10_method_29_code 84 = .ok (.iastore, 1) := by decide +kernel
theorem s_Mo_call_84 {a n : Nat} {f : Nat → Int32} {i : Int32} {x : Int32} (hh : h a = mI 0 n f) (hin : vp_in i n) (k : ev G M_Mo_call R E 85 lv rest (va_up h a (mI 0 n (upd f i.toNatClampNeg x))) cells slots) : ev G M_Mo_call R E 84 lv (.int x :: .int i :: .ref a :: rest) h cells slots := ev_iastore d_Mo_call_84 rfl hh hin k
theorem d_Mo_call_85 : decode prog_10_method_29_code 85 = .ok (.aload_n 0, 1) := by decide +kernel
theorem s_Mo_call_85 {x : Nat} (hl : lg lv 0 = some (.ref x)) (k : ev G M_Mo_call R E 86 lv (.ref x :: rest) h cells slots) : ev G M_Mo_call R E 85 lv rest h cells slots := ev_aload_n d_Mo_call_85 rfl hl k
theorem d_Mo_call_86 : decode prog_10_method_29_code 86 = .ok (.getfield 37, 3) := by decide +kernel
theorem s_Mo_call_86 {a : Nat} {fs : List Value} {v : Value} (hh : h a = mO 7 fs) (hv : fs[11]? = some v) (k : ev G M_Mo_call R E 89 lv (v :: rest) h cells slots) : ev G M_Mo_call R E 86 lv (.ref a :: rest) h cells slots := ev_getfield (ci := 7) (kf := 11) d_Mo_call_86 rfl ck7 (by decide) w_715 hh hv k
theorem d_Mo_call_89 : decode prog_10_method_29_code 89 = .ok (.iconst 4, 1) := by decide +kernel
theorem s_Mo_call_89  (k : ev G M_Mo_call R E 90 lv (.int 4 :: rest) h cells slots) : ev G M_Mo_call R E 89 lv rest h cells slots := ev_iconst d_Mo_call_89 (by decide) k
theorem d_Mo_call_90 : decode prog_10_method_29_code 90 = .ok (.iload 4, 2) := by decide +kernel
theorem s_Mo_call_90 {x : Int32} (hl : lg lv 4 = some (.int x)) (k : ev G M_Mo_call R E 92 lv (.int x :: rest) h cells slots) : ev G M_Mo_call R E 90 lv rest h cells slots := ev_iload d_Mo_call_90 hl k
theorem d_Mo_call_92 : decode prog_10_method_29_code 92 = .ok (.imul, 1) := by decide +kernel
theorem s_Mo_call_92 {x y : Int32} (k : ev G M_Mo_call R E 93 lv (.int (x * y) :: rest) h cells slots) : ev G M_Mo_call R E 92 lv (.int y :: .int x :: rest) h cells slots := ev_imul d_Mo_call_92 k
theorem d_Mo_call_93 : decode prog_10_method_29_code 93 = .ok (.iconst 2, 1) := by decide +kernel
theorem s_Mo_call_93  (k : ev G M_Mo_call R E 94 lv (.int 2 :: rest) h cells slots) : ev G M_Mo_call R E 93 lv rest h cells slots := ev_iconst d_Mo_call_93 (by decide) k
theorem d_Mo_call_94 : decode prog_10_method_29_code 94 = .ok (.iadd, 1) := by decide +kernel
theorem s_Mo_call_94 {x y : Int32} (k : ev G M_Mo_call R E 95 lv (.int (x + y) :: rest) h cells slots) : ev G M_Mo_call R E 94 lv (.int y :: .int x :: rest) h cells slots := ev_iadd d_Mo_call_94 k
theorem d_Mo_call_95 : decode prog_10_method_29_code 95 = .ok (.iload_n 3, 1) := by decide +kernel
theorem s_Mo_call_95 {x : Int32} (hl : lg lv 3 = some (.int x)) (k : ev G M_Mo_call R E 96 lv (.int x :: rest) h cells slots) : ev G M_Mo_call R E 95 lv rest h cells slots := ev_iload_n d_Mo_call_95 rfl hl k
theorem d_Mo_call_96 : decode prog_10_method_29_code 96 = .ok (.iastore, 1) := by decide +kernel
theorem s_Mo_call_96 {a n : Nat} {f : Nat → Int32} {i : Int32} {x : Int32} (hh : h a = mI 0 n f) (hin : vp_in i n) (k : ev G M_Mo_call R E 97 lv rest (va_up h a (mI 0 n (upd f i.toNatClampNeg x))) cells slots) : ev G M_Mo_call R E 96 lv (.int x :: .int i :: .ref a :: rest) h cells slots := ev_iastore d_Mo_call_96 rfl hh hin k
theorem d_Mo_call_97 : decode prog_10_method_29_code 97 = .ok (.aload_n 0, 1) := by decide +kernel
theorem s_Mo_call_97 {x : Nat} (hl : lg lv 0 = some (.ref x)) (k : ev G M_Mo_call R E 98 lv (.ref x :: rest) h cells slots) : ev G M_Mo_call R E 97 lv rest h cells slots := ev_aload_n d_Mo_call_97 rfl hl k
theorem d_Mo_call_98 : decode prog_10_method_29_code 98 = .ok (.getfield 37, 3) := by decide +kernel
theorem s_Mo_call_98 {a : Nat} {fs : List Value} {v : Value} (hh : h a = mO 7 fs) (hv : fs[11]? = some v) (k : ev G M_Mo_call R E 101 lv (v :: rest) h cells slots) : ev G M_Mo_call R E 98 lv (.ref a :: rest) h cells slots := ev_getfield (ci := 7) (kf := 11) d_Mo_call_98 rfl ck7 (by decide) w_715 hh hv k
theorem d_Mo_call_101 : decode prog_10_method_29_code 101 = .ok (.iconst 4, 1) := by decide +kernel
theorem s_Mo_call_101  (k : ev G M_Mo_call R E 102 lv (.int 4 :: rest) h cells slots) : ev G M_Mo_call R E 101 lv rest h cells slots := ev_iconst d_Mo_call_101 (by decide) k
theorem d_Mo_call_102 : decode prog_10_method_29_code 102 = .ok (.iload 4, 2) := by decide +kernel
theorem s_Mo_call_102 {x : Int32} (hl : lg lv 4 = some (.int x)) (k : ev G M_Mo_call R E 104 lv (.int x :: rest) h cells slots) : ev G M_Mo_call R E 102 lv rest h cells slots := ev_iload d_Mo_call_102 hl k
theorem d_Mo_call_104 : decode prog_10_method_29_code 104 = .ok (.imul, 1) := by decide +kernel
theorem s_Mo_call_104 {x y : Int32} (k : ev G M_Mo_call R E 105 lv (.int (x * y) :: rest) h cells slots) : ev G M_Mo_call R E 104 lv (.int y :: .int x :: rest) h cells slots := ev_imul d_Mo_call_104 k
theorem d_Mo_call_105 : decode prog_10_method_29_code 105 = .ok (.iconst 3, 1) := by decide +kernel
theorem s_Mo_call_105  (k : ev G M_Mo_call R E 106 lv (.int 3 :: rest) h cells slots) : ev G M_Mo_call R E 105 lv rest h cells slots := ev_iconst d_Mo_call_105 (by decide) k
theorem d_Mo_call_106 : decode prog_10_method_29_code 106 = .ok (.iadd, 1) := by decide +kernel
theorem s_Mo_call_106 {x y : Int32} (k : ev G M_Mo_call R E 107 lv (.int (x + y) :: rest) h cells slots) : ev G M_Mo_call R E 106 lv (.int y :: .int x :: rest) h cells slots := ev_iadd d_Mo_call_106 k
theorem d_Mo_call_107 : decode prog_10_method_29_code 107 = .ok (.iload_n 2, 1) := by decide +kernel
theorem s_Mo_call_107 {x : Int32} (hl : lg lv 2 = some (.int x)) (k : ev G M_Mo_call R E 108 lv (.int x :: rest) h cells slots) : ev G M_Mo_call R E 107 lv rest h cells slots := ev_iload_n d_Mo_call_107 rfl hl k
theorem d_Mo_call_108 : decode prog_10_method_29_code 108 = .ok (.iastore, 1) := by decide +kernel
theorem s_Mo_call_108 {a n : Nat} {f : Nat → Int32} {i : Int32} {x : Int32} (hh : h a = mI 0 n f) (hin : vp_in i n) (k : ev G M_Mo_call R E 109 lv rest (va_up h a (mI 0 n (upd f i.toNatClampNeg x))) cells slots) : ev G M_Mo_call R E 108 lv (.int x :: .int i :: .ref a :: rest) h cells slots := ev_iastore d_Mo_call_108 rfl hh hin k
theorem d_Mo_call_109 : decode prog_10_method_29_code 109 = .ok (.aload_n 0, 1) := by decide +kernel
theorem s_Mo_call_109 {x : Nat} (hl : lg lv 0 = some (.ref x)) (k : ev G M_Mo_call R E 110 lv (.ref x :: rest) h cells slots) : ev G M_Mo_call R E 109 lv rest h cells slots := ev_aload_n d_Mo_call_109 rfl hl k
theorem d_Mo_call_110 : decode prog_10_method_29_code 110 = .ok (.iload 4, 2) := by decide +kernel
theorem s_Mo_call_110 {x : Int32} (hl : lg lv 4 = some (.int x)) (k : ev G M_Mo_call R E 112 lv (.int x :: rest) h cells slots) : ev G M_Mo_call R E 110 lv rest h cells slots := ev_iload d_Mo_call_110 hl k
theorem d_Mo_call_112 : decode prog_10_method_29_code 112 = .ok (.iconst 0, 1) := by decide +kernel
theorem s_Mo_call_112  (k : ev G M_Mo_call R E 113 lv (.int 0 :: rest) h cells slots) : ev G M_Mo_call R E 112 lv rest h cells slots := ev_iconst d_Mo_call_112 (by decide) k
theorem d_Mo_call_113 : decode prog_10_method_29_code 113 = .ok (.bipush 96, 2) := by decide +kernel
theorem s_Mo_call_113  (k : ev G M_Mo_call R E 115 lv (.int 96 :: rest) h cells slots) : ev G M_Mo_call R E 113 lv rest h cells slots := ev_bipush d_Mo_call_113 (by decide) k
theorem d_Mo_call_115 : decode prog_10_method_29_code 115 = .ok (.iload_n 3, 1) := by decide +kernel
theorem s_Mo_call_115 {x : Int32} (hl : lg lv 3 = some (.int x)) (k : ev G M_Mo_call R E 116 lv (.int x :: rest) h cells slots) : ev G M_Mo_call R E 115 lv rest h cells slots := ev_iload_n d_Mo_call_115 rfl hl k
theorem d_Mo_call_116 : decode prog_10_method_29_code 116 = .ok (.iadd, 1) := by decide +kernel
theorem s_Mo_call_116 {x y : Int32} (k : ev G M_Mo_call R E 117 lv (.int (x + y) :: rest) h cells slots) : ev G M_Mo_call R E 116 lv (.int y :: .int x :: rest) h cells slots := ev_iadd d_Mo_call_116 k
theorem d_Mo_call_117 : decode prog_10_method_29_code 117 = .ok (.invokevirtual 153, 3) := by decide +kernel
theorem s_Mo_call_117 {mc ms : Nat} {P : Option Value → HP → Prop} {a0 : Int32} {a1 : Int32} {a2 : Int32} {b : Nat} {fs : List Value} {v0 : Value} (hm : mt G M_Mo_noteDown 1 mc ms (.ref b :: [.int a0, .int a1, .int a2]) h P) (hb : h b = mO 7 fs) (hv0 : fs[0]? = some v0) (hR : 1 + 1 ≤ R.frames ∧ 8 + (5 + 11) + 39 * 1 ≤ R.locals) (hcs : cells + mc ≤ R.cells ∧ slots + ms ≤ R.slots) (hrest : (rest.map fun v => v.category).sum ≤ 8) (k : ∀ (r : Option Value) (h' : HP), P r h' → ev G M_Mo_call R E 120 lv (r.toList ++ rest) h' (cells + mc) (slots + ms)) : ev G M_Mo_call R E 117 lv (.int a2 :: .int a1 :: .int a0 :: .ref b :: rest) h cells slots := ev_callV (as := [.int a0, .int a1, .int a2]) (ci := 7) d_Mo_call_117 hm hb hv0 rfl w_864 w_866 w_54 w_70 w_867 hy_Mo_noteDown hR hcs hrest k
theorem d_Mo_call_120 : decode prog_10_method_29_code 120 = .ok (.iconst 1, 1) := by decide +kernel
theorem s_Mo_call_120  (k : ev G M_Mo_call R E 121 lv (.int 1 :: rest) h cells slots) : ev G M_Mo_call R E 120 lv rest h cells slots := ev_iconst d_Mo_call_120 (by decide) k
theorem d_Mo_call_121 : decode prog_10_method_29_code 121 = .ok (.istore 5, 2) := by decide +kernel
theorem s_Mo_call_121 {x : Int32} (k : ev G M_Mo_call R E 123 (ls1 lv 5 (.int x)) rest h cells slots) : ev G M_Mo_call R E 121 lv (.int x :: rest) h cells slots := ev_istore d_Mo_call_121 (by decide) k
theorem d_Mo_call_123 : decode prog_10_method_29_code 123 = .ok (.iload 5, 2) := by decide +kernel
theorem s_Mo_call_123 {x : Int32} (hl : lg lv 5 = some (.int x)) (k : ev G M_Mo_call R E 125 lv (.int x :: rest) h cells slots) : ev G M_Mo_call R E 123 lv rest h cells slots := ev_iload d_Mo_call_123 hl k
theorem d_Mo_call_125 : decode prog_10_method_29_code 125 = .ok (.bipush 7, 2) := by decide +kernel
theorem s_Mo_call_125  (k : ev G M_Mo_call R E 127 lv (.int 7 :: rest) h cells slots) : ev G M_Mo_call R E 125 lv rest h cells slots := ev_bipush d_Mo_call_125 (by decide) k
theorem d_Mo_call_127 : decode prog_10_method_29_code 127 = .ok (.if_icmp .ge 19, 3) := by decide +kernel
theorem s_Mo_call_127 {x y : Int32} (kt : y ≤ x → ev G M_Mo_call R E 146 lv rest h cells slots) (kf : ¬ y ≤ x → ev G M_Mo_call R E 130 lv rest h cells slots) : ev G M_Mo_call R E 127 lv (.int y :: .int x :: rest) h cells slots := ev_icmp_ge d_Mo_call_127 (by decide) kt kf
theorem d_Mo_call_130 : decode prog_10_method_29_code 130 = .ok (.aload_n 0, 1) := by decide +kernel
theorem s_Mo_call_130 {x : Nat} (hl : lg lv 0 = some (.ref x)) (k : ev G M_Mo_call R E 131 lv (.ref x :: rest) h cells slots) : ev G M_Mo_call R E 130 lv rest h cells slots := ev_aload_n d_Mo_call_130 rfl hl k
theorem d_Mo_call_131 : decode prog_10_method_29_code 131 = .ok (.iload 4, 2) := by decide +kernel
theorem s_Mo_call_131 {x : Int32} (hl : lg lv 4 = some (.int x)) (k : ev G M_Mo_call R E 133 lv (.int x :: rest) h cells slots) : ev G M_Mo_call R E 131 lv rest h cells slots := ev_iload d_Mo_call_131 hl k
theorem d_Mo_call_133 : decode prog_10_method_29_code 133 = .ok (.iload 5, 2) := by decide +kernel
theorem s_Mo_call_133 {x : Int32} (hl : lg lv 5 = some (.int x)) (k : ev G M_Mo_call R E 135 lv (.int x :: rest) h cells slots) : ev G M_Mo_call R E 133 lv rest h cells slots := ev_iload d_Mo_call_133 hl k
theorem d_Mo_call_135 : decode prog_10_method_29_code 135 = .ok (.iload 5, 2) := by decide +kernel
theorem s_Mo_call_135 {x : Int32} (hl : lg lv 5 = some (.int x)) (k : ev G M_Mo_call R E 137 lv (.int x :: rest) h cells slots) : ev G M_Mo_call R E 135 lv rest h cells slots := ev_iload d_Mo_call_135 hl k
theorem d_Mo_call_137 : decode prog_10_method_29_code 137 = .ok (.invokevirtual 153, 3) := by decide +kernel
theorem s_Mo_call_137 {mc ms : Nat} {P : Option Value → HP → Prop} {a0 : Int32} {a1 : Int32} {a2 : Int32} {b : Nat} {fs : List Value} {v0 : Value} (hm : mt G M_Mo_noteDown 1 mc ms (.ref b :: [.int a0, .int a1, .int a2]) h P) (hb : h b = mO 7 fs) (hv0 : fs[0]? = some v0) (hR : 1 + 1 ≤ R.frames ∧ 8 + (5 + 11) + 39 * 1 ≤ R.locals) (hcs : cells + mc ≤ R.cells ∧ slots + ms ≤ R.slots) (hrest : (rest.map fun v => v.category).sum ≤ 8) (k : ∀ (r : Option Value) (h' : HP), P r h' → ev G M_Mo_call R E 140 lv (r.toList ++ rest) h' (cells + mc) (slots + ms)) : ev G M_Mo_call R E 137 lv (.int a2 :: .int a1 :: .int a0 :: .ref b :: rest) h cells slots := ev_callV (as := [.int a0, .int a1, .int a2]) (ci := 7) d_Mo_call_137 hm hb hv0 rfl w_864 w_866 w_54 w_70 w_867 hy_Mo_noteDown hR hcs hrest k
theorem d_Mo_call_140 : decode prog_10_method_29_code 140 = .ok (.iinc 5 1, 3) := by decide +kernel
theorem s_Mo_call_140 {x : Int32} (hl : lg lv 5 = some (.int x)) (k : ev G M_Mo_call R E 143 (ls1 lv 5 (.int (x + 1))) rest h cells slots) : ev G M_Mo_call R E 140 lv rest h cells slots := ev_iinc d_Mo_call_140 (by decide) hl (by decide) k
theorem d_Mo_call_143 : decode prog_10_method_29_code 143 = .ok (.goto (-20), 3) := by decide +kernel
theorem s_Mo_call_143  (k : ev G M_Mo_call R E 123 lv rest h cells slots) : ev G M_Mo_call R E 143 lv rest h cells slots := ev_goto d_Mo_call_143 (by decide) k
theorem d_Mo_call_146 : decode prog_10_method_29_code 146 = .ok (.iconst 0, 1) := by decide +kernel
theorem s_Mo_call_146  (k : ev G M_Mo_call R E 147 lv (.int 0 :: rest) h cells slots) : ev G M_Mo_call R E 146 lv rest h cells slots := ev_iconst d_Mo_call_146 (by decide) k
theorem d_Mo_call_147 : decode prog_10_method_29_code 147 = .ok (.istore 5, 2) := by decide +kernel
theorem s_Mo_call_147 {x : Int32} (k : ev G M_Mo_call R E 149 (ls1 lv 5 (.int x)) rest h cells slots) : ev G M_Mo_call R E 147 lv (.int x :: rest) h cells slots := ev_istore d_Mo_call_147 (by decide) k
theorem d_Mo_call_149 : decode prog_10_method_29_code 149 = .ok (.iload 5, 2) := by decide +kernel
theorem s_Mo_call_149 {x : Int32} (hl : lg lv 5 = some (.int x)) (k : ev G M_Mo_call R E 151 lv (.int x :: rest) h cells slots) : ev G M_Mo_call R E 149 lv rest h cells slots := ev_iload d_Mo_call_149 hl k
theorem d_Mo_call_151 : decode prog_10_method_29_code 151 = .ok (.bipush 8, 2) := by decide +kernel
theorem s_Mo_call_151  (k : ev G M_Mo_call R E 153 lv (.int 8 :: rest) h cells slots) : ev G M_Mo_call R E 151 lv rest h cells slots := ev_bipush d_Mo_call_151 (by decide) k
theorem d_Mo_call_153 : decode prog_10_method_29_code 153 = .ok (.if_icmp .ge 37, 3) := by decide +kernel
theorem s_Mo_call_153 {x y : Int32} (kt : y ≤ x → ev G M_Mo_call R E 190 lv rest h cells slots) (kf : ¬ y ≤ x → ev G M_Mo_call R E 156 lv rest h cells slots) : ev G M_Mo_call R E 153 lv (.int y :: .int x :: rest) h cells slots := ev_icmp_ge d_Mo_call_153 (by decide) kt kf
theorem d_Mo_call_156 : decode prog_10_method_29_code 156 = .ok (.iload 5, 2) := by decide +kernel
theorem s_Mo_call_156 {x : Int32} (hl : lg lv 5 = some (.int x)) (k : ev G M_Mo_call R E 158 lv (.int x :: rest) h cells slots) : ev G M_Mo_call R E 156 lv rest h cells slots := ev_iload d_Mo_call_156 hl k
theorem d_Mo_call_158 : decode prog_10_method_29_code 158 = .ok (.ifCond .eq 9, 3) := by decide +kernel
theorem s_Mo_call_158 {x : Int32} (kt : x = 0 → ev G M_Mo_call R E 167 lv rest h cells slots) (kf : ¬ x = 0 → ev G M_Mo_call R E 161 lv rest h cells slots) : ev G M_Mo_call R E 158 lv (.int x :: rest) h cells slots := ev_if_eq d_Mo_call_158 (by decide) kt kf
theorem d_Mo_call_161 : decode prog_10_method_29_code 161 = .ok (.iload 5, 2) := by decide +kernel
theorem s_Mo_call_161 {x : Int32} (hl : lg lv 5 = some (.int x)) (k : ev G M_Mo_call R E 163 lv (.int x :: rest) h cells slots) : ev G M_Mo_call R E 161 lv rest h cells slots := ev_iload d_Mo_call_161 hl k
theorem d_Mo_call_163 : decode prog_10_method_29_code 163 = .ok (.iload_n 2, 1) := by decide +kernel
theorem s_Mo_call_163 {x : Int32} (hl : lg lv 2 = some (.int x)) (k : ev G M_Mo_call R E 164 lv (.int x :: rest) h cells slots) : ev G M_Mo_call R E 163 lv rest h cells slots := ev_iload_n d_Mo_call_163 rfl hl k
theorem d_Mo_call_164 : decode prog_10_method_29_code 164 = .ok (.if_icmp .le 20, 3) := by decide +kernel
theorem s_Mo_call_164 {x y : Int32} (kt : x ≤ y → ev G M_Mo_call R E 184 lv rest h cells slots) (kf : ¬ x ≤ y → ev G M_Mo_call R E 167 lv rest h cells slots) : ev G M_Mo_call R E 164 lv (.int y :: .int x :: rest) h cells slots := ev_icmp_le d_Mo_call_164 (by decide) kt kf
theorem d_Mo_call_167 : decode prog_10_method_29_code 167 = .ok (.aload_n 0, 1) := by decide +kernel
theorem s_Mo_call_167 {x : Nat} (hl : lg lv 0 = some (.ref x)) (k : ev G M_Mo_call R E 168 lv (.ref x :: rest) h cells slots) : ev G M_Mo_call R E 167 lv rest h cells slots := ev_aload_n d_Mo_call_167 rfl hl k
theorem d_Mo_call_168 : decode prog_10_method_29_code 168 = .ok (.iload 5, 2) := by decide +kernel
theorem s_Mo_call_168 {x : Int32} (hl : lg lv 5 = some (.int x)) (k : ev G M_Mo_call R E 170 lv (.int x :: rest) h cells slots) : ev G M_Mo_call R E 168 lv rest h cells slots := ev_iload d_Mo_call_168 hl k
theorem d_Mo_call_170 : decode prog_10_method_29_code 170 = .ok (.bipush 56, 2) := by decide +kernel
theorem s_Mo_call_170  (k : ev G M_Mo_call R E 172 lv (.int 56 :: rest) h cells slots) : ev G M_Mo_call R E 170 lv rest h cells slots := ev_bipush d_Mo_call_170 (by decide) k
theorem d_Mo_call_172 : decode prog_10_method_29_code 172 = .ok (.bipush 8, 2) := by decide +kernel
theorem s_Mo_call_172  (k : ev G M_Mo_call R E 174 lv (.int 8 :: rest) h cells slots) : ev G M_Mo_call R E 172 lv rest h cells slots := ev_bipush d_Mo_call_172 (by decide) k
theorem d_Mo_call_174 : decode prog_10_method_29_code 174 = .ok (.iload 4, 2) := by decide +kernel
theorem s_Mo_call_174 {x : Int32} (hl : lg lv 4 = some (.int x)) (k : ev G M_Mo_call R E 176 lv (.int x :: rest) h cells slots) : ev G M_Mo_call R E 174 lv rest h cells slots := ev_iload d_Mo_call_174 hl k
theorem d_Mo_call_176 : decode prog_10_method_29_code 176 = .ok (.imul, 1) := by decide +kernel
theorem s_Mo_call_176 {x y : Int32} (k : ev G M_Mo_call R E 177 lv (.int (x * y) :: rest) h cells slots) : ev G M_Mo_call R E 176 lv (.int y :: .int x :: rest) h cells slots := ev_imul d_Mo_call_176 k
theorem d_Mo_call_177 : decode prog_10_method_29_code 177 = .ok (.iadd, 1) := by decide +kernel
theorem s_Mo_call_177 {x y : Int32} (k : ev G M_Mo_call R E 178 lv (.int (x + y) :: rest) h cells slots) : ev G M_Mo_call R E 177 lv (.int y :: .int x :: rest) h cells slots := ev_iadd d_Mo_call_177 k
theorem d_Mo_call_178 : decode prog_10_method_29_code 178 = .ok (.iload 5, 2) := by decide +kernel
theorem s_Mo_call_178 {x : Int32} (hl : lg lv 5 = some (.int x)) (k : ev G M_Mo_call R E 180 lv (.int x :: rest) h cells slots) : ev G M_Mo_call R E 178 lv rest h cells slots := ev_iload d_Mo_call_178 hl k
theorem d_Mo_call_180 : decode prog_10_method_29_code 180 = .ok (.iadd, 1) := by decide +kernel
theorem s_Mo_call_180 {x y : Int32} (k : ev G M_Mo_call R E 181 lv (.int (x + y) :: rest) h cells slots) : ev G M_Mo_call R E 180 lv (.int y :: .int x :: rest) h cells slots := ev_iadd d_Mo_call_180 k
theorem d_Mo_call_181 : decode prog_10_method_29_code 181 = .ok (.invokevirtual 74, 3) := by decide +kernel
theorem s_Mo_call_181 {mc ms : Nat} {P : Option Value → HP → Prop} {a0 : Int32} {a1 : Int32} {b : Nat} {fs : List Value} {v0 : Value} (hm : mt G M_Mo_shift 2 mc ms (.ref b :: [.int a0, .int a1]) h P) (hb : h b = mO 7 fs) (hv0 : fs[0]? = some v0) (hR : 2 + 1 ≤ R.frames ∧ 8 + (3 + 11) + 39 * 2 ≤ R.locals) (hcs : cells + mc ≤ R.cells ∧ slots + ms ≤ R.slots) (hrest : (rest.map fun v => v.category).sum ≤ 8) (k : ∀ (r : Option Value) (h' : HP), P r h' → ev G M_Mo_call R E 184 lv (r.toList ++ rest) h' (cells + mc) (slots + ms)) : ev G M_Mo_call R E 181 lv (.int a1 :: .int a0 :: .ref b :: rest) h cells slots := ev_callV (as := [.int a0, .int a1]) (ci := 7) d_Mo_call_181 hm hb hv0 rfl w_812 w_814 w_41 w_70 w_815 hy_Mo_shift hR hcs hrest k
theorem d_Mo_call_184 : decode prog_10_method_29_code 184 = .ok (.iinc 5 1, 3) := by decide +kernel
theorem s_Mo_call_184 {x : Int32} (hl : lg lv 5 = some (.int x)) (k : ev G M_Mo_call R E 187 (ls1 lv 5 (.int (x + 1))) rest h cells slots) : ev G M_Mo_call R E 184 lv rest h cells slots := ev_iinc d_Mo_call_184 (by decide) hl (by decide) k
theorem d_Mo_call_187 : decode prog_10_method_29_code 187 = .ok (.goto (-38), 3) := by decide +kernel
theorem s_Mo_call_187  (k : ev G M_Mo_call R E 149 lv rest h cells slots) : ev G M_Mo_call R E 187 lv rest h cells slots := ev_goto d_Mo_call_187 (by decide) k
theorem d_Mo_call_190 : decode prog_10_method_29_code 190 = .ok (.aload_n 0, 1) := by decide +kernel
theorem s_Mo_call_190 {x : Nat} (hl : lg lv 0 = some (.ref x)) (k : ev G M_Mo_call R E 191 lv (.ref x :: rest) h cells slots) : ev G M_Mo_call R E 190 lv rest h cells slots := ev_aload_n d_Mo_call_190 rfl hl k
theorem d_Mo_call_191 : decode prog_10_method_29_code 191 = .ok (.bipush 96, 2) := by decide +kernel
theorem s_Mo_call_191  (k : ev G M_Mo_call R E 193 lv (.int 96 :: rest) h cells slots) : ev G M_Mo_call R E 191 lv rest h cells slots := ev_bipush d_Mo_call_191 (by decide) k
theorem d_Mo_call_193 : decode prog_10_method_29_code 193 = .ok (.iload_n 3, 1) := by decide +kernel
theorem s_Mo_call_193 {x : Int32} (hl : lg lv 3 = some (.int x)) (k : ev G M_Mo_call R E 194 lv (.int x :: rest) h cells slots) : ev G M_Mo_call R E 193 lv rest h cells slots := ev_iload_n d_Mo_call_193 rfl hl k
theorem d_Mo_call_194 : decode prog_10_method_29_code 194 = .ok (.iadd, 1) := by decide +kernel
theorem s_Mo_call_194 {x y : Int32} (k : ev G M_Mo_call R E 195 lv (.int (x + y) :: rest) h cells slots) : ev G M_Mo_call R E 194 lv (.int y :: .int x :: rest) h cells slots := ev_iadd d_Mo_call_194 k
theorem d_Mo_call_195 : decode prog_10_method_29_code 195 = .ok (.bipush 7, 2) := by decide +kernel
theorem s_Mo_call_195  (k : ev G M_Mo_call R E 197 lv (.int 7 :: rest) h cells slots) : ev G M_Mo_call R E 195 lv rest h cells slots := ev_bipush d_Mo_call_195 (by decide) k
theorem d_Mo_call_197 : decode prog_10_method_29_code 197 = .ok (.invokevirtual 74, 3) := by decide +kernel
theorem s_Mo_call_197 {mc ms : Nat} {P : Option Value → HP → Prop} {a0 : Int32} {a1 : Int32} {b : Nat} {fs : List Value} {v0 : Value} (hm : mt G M_Mo_shift 2 mc ms (.ref b :: [.int a0, .int a1]) h P) (hb : h b = mO 7 fs) (hv0 : fs[0]? = some v0) (hR : 2 + 1 ≤ R.frames ∧ 8 + (3 + 11) + 39 * 2 ≤ R.locals) (hcs : cells + mc ≤ R.cells ∧ slots + ms ≤ R.slots) (hrest : (rest.map fun v => v.category).sum ≤ 8) (k : ∀ (r : Option Value) (h' : HP), P r h' → ev G M_Mo_call R E 200 lv (r.toList ++ rest) h' (cells + mc) (slots + ms)) : ev G M_Mo_call R E 197 lv (.int a1 :: .int a0 :: .ref b :: rest) h cells slots := ev_callV (as := [.int a0, .int a1]) (ci := 7) d_Mo_call_197 hm hb hv0 rfl w_812 w_814 w_41 w_70 w_815 hy_Mo_shift hR hcs hrest k
theorem d_Mo_call_200 : decode prog_10_method_29_code 200 = .ok (.aload_n 0, 1) := by decide +kernel
theorem s_Mo_call_200 {x : Nat} (hl : lg lv 0 = some (.ref x)) (k : ev G M_Mo_call R E 201 lv (.ref x :: rest) h cells slots) : ev G M_Mo_call R E 200 lv rest h cells slots := ev_aload_n d_Mo_call_200 rfl hl k
theorem d_Mo_call_201 : decode prog_10_method_29_code 201 = .ok (.getfield 28, 3) := by decide +kernel
theorem s_Mo_call_201 {a : Nat} {fs : List Value} {v : Value} (hh : h a = mO 7 fs) (hv : fs[7]? = some v) (k : ev G M_Mo_call R E 204 lv (v :: rest) h cells slots) : ev G M_Mo_call R E 201 lv (.ref a :: rest) h cells slots := ev_getfield (ci := 7) (kf := 7) d_Mo_call_201 rfl ck7 (by decide) w_711 hh hv k
theorem d_Mo_call_204 : decode prog_10_method_29_code 204 = .ok (.iload_n 3, 1) := by decide +kernel
theorem s_Mo_call_204 {x : Int32} (hl : lg lv 3 = some (.int x)) (k : ev G M_Mo_call R E 205 lv (.int x :: rest) h cells slots) : ev G M_Mo_call R E 204 lv rest h cells slots := ev_iload_n d_Mo_call_204 rfl hl k
theorem d_Mo_call_205 : decode prog_10_method_29_code 205 = .ok (.iconst 2, 1) := by decide +kernel
theorem s_Mo_call_205  (k : ev G M_Mo_call R E 206 lv (.int 2 :: rest) h cells slots) : ev G M_Mo_call R E 205 lv rest h cells slots := ev_iconst d_Mo_call_205 (by decide) k
theorem d_Mo_call_206 : decode prog_10_method_29_code 206 = .ok (.iastore, 1) := by decide +kernel
theorem s_Mo_call_206 {a n : Nat} {f : Nat → Int32} {i : Int32} {x : Int32} (hh : h a = mI 0 n f) (hin : vp_in i n) (k : ev G M_Mo_call R E 207 lv rest (va_up h a (mI 0 n (upd f i.toNatClampNeg x))) cells slots) : ev G M_Mo_call R E 206 lv (.int x :: .int i :: .ref a :: rest) h cells slots := ev_iastore d_Mo_call_206 rfl hh hin k
theorem d_Mo_call_207 : decode prog_10_method_29_code 207 = .ok (.aload_n 0, 1) := by decide +kernel
theorem s_Mo_call_207 {x : Nat} (hl : lg lv 0 = some (.ref x)) (k : ev G M_Mo_call R E 208 lv (.ref x :: rest) h cells slots) : ev G M_Mo_call R E 207 lv rest h cells slots := ev_aload_n d_Mo_call_207 rfl hl k
theorem d_Mo_call_208 : decode prog_10_method_29_code 208 = .ok (.aload_n 0, 1) := by decide +kernel
theorem s_Mo_call_208 {x : Nat} (hl : lg lv 0 = some (.ref x)) (k : ev G M_Mo_call R E 209 lv (.ref x :: rest) h cells slots) : ev G M_Mo_call R E 208 lv rest h cells slots := ev_aload_n d_Mo_call_208 rfl hl k
theorem d_Mo_call_209 : decode prog_10_method_29_code 209 = .ok (.getfield 78, 3) := by decide +kernel
theorem s_Mo_call_209 {a : Nat} {fs : List Value} {v : Value} (hh : h a = mO 7 fs) (hv : fs[10]? = some v) (k : ev G M_Mo_call R E 212 lv (v :: rest) h cells slots) : ev G M_Mo_call R E 209 lv (.ref a :: rest) h cells slots := ev_getfield (ci := 7) (kf := 10) d_Mo_call_209 rfl ck7 (by decide) w_714 hh hv k
theorem d_Mo_call_212 : decode prog_10_method_29_code 212 = .ok (.iconst 1, 1) := by decide +kernel
theorem s_Mo_call_212  (k : ev G M_Mo_call R E 213 lv (.int 1 :: rest) h cells slots) : ev G M_Mo_call R E 212 lv rest h cells slots := ev_iconst d_Mo_call_212 (by decide) k
theorem d_Mo_call_213 : decode prog_10_method_29_code 213 = .ok (.iadd, 1) := by decide +kernel
theorem s_Mo_call_213 {x y : Int32} (k : ev G M_Mo_call R E 214 lv (.int (x + y) :: rest) h cells slots) : ev G M_Mo_call R E 213 lv (.int y :: .int x :: rest) h cells slots := ev_iadd d_Mo_call_213 k
theorem d_Mo_call_214 : decode prog_10_method_29_code 214 = .ok (.putfield 78, 3) := by decide +kernel
theorem s_Mo_call_214 {x : Int32} {a : Nat} {fs : List Value} (hh : h a = mO 7 fs) (hlen : 10 < fs.length) (k : ev G M_Mo_call R E 217 lv rest (va_up h a (mO 7 (fs.set 10 (.int x)))) cells slots) : ev G M_Mo_call R E 214 lv (.int x :: .ref a :: rest) h cells slots := ev_putfield (ci := 7) (kf := 10) d_Mo_call_214 rfl ck7 (by decide) w_714 rfl hh hlen (fun _ _ => rfl) (fun _ _ => rfl) k
theorem d_Mo_call_217 : decode prog_10_method_29_code 217 = .ok (.aload_n 0, 1) := by decide +kernel
theorem s_Mo_call_217 {x : Nat} (hl : lg lv 0 = some (.ref x)) (k : ev G M_Mo_call R E 218 lv (.ref x :: rest) h cells slots) : ev G M_Mo_call R E 217 lv rest h cells slots := ev_aload_n d_Mo_call_217 rfl hl k
theorem d_Mo_call_218 : decode prog_10_method_29_code 218 = .ok (.aload_n 0, 1) := by decide +kernel
theorem s_Mo_call_218 {x : Nat} (hl : lg lv 0 = some (.ref x)) (k : ev G M_Mo_call R E 219 lv (.ref x :: rest) h cells slots) : ev G M_Mo_call R E 218 lv rest h cells slots := ev_aload_n d_Mo_call_218 rfl hl k
theorem d_Mo_call_219 : decode prog_10_method_29_code 219 = .ok (.getfield 31, 3) := by decide +kernel
theorem s_Mo_call_219 {a : Nat} {fs : List Value} {v : Value} (hh : h a = mO 7 fs) (hv : fs[8]? = some v) (k : ev G M_Mo_call R E 222 lv (v :: rest) h cells slots) : ev G M_Mo_call R E 219 lv (.ref a :: rest) h cells slots := ev_getfield (ci := 7) (kf := 8) d_Mo_call_219 rfl ck7 (by decide) w_712 hh hv k
theorem d_Mo_call_222 : decode prog_10_method_29_code 222 = .ok (.iload_n 3, 1) := by decide +kernel
theorem s_Mo_call_222 {x : Int32} (hl : lg lv 3 = some (.int x)) (k : ev G M_Mo_call R E 223 lv (.int x :: rest) h cells slots) : ev G M_Mo_call R E 222 lv rest h cells slots := ev_iload_n d_Mo_call_222 rfl hl k
theorem d_Mo_call_223 : decode prog_10_method_29_code 223 = .ok (.iaload, 1) := by decide +kernel
theorem s_Mo_call_223 {a n : Nat} {f : Nat → Int32} {i : Int32} (hh : h a = mI 0 n f) (hin : vp_in i n) (k : ev G M_Mo_call R E 224 lv (.int (f i.toNatClampNeg) :: rest) h cells slots) : ev G M_Mo_call R E 223 lv (.int i :: .ref a :: rest) h cells slots := ev_iaload d_Mo_call_223 rfl hh hin k
theorem d_Mo_call_224 : decode prog_10_method_29_code 224 = .ok (.putfield 82, 3) := by decide +kernel
theorem s_Mo_call_224 {x : Int32} {a : Nat} {fs : List Value} (hh : h a = mO 7 fs) (hlen : 13 < fs.length) (k : ev G M_Mo_call R E 227 lv rest (va_up h a (mO 7 (fs.set 13 (.int x)))) cells slots) : ev G M_Mo_call R E 224 lv (.int x :: .ref a :: rest) h cells slots := ev_putfield (ci := 7) (kf := 13) d_Mo_call_224 rfl ck7 (by decide) w_717 rfl hh hlen (fun _ _ => rfl) (fun _ _ => rfl) k
theorem d_Mo_call_227 : decode prog_10_method_29_code 227 = .ok (.aload_n 0, 1) := by decide +kernel
theorem s_Mo_call_227 {x : Nat} (hl : lg lv 0 = some (.ref x)) (k : ev G M_Mo_call R E 228 lv (.ref x :: rest) h cells slots) : ev G M_Mo_call R E 227 lv rest h cells slots := ev_aload_n d_Mo_call_227 rfl hl k
theorem d_Mo_call_228 : decode prog_10_method_29_code 228 = .ok (.iconst 0, 1) := by decide +kernel
theorem s_Mo_call_228  (k : ev G M_Mo_call R E 229 lv (.int 0 :: rest) h cells slots) : ev G M_Mo_call R E 228 lv rest h cells slots := ev_iconst d_Mo_call_228 (by decide) k
theorem d_Mo_call_229 : decode prog_10_method_29_code 229 = .ok (.putfield 85, 3) := by decide +kernel
theorem s_Mo_call_229 {x : Int32} {a : Nat} {fs : List Value} (hh : h a = mO 7 fs) (hlen : 14 < fs.length) (k : ev G M_Mo_call R E 232 lv rest (va_up h a (mO 7 (fs.set 14 (.int x)))) cells slots) : ev G M_Mo_call R E 229 lv (.int x :: .ref a :: rest) h cells slots := ev_putfield (ci := 7) (kf := 14) d_Mo_call_229 rfl ck7 (by decide) w_718 rfl hh hlen (fun _ _ => rfl) (fun _ _ => rfl) k
theorem d_Mo_call_232 : decode prog_10_method_29_code 232 = .ok (.iconst 0, 1) := by decide +kernel
theorem s_Mo_call_232  (k : ev G M_Mo_call R E 233 lv (.int 0 :: rest) h cells slots) : ev G M_Mo_call R E 232 lv rest h cells slots := ev_iconst d_Mo_call_232 (by decide) k
theorem d_Mo_call_233 : decode prog_10_method_29_code 233 = .ok (.ireturn, 1) := by decide +kernel
theorem s_Mo_call_233 {P : Option Value → HP → Prop} {mc ms : Nat} {v : Int32} (hP : P (some (.int v)) h) (hc : cells ≤ mc ∧ slots ≤ ms) : ev G M_Mo_call R (Er M_Mo_call P mc ms) 233 lv [.int v] h cells slots := ev_exit ⟨hc.1, hc.2, Or.inr (Or.inl ⟨v, .int, rfl, rfl, d_Mo_call_233, rfl, hP⟩)⟩
abbrev M_Mo_isAsNoted : MW := (⟨"UseOnceMachineModel", "isAsNoted", "(III)Z"⟩, prog_10_method_30_code, 6, (some .boolean))
theorem hy_Mo_isAsNoted : M_Mo_isAsNoted.1.cls ≠ "java/lang/invoke/MethodHandle" ∧ M_Mo_isAsNoted.1.cls ≠ "java/lang/invoke/VarHandle" ∧ (parseMethodDescriptor M_Mo_isAsNoted.1.desc).map (fun d => d.parameters.length) = some 3 := by decide +kernel
theorem d_Mo_isAsNoted_0 : decode prog_10_method_30_code 0 = .ok (.aload_n 0, 1) := by decide +kernel
theorem s_Mo_isAsNoted_0 {x : Nat} (hl : lg lv 0 = some (.ref x)) (k : ev G M_Mo_isAsNoted R E 1 lv (.ref x :: rest) h cells slots) : ev G M_Mo_isAsNoted R E 0 lv rest h cells slots := ev_aload_n d_Mo_isAsNoted_0 rfl hl k
theorem d_Mo_isAsNoted_1 : decode prog_10_method_30_code 1 = .ok (.iload_n 3, 1) := by decide +kernel
theorem s_Mo_isAsNoted_1 {x : Int32} (hl : lg lv 3 = some (.int x)) (k : ev G M_Mo_isAsNoted R E 2 lv (.int x :: rest) h cells slots) : ev G M_Mo_isAsNoted R E 1 lv rest h cells slots := ev_iload_n d_Mo_isAsNoted_1 rfl hl k
theorem d_Mo_isAsNoted_2 : decode prog_10_method_30_code 2 = .ok (.iconst 0, 1) := by decide +kernel
theorem s_Mo_isAsNoted_2  (k : ev G M_Mo_isAsNoted R E 3 lv (.int 0 :: rest) h cells slots) : ev G M_Mo_isAsNoted R E 2 lv rest h cells slots := ev_iconst d_Mo_isAsNoted_2 (by decide) k
theorem d_Mo_isAsNoted_3 : decode prog_10_method_30_code 3 = .ok (.invokevirtual 66, 3) := by decide +kernel
theorem s_Mo_isAsNoted_3 {mc ms : Nat} {P : Option Value → HP → Prop} {a0 : Int32} {a1 : Int32} {b : Nat} {fs : List Value} {v0 : Value} (hm : mt G M_Mo_get 0 mc ms (.ref b :: [.int a0, .int a1]) h P) (hb : h b = mO 7 fs) (hv0 : fs[0]? = some v0) (hR : 0 + 1 ≤ R.frames ∧ 8 + (3 + 11) + 39 * 0 ≤ R.locals) (hcs : cells + mc ≤ R.cells ∧ slots + ms ≤ R.slots) (hrest : (rest.map fun v => v.category).sum ≤ 8) (k : ∀ (r : Option Value) (h' : HP), P r h' → ev G M_Mo_isAsNoted R E 6 lv (r.toList ++ rest) h' (cells + mc) (slots + ms)) : ev G M_Mo_isAsNoted R E 3 lv (.int a1 :: .int a0 :: .ref b :: rest) h cells slots := ev_callV (as := [.int a0, .int a1]) (ci := 7) d_Mo_isAsNoted_3 hm hb hv0 rfl w_816 w_818 w_42 w_70 w_819 hy_Mo_get hR hcs hrest k
theorem d_Mo_isAsNoted_6 : decode prog_10_method_30_code 6 = .ok (.aload_n 0, 1) := by decide +kernel
theorem s_Mo_isAsNoted_6 {x : Nat} (hl : lg lv 0 = some (.ref x)) (k : ev G M_Mo_isAsNoted R E 7 lv (.ref x :: rest) h cells slots) : ev G M_Mo_isAsNoted R E 6 lv rest h cells slots := ev_aload_n d_Mo_isAsNoted_6 rfl hl k
theorem d_Mo_isAsNoted_7 : decode prog_10_method_30_code 7 = .ok (.getfield 40, 3) := by decide +kernel
theorem s_Mo_isAsNoted_7 {a : Nat} {fs : List Value} {v : Value} (hh : h a = mO 7 fs) (hv : fs[12]? = some v) (k : ev G M_Mo_isAsNoted R E 10 lv (v :: rest) h cells slots) : ev G M_Mo_isAsNoted R E 7 lv (.ref a :: rest) h cells slots := ev_getfield (ci := 7) (kf := 12) d_Mo_isAsNoted_7 rfl ck7 (by decide) w_716 hh hv k
theorem d_Mo_isAsNoted_10 : decode prog_10_method_30_code 10 = .ok (.bipush 35, 2) := by decide +kernel
theorem s_Mo_isAsNoted_10  (k : ev G M_Mo_isAsNoted R E 12 lv (.int 35 :: rest) h cells slots) : ev G M_Mo_isAsNoted R E 10 lv rest h cells slots := ev_bipush d_Mo_isAsNoted_10 (by decide) k
theorem d_Mo_isAsNoted_12 : decode prog_10_method_30_code 12 = .ok (.iload_n 1, 1) := by decide +kernel
theorem s_Mo_isAsNoted_12 {x : Int32} (hl : lg lv 1 = some (.int x)) (k : ev G M_Mo_isAsNoted R E 13 lv (.int x :: rest) h cells slots) : ev G M_Mo_isAsNoted R E 12 lv rest h cells slots := ev_iload_n d_Mo_isAsNoted_12 rfl hl k
theorem d_Mo_isAsNoted_13 : decode prog_10_method_30_code 13 = .ok (.imul, 1) := by decide +kernel
theorem s_Mo_isAsNoted_13 {x y : Int32} (k : ev G M_Mo_isAsNoted R E 14 lv (.int (x * y) :: rest) h cells slots) : ev G M_Mo_isAsNoted R E 13 lv (.int y :: .int x :: rest) h cells slots := ev_imul d_Mo_isAsNoted_13 k
theorem d_Mo_isAsNoted_14 : decode prog_10_method_30_code 14 = .ok (.iconst 5, 1) := by decide +kernel
theorem s_Mo_isAsNoted_14  (k : ev G M_Mo_isAsNoted R E 15 lv (.int 5 :: rest) h cells slots) : ev G M_Mo_isAsNoted R E 14 lv rest h cells slots := ev_iconst d_Mo_isAsNoted_14 (by decide) k
theorem d_Mo_isAsNoted_15 : decode prog_10_method_30_code 15 = .ok (.iload_n 2, 1) := by decide +kernel
theorem s_Mo_isAsNoted_15 {x : Int32} (hl : lg lv 2 = some (.int x)) (k : ev G M_Mo_isAsNoted R E 16 lv (.int x :: rest) h cells slots) : ev G M_Mo_isAsNoted R E 15 lv rest h cells slots := ev_iload_n d_Mo_isAsNoted_15 rfl hl k
theorem d_Mo_isAsNoted_16 : decode prog_10_method_30_code 16 = .ok (.imul, 1) := by decide +kernel
theorem s_Mo_isAsNoted_16 {x y : Int32} (k : ev G M_Mo_isAsNoted R E 17 lv (.int (x * y) :: rest) h cells slots) : ev G M_Mo_isAsNoted R E 16 lv (.int y :: .int x :: rest) h cells slots := ev_imul d_Mo_isAsNoted_16 k
theorem d_Mo_isAsNoted_17 : decode prog_10_method_30_code 17 = .ok (.iadd, 1) := by decide +kernel
theorem s_Mo_isAsNoted_17 {x y : Int32} (k : ev G M_Mo_isAsNoted R E 18 lv (.int (x + y) :: rest) h cells slots) : ev G M_Mo_isAsNoted R E 17 lv (.int y :: .int x :: rest) h cells slots := ev_iadd d_Mo_isAsNoted_17 k
theorem d_Mo_isAsNoted_18 : decode prog_10_method_30_code 18 = .ok (.iaload, 1) := by decide +kernel
theorem s_Mo_isAsNoted_18 {a n : Nat} {f : Nat → Int32} {i : Int32} (hh : h a = mI 0 n f) (hin : vp_in i n) (k : ev G M_Mo_isAsNoted R E 19 lv (.int (f i.toNatClampNeg) :: rest) h cells slots) : ev G M_Mo_isAsNoted R E 18 lv (.int i :: .ref a :: rest) h cells slots := ev_iaload d_Mo_isAsNoted_18 rfl hh hin k
theorem d_Mo_isAsNoted_19 : decode prog_10_method_30_code 19 = .ok (.if_icmp .ne 7, 3) := by decide +kernel
theorem s_Mo_isAsNoted_19 {x y : Int32} (kt : ¬ x = y → ev G M_Mo_isAsNoted R E 26 lv rest h cells slots) (kf : x = y → ev G M_Mo_isAsNoted R E 22 lv rest h cells slots) : ev G M_Mo_isAsNoted R E 19 lv (.int y :: .int x :: rest) h cells slots := ev_icmp_ne d_Mo_isAsNoted_19 (by decide) kt kf
theorem d_Mo_isAsNoted_22 : decode prog_10_method_30_code 22 = .ok (.iconst 1, 1) := by decide +kernel
theorem s_Mo_isAsNoted_22  (k : ev G M_Mo_isAsNoted R E 23 lv (.int 1 :: rest) h cells slots) : ev G M_Mo_isAsNoted R E 22 lv rest h cells slots := ev_iconst d_Mo_isAsNoted_22 (by decide) k
theorem d_Mo_isAsNoted_23 : decode prog_10_method_30_code 23 = .ok (.goto 4, 3) := by decide +kernel
theorem s_Mo_isAsNoted_23  (k : ev G M_Mo_isAsNoted R E 27 lv rest h cells slots) : ev G M_Mo_isAsNoted R E 23 lv rest h cells slots := ev_goto d_Mo_isAsNoted_23 (by decide) k
theorem d_Mo_isAsNoted_26 : decode prog_10_method_30_code 26 = .ok (.iconst 0, 1) := by decide +kernel
theorem s_Mo_isAsNoted_26  (k : ev G M_Mo_isAsNoted R E 27 lv (.int 0 :: rest) h cells slots) : ev G M_Mo_isAsNoted R E 26 lv rest h cells slots := ev_iconst d_Mo_isAsNoted_26 (by decide) k
theorem d_Mo_isAsNoted_27 : decode prog_10_method_30_code 27 = .ok (.istore 4, 2) := by decide +kernel
theorem s_Mo_isAsNoted_27 {x : Int32} (k : ev G M_Mo_isAsNoted R E 29 (ls1 lv 4 (.int x)) rest h cells slots) : ev G M_Mo_isAsNoted R E 27 lv (.int x :: rest) h cells slots := ev_istore d_Mo_isAsNoted_27 (by decide) k
theorem d_Mo_isAsNoted_29 : decode prog_10_method_30_code 29 = .ok (.iconst 1, 1) := by decide +kernel
theorem s_Mo_isAsNoted_29  (k : ev G M_Mo_isAsNoted R E 30 lv (.int 1 :: rest) h cells slots) : ev G M_Mo_isAsNoted R E 29 lv rest h cells slots := ev_iconst d_Mo_isAsNoted_29 (by decide) k
theorem d_Mo_isAsNoted_30 : decode prog_10_method_30_code 30 = .ok (.istore 5, 2) := by decide +kernel
theorem s_Mo_isAsNoted_30 {x : Int32} (k : ev G M_Mo_isAsNoted R E 32 (ls1 lv 5 (.int x)) rest h cells slots) : ev G M_Mo_isAsNoted R E 30 lv (.int x :: rest) h cells slots := ev_istore d_Mo_isAsNoted_30 (by decide) k
theorem d_Mo_isAsNoted_32 : decode prog_10_method_30_code 32 = .ok (.iload 5, 2) := by decide +kernel
theorem s_Mo_isAsNoted_32 {x : Int32} (hl : lg lv 5 = some (.int x)) (k : ev G M_Mo_isAsNoted R E 34 lv (.int x :: rest) h cells slots) : ev G M_Mo_isAsNoted R E 32 lv rest h cells slots := ev_iload d_Mo_isAsNoted_32 hl k
theorem d_Mo_isAsNoted_34 : decode prog_10_method_30_code 34 = .ok (.iconst 5, 1) := by decide +kernel
theorem s_Mo_isAsNoted_34  (k : ev G M_Mo_isAsNoted R E 35 lv (.int 5 :: rest) h cells slots) : ev G M_Mo_isAsNoted R E 34 lv rest h cells slots := ev_iconst d_Mo_isAsNoted_34 (by decide) k
theorem d_Mo_isAsNoted_35 : decode prog_10_method_30_code 35 = .ok (.if_icmp .ge 56, 3) := by decide +kernel
theorem s_Mo_isAsNoted_35 {x y : Int32} (kt : y ≤ x → ev G M_Mo_isAsNoted R E 91 lv rest h cells slots) (kf : ¬ y ≤ x → ev G M_Mo_isAsNoted R E 38 lv rest h cells slots) : ev G M_Mo_isAsNoted R E 35 lv (.int y :: .int x :: rest) h cells slots := ev_icmp_ge d_Mo_isAsNoted_35 (by decide) kt kf
theorem d_Mo_isAsNoted_38 : decode prog_10_method_30_code 38 = .ok (.aload_n 0, 1) := by decide +kernel
theorem s_Mo_isAsNoted_38 {x : Nat} (hl : lg lv 0 = some (.ref x)) (k : ev G M_Mo_isAsNoted R E 39 lv (.ref x :: rest) h cells slots) : ev G M_Mo_isAsNoted R E 38 lv rest h cells slots := ev_aload_n d_Mo_isAsNoted_38 rfl hl k
theorem d_Mo_isAsNoted_39 : decode prog_10_method_30_code 39 = .ok (.iload_n 3, 1) := by decide +kernel
theorem s_Mo_isAsNoted_39 {x : Int32} (hl : lg lv 3 = some (.int x)) (k : ev G M_Mo_isAsNoted R E 40 lv (.int x :: rest) h cells slots) : ev G M_Mo_isAsNoted R E 39 lv rest h cells slots := ev_iload_n d_Mo_isAsNoted_39 rfl hl k
theorem d_Mo_isAsNoted_40 : decode prog_10_method_30_code 40 = .ok (.iconst 0, 1) := by decide +kernel
theorem s_Mo_isAsNoted_40  (k : ev G M_Mo_isAsNoted R E 41 lv (.int 0 :: rest) h cells slots) : ev G M_Mo_isAsNoted R E 40 lv rest h cells slots := ev_iconst d_Mo_isAsNoted_40 (by decide) k
theorem d_Mo_isAsNoted_41 : decode prog_10_method_30_code 41 = .ok (.invokevirtual 66, 3) := by decide +kernel
theorem s_Mo_isAsNoted_41 {mc ms : Nat} {P : Option Value → HP → Prop} {a0 : Int32} {a1 : Int32} {b : Nat} {fs : List Value} {v0 : Value} (hm : mt G M_Mo_get 0 mc ms (.ref b :: [.int a0, .int a1]) h P) (hb : h b = mO 7 fs) (hv0 : fs[0]? = some v0) (hR : 0 + 1 ≤ R.frames ∧ 8 + (3 + 11) + 39 * 0 ≤ R.locals) (hcs : cells + mc ≤ R.cells ∧ slots + ms ≤ R.slots) (hrest : (rest.map fun v => v.category).sum ≤ 8) (k : ∀ (r : Option Value) (h' : HP), P r h' → ev G M_Mo_isAsNoted R E 44 lv (r.toList ++ rest) h' (cells + mc) (slots + ms)) : ev G M_Mo_isAsNoted R E 41 lv (.int a1 :: .int a0 :: .ref b :: rest) h cells slots := ev_callV (as := [.int a0, .int a1]) (ci := 7) d_Mo_isAsNoted_41 hm hb hv0 rfl w_816 w_818 w_42 w_70 w_819 hy_Mo_get hR hcs hrest k
theorem d_Mo_isAsNoted_44 : decode prog_10_method_30_code 44 = .ok (.ifCond .eq 47, 3) := by decide +kernel
theorem s_Mo_isAsNoted_44 {x : Int32} (kt : x = 0 → ev G M_Mo_isAsNoted R E 91 lv rest h cells slots) (kf : ¬ x = 0 → ev G M_Mo_isAsNoted R E 47 lv rest h cells slots) : ev G M_Mo_isAsNoted R E 44 lv (.int x :: rest) h cells slots := ev_if_eq d_Mo_isAsNoted_44 (by decide) kt kf
theorem d_Mo_isAsNoted_47 : decode prog_10_method_30_code 47 = .ok (.iload 4, 2) := by decide +kernel
theorem s_Mo_isAsNoted_47 {x : Int32} (hl : lg lv 4 = some (.int x)) (k : ev G M_Mo_isAsNoted R E 49 lv (.int x :: rest) h cells slots) : ev G M_Mo_isAsNoted R E 47 lv rest h cells slots := ev_iload d_Mo_isAsNoted_47 hl k
theorem d_Mo_isAsNoted_49 : decode prog_10_method_30_code 49 = .ok (.ifCond .eq 33, 3) := by decide +kernel
theorem s_Mo_isAsNoted_49 {x : Int32} (kt : x = 0 → ev G M_Mo_isAsNoted R E 82 lv rest h cells slots) (kf : ¬ x = 0 → ev G M_Mo_isAsNoted R E 52 lv rest h cells slots) : ev G M_Mo_isAsNoted R E 49 lv (.int x :: rest) h cells slots := ev_if_eq d_Mo_isAsNoted_49 (by decide) kt kf
theorem d_Mo_isAsNoted_52 : decode prog_10_method_30_code 52 = .ok (.aload_n 0, 1) := by decide +kernel
theorem s_Mo_isAsNoted_52 {x : Nat} (hl : lg lv 0 = some (.ref x)) (k : ev G M_Mo_isAsNoted R E 53 lv (.ref x :: rest) h cells slots) : ev G M_Mo_isAsNoted R E 52 lv rest h cells slots := ev_aload_n d_Mo_isAsNoted_52 rfl hl k
theorem d_Mo_isAsNoted_53 : decode prog_10_method_30_code 53 = .ok (.iload_n 3, 1) := by decide +kernel
theorem s_Mo_isAsNoted_53 {x : Int32} (hl : lg lv 3 = some (.int x)) (k : ev G M_Mo_isAsNoted R E 54 lv (.int x :: rest) h cells slots) : ev G M_Mo_isAsNoted R E 53 lv rest h cells slots := ev_iload_n d_Mo_isAsNoted_53 rfl hl k
theorem d_Mo_isAsNoted_54 : decode prog_10_method_30_code 54 = .ok (.iload 5, 2) := by decide +kernel
theorem s_Mo_isAsNoted_54 {x : Int32} (hl : lg lv 5 = some (.int x)) (k : ev G M_Mo_isAsNoted R E 56 lv (.int x :: rest) h cells slots) : ev G M_Mo_isAsNoted R E 54 lv rest h cells slots := ev_iload d_Mo_isAsNoted_54 hl k
theorem d_Mo_isAsNoted_56 : decode prog_10_method_30_code 56 = .ok (.invokevirtual 66, 3) := by decide +kernel
theorem s_Mo_isAsNoted_56 {mc ms : Nat} {P : Option Value → HP → Prop} {a0 : Int32} {a1 : Int32} {b : Nat} {fs : List Value} {v0 : Value} (hm : mt G M_Mo_get 0 mc ms (.ref b :: [.int a0, .int a1]) h P) (hb : h b = mO 7 fs) (hv0 : fs[0]? = some v0) (hR : 0 + 1 ≤ R.frames ∧ 8 + (3 + 11) + 39 * 0 ≤ R.locals) (hcs : cells + mc ≤ R.cells ∧ slots + ms ≤ R.slots) (hrest : (rest.map fun v => v.category).sum ≤ 8) (k : ∀ (r : Option Value) (h' : HP), P r h' → ev G M_Mo_isAsNoted R E 59 lv (r.toList ++ rest) h' (cells + mc) (slots + ms)) : ev G M_Mo_isAsNoted R E 56 lv (.int a1 :: .int a0 :: .ref b :: rest) h cells slots := ev_callV (as := [.int a0, .int a1]) (ci := 7) d_Mo_isAsNoted_56 hm hb hv0 rfl w_816 w_818 w_42 w_70 w_819 hy_Mo_get hR hcs hrest k
theorem d_Mo_isAsNoted_59 : decode prog_10_method_30_code 59 = .ok (.aload_n 0, 1) := by decide +kernel
theorem s_Mo_isAsNoted_59 {x : Nat} (hl : lg lv 0 = some (.ref x)) (k : ev G M_Mo_isAsNoted R E 60 lv (.ref x :: rest) h cells slots) : ev G M_Mo_isAsNoted R E 59 lv rest h cells slots := ev_aload_n d_Mo_isAsNoted_59 rfl hl k
theorem d_Mo_isAsNoted_60 : decode prog_10_method_30_code 60 = .ok (.getfield 40, 3) := by decide +kernel
theorem s_Mo_isAsNoted_60 {a : Nat} {fs : List Value} {v : Value} (hh : h a = mO 7 fs) (hv : fs[12]? = some v) (k : ev G M_Mo_isAsNoted R E 63 lv (v :: rest) h cells slots) : ev G M_Mo_isAsNoted R E 60 lv (.ref a :: rest) h cells slots := ev_getfield (ci := 7) (kf := 12) d_Mo_isAsNoted_60 rfl ck7 (by decide) w_716 hh hv k
theorem d_Mo_isAsNoted_63 : decode prog_10_method_30_code 63 = .ok (.bipush 35, 2) := by decide +kernel
theorem s_Mo_isAsNoted_63  (k : ev G M_Mo_isAsNoted R E 65 lv (.int 35 :: rest) h cells slots) : ev G M_Mo_isAsNoted R E 63 lv rest h cells slots := ev_bipush d_Mo_isAsNoted_63 (by decide) k
theorem d_Mo_isAsNoted_65 : decode prog_10_method_30_code 65 = .ok (.iload_n 1, 1) := by decide +kernel
theorem s_Mo_isAsNoted_65 {x : Int32} (hl : lg lv 1 = some (.int x)) (k : ev G M_Mo_isAsNoted R E 66 lv (.int x :: rest) h cells slots) : ev G M_Mo_isAsNoted R E 65 lv rest h cells slots := ev_iload_n d_Mo_isAsNoted_65 rfl hl k
theorem d_Mo_isAsNoted_66 : decode prog_10_method_30_code 66 = .ok (.imul, 1) := by decide +kernel
theorem s_Mo_isAsNoted_66 {x y : Int32} (k : ev G M_Mo_isAsNoted R E 67 lv (.int (x * y) :: rest) h cells slots) : ev G M_Mo_isAsNoted R E 66 lv (.int y :: .int x :: rest) h cells slots := ev_imul d_Mo_isAsNoted_66 k
theorem d_Mo_isAsNoted_67 : decode prog_10_method_30_code 67 = .ok (.iconst 5, 1) := by decide +kernel
theorem s_Mo_isAsNoted_67  (k : ev G M_Mo_isAsNoted R E 68 lv (.int 5 :: rest) h cells slots) : ev G M_Mo_isAsNoted R E 67 lv rest h cells slots := ev_iconst d_Mo_isAsNoted_67 (by decide) k
theorem d_Mo_isAsNoted_68 : decode prog_10_method_30_code 68 = .ok (.iload_n 2, 1) := by decide +kernel
theorem s_Mo_isAsNoted_68 {x : Int32} (hl : lg lv 2 = some (.int x)) (k : ev G M_Mo_isAsNoted R E 69 lv (.int x :: rest) h cells slots) : ev G M_Mo_isAsNoted R E 68 lv rest h cells slots := ev_iload_n d_Mo_isAsNoted_68 rfl hl k
theorem d_Mo_isAsNoted_69 : decode prog_10_method_30_code 69 = .ok (.imul, 1) := by decide +kernel
theorem s_Mo_isAsNoted_69 {x y : Int32} (k : ev G M_Mo_isAsNoted R E 70 lv (.int (x * y) :: rest) h cells slots) : ev G M_Mo_isAsNoted R E 69 lv (.int y :: .int x :: rest) h cells slots := ev_imul d_Mo_isAsNoted_69 k
theorem d_Mo_isAsNoted_70 : decode prog_10_method_30_code 70 = .ok (.iadd, 1) := by decide +kernel
theorem s_Mo_isAsNoted_70 {x y : Int32} (k : ev G M_Mo_isAsNoted R E 71 lv (.int (x + y) :: rest) h cells slots) : ev G M_Mo_isAsNoted R E 70 lv (.int y :: .int x :: rest) h cells slots := ev_iadd d_Mo_isAsNoted_70 k
theorem d_Mo_isAsNoted_71 : decode prog_10_method_30_code 71 = .ok (.iload 5, 2) := by decide +kernel
theorem s_Mo_isAsNoted_71 {x : Int32} (hl : lg lv 5 = some (.int x)) (k : ev G M_Mo_isAsNoted R E 73 lv (.int x :: rest) h cells slots) : ev G M_Mo_isAsNoted R E 71 lv rest h cells slots := ev_iload d_Mo_isAsNoted_71 hl k
theorem d_Mo_isAsNoted_73 : decode prog_10_method_30_code 73 = .ok (.iadd, 1) := by decide +kernel
theorem s_Mo_isAsNoted_73 {x y : Int32} (k : ev G M_Mo_isAsNoted R E 74 lv (.int (x + y) :: rest) h cells slots) : ev G M_Mo_isAsNoted R E 73 lv (.int y :: .int x :: rest) h cells slots := ev_iadd d_Mo_isAsNoted_73 k
theorem d_Mo_isAsNoted_74 : decode prog_10_method_30_code 74 = .ok (.iaload, 1) := by decide +kernel
theorem s_Mo_isAsNoted_74 {a n : Nat} {f : Nat → Int32} {i : Int32} (hh : h a = mI 0 n f) (hin : vp_in i n) (k : ev G M_Mo_isAsNoted R E 75 lv (.int (f i.toNatClampNeg) :: rest) h cells slots) : ev G M_Mo_isAsNoted R E 74 lv (.int i :: .ref a :: rest) h cells slots := ev_iaload d_Mo_isAsNoted_74 rfl hh hin k
theorem d_Mo_isAsNoted_75 : decode prog_10_method_30_code 75 = .ok (.if_icmp .ne 7, 3) := by decide +kernel
theorem s_Mo_isAsNoted_75 {x y : Int32} (kt : ¬ x = y → ev G M_Mo_isAsNoted R E 82 lv rest h cells slots) (kf : x = y → ev G M_Mo_isAsNoted R E 78 lv rest h cells slots) : ev G M_Mo_isAsNoted R E 75 lv (.int y :: .int x :: rest) h cells slots := ev_icmp_ne d_Mo_isAsNoted_75 (by decide) kt kf
theorem d_Mo_isAsNoted_78 : decode prog_10_method_30_code 78 = .ok (.iconst 1, 1) := by decide +kernel
theorem s_Mo_isAsNoted_78  (k : ev G M_Mo_isAsNoted R E 79 lv (.int 1 :: rest) h cells slots) : ev G M_Mo_isAsNoted R E 78 lv rest h cells slots := ev_iconst d_Mo_isAsNoted_78 (by decide) k
theorem d_Mo_isAsNoted_79 : decode prog_10_method_30_code 79 = .ok (.goto 4, 3) := by decide +kernel
theorem s_Mo_isAsNoted_79  (k : ev G M_Mo_isAsNoted R E 83 lv rest h cells slots) : ev G M_Mo_isAsNoted R E 79 lv rest h cells slots := ev_goto d_Mo_isAsNoted_79 (by decide) k
theorem d_Mo_isAsNoted_82 : decode prog_10_method_30_code 82 = .ok (.iconst 0, 1) := by decide +kernel
theorem s_Mo_isAsNoted_82  (k : ev G M_Mo_isAsNoted R E 83 lv (.int 0 :: rest) h cells slots) : ev G M_Mo_isAsNoted R E 82 lv rest h cells slots := ev_iconst d_Mo_isAsNoted_82 (by decide) k
theorem d_Mo_isAsNoted_83 : decode prog_10_method_30_code 83 = .ok (.istore 4, 2) := by decide +kernel
theorem s_Mo_isAsNoted_83 {x : Int32} (k : ev G M_Mo_isAsNoted R E 85 (ls1 lv 4 (.int x)) rest h cells slots) : ev G M_Mo_isAsNoted R E 83 lv (.int x :: rest) h cells slots := ev_istore d_Mo_isAsNoted_83 (by decide) k
theorem d_Mo_isAsNoted_85 : decode prog_10_method_30_code 85 = .ok (.iinc 5 1, 3) := by decide +kernel
theorem s_Mo_isAsNoted_85 {x : Int32} (hl : lg lv 5 = some (.int x)) (k : ev G M_Mo_isAsNoted R E 88 (ls1 lv 5 (.int (x + 1))) rest h cells slots) : ev G M_Mo_isAsNoted R E 85 lv rest h cells slots := ev_iinc d_Mo_isAsNoted_85 (by decide) hl (by decide) k
theorem d_Mo_isAsNoted_88 : decode prog_10_method_30_code 88 = .ok (.goto (-56), 3) := by decide +kernel
theorem s_Mo_isAsNoted_88  (k : ev G M_Mo_isAsNoted R E 32 lv rest h cells slots) : ev G M_Mo_isAsNoted R E 88 lv rest h cells slots := ev_goto d_Mo_isAsNoted_88 (by decide) k
theorem d_Mo_isAsNoted_91 : decode prog_10_method_30_code 91 = .ok (.iload 4, 2) := by decide +kernel
theorem s_Mo_isAsNoted_91 {x : Int32} (hl : lg lv 4 = some (.int x)) (k : ev G M_Mo_isAsNoted R E 93 lv (.int x :: rest) h cells slots) : ev G M_Mo_isAsNoted R E 91 lv rest h cells slots := ev_iload d_Mo_isAsNoted_91 hl k
theorem d_Mo_isAsNoted_93 : decode prog_10_method_30_code 93 = .ok (.ireturn, 1) := by decide +kernel
theorem s_Mo_isAsNoted_93 {P : Option Value → HP → Prop} {mc ms : Nat} {v : Int32} (hz : v = 0 ∨ v = 1) (hP : P (some (.int v)) h) (hc : cells ≤ mc ∧ slots ≤ ms) : ev G M_Mo_isAsNoted R (Er M_Mo_isAsNoted P mc ms) 93 lv [.int v] h cells slots := ev_exit ⟨hc.1, hc.2, Or.inr (Or.inl ⟨v, .boolean, rfl, (nar_z hz), d_Mo_isAsNoted_93, rfl, hP⟩)⟩
abbrev M_Mo_isLent : MW := (⟨"UseOnceMachineModel", "isLent", "(III)Z"⟩, prog_10_method_28_code, 4, (some .boolean))
theorem hy_Mo_isLent : M_Mo_isLent.1.cls ≠ "java/lang/invoke/MethodHandle" ∧ M_Mo_isLent.1.cls ≠ "java/lang/invoke/VarHandle" ∧ (parseMethodDescriptor M_Mo_isLent.1.desc).map (fun d => d.parameters.length) = some 3 := by decide +kernel
theorem d_Mo_isLent_0 : decode prog_10_method_28_code 0 = .ok (.iload_n 2, 1) := by decide +kernel
theorem s_Mo_isLent_0 {x : Int32} (hl : lg lv 2 = some (.int x)) (k : ev G M_Mo_isLent R E 1 lv (.int x :: rest) h cells slots) : ev G M_Mo_isLent R E 0 lv rest h cells slots := ev_iload_n d_Mo_isLent_0 rfl hl k
theorem d_Mo_isLent_1 : decode prog_10_method_28_code 1 = .ok (.iload_n 3, 1) := by decide +kernel
theorem s_Mo_isLent_1 {x : Int32} (hl : lg lv 3 = some (.int x)) (k : ev G M_Mo_isLent R E 2 lv (.int x :: rest) h cells slots) : ev G M_Mo_isLent R E 1 lv rest h cells slots := ev_iload_n d_Mo_isLent_1 rfl hl k
theorem d_Mo_isLent_2 : decode prog_10_method_28_code 2 = .ok (.if_icmp .gt 23, 3) := by decide +kernel
theorem s_Mo_isLent_2 {x y : Int32} (kt : y < x → ev G M_Mo_isLent R E 25 lv rest h cells slots) (kf : ¬ y < x → ev G M_Mo_isLent R E 5 lv rest h cells slots) : ev G M_Mo_isLent R E 2 lv (.int y :: .int x :: rest) h cells slots := ev_icmp_gt d_Mo_isLent_2 (by decide) kt kf
theorem d_Mo_isLent_5 : decode prog_10_method_28_code 5 = .ok (.aload_n 0, 1) := by decide +kernel
theorem s_Mo_isLent_5 {x : Nat} (hl : lg lv 0 = some (.ref x)) (k : ev G M_Mo_isLent R E 6 lv (.ref x :: rest) h cells slots) : ev G M_Mo_isLent R E 5 lv rest h cells slots := ev_aload_n d_Mo_isLent_5 rfl hl k
theorem d_Mo_isLent_6 : decode prog_10_method_28_code 6 = .ok (.getfield 34, 3) := by decide +kernel
theorem s_Mo_isLent_6 {a : Nat} {fs : List Value} {v : Value} (hh : h a = mO 7 fs) (hv : fs[9]? = some v) (k : ev G M_Mo_isLent R E 9 lv (v :: rest) h cells slots) : ev G M_Mo_isLent R E 6 lv (.ref a :: rest) h cells slots := ev_getfield (ci := 7) (kf := 9) d_Mo_isLent_6 rfl ck7 (by decide) w_713 hh hv k
theorem d_Mo_isLent_9 : decode prog_10_method_28_code 9 = .ok (.iload_n 1, 1) := by decide +kernel
theorem s_Mo_isLent_9 {x : Int32} (hl : lg lv 1 = some (.int x)) (k : ev G M_Mo_isLent R E 10 lv (.int x :: rest) h cells slots) : ev G M_Mo_isLent R E 9 lv rest h cells slots := ev_iload_n d_Mo_isLent_9 rfl hl k
theorem d_Mo_isLent_10 : decode prog_10_method_28_code 10 = .ok (.iaload, 1) := by decide +kernel
theorem s_Mo_isLent_10 {a n : Nat} {f : Nat → Int32} {i : Int32} (hh : h a = mI 0 n f) (hin : vp_in i n) (k : ev G M_Mo_isLent R E 11 lv (.int (f i.toNatClampNeg) :: rest) h cells slots) : ev G M_Mo_isLent R E 10 lv (.int i :: .ref a :: rest) h cells slots := ev_iaload d_Mo_isLent_10 rfl hh hin k
theorem d_Mo_isLent_11 : decode prog_10_method_28_code 11 = .ok (.iload_n 2, 1) := by decide +kernel
theorem s_Mo_isLent_11 {x : Int32} (hl : lg lv 2 = some (.int x)) (k : ev G M_Mo_isLent R E 12 lv (.int x :: rest) h cells slots) : ev G M_Mo_isLent R E 11 lv rest h cells slots := ev_iload_n d_Mo_isLent_11 rfl hl k
theorem d_Mo_isLent_12 : decode prog_10_method_28_code 12 = .ok (.iconst 1, 1) := by decide +kernel
theorem s_Mo_isLent_12  (k : ev G M_Mo_isLent R E 13 lv (.int 1 :: rest) h cells slots) : ev G M_Mo_isLent R E 12 lv rest h cells slots := ev_iconst d_Mo_isLent_12 (by decide) k
theorem d_Mo_isLent_13 : decode prog_10_method_28_code 13 = .ok (.isub, 1) := by decide +kernel
theorem s_Mo_isLent_13 {x y : Int32} (k : ev G M_Mo_isLent R E 14 lv (.int (x - y) :: rest) h cells slots) : ev G M_Mo_isLent R E 13 lv (.int y :: .int x :: rest) h cells slots := ev_isub d_Mo_isLent_13 k
theorem d_Mo_isLent_14 : decode prog_10_method_28_code 14 = .ok (.ishr, 1) := by decide +kernel
theorem s_Mo_isLent_14 {x y : Int32} (k : ev G M_Mo_isLent R E 15 lv (.int (x >>> (y &&& 31)) :: rest) h cells slots) : ev G M_Mo_isLent R E 14 lv (.int y :: .int x :: rest) h cells slots := ev_ishr d_Mo_isLent_14 k
theorem d_Mo_isLent_15 : decode prog_10_method_28_code 15 = .ok (.iconst 1, 1) := by decide +kernel
theorem s_Mo_isLent_15  (k : ev G M_Mo_isLent R E 16 lv (.int 1 :: rest) h cells slots) : ev G M_Mo_isLent R E 15 lv rest h cells slots := ev_iconst d_Mo_isLent_15 (by decide) k
theorem d_Mo_isLent_16 : decode prog_10_method_28_code 16 = .ok (.iand, 1) := by decide +kernel
theorem s_Mo_isLent_16 {x y : Int32} (k : ev G M_Mo_isLent R E 17 lv (.int (x &&& y) :: rest) h cells slots) : ev G M_Mo_isLent R E 16 lv (.int y :: .int x :: rest) h cells slots := ev_iand d_Mo_isLent_16 k
theorem d_Mo_isLent_17 : decode prog_10_method_28_code 17 = .ok (.iconst 1, 1) := by decide +kernel
theorem s_Mo_isLent_17  (k : ev G M_Mo_isLent R E 18 lv (.int 1 :: rest) h cells slots) : ev G M_Mo_isLent R E 17 lv rest h cells slots := ev_iconst d_Mo_isLent_17 (by decide) k
theorem d_Mo_isLent_18 : decode prog_10_method_28_code 18 = .ok (.if_icmp .ne 7, 3) := by decide +kernel
theorem s_Mo_isLent_18 {x y : Int32} (kt : ¬ x = y → ev G M_Mo_isLent R E 25 lv rest h cells slots) (kf : x = y → ev G M_Mo_isLent R E 21 lv rest h cells slots) : ev G M_Mo_isLent R E 18 lv (.int y :: .int x :: rest) h cells slots := ev_icmp_ne d_Mo_isLent_18 (by decide) kt kf
theorem d_Mo_isLent_21 : decode prog_10_method_28_code 21 = .ok (.iconst 1, 1) := by decide +kernel
theorem s_Mo_isLent_21  (k : ev G M_Mo_isLent R E 22 lv (.int 1 :: rest) h cells slots) : ev G M_Mo_isLent R E 21 lv rest h cells slots := ev_iconst d_Mo_isLent_21 (by decide) k
theorem d_Mo_isLent_22 : decode prog_10_method_28_code 22 = .ok (.goto 4, 3) := by decide +kernel
theorem s_Mo_isLent_22  (k : ev G M_Mo_isLent R E 26 lv rest h cells slots) : ev G M_Mo_isLent R E 22 lv rest h cells slots := ev_goto d_Mo_isLent_22 (by decide) k
theorem d_Mo_isLent_25 : decode prog_10_method_28_code 25 = .ok (.iconst 0, 1) := by decide +kernel
theorem s_Mo_isLent_25  (k : ev G M_Mo_isLent R E 26 lv (.int 0 :: rest) h cells slots) : ev G M_Mo_isLent R E 25 lv rest h cells slots := ev_iconst d_Mo_isLent_25 (by decide) k
theorem d_Mo_isLent_26 : decode prog_10_method_28_code 26 = .ok (.ireturn, 1) := by decide +kernel
theorem s_Mo_isLent_26 {P : Option Value → HP → Prop} {mc ms : Nat} {v : Int32} (hz : v = 0 ∨ v = 1) (hP : P (some (.int v)) h) (hc : cells ≤ mc ∧ slots ≤ ms) : ev G M_Mo_isLent R (Er M_Mo_isLent P mc ms) 26 lv [.int v] h cells slots := ev_exit ⟨hc.1, hc.2, Or.inr (Or.inl ⟨v, .boolean, rfl, (nar_z hz), d_Mo_isLent_26, rfl, hP⟩)⟩
abbrev M_Mo_comeBack : MW := (⟨"UseOnceMachineModel", "comeBack", "()I"⟩, prog_10_method_31_code, 6, (some .int))
theorem hy_Mo_comeBack : M_Mo_comeBack.1.cls ≠ "java/lang/invoke/MethodHandle" ∧ M_Mo_comeBack.1.cls ≠ "java/lang/invoke/VarHandle" ∧ (parseMethodDescriptor M_Mo_comeBack.1.desc).map (fun d => d.parameters.length) = some 0 := by decide +kernel
theorem d_Mo_comeBack_0 : decode prog_10_method_31_code 0 = .ok (.aload_n 0, 1) := by decide +kernel
theorem s_Mo_comeBack_0 {x : Nat} (hl : lg lv 0 = some (.ref x)) (k : ev G M_Mo_comeBack R E 1 lv (.ref x :: rest) h cells slots) : ev G M_Mo_comeBack R E 0 lv rest h cells slots := ev_aload_n d_Mo_comeBack_0 rfl hl k
theorem d_Mo_comeBack_1 : decode prog_10_method_31_code 1 = .ok (.getfield 78, 3) := by decide +kernel
theorem s_Mo_comeBack_1 {a : Nat} {fs : List Value} {v : Value} (hh : h a = mO 7 fs) (hv : fs[10]? = some v) (k : ev G M_Mo_comeBack R E 4 lv (v :: rest) h cells slots) : ev G M_Mo_comeBack R E 1 lv (.ref a :: rest) h cells slots := ev_getfield (ci := 7) (kf := 10) d_Mo_comeBack_1 rfl ck7 (by decide) w_714 hh hv k
theorem d_Mo_comeBack_4 : decode prog_10_method_31_code 4 = .ok (.ifCond .eq 11, 3) := by decide +kernel
theorem s_Mo_comeBack_4 {x : Int32} (kt : x = 0 → ev G M_Mo_comeBack R E 15 lv rest h cells slots) (kf : ¬ x = 0 → ev G M_Mo_comeBack R E 7 lv rest h cells slots) : ev G M_Mo_comeBack R E 4 lv (.int x :: rest) h cells slots := ev_if_eq d_Mo_comeBack_4 (by decide) kt kf
theorem d_Mo_comeBack_7 : decode prog_10_method_31_code 7 = .ok (.aload_n 0, 1) := by decide +kernel
theorem s_Mo_comeBack_7 {x : Nat} (hl : lg lv 0 = some (.ref x)) (k : ev G M_Mo_comeBack R E 8 lv (.ref x :: rest) h cells slots) : ev G M_Mo_comeBack R E 7 lv rest h cells slots := ev_aload_n d_Mo_comeBack_7 rfl hl k
theorem d_Mo_comeBack_8 : decode prog_10_method_31_code 8 = .ok (.iconst 0, 1) := by decide +kernel
theorem s_Mo_comeBack_8  (k : ev G M_Mo_comeBack R E 9 lv (.int 0 :: rest) h cells slots) : ev G M_Mo_comeBack R E 8 lv rest h cells slots := ev_iconst d_Mo_comeBack_8 (by decide) k
theorem d_Mo_comeBack_9 : decode prog_10_method_31_code 9 = .ok (.invokevirtual 130, 3) := by decide +kernel
theorem s_Mo_comeBack_9 {mc ms : Nat} {P : Option Value → HP → Prop} {a0 : Int32} {b : Nat} {fs : List Value} {v0 : Value} (hm : mt G M_Mo_isNumber 1 mc ms (.ref b :: [.int a0]) h P) (hb : h b = mO 7 fs) (hv0 : fs[0]? = some v0) (hR : 1 + 1 ≤ R.frames ∧ 8 + (2 + 11) + 39 * 1 ≤ R.locals) (hcs : cells + mc ≤ R.cells ∧ slots + ms ≤ R.slots) (hrest : (rest.map fun v => v.category).sum ≤ 8) (k : ∀ (r : Option Value) (h' : HP), P r h' → ev G M_Mo_comeBack R E 12 lv (r.toList ++ rest) h' (cells + mc) (slots + ms)) : ev G M_Mo_comeBack R E 9 lv (.int a0 :: .ref b :: rest) h cells slots := ev_callV (as := [.int a0]) (ci := 7) d_Mo_comeBack_9 hm hb hv0 rfl w_800 w_802 w_38 w_70 w_803 hy_Mo_isNumber hR hcs hrest k
theorem d_Mo_comeBack_12 : decode prog_10_method_31_code 12 = .ok (.ifCond .ne 6, 3) := by decide +kernel
theorem s_Mo_comeBack_12 {x : Int32} (kt : ¬ x = 0 → ev G M_Mo_comeBack R E 18 lv rest h cells slots) (kf : x = 0 → ev G M_Mo_comeBack R E 15 lv rest h cells slots) : ev G M_Mo_comeBack R E 12 lv (.int x :: rest) h cells slots := ev_if_ne d_Mo_comeBack_12 (by decide) kt kf
theorem d_Mo_comeBack_15 : decode prog_10_method_31_code 15 = .ok (.bipush 8, 2) := by decide +kernel
theorem s_Mo_comeBack_15  (k : ev G M_Mo_comeBack R E 17 lv (.int 8 :: rest) h cells slots) : ev G M_Mo_comeBack R E 15 lv rest h cells slots := ev_bipush d_Mo_comeBack_15 (by decide) k
theorem d_Mo_comeBack_17 : decode prog_10_method_31_code 17 = .ok (.ireturn, 1) := by decide +kernel
theorem s_Mo_comeBack_17 {P : Option Value → HP → Prop} {mc ms : Nat} {v : Int32} (hP : P (some (.int v)) h) (hc : cells ≤ mc ∧ slots ≤ ms) : ev G M_Mo_comeBack R (Er M_Mo_comeBack P mc ms) 17 lv [.int v] h cells slots := ev_exit ⟨hc.1, hc.2, Or.inr (Or.inl ⟨v, .int, rfl, rfl, d_Mo_comeBack_17, rfl, hP⟩)⟩
theorem d_Mo_comeBack_18 : decode prog_10_method_31_code 18 = .ok (.aload_n 0, 1) := by decide +kernel
theorem s_Mo_comeBack_18 {x : Nat} (hl : lg lv 0 = some (.ref x)) (k : ev G M_Mo_comeBack R E 19 lv (.ref x :: rest) h cells slots) : ev G M_Mo_comeBack R E 18 lv rest h cells slots := ev_aload_n d_Mo_comeBack_18 rfl hl k
theorem d_Mo_comeBack_19 : decode prog_10_method_31_code 19 = .ok (.getfield 78, 3) := by decide +kernel
theorem s_Mo_comeBack_19 {a : Nat} {fs : List Value} {v : Value} (hh : h a = mO 7 fs) (hv : fs[10]? = some v) (k : ev G M_Mo_comeBack R E 22 lv (v :: rest) h cells slots) : ev G M_Mo_comeBack R E 19 lv (.ref a :: rest) h cells slots := ev_getfield (ci := 7) (kf := 10) d_Mo_comeBack_19 rfl ck7 (by decide) w_714 hh hv k
theorem d_Mo_comeBack_22 : decode prog_10_method_31_code 22 = .ok (.iconst 1, 1) := by decide +kernel
theorem s_Mo_comeBack_22  (k : ev G M_Mo_comeBack R E 23 lv (.int 1 :: rest) h cells slots) : ev G M_Mo_comeBack R E 22 lv rest h cells slots := ev_iconst d_Mo_comeBack_22 (by decide) k
theorem d_Mo_comeBack_23 : decode prog_10_method_31_code 23 = .ok (.isub, 1) := by decide +kernel
theorem s_Mo_comeBack_23 {x y : Int32} (k : ev G M_Mo_comeBack R E 24 lv (.int (x - y) :: rest) h cells slots) : ev G M_Mo_comeBack R E 23 lv (.int y :: .int x :: rest) h cells slots := ev_isub d_Mo_comeBack_23 k
theorem d_Mo_comeBack_24 : decode prog_10_method_31_code 24 = .ok (.istore_n 1, 1) := by decide +kernel
theorem s_Mo_comeBack_24 {x : Int32} (k : ev G M_Mo_comeBack R E 25 (ls1 lv 1 (.int x)) rest h cells slots) : ev G M_Mo_comeBack R E 24 lv (.int x :: rest) h cells slots := ev_istore_n d_Mo_comeBack_24 rfl (by decide) k
theorem d_Mo_comeBack_25 : decode prog_10_method_31_code 25 = .ok (.aload_n 0, 1) := by decide +kernel
theorem s_Mo_comeBack_25 {x : Nat} (hl : lg lv 0 = some (.ref x)) (k : ev G M_Mo_comeBack R E 26 lv (.ref x :: rest) h cells slots) : ev G M_Mo_comeBack R E 25 lv rest h cells slots := ev_aload_n d_Mo_comeBack_25 rfl hl k
theorem d_Mo_comeBack_26 : decode prog_10_method_31_code 26 = .ok (.getfield 37, 3) := by decide +kernel
theorem s_Mo_comeBack_26 {a : Nat} {fs : List Value} {v : Value} (hh : h a = mO 7 fs) (hv : fs[11]? = some v) (k : ev G M_Mo_comeBack R E 29 lv (v :: rest) h cells slots) : ev G M_Mo_comeBack R E 26 lv (.ref a :: rest) h cells slots := ev_getfield (ci := 7) (kf := 11) d_Mo_comeBack_26 rfl ck7 (by decide) w_715 hh hv k
theorem d_Mo_comeBack_29 : decode prog_10_method_31_code 29 = .ok (.iconst 4, 1) := by decide +kernel
theorem s_Mo_comeBack_29  (k : ev G M_Mo_comeBack R E 30 lv (.int 4 :: rest) h cells slots) : ev G M_Mo_comeBack R E 29 lv rest h cells slots := ev_iconst d_Mo_comeBack_29 (by decide) k
theorem d_Mo_comeBack_30 : decode prog_10_method_31_code 30 = .ok (.iload_n 1, 1) := by decide +kernel
theorem s_Mo_comeBack_30 {x : Int32} (hl : lg lv 1 = some (.int x)) (k : ev G M_Mo_comeBack R E 31 lv (.int x :: rest) h cells slots) : ev G M_Mo_comeBack R E 30 lv rest h cells slots := ev_iload_n d_Mo_comeBack_30 rfl hl k
theorem d_Mo_comeBack_31 : decode prog_10_method_31_code 31 = .ok (.imul, 1) := by decide +kernel
theorem s_Mo_comeBack_31 {x y : Int32} (k : ev G M_Mo_comeBack R E 32 lv (.int (x * y) :: rest) h cells slots) : ev G M_Mo_comeBack R E 31 lv (.int y :: .int x :: rest) h cells slots := ev_imul d_Mo_comeBack_31 k
theorem d_Mo_comeBack_32 : decode prog_10_method_31_code 32 = .ok (.iconst 2, 1) := by decide +kernel
theorem s_Mo_comeBack_32  (k : ev G M_Mo_comeBack R E 33 lv (.int 2 :: rest) h cells slots) : ev G M_Mo_comeBack R E 32 lv rest h cells slots := ev_iconst d_Mo_comeBack_32 (by decide) k
theorem d_Mo_comeBack_33 : decode prog_10_method_31_code 33 = .ok (.iadd, 1) := by decide +kernel
theorem s_Mo_comeBack_33 {x y : Int32} (k : ev G M_Mo_comeBack R E 34 lv (.int (x + y) :: rest) h cells slots) : ev G M_Mo_comeBack R E 33 lv (.int y :: .int x :: rest) h cells slots := ev_iadd d_Mo_comeBack_33 k
theorem d_Mo_comeBack_34 : decode prog_10_method_31_code 34 = .ok (.iaload, 1) := by decide +kernel
theorem s_Mo_comeBack_34 {a n : Nat} {f : Nat → Int32} {i : Int32} (hh : h a = mI 0 n f) (hin : vp_in i n) (k : ev G M_Mo_comeBack R E 35 lv (.int (f i.toNatClampNeg) :: rest) h cells slots) : ev G M_Mo_comeBack R E 34 lv (.int i :: .ref a :: rest) h cells slots := ev_iaload d_Mo_comeBack_34 rfl hh hin k
theorem d_Mo_comeBack_35 : decode prog_10_method_31_code 35 = .ok (.istore_n 2, 1) := by decide +kernel
theorem s_Mo_comeBack_35 {x : Int32} (k : ev G M_Mo_comeBack R E 36 (ls1 lv 2 (.int x)) rest h cells slots) : ev G M_Mo_comeBack R E 35 lv (.int x :: rest) h cells slots := ev_istore_n d_Mo_comeBack_35 rfl (by decide) k
theorem d_Mo_comeBack_36 : decode prog_10_method_31_code 36 = .ok (.aload_n 0, 1) := by decide +kernel
theorem s_Mo_comeBack_36 {x : Nat} (hl : lg lv 0 = some (.ref x)) (k : ev G M_Mo_comeBack R E 37 lv (.ref x :: rest) h cells slots) : ev G M_Mo_comeBack R E 36 lv rest h cells slots := ev_aload_n d_Mo_comeBack_36 rfl hl k
theorem d_Mo_comeBack_37 : decode prog_10_method_31_code 37 = .ok (.getfield 37, 3) := by decide +kernel
theorem s_Mo_comeBack_37 {a : Nat} {fs : List Value} {v : Value} (hh : h a = mO 7 fs) (hv : fs[11]? = some v) (k : ev G M_Mo_comeBack R E 40 lv (v :: rest) h cells slots) : ev G M_Mo_comeBack R E 37 lv (.ref a :: rest) h cells slots := ev_getfield (ci := 7) (kf := 11) d_Mo_comeBack_37 rfl ck7 (by decide) w_715 hh hv k
theorem d_Mo_comeBack_40 : decode prog_10_method_31_code 40 = .ok (.iconst 4, 1) := by decide +kernel
theorem s_Mo_comeBack_40  (k : ev G M_Mo_comeBack R E 41 lv (.int 4 :: rest) h cells slots) : ev G M_Mo_comeBack R E 40 lv rest h cells slots := ev_iconst d_Mo_comeBack_40 (by decide) k
theorem d_Mo_comeBack_41 : decode prog_10_method_31_code 41 = .ok (.iload_n 1, 1) := by decide +kernel
theorem s_Mo_comeBack_41 {x : Int32} (hl : lg lv 1 = some (.int x)) (k : ev G M_Mo_comeBack R E 42 lv (.int x :: rest) h cells slots) : ev G M_Mo_comeBack R E 41 lv rest h cells slots := ev_iload_n d_Mo_comeBack_41 rfl hl k
theorem d_Mo_comeBack_42 : decode prog_10_method_31_code 42 = .ok (.imul, 1) := by decide +kernel
theorem s_Mo_comeBack_42 {x y : Int32} (k : ev G M_Mo_comeBack R E 43 lv (.int (x * y) :: rest) h cells slots) : ev G M_Mo_comeBack R E 42 lv (.int y :: .int x :: rest) h cells slots := ev_imul d_Mo_comeBack_42 k
theorem d_Mo_comeBack_43 : decode prog_10_method_31_code 43 = .ok (.iconst 3, 1) := by decide +kernel
theorem s_Mo_comeBack_43  (k : ev G M_Mo_comeBack R E 44 lv (.int 3 :: rest) h cells slots) : ev G M_Mo_comeBack R E 43 lv rest h cells slots := ev_iconst d_Mo_comeBack_43 (by decide) k
theorem d_Mo_comeBack_44 : decode prog_10_method_31_code 44 = .ok (.iadd, 1) := by decide +kernel
theorem s_Mo_comeBack_44 {x y : Int32} (k : ev G M_Mo_comeBack R E 45 lv (.int (x + y) :: rest) h cells slots) : ev G M_Mo_comeBack R E 44 lv (.int y :: .int x :: rest) h cells slots := ev_iadd d_Mo_comeBack_44 k
theorem d_Mo_comeBack_45 : decode prog_10_method_31_code 45 = .ok (.iaload, 1) := by decide +kernel
theorem s_Mo_comeBack_45 {a n : Nat} {f : Nat → Int32} {i : Int32} (hh : h a = mI 0 n f) (hin : vp_in i n) (k : ev G M_Mo_comeBack R E 46 lv (.int (f i.toNatClampNeg) :: rest) h cells slots) : ev G M_Mo_comeBack R E 45 lv (.int i :: .ref a :: rest) h cells slots := ev_iaload d_Mo_comeBack_45 rfl hh hin k
theorem d_Mo_comeBack_46 : decode prog_10_method_31_code 46 = .ok (.istore_n 3, 1) := by decide +kernel
theorem s_Mo_comeBack_46 {x : Int32} (k : ev G M_Mo_comeBack R E 47 (ls1 lv 3 (.int x)) rest h cells slots) : ev G M_Mo_comeBack R E 46 lv (.int x :: rest) h cells slots := ev_istore_n d_Mo_comeBack_46 rfl (by decide) k
theorem d_Mo_comeBack_47 : decode prog_10_method_31_code 47 = .ok (.aload_n 0, 1) := by decide +kernel
theorem s_Mo_comeBack_47 {x : Nat} (hl : lg lv 0 = some (.ref x)) (k : ev G M_Mo_comeBack R E 48 lv (.ref x :: rest) h cells slots) : ev G M_Mo_comeBack R E 47 lv rest h cells slots := ev_aload_n d_Mo_comeBack_47 rfl hl k
theorem d_Mo_comeBack_48 : decode prog_10_method_31_code 48 = .ok (.iload_n 1, 1) := by decide +kernel
theorem s_Mo_comeBack_48 {x : Int32} (hl : lg lv 1 = some (.int x)) (k : ev G M_Mo_comeBack R E 49 lv (.int x :: rest) h cells slots) : ev G M_Mo_comeBack R E 48 lv rest h cells slots := ev_iload_n d_Mo_comeBack_48 rfl hl k
theorem d_Mo_comeBack_49 : decode prog_10_method_31_code 49 = .ok (.iconst 0, 1) := by decide +kernel
theorem s_Mo_comeBack_49  (k : ev G M_Mo_comeBack R E 50 lv (.int 0 :: rest) h cells slots) : ev G M_Mo_comeBack R E 49 lv rest h cells slots := ev_iconst d_Mo_comeBack_49 (by decide) k
theorem d_Mo_comeBack_50 : decode prog_10_method_31_code 50 = .ok (.bipush 7, 2) := by decide +kernel
theorem s_Mo_comeBack_50  (k : ev G M_Mo_comeBack R E 52 lv (.int 7 :: rest) h cells slots) : ev G M_Mo_comeBack R E 50 lv rest h cells slots := ev_bipush d_Mo_comeBack_50 (by decide) k
theorem d_Mo_comeBack_52 : decode prog_10_method_31_code 52 = .ok (.invokevirtual 157, 3) := by decide +kernel
theorem s_Mo_comeBack_52 {mc ms : Nat} {P : Option Value → HP → Prop} {a0 : Int32} {a1 : Int32} {a2 : Int32} {b : Nat} {fs : List Value} {v0 : Value} (hm : mt G M_Mo_isAsNoted 1 mc ms (.ref b :: [.int a0, .int a1, .int a2]) h P) (hb : h b = mO 7 fs) (hv0 : fs[0]? = some v0) (hR : 1 + 1 ≤ R.frames ∧ 8 + (6 + 11) + 39 * 1 ≤ R.locals) (hcs : cells + mc ≤ R.cells ∧ slots + ms ≤ R.slots) (hrest : (rest.map fun v => v.category).sum ≤ 8) (k : ∀ (r : Option Value) (h' : HP), P r h' → ev G M_Mo_comeBack R E 55 lv (r.toList ++ rest) h' (cells + mc) (slots + ms)) : ev G M_Mo_comeBack R E 52 lv (.int a2 :: .int a1 :: .int a0 :: .ref b :: rest) h cells slots := ev_callV (as := [.int a0, .int a1, .int a2]) (ci := 7) d_Mo_comeBack_52 hm hb hv0 rfl w_872 w_874 w_56 w_70 w_875 hy_Mo_isAsNoted hR hcs hrest k
theorem d_Mo_comeBack_55 : decode prog_10_method_31_code 55 = .ok (.istore 4, 2) := by decide +kernel
theorem s_Mo_comeBack_55 {x : Int32} (k : ev G M_Mo_comeBack R E 57 (ls1 lv 4 (.int x)) rest h cells slots) : ev G M_Mo_comeBack R E 55 lv (.int x :: rest) h cells slots := ev_istore d_Mo_comeBack_55 (by decide) k
theorem d_Mo_comeBack_57 : decode prog_10_method_31_code 57 = .ok (.iconst 1, 1) := by decide +kernel
theorem s_Mo_comeBack_57  (k : ev G M_Mo_comeBack R E 58 lv (.int 1 :: rest) h cells slots) : ev G M_Mo_comeBack R E 57 lv rest h cells slots := ev_iconst d_Mo_comeBack_57 (by decide) k
theorem d_Mo_comeBack_58 : decode prog_10_method_31_code 58 = .ok (.istore 5, 2) := by decide +kernel
theorem s_Mo_comeBack_58 {x : Int32} (k : ev G M_Mo_comeBack R E 60 (ls1 lv 5 (.int x)) rest h cells slots) : ev G M_Mo_comeBack R E 58 lv (.int x :: rest) h cells slots := ev_istore d_Mo_comeBack_58 (by decide) k
theorem d_Mo_comeBack_60 : decode prog_10_method_31_code 60 = .ok (.iload 5, 2) := by decide +kernel
theorem s_Mo_comeBack_60 {x : Int32} (hl : lg lv 5 = some (.int x)) (k : ev G M_Mo_comeBack R E 62 lv (.int x :: rest) h cells slots) : ev G M_Mo_comeBack R E 60 lv rest h cells slots := ev_iload d_Mo_comeBack_60 hl k
theorem d_Mo_comeBack_62 : decode prog_10_method_31_code 62 = .ok (.bipush 7, 2) := by decide +kernel
theorem s_Mo_comeBack_62  (k : ev G M_Mo_comeBack R E 64 lv (.int 7 :: rest) h cells slots) : ev G M_Mo_comeBack R E 62 lv rest h cells slots := ev_bipush d_Mo_comeBack_62 (by decide) k
theorem d_Mo_comeBack_64 : decode prog_10_method_31_code 64 = .ok (.if_icmp .ge 56, 3) := by decide +kernel
theorem s_Mo_comeBack_64 {x y : Int32} (kt : y ≤ x → ev G M_Mo_comeBack R E 120 lv rest h cells slots) (kf : ¬ y ≤ x → ev G M_Mo_comeBack R E 67 lv rest h cells slots) : ev G M_Mo_comeBack R E 64 lv (.int y :: .int x :: rest) h cells slots := ev_icmp_ge d_Mo_comeBack_64 (by decide) kt kf
theorem d_Mo_comeBack_67 : decode prog_10_method_31_code 67 = .ok (.iload 4, 2) := by decide +kernel
theorem s_Mo_comeBack_67 {x : Int32} (hl : lg lv 4 = some (.int x)) (k : ev G M_Mo_comeBack R E 69 lv (.int x :: rest) h cells slots) : ev G M_Mo_comeBack R E 67 lv rest h cells slots := ev_iload d_Mo_comeBack_67 hl k
theorem d_Mo_comeBack_69 : decode prog_10_method_31_code 69 = .ok (.ifCond .eq 42, 3) := by decide +kernel
theorem s_Mo_comeBack_69 {x : Int32} (kt : x = 0 → ev G M_Mo_comeBack R E 111 lv rest h cells slots) (kf : ¬ x = 0 → ev G M_Mo_comeBack R E 72 lv rest h cells slots) : ev G M_Mo_comeBack R E 69 lv (.int x :: rest) h cells slots := ev_if_eq d_Mo_comeBack_69 (by decide) kt kf
theorem d_Mo_comeBack_72 : decode prog_10_method_31_code 72 = .ok (.aload_n 0, 1) := by decide +kernel
theorem s_Mo_comeBack_72 {x : Nat} (hl : lg lv 0 = some (.ref x)) (k : ev G M_Mo_comeBack R E 73 lv (.ref x :: rest) h cells slots) : ev G M_Mo_comeBack R E 72 lv rest h cells slots := ev_aload_n d_Mo_comeBack_72 rfl hl k
theorem d_Mo_comeBack_73 : decode prog_10_method_31_code 73 = .ok (.iload_n 2, 1) := by decide +kernel
theorem s_Mo_comeBack_73 {x : Int32} (hl : lg lv 2 = some (.int x)) (k : ev G M_Mo_comeBack R E 74 lv (.int x :: rest) h cells slots) : ev G M_Mo_comeBack R E 73 lv rest h cells slots := ev_iload_n d_Mo_comeBack_73 rfl hl k
theorem d_Mo_comeBack_74 : decode prog_10_method_31_code 74 = .ok (.iload 5, 2) := by decide +kernel
theorem s_Mo_comeBack_74 {x : Int32} (hl : lg lv 5 = some (.int x)) (k : ev G M_Mo_comeBack R E 76 lv (.int x :: rest) h cells slots) : ev G M_Mo_comeBack R E 74 lv rest h cells slots := ev_iload d_Mo_comeBack_74 hl k
theorem d_Mo_comeBack_76 : decode prog_10_method_31_code 76 = .ok (.iload_n 3, 1) := by decide +kernel
theorem s_Mo_comeBack_76 {x : Int32} (hl : lg lv 3 = some (.int x)) (k : ev G M_Mo_comeBack R E 77 lv (.int x :: rest) h cells slots) : ev G M_Mo_comeBack R E 76 lv rest h cells slots := ev_iload_n d_Mo_comeBack_76 rfl hl k
theorem d_Mo_comeBack_77 : decode prog_10_method_31_code 77 = .ok (.invokevirtual 160, 3) := by decide +kernel
theorem s_Mo_comeBack_77 {mc ms : Nat} {P : Option Value → HP → Prop} {a0 : Int32} {a1 : Int32} {a2 : Int32} {b : Nat} {fs : List Value} {v0 : Value} (hm : mt G M_Mo_isLent 0 mc ms (.ref b :: [.int a0, .int a1, .int a2]) h P) (hb : h b = mO 7 fs) (hv0 : fs[0]? = some v0) (hR : 0 + 1 ≤ R.frames ∧ 8 + (4 + 11) + 39 * 0 ≤ R.locals) (hcs : cells + mc ≤ R.cells ∧ slots + ms ≤ R.slots) (hrest : (rest.map fun v => v.category).sum ≤ 8) (k : ∀ (r : Option Value) (h' : HP), P r h' → ev G M_Mo_comeBack R E 80 lv (r.toList ++ rest) h' (cells + mc) (slots + ms)) : ev G M_Mo_comeBack R E 77 lv (.int a2 :: .int a1 :: .int a0 :: .ref b :: rest) h cells slots := ev_callV (as := [.int a0, .int a1, .int a2]) (ci := 7) d_Mo_comeBack_77 hm hb hv0 rfl w_876 w_878 w_57 w_70 w_879 hy_Mo_isLent hR hcs hrest k
theorem d_Mo_comeBack_80 : decode prog_10_method_31_code 80 = .ok (.ifCond .eq 18, 3) := by decide +kernel
theorem s_Mo_comeBack_80 {x : Int32} (kt : x = 0 → ev G M_Mo_comeBack R E 98 lv rest h cells slots) (kf : ¬ x = 0 → ev G M_Mo_comeBack R E 83 lv rest h cells slots) : ev G M_Mo_comeBack R E 80 lv (.int x :: rest) h cells slots := ev_if_eq d_Mo_comeBack_80 (by decide) kt kf
theorem d_Mo_comeBack_83 : decode prog_10_method_31_code 83 = .ok (.aload_n 0, 1) := by decide +kernel
theorem s_Mo_comeBack_83 {x : Nat} (hl : lg lv 0 = some (.ref x)) (k : ev G M_Mo_comeBack R E 84 lv (.ref x :: rest) h cells slots) : ev G M_Mo_comeBack R E 83 lv rest h cells slots := ev_aload_n d_Mo_comeBack_83 rfl hl k
theorem d_Mo_comeBack_84 : decode prog_10_method_31_code 84 = .ok (.iload_n 1, 1) := by decide +kernel
theorem s_Mo_comeBack_84 {x : Int32} (hl : lg lv 1 = some (.int x)) (k : ev G M_Mo_comeBack R E 85 lv (.int x :: rest) h cells slots) : ev G M_Mo_comeBack R E 84 lv rest h cells slots := ev_iload_n d_Mo_comeBack_84 rfl hl k
theorem d_Mo_comeBack_85 : decode prog_10_method_31_code 85 = .ok (.iload 5, 2) := by decide +kernel
theorem s_Mo_comeBack_85 {x : Int32} (hl : lg lv 5 = some (.int x)) (k : ev G M_Mo_comeBack R E 87 lv (.int x :: rest) h cells slots) : ev G M_Mo_comeBack R E 85 lv rest h cells slots := ev_iload d_Mo_comeBack_85 hl k
theorem d_Mo_comeBack_87 : decode prog_10_method_31_code 87 = .ok (.iload 5, 2) := by decide +kernel
theorem s_Mo_comeBack_87 {x : Int32} (hl : lg lv 5 = some (.int x)) (k : ev G M_Mo_comeBack R E 89 lv (.int x :: rest) h cells slots) : ev G M_Mo_comeBack R E 87 lv rest h cells slots := ev_iload d_Mo_comeBack_87 hl k
theorem d_Mo_comeBack_89 : decode prog_10_method_31_code 89 = .ok (.invokevirtual 157, 3) := by decide +kernel
theorem s_Mo_comeBack_89 {mc ms : Nat} {P : Option Value → HP → Prop} {a0 : Int32} {a1 : Int32} {a2 : Int32} {b : Nat} {fs : List Value} {v0 : Value} (hm : mt G M_Mo_isAsNoted 1 mc ms (.ref b :: [.int a0, .int a1, .int a2]) h P) (hb : h b = mO 7 fs) (hv0 : fs[0]? = some v0) (hR : 1 + 1 ≤ R.frames ∧ 8 + (6 + 11) + 39 * 1 ≤ R.locals) (hcs : cells + mc ≤ R.cells ∧ slots + ms ≤ R.slots) (hrest : (rest.map fun v => v.category).sum ≤ 8) (k : ∀ (r : Option Value) (h' : HP), P r h' → ev G M_Mo_comeBack R E 92 lv (r.toList ++ rest) h' (cells + mc) (slots + ms)) : ev G M_Mo_comeBack R E 89 lv (.int a2 :: .int a1 :: .int a0 :: .ref b :: rest) h cells slots := ev_callV (as := [.int a0, .int a1, .int a2]) (ci := 7) d_Mo_comeBack_89 hm hb hv0 rfl w_872 w_874 w_56 w_70 w_875 hy_Mo_isAsNoted hR hcs hrest k
theorem d_Mo_comeBack_92 : decode prog_10_method_31_code 92 = .ok (.ifCond .eq 19, 3) := by decide +kernel
theorem s_Mo_comeBack_92 {x : Int32} (kt : x = 0 → ev G M_Mo_comeBack R E 111 lv rest h cells slots) (kf : ¬ x = 0 → ev G M_Mo_comeBack R E 95 lv rest h cells slots) : ev G M_Mo_comeBack R E 92 lv (.int x :: rest) h cells slots := ev_if_eq d_Mo_comeBack_92 (by decide) kt kf
theorem d_Mo_comeBack_95 : decode prog_10_method_31_code 95 = .ok (.goto 12, 3) := by decide +kernel
theorem s_Mo_comeBack_95  (k : ev G M_Mo_comeBack R E 107 lv rest h cells slots) : ev G M_Mo_comeBack R E 95 lv rest h cells slots := ev_goto d_Mo_comeBack_95 (by decide) k
theorem d_Mo_comeBack_98 : decode prog_10_method_31_code 98 = .ok (.aload_n 0, 1) := by decide +kernel
theorem s_Mo_comeBack_98 {x : Nat} (hl : lg lv 0 = some (.ref x)) (k : ev G M_Mo_comeBack R E 99 lv (.ref x :: rest) h cells slots) : ev G M_Mo_comeBack R E 98 lv rest h cells slots := ev_aload_n d_Mo_comeBack_98 rfl hl k
theorem d_Mo_comeBack_99 : decode prog_10_method_31_code 99 = .ok (.iload 5, 2) := by decide +kernel
theorem s_Mo_comeBack_99 {x : Int32} (hl : lg lv 5 = some (.int x)) (k : ev G M_Mo_comeBack R E 101 lv (.int x :: rest) h cells slots) : ev G M_Mo_comeBack R E 99 lv rest h cells slots := ev_iload d_Mo_comeBack_99 hl k
theorem d_Mo_comeBack_101 : decode prog_10_method_31_code 101 = .ok (.invokevirtual 130, 3) := by decide +kernel
theorem s_Mo_comeBack_101 {mc ms : Nat} {P : Option Value → HP → Prop} {a0 : Int32} {b : Nat} {fs : List Value} {v0 : Value} (hm : mt G M_Mo_isNumber 1 mc ms (.ref b :: [.int a0]) h P) (hb : h b = mO 7 fs) (hv0 : fs[0]? = some v0) (hR : 1 + 1 ≤ R.frames ∧ 8 + (2 + 11) + 39 * 1 ≤ R.locals) (hcs : cells + mc ≤ R.cells ∧ slots + ms ≤ R.slots) (hrest : (rest.map fun v => v.category).sum ≤ 8) (k : ∀ (r : Option Value) (h' : HP), P r h' → ev G M_Mo_comeBack R E 104 lv (r.toList ++ rest) h' (cells + mc) (slots + ms)) : ev G M_Mo_comeBack R E 101 lv (.int a0 :: .ref b :: rest) h cells slots := ev_callV (as := [.int a0]) (ci := 7) d_Mo_comeBack_101 hm hb hv0 rfl w_800 w_802 w_38 w_70 w_803 hy_Mo_isNumber hR hcs hrest k
theorem d_Mo_comeBack_104 : decode prog_10_method_31_code 104 = .ok (.ifCond .eq 7, 3) := by decide +kernel
theorem s_Mo_comeBack_104 {x : Int32} (kt : x = 0 → ev G M_Mo_comeBack R E 111 lv rest h cells slots) (kf : ¬ x = 0 → ev G M_Mo_comeBack R E 107 lv rest h cells slots) : ev G M_Mo_comeBack R E 104 lv (.int x :: rest) h cells slots := ev_if_eq d_Mo_comeBack_104 (by decide) kt kf
theorem d_Mo_comeBack_107 : decode prog_10_method_31_code 107 = .ok (.iconst 1, 1) := by decide +kernel
theorem s_Mo_comeBack_107  (k : ev G M_Mo_comeBack R E 108 lv (.int 1 :: rest) h cells slots) : ev G M_Mo_comeBack R E 107 lv rest h cells slots := ev_iconst d_Mo_comeBack_107 (by decide) k
theorem d_Mo_comeBack_108 : decode prog_10_method_31_code 108 = .ok (.goto 4, 3) := by decide +kernel
theorem s_Mo_comeBack_108  (k : ev G M_Mo_comeBack R E 112 lv rest h cells slots) : ev G M_Mo_comeBack R E 108 lv rest h cells slots := ev_goto d_Mo_comeBack_108 (by decide) k
theorem d_Mo_comeBack_111 : decode prog_10_method_31_code 111 = .ok (.iconst 0, 1) := by decide +kernel
theorem s_Mo_comeBack_111  (k : ev G M_Mo_comeBack R E 112 lv (.int 0 :: rest) h cells slots) : ev G M_Mo_comeBack R E 111 lv rest h cells slots := ev_iconst d_Mo_comeBack_111 (by decide) k
theorem d_Mo_comeBack_112 : decode prog_10_method_31_code 112 = .ok (.istore 4, 2) := by decide +kernel
theorem s_Mo_comeBack_112 {x : Int32} (k : ev G M_Mo_comeBack R E 114 (ls1 lv 4 (.int x)) rest h cells slots) : ev G M_Mo_comeBack R E 112 lv (.int x :: rest) h cells slots := ev_istore d_Mo_comeBack_112 (by decide) k
theorem d_Mo_comeBack_114 : decode prog_10_method_31_code 114 = .ok (.iinc 5 1, 3) := by decide +kernel
theorem s_Mo_comeBack_114 {x : Int32} (hl : lg lv 5 = some (.int x)) (k : ev G M_Mo_comeBack R E 117 (ls1 lv 5 (.int (x + 1))) rest h cells slots) : ev G M_Mo_comeBack R E 114 lv rest h cells slots := ev_iinc d_Mo_comeBack_114 (by decide) hl (by decide) k
theorem d_Mo_comeBack_117 : decode prog_10_method_31_code 117 = .ok (.goto (-57), 3) := by decide +kernel
theorem s_Mo_comeBack_117  (k : ev G M_Mo_comeBack R E 60 lv rest h cells slots) : ev G M_Mo_comeBack R E 117 lv rest h cells slots := ev_goto d_Mo_comeBack_117 (by decide) k
theorem d_Mo_comeBack_120 : decode prog_10_method_31_code 120 = .ok (.iload 4, 2) := by decide +kernel
theorem s_Mo_comeBack_120 {x : Int32} (hl : lg lv 4 = some (.int x)) (k : ev G M_Mo_comeBack R E 122 lv (.int x :: rest) h cells slots) : ev G M_Mo_comeBack R E 120 lv rest h cells slots := ev_iload d_Mo_comeBack_120 hl k
theorem d_Mo_comeBack_122 : decode prog_10_method_31_code 122 = .ok (.ifCond .ne 6, 3) := by decide +kernel
theorem s_Mo_comeBack_122 {x : Int32} (kt : ¬ x = 0 → ev G M_Mo_comeBack R E 128 lv rest h cells slots) (kf : x = 0 → ev G M_Mo_comeBack R E 125 lv rest h cells slots) : ev G M_Mo_comeBack R E 122 lv (.int x :: rest) h cells slots := ev_if_ne d_Mo_comeBack_122 (by decide) kt kf
theorem d_Mo_comeBack_125 : decode prog_10_method_31_code 125 = .ok (.bipush 8, 2) := by decide +kernel
theorem s_Mo_comeBack_125  (k : ev G M_Mo_comeBack R E 127 lv (.int 8 :: rest) h cells slots) : ev G M_Mo_comeBack R E 125 lv rest h cells slots := ev_bipush d_Mo_comeBack_125 (by decide) k
theorem d_Mo_comeBack_127 : decode prog_10_method_31_code 127 = .ok (.ireturn, 1) := by decide +kernel
theorem s_Mo_comeBack_127 {P : Option Value → HP → Prop} {mc ms : Nat} {v : Int32} (hP : P (some (.int v)) h) (hc : cells ≤ mc ∧ slots ≤ ms) : ev G M_Mo_comeBack R (Er M_Mo_comeBack P mc ms) 127 lv [.int v] h cells slots := ev_exit ⟨hc.1, hc.2, Or.inr (Or.inl ⟨v, .int, rfl, rfl, d_Mo_comeBack_127, rfl, hP⟩)⟩
theorem d_Mo_comeBack_128 : decode prog_10_method_31_code 128 = .ok (.aload_n 0, 1) := by decide +kernel
theorem s_Mo_comeBack_128 {x : Nat} (hl : lg lv 0 = some (.ref x)) (k : ev G M_Mo_comeBack R E 129 lv (.ref x :: rest) h cells slots) : ev G M_Mo_comeBack R E 128 lv rest h cells slots := ev_aload_n d_Mo_comeBack_128 rfl hl k
theorem d_Mo_comeBack_129 : decode prog_10_method_31_code 129 = .ok (.bipush 7, 2) := by decide +kernel
theorem s_Mo_comeBack_129  (k : ev G M_Mo_comeBack R E 131 lv (.int 7 :: rest) h cells slots) : ev G M_Mo_comeBack R E 129 lv rest h cells slots := ev_bipush d_Mo_comeBack_129 (by decide) k
theorem d_Mo_comeBack_131 : decode prog_10_method_31_code 131 = .ok (.bipush 96, 2) := by decide +kernel
theorem s_Mo_comeBack_131  (k : ev G M_Mo_comeBack R E 133 lv (.int 96 :: rest) h cells slots) : ev G M_Mo_comeBack R E 131 lv rest h cells slots := ev_bipush d_Mo_comeBack_131 (by decide) k
theorem d_Mo_comeBack_133 : decode prog_10_method_31_code 133 = .ok (.iload_n 2, 1) := by decide +kernel
theorem s_Mo_comeBack_133 {x : Int32} (hl : lg lv 2 = some (.int x)) (k : ev G M_Mo_comeBack R E 134 lv (.int x :: rest) h cells slots) : ev G M_Mo_comeBack R E 133 lv rest h cells slots := ev_iload_n d_Mo_comeBack_133 rfl hl k
theorem d_Mo_comeBack_134 : decode prog_10_method_31_code 134 = .ok (.iadd, 1) := by decide +kernel
theorem s_Mo_comeBack_134 {x y : Int32} (k : ev G M_Mo_comeBack R E 135 lv (.int (x + y) :: rest) h cells slots) : ev G M_Mo_comeBack R E 134 lv (.int y :: .int x :: rest) h cells slots := ev_iadd d_Mo_comeBack_134 k
theorem d_Mo_comeBack_135 : decode prog_10_method_31_code 135 = .ok (.invokevirtual 74, 3) := by decide +kernel
theorem s_Mo_comeBack_135 {mc ms : Nat} {P : Option Value → HP → Prop} {a0 : Int32} {a1 : Int32} {b : Nat} {fs : List Value} {v0 : Value} (hm : mt G M_Mo_shift 2 mc ms (.ref b :: [.int a0, .int a1]) h P) (hb : h b = mO 7 fs) (hv0 : fs[0]? = some v0) (hR : 2 + 1 ≤ R.frames ∧ 8 + (3 + 11) + 39 * 2 ≤ R.locals) (hcs : cells + mc ≤ R.cells ∧ slots + ms ≤ R.slots) (hrest : (rest.map fun v => v.category).sum ≤ 8) (k : ∀ (r : Option Value) (h' : HP), P r h' → ev G M_Mo_comeBack R E 138 lv (r.toList ++ rest) h' (cells + mc) (slots + ms)) : ev G M_Mo_comeBack R E 135 lv (.int a1 :: .int a0 :: .ref b :: rest) h cells slots := ev_callV (as := [.int a0, .int a1]) (ci := 7) d_Mo_comeBack_135 hm hb hv0 rfl w_812 w_814 w_41 w_70 w_815 hy_Mo_shift hR hcs hrest k
theorem d_Mo_comeBack_138 : decode prog_10_method_31_code 138 = .ok (.aload_n 0, 1) := by decide +kernel
theorem s_Mo_comeBack_138 {x : Nat} (hl : lg lv 0 = some (.ref x)) (k : ev G M_Mo_comeBack R E 139 lv (.ref x :: rest) h cells slots) : ev G M_Mo_comeBack R E 138 lv rest h cells slots := ev_aload_n d_Mo_comeBack_138 rfl hl k
theorem d_Mo_comeBack_139 : decode prog_10_method_31_code 139 = .ok (.getfield 28, 3) := by decide +kernel
theorem s_Mo_comeBack_139 {a : Nat} {fs : List Value} {v : Value} (hh : h a = mO 7 fs) (hv : fs[7]? = some v) (k : ev G M_Mo_comeBack R E 142 lv (v :: rest) h cells slots) : ev G M_Mo_comeBack R E 139 lv (.ref a :: rest) h cells slots := ev_getfield (ci := 7) (kf := 7) d_Mo_comeBack_139 rfl ck7 (by decide) w_711 hh hv k
theorem d_Mo_comeBack_142 : decode prog_10_method_31_code 142 = .ok (.iload_n 2, 1) := by decide +kernel
theorem s_Mo_comeBack_142 {x : Int32} (hl : lg lv 2 = some (.int x)) (k : ev G M_Mo_comeBack R E 143 lv (.int x :: rest) h cells slots) : ev G M_Mo_comeBack R E 142 lv rest h cells slots := ev_iload_n d_Mo_comeBack_142 rfl hl k
theorem d_Mo_comeBack_143 : decode prog_10_method_31_code 143 = .ok (.iconst 1, 1) := by decide +kernel
theorem s_Mo_comeBack_143  (k : ev G M_Mo_comeBack R E 144 lv (.int 1 :: rest) h cells slots) : ev G M_Mo_comeBack R E 143 lv rest h cells slots := ev_iconst d_Mo_comeBack_143 (by decide) k
theorem d_Mo_comeBack_144 : decode prog_10_method_31_code 144 = .ok (.iastore, 1) := by decide +kernel
theorem s_Mo_comeBack_144 {a n : Nat} {f : Nat → Int32} {i : Int32} {x : Int32} (hh : h a = mI 0 n f) (hin : vp_in i n) (k : ev G M_Mo_comeBack R E 145 lv rest (va_up h a (mI 0 n (upd f i.toNatClampNeg x))) cells slots) : ev G M_Mo_comeBack R E 144 lv (.int x :: .int i :: .ref a :: rest) h cells slots := ev_iastore d_Mo_comeBack_144 rfl hh hin k
theorem d_Mo_comeBack_145 : decode prog_10_method_31_code 145 = .ok (.iload_n 3, 1) := by decide +kernel
theorem s_Mo_comeBack_145 {x : Int32} (hl : lg lv 3 = some (.int x)) (k : ev G M_Mo_comeBack R E 146 lv (.int x :: rest) h cells slots) : ev G M_Mo_comeBack R E 145 lv rest h cells slots := ev_iload_n d_Mo_comeBack_145 rfl hl k
theorem d_Mo_comeBack_146 : decode prog_10_method_31_code 146 = .ok (.iconst 1, 1) := by decide +kernel
theorem s_Mo_comeBack_146  (k : ev G M_Mo_comeBack R E 147 lv (.int 1 :: rest) h cells slots) : ev G M_Mo_comeBack R E 146 lv rest h cells slots := ev_iconst d_Mo_comeBack_146 (by decide) k
theorem d_Mo_comeBack_147 : decode prog_10_method_31_code 147 = .ok (.iadd, 1) := by decide +kernel
theorem s_Mo_comeBack_147 {x y : Int32} (k : ev G M_Mo_comeBack R E 148 lv (.int (x + y) :: rest) h cells slots) : ev G M_Mo_comeBack R E 147 lv (.int y :: .int x :: rest) h cells slots := ev_iadd d_Mo_comeBack_147 k
theorem d_Mo_comeBack_148 : decode prog_10_method_31_code 148 = .ok (.istore 5, 2) := by decide +kernel
theorem s_Mo_comeBack_148 {x : Int32} (k : ev G M_Mo_comeBack R E 150 (ls1 lv 5 (.int x)) rest h cells slots) : ev G M_Mo_comeBack R E 148 lv (.int x :: rest) h cells slots := ev_istore d_Mo_comeBack_148 (by decide) k
theorem d_Mo_comeBack_150 : decode prog_10_method_31_code 150 = .ok (.iload 5, 2) := by decide +kernel
theorem s_Mo_comeBack_150 {x : Int32} (hl : lg lv 5 = some (.int x)) (k : ev G M_Mo_comeBack R E 152 lv (.int x :: rest) h cells slots) : ev G M_Mo_comeBack R E 150 lv rest h cells slots := ev_iload d_Mo_comeBack_150 hl k
theorem d_Mo_comeBack_152 : decode prog_10_method_31_code 152 = .ok (.bipush 8, 2) := by decide +kernel
theorem s_Mo_comeBack_152  (k : ev G M_Mo_comeBack R E 154 lv (.int 8 :: rest) h cells slots) : ev G M_Mo_comeBack R E 152 lv rest h cells slots := ev_bipush d_Mo_comeBack_152 (by decide) k
theorem d_Mo_comeBack_154 : decode prog_10_method_31_code 154 = .ok (.if_icmp .ge 25, 3) := by decide +kernel
theorem s_Mo_comeBack_154 {x y : Int32} (kt : y ≤ x → ev G M_Mo_comeBack R E 179 lv rest h cells slots) (kf : ¬ y ≤ x → ev G M_Mo_comeBack R E 157 lv rest h cells slots) : ev G M_Mo_comeBack R E 154 lv (.int y :: .int x :: rest) h cells slots := ev_icmp_ge d_Mo_comeBack_154 (by decide) kt kf
theorem d_Mo_comeBack_157 : decode prog_10_method_31_code 157 = .ok (.aload_n 0, 1) := by decide +kernel
theorem s_Mo_comeBack_157 {x : Nat} (hl : lg lv 0 = some (.ref x)) (k : ev G M_Mo_comeBack R E 158 lv (.ref x :: rest) h cells slots) : ev G M_Mo_comeBack R E 157 lv rest h cells slots := ev_aload_n d_Mo_comeBack_157 rfl hl k
theorem d_Mo_comeBack_158 : decode prog_10_method_31_code 158 = .ok (.bipush 56, 2) := by decide +kernel
theorem s_Mo_comeBack_158  (k : ev G M_Mo_comeBack R E 160 lv (.int 56 :: rest) h cells slots) : ev G M_Mo_comeBack R E 158 lv rest h cells slots := ev_bipush d_Mo_comeBack_158 (by decide) k
theorem d_Mo_comeBack_160 : decode prog_10_method_31_code 160 = .ok (.bipush 8, 2) := by decide +kernel
theorem s_Mo_comeBack_160  (k : ev G M_Mo_comeBack R E 162 lv (.int 8 :: rest) h cells slots) : ev G M_Mo_comeBack R E 160 lv rest h cells slots := ev_bipush d_Mo_comeBack_160 (by decide) k
theorem d_Mo_comeBack_162 : decode prog_10_method_31_code 162 = .ok (.iload_n 1, 1) := by decide +kernel
theorem s_Mo_comeBack_162 {x : Int32} (hl : lg lv 1 = some (.int x)) (k : ev G M_Mo_comeBack R E 163 lv (.int x :: rest) h cells slots) : ev G M_Mo_comeBack R E 162 lv rest h cells slots := ev_iload_n d_Mo_comeBack_162 rfl hl k
theorem d_Mo_comeBack_163 : decode prog_10_method_31_code 163 = .ok (.imul, 1) := by decide +kernel
theorem s_Mo_comeBack_163 {x y : Int32} (k : ev G M_Mo_comeBack R E 164 lv (.int (x * y) :: rest) h cells slots) : ev G M_Mo_comeBack R E 163 lv (.int y :: .int x :: rest) h cells slots := ev_imul d_Mo_comeBack_163 k
theorem d_Mo_comeBack_164 : decode prog_10_method_31_code 164 = .ok (.iadd, 1) := by decide +kernel
theorem s_Mo_comeBack_164 {x y : Int32} (k : ev G M_Mo_comeBack R E 165 lv (.int (x + y) :: rest) h cells slots) : ev G M_Mo_comeBack R E 164 lv (.int y :: .int x :: rest) h cells slots := ev_iadd d_Mo_comeBack_164 k
theorem d_Mo_comeBack_165 : decode prog_10_method_31_code 165 = .ok (.iload 5, 2) := by decide +kernel
theorem s_Mo_comeBack_165 {x : Int32} (hl : lg lv 5 = some (.int x)) (k : ev G M_Mo_comeBack R E 167 lv (.int x :: rest) h cells slots) : ev G M_Mo_comeBack R E 165 lv rest h cells slots := ev_iload d_Mo_comeBack_165 hl k
theorem d_Mo_comeBack_167 : decode prog_10_method_31_code 167 = .ok (.iadd, 1) := by decide +kernel
theorem s_Mo_comeBack_167 {x y : Int32} (k : ev G M_Mo_comeBack R E 168 lv (.int (x + y) :: rest) h cells slots) : ev G M_Mo_comeBack R E 167 lv (.int y :: .int x :: rest) h cells slots := ev_iadd d_Mo_comeBack_167 k
theorem d_Mo_comeBack_168 : decode prog_10_method_31_code 168 = .ok (.iload 5, 2) := by decide +kernel
theorem s_Mo_comeBack_168 {x : Int32} (hl : lg lv 5 = some (.int x)) (k : ev G M_Mo_comeBack R E 170 lv (.int x :: rest) h cells slots) : ev G M_Mo_comeBack R E 168 lv rest h cells slots := ev_iload d_Mo_comeBack_168 hl k
theorem d_Mo_comeBack_170 : decode prog_10_method_31_code 170 = .ok (.invokevirtual 74, 3) := by decide +kernel
theorem s_Mo_comeBack_170 {mc ms : Nat} {P : Option Value → HP → Prop} {a0 : Int32} {a1 : Int32} {b : Nat} {fs : List Value} {v0 : Value} (hm : mt G M_Mo_shift 2 mc ms (.ref b :: [.int a0, .int a1]) h P) (hb : h b = mO 7 fs) (hv0 : fs[0]? = some v0) (hR : 2 + 1 ≤ R.frames ∧ 8 + (3 + 11) + 39 * 2 ≤ R.locals) (hcs : cells + mc ≤ R.cells ∧ slots + ms ≤ R.slots) (hrest : (rest.map fun v => v.category).sum ≤ 8) (k : ∀ (r : Option Value) (h' : HP), P r h' → ev G M_Mo_comeBack R E 173 lv (r.toList ++ rest) h' (cells + mc) (slots + ms)) : ev G M_Mo_comeBack R E 170 lv (.int a1 :: .int a0 :: .ref b :: rest) h cells slots := ev_callV (as := [.int a0, .int a1]) (ci := 7) d_Mo_comeBack_170 hm hb hv0 rfl w_812 w_814 w_41 w_70 w_815 hy_Mo_shift hR hcs hrest k
theorem d_Mo_comeBack_173 : decode prog_10_method_31_code 173 = .ok (.iinc 5 1, 3) := by decide +kernel
theorem s_Mo_comeBack_173 {x : Int32} (hl : lg lv 5 = some (.int x)) (k : ev G M_Mo_comeBack R E 176 (ls1 lv 5 (.int (x + 1))) rest h cells slots) : ev G M_Mo_comeBack R E 173 lv rest h cells slots := ev_iinc d_Mo_comeBack_173 (by decide) hl (by decide) k
theorem d_Mo_comeBack_176 : decode prog_10_method_31_code 176 = .ok (.goto (-26), 3) := by decide +kernel
theorem s_Mo_comeBack_176  (k : ev G M_Mo_comeBack R E 150 lv rest h cells slots) : ev G M_Mo_comeBack R E 176 lv rest h cells slots := ev_goto d_Mo_comeBack_176 (by decide) k
theorem d_Mo_comeBack_179 : decode prog_10_method_31_code 179 = .ok (.aload_n 0, 1) := by decide +kernel
theorem s_Mo_comeBack_179 {x : Nat} (hl : lg lv 0 = some (.ref x)) (k : ev G M_Mo_comeBack R E 180 lv (.ref x :: rest) h cells slots) : ev G M_Mo_comeBack R E 179 lv rest h cells slots := ev_aload_n d_Mo_comeBack_179 rfl hl k
theorem d_Mo_comeBack_180 : decode prog_10_method_31_code 180 = .ok (.bipush 56, 2) := by decide +kernel
theorem s_Mo_comeBack_180  (k : ev G M_Mo_comeBack R E 182 lv (.int 56 :: rest) h cells slots) : ev G M_Mo_comeBack R E 180 lv rest h cells slots := ev_bipush d_Mo_comeBack_180 (by decide) k
theorem d_Mo_comeBack_182 : decode prog_10_method_31_code 182 = .ok (.bipush 8, 2) := by decide +kernel
theorem s_Mo_comeBack_182  (k : ev G M_Mo_comeBack R E 184 lv (.int 8 :: rest) h cells slots) : ev G M_Mo_comeBack R E 182 lv rest h cells slots := ev_bipush d_Mo_comeBack_182 (by decide) k
theorem d_Mo_comeBack_184 : decode prog_10_method_31_code 184 = .ok (.iload_n 1, 1) := by decide +kernel
theorem s_Mo_comeBack_184 {x : Int32} (hl : lg lv 1 = some (.int x)) (k : ev G M_Mo_comeBack R E 185 lv (.int x :: rest) h cells slots) : ev G M_Mo_comeBack R E 184 lv rest h cells slots := ev_iload_n d_Mo_comeBack_184 rfl hl k
theorem d_Mo_comeBack_185 : decode prog_10_method_31_code 185 = .ok (.imul, 1) := by decide +kernel
theorem s_Mo_comeBack_185 {x y : Int32} (k : ev G M_Mo_comeBack R E 186 lv (.int (x * y) :: rest) h cells slots) : ev G M_Mo_comeBack R E 185 lv (.int y :: .int x :: rest) h cells slots := ev_imul d_Mo_comeBack_185 k
theorem d_Mo_comeBack_186 : decode prog_10_method_31_code 186 = .ok (.iadd, 1) := by decide +kernel
theorem s_Mo_comeBack_186 {x y : Int32} (k : ev G M_Mo_comeBack R E 187 lv (.int (x + y) :: rest) h cells slots) : ev G M_Mo_comeBack R E 186 lv (.int y :: .int x :: rest) h cells slots := ev_iadd d_Mo_comeBack_186 k
theorem d_Mo_comeBack_187 : decode prog_10_method_31_code 187 = .ok (.invokevirtual 70, 3) := by decide +kernel
theorem s_Mo_comeBack_187 {mc ms : Nat} {P : Option Value → HP → Prop} {a0 : Int32} {b : Nat} {fs : List Value} {v0 : Value} (hm : mt G M_Mo_clear 1 mc ms (.ref b :: [.int a0]) h P) (hb : h b = mO 7 fs) (hv0 : fs[0]? = some v0) (hR : 1 + 1 ≤ R.frames ∧ 8 + (2 + 11) + 39 * 1 ≤ R.locals) (hcs : cells + mc ≤ R.cells ∧ slots + ms ≤ R.slots) (hrest : (rest.map fun v => v.category).sum ≤ 8) (k : ∀ (r : Option Value) (h' : HP), P r h' → ev G M_Mo_comeBack R E 190 lv (r.toList ++ rest) h' (cells + mc) (slots + ms)) : ev G M_Mo_comeBack R E 187 lv (.int a0 :: .ref b :: rest) h cells slots := ev_callV (as := [.int a0]) (ci := 7) d_Mo_comeBack_187 hm hb hv0 rfl w_780 w_782 w_34 w_70 w_783 hy_Mo_clear hR hcs hrest k
theorem d_Mo_comeBack_190 : decode prog_10_method_31_code 190 = .ok (.aload_n 0, 1) := by decide +kernel
theorem s_Mo_comeBack_190 {x : Nat} (hl : lg lv 0 = some (.ref x)) (k : ev G M_Mo_comeBack R E 191 lv (.ref x :: rest) h cells slots) : ev G M_Mo_comeBack R E 190 lv rest h cells slots := ev_aload_n d_Mo_comeBack_190 rfl hl k
theorem d_Mo_comeBack_191 : decode prog_10_method_31_code 191 = .ok (.iload_n 1, 1) := by decide +kernel
theorem s_Mo_comeBack_191 {x : Int32} (hl : lg lv 1 = some (.int x)) (k : ev G M_Mo_comeBack R E 192 lv (.int x :: rest) h cells slots) : ev G M_Mo_comeBack R E 191 lv rest h cells slots := ev_iload_n d_Mo_comeBack_191 rfl hl k
theorem d_Mo_comeBack_192 : decode prog_10_method_31_code 192 = .ok (.putfield 78, 3) := by decide +kernel
theorem s_Mo_comeBack_192 {x : Int32} {a : Nat} {fs : List Value} (hh : h a = mO 7 fs) (hlen : 10 < fs.length) (k : ev G M_Mo_comeBack R E 195 lv rest (va_up h a (mO 7 (fs.set 10 (.int x)))) cells slots) : ev G M_Mo_comeBack R E 192 lv (.int x :: .ref a :: rest) h cells slots := ev_putfield (ci := 7) (kf := 10) d_Mo_comeBack_192 rfl ck7 (by decide) w_714 rfl hh hlen (fun _ _ => rfl) (fun _ _ => rfl) k
theorem d_Mo_comeBack_195 : decode prog_10_method_31_code 195 = .ok (.aload_n 0, 1) := by decide +kernel
theorem s_Mo_comeBack_195 {x : Nat} (hl : lg lv 0 = some (.ref x)) (k : ev G M_Mo_comeBack R E 196 lv (.ref x :: rest) h cells slots) : ev G M_Mo_comeBack R E 195 lv rest h cells slots := ev_aload_n d_Mo_comeBack_195 rfl hl k
theorem d_Mo_comeBack_196 : decode prog_10_method_31_code 196 = .ok (.aload_n 0, 1) := by decide +kernel
theorem s_Mo_comeBack_196 {x : Nat} (hl : lg lv 0 = some (.ref x)) (k : ev G M_Mo_comeBack R E 197 lv (.ref x :: rest) h cells slots) : ev G M_Mo_comeBack R E 196 lv rest h cells slots := ev_aload_n d_Mo_comeBack_196 rfl hl k
theorem d_Mo_comeBack_197 : decode prog_10_method_31_code 197 = .ok (.getfield 37, 3) := by decide +kernel
theorem s_Mo_comeBack_197 {a : Nat} {fs : List Value} {v : Value} (hh : h a = mO 7 fs) (hv : fs[11]? = some v) (k : ev G M_Mo_comeBack R E 200 lv (v :: rest) h cells slots) : ev G M_Mo_comeBack R E 197 lv (.ref a :: rest) h cells slots := ev_getfield (ci := 7) (kf := 11) d_Mo_comeBack_197 rfl ck7 (by decide) w_715 hh hv k
theorem d_Mo_comeBack_200 : decode prog_10_method_31_code 200 = .ok (.iconst 4, 1) := by decide +kernel
theorem s_Mo_comeBack_200  (k : ev G M_Mo_comeBack R E 201 lv (.int 4 :: rest) h cells slots) : ev G M_Mo_comeBack R E 200 lv rest h cells slots := ev_iconst d_Mo_comeBack_200 (by decide) k
theorem d_Mo_comeBack_201 : decode prog_10_method_31_code 201 = .ok (.iload_n 1, 1) := by decide +kernel
theorem s_Mo_comeBack_201 {x : Int32} (hl : lg lv 1 = some (.int x)) (k : ev G M_Mo_comeBack R E 202 lv (.int x :: rest) h cells slots) : ev G M_Mo_comeBack R E 201 lv rest h cells slots := ev_iload_n d_Mo_comeBack_201 rfl hl k
theorem d_Mo_comeBack_202 : decode prog_10_method_31_code 202 = .ok (.imul, 1) := by decide +kernel
theorem s_Mo_comeBack_202 {x y : Int32} (k : ev G M_Mo_comeBack R E 203 lv (.int (x * y) :: rest) h cells slots) : ev G M_Mo_comeBack R E 202 lv (.int y :: .int x :: rest) h cells slots := ev_imul d_Mo_comeBack_202 k
theorem d_Mo_comeBack_203 : decode prog_10_method_31_code 203 = .ok (.iconst 1, 1) := by decide +kernel
theorem s_Mo_comeBack_203  (k : ev G M_Mo_comeBack R E 204 lv (.int 1 :: rest) h cells slots) : ev G M_Mo_comeBack R E 203 lv rest h cells slots := ev_iconst d_Mo_comeBack_203 (by decide) k
theorem d_Mo_comeBack_204 : decode prog_10_method_31_code 204 = .ok (.iadd, 1) := by decide +kernel
theorem s_Mo_comeBack_204 {x y : Int32} (k : ev G M_Mo_comeBack R E 205 lv (.int (x + y) :: rest) h cells slots) : ev G M_Mo_comeBack R E 204 lv (.int y :: .int x :: rest) h cells slots := ev_iadd d_Mo_comeBack_204 k
theorem d_Mo_comeBack_205 : decode prog_10_method_31_code 205 = .ok (.iaload, 1) := by decide +kernel
theorem s_Mo_comeBack_205 {a n : Nat} {f : Nat → Int32} {i : Int32} (hh : h a = mI 0 n f) (hin : vp_in i n) (k : ev G M_Mo_comeBack R E 206 lv (.int (f i.toNatClampNeg) :: rest) h cells slots) : ev G M_Mo_comeBack R E 205 lv (.int i :: .ref a :: rest) h cells slots := ev_iaload d_Mo_comeBack_205 rfl hh hin k
theorem d_Mo_comeBack_206 : decode prog_10_method_31_code 206 = .ok (.putfield 82, 3) := by decide +kernel
theorem s_Mo_comeBack_206 {x : Int32} {a : Nat} {fs : List Value} (hh : h a = mO 7 fs) (hlen : 13 < fs.length) (k : ev G M_Mo_comeBack R E 209 lv rest (va_up h a (mO 7 (fs.set 13 (.int x)))) cells slots) : ev G M_Mo_comeBack R E 206 lv (.int x :: .ref a :: rest) h cells slots := ev_putfield (ci := 7) (kf := 13) d_Mo_comeBack_206 rfl ck7 (by decide) w_717 rfl hh hlen (fun _ _ => rfl) (fun _ _ => rfl) k
theorem d_Mo_comeBack_209 : decode prog_10_method_31_code 209 = .ok (.aload_n 0, 1) := by decide +kernel
theorem s_Mo_comeBack_209 {x : Nat} (hl : lg lv 0 = some (.ref x)) (k : ev G M_Mo_comeBack R E 210 lv (.ref x :: rest) h cells slots) : ev G M_Mo_comeBack R E 209 lv rest h cells slots := ev_aload_n d_Mo_comeBack_209 rfl hl k
theorem d_Mo_comeBack_210 : decode prog_10_method_31_code 210 = .ok (.aload_n 0, 1) := by decide +kernel
theorem s_Mo_comeBack_210 {x : Nat} (hl : lg lv 0 = some (.ref x)) (k : ev G M_Mo_comeBack R E 211 lv (.ref x :: rest) h cells slots) : ev G M_Mo_comeBack R E 210 lv rest h cells slots := ev_aload_n d_Mo_comeBack_210 rfl hl k
theorem d_Mo_comeBack_211 : decode prog_10_method_31_code 211 = .ok (.getfield 37, 3) := by decide +kernel
theorem s_Mo_comeBack_211 {a : Nat} {fs : List Value} {v : Value} (hh : h a = mO 7 fs) (hv : fs[11]? = some v) (k : ev G M_Mo_comeBack R E 214 lv (v :: rest) h cells slots) : ev G M_Mo_comeBack R E 211 lv (.ref a :: rest) h cells slots := ev_getfield (ci := 7) (kf := 11) d_Mo_comeBack_211 rfl ck7 (by decide) w_715 hh hv k
theorem d_Mo_comeBack_214 : decode prog_10_method_31_code 214 = .ok (.iconst 4, 1) := by decide +kernel
theorem s_Mo_comeBack_214  (k : ev G M_Mo_comeBack R E 215 lv (.int 4 :: rest) h cells slots) : ev G M_Mo_comeBack R E 214 lv rest h cells slots := ev_iconst d_Mo_comeBack_214 (by decide) k
theorem d_Mo_comeBack_215 : decode prog_10_method_31_code 215 = .ok (.iload_n 1, 1) := by decide +kernel
theorem s_Mo_comeBack_215 {x : Int32} (hl : lg lv 1 = some (.int x)) (k : ev G M_Mo_comeBack R E 216 lv (.int x :: rest) h cells slots) : ev G M_Mo_comeBack R E 215 lv rest h cells slots := ev_iload_n d_Mo_comeBack_215 rfl hl k
theorem d_Mo_comeBack_216 : decode prog_10_method_31_code 216 = .ok (.imul, 1) := by decide +kernel
theorem s_Mo_comeBack_216 {x y : Int32} (k : ev G M_Mo_comeBack R E 217 lv (.int (x * y) :: rest) h cells slots) : ev G M_Mo_comeBack R E 216 lv (.int y :: .int x :: rest) h cells slots := ev_imul d_Mo_comeBack_216 k
theorem d_Mo_comeBack_217 : decode prog_10_method_31_code 217 = .ok (.iaload, 1) := by decide +kernel
theorem s_Mo_comeBack_217 {a n : Nat} {f : Nat → Int32} {i : Int32} (hh : h a = mI 0 n f) (hin : vp_in i n) (k : ev G M_Mo_comeBack R E 218 lv (.int (f i.toNatClampNeg) :: rest) h cells slots) : ev G M_Mo_comeBack R E 217 lv (.int i :: .ref a :: rest) h cells slots := ev_iaload d_Mo_comeBack_217 rfl hh hin k
theorem d_Mo_comeBack_218 : decode prog_10_method_31_code 218 = .ok (.putfield 85, 3) := by decide +kernel
theorem s_Mo_comeBack_218 {x : Int32} {a : Nat} {fs : List Value} (hh : h a = mO 7 fs) (hlen : 14 < fs.length) (k : ev G M_Mo_comeBack R E 221 lv rest (va_up h a (mO 7 (fs.set 14 (.int x)))) cells slots) : ev G M_Mo_comeBack R E 218 lv (.int x :: .ref a :: rest) h cells slots := ev_putfield (ci := 7) (kf := 14) d_Mo_comeBack_218 rfl ck7 (by decide) w_718 rfl hh hlen (fun _ _ => rfl) (fun _ _ => rfl) k
theorem d_Mo_comeBack_221 : decode prog_10_method_31_code 221 = .ok (.iconst 0, 1) := by decide +kernel
theorem s_Mo_comeBack_221  (k : ev G M_Mo_comeBack R E 222 lv (.int 0 :: rest) h cells slots) : ev G M_Mo_comeBack R E 221 lv rest h cells slots := ev_iconst d_Mo_comeBack_221 (by decide) k
theorem d_Mo_comeBack_222 : decode prog_10_method_31_code 222 = .ok (.ireturn, 1) := by decide +kernel
theorem s_Mo_comeBack_222 {P : Option Value → HP → Prop} {mc ms : Nat} {v : Int32} (hP : P (some (.int v)) h) (hc : cells ≤ mc ∧ slots ≤ ms) : ev G M_Mo_comeBack R (Er M_Mo_comeBack P mc ms) 222 lv [.int v] h cells slots := ev_exit ⟨hc.1, hc.2, Or.inr (Or.inl ⟨v, .int, rfl, rfl, d_Mo_comeBack_222, rfl, hP⟩)⟩
abbrev M_Mo_order : MW := (⟨"UseOnceMachineModel", "order", "()V"⟩, prog_10_method_19_code, 11, none)
theorem hy_Mo_order : M_Mo_order.1.cls ≠ "java/lang/invoke/MethodHandle" ∧ M_Mo_order.1.cls ≠ "java/lang/invoke/VarHandle" ∧ (parseMethodDescriptor M_Mo_order.1.desc).map (fun d => d.parameters.length) = some 0 := by decide +kernel
theorem d_Mo_order_0 : decode prog_10_method_19_code 0 = .ok (.aload_n 0, 1) := by decide +kernel
theorem s_Mo_order_0 {x : Nat} (hl : lg lv 0 = some (.ref x)) (k : ev G M_Mo_order R E 1 lv (.ref x :: rest) h cells slots) : ev G M_Mo_order R E 0 lv rest h cells slots := ev_aload_n d_Mo_order_0 rfl hl k
theorem d_Mo_order_1 : decode prog_10_method_19_code 1 = .ok (.aload_n 0, 1) := by decide +kernel
theorem s_Mo_order_1 {x : Nat} (hl : lg lv 0 = some (.ref x)) (k : ev G M_Mo_order R E 2 lv (.ref x :: rest) h cells slots) : ev G M_Mo_order R E 1 lv rest h cells slots := ev_aload_n d_Mo_order_1 rfl hl k
theorem d_Mo_order_2 : decode prog_10_method_19_code 2 = .ok (.getfield 91, 3) := by decide +kernel
theorem s_Mo_order_2 {a : Nat} {fs : List Value} {v : Value} (hh : h a = mO 7 fs) (hv : fs[16]? = some v) (k : ev G M_Mo_order R E 5 lv (v :: rest) h cells slots) : ev G M_Mo_order R E 2 lv (.ref a :: rest) h cells slots := ev_getfield (ci := 7) (kf := 16) d_Mo_order_2 rfl ck7 (by decide) w_720 hh hv k
theorem d_Mo_order_5 : decode prog_10_method_19_code 5 = .ok (.iconst 1, 1) := by decide +kernel
theorem s_Mo_order_5  (k : ev G M_Mo_order R E 6 lv (.int 1 :: rest) h cells slots) : ev G M_Mo_order R E 5 lv rest h cells slots := ev_iconst d_Mo_order_5 (by decide) k
theorem d_Mo_order_6 : decode prog_10_method_19_code 6 = .ok (.iadd, 1) := by decide +kernel
theorem s_Mo_order_6 {x y : Int32} (k : ev G M_Mo_order R E 7 lv (.int (x + y) :: rest) h cells slots) : ev G M_Mo_order R E 6 lv (.int y :: .int x :: rest) h cells slots := ev_iadd d_Mo_order_6 k
theorem d_Mo_order_7 : decode prog_10_method_19_code 7 = .ok (.putfield 91, 3) := by decide +kernel
theorem s_Mo_order_7 {x : Int32} {a : Nat} {fs : List Value} (hh : h a = mO 7 fs) (hlen : 16 < fs.length) (k : ev G M_Mo_order R E 10 lv rest (va_up h a (mO 7 (fs.set 16 (.int x)))) cells slots) : ev G M_Mo_order R E 7 lv (.int x :: .ref a :: rest) h cells slots := ev_putfield (ci := 7) (kf := 16) d_Mo_order_7 rfl ck7 (by decide) w_720 rfl hh hlen (fun _ _ => rfl) (fun _ _ => rfl) k
theorem d_Mo_order_10 : decode prog_10_method_19_code 10 = .ok (.bipush 96, 2) := by decide +kernel
theorem s_Mo_order_10  (k : ev G M_Mo_order R E 12 lv (.int 96 :: rest) h cells slots) : ev G M_Mo_order R E 10 lv rest h cells slots := ev_bipush d_Mo_order_10 (by decide) k
theorem d_Mo_order_12 : decode prog_10_method_19_code 12 = .ok (.aload_n 0, 1) := by decide +kernel
theorem s_Mo_order_12 {x : Nat} (hl : lg lv 0 = some (.ref x)) (k : ev G M_Mo_order R E 13 lv (.ref x :: rest) h cells slots) : ev G M_Mo_order R E 12 lv rest h cells slots := ev_aload_n d_Mo_order_12 rfl hl k
theorem d_Mo_order_13 : decode prog_10_method_19_code 13 = .ok (.getfield 82, 3) := by decide +kernel
theorem s_Mo_order_13 {a : Nat} {fs : List Value} {v : Value} (hh : h a = mO 7 fs) (hv : fs[13]? = some v) (k : ev G M_Mo_order R E 16 lv (v :: rest) h cells slots) : ev G M_Mo_order R E 13 lv (.ref a :: rest) h cells slots := ev_getfield (ci := 7) (kf := 13) d_Mo_order_13 rfl ck7 (by decide) w_717 hh hv k
theorem d_Mo_order_16 : decode prog_10_method_19_code 16 = .ok (.imul, 1) := by decide +kernel
theorem s_Mo_order_16 {x y : Int32} (k : ev G M_Mo_order R E 17 lv (.int (x * y) :: rest) h cells slots) : ev G M_Mo_order R E 16 lv (.int y :: .int x :: rest) h cells slots := ev_imul d_Mo_order_16 k
theorem d_Mo_order_17 : decode prog_10_method_19_code 17 = .ok (.iconst 4, 1) := by decide +kernel
theorem s_Mo_order_17  (k : ev G M_Mo_order R E 18 lv (.int 4 :: rest) h cells slots) : ev G M_Mo_order R E 17 lv rest h cells slots := ev_iconst d_Mo_order_17 (by decide) k
theorem d_Mo_order_18 : decode prog_10_method_19_code 18 = .ok (.aload_n 0, 1) := by decide +kernel
theorem s_Mo_order_18 {x : Nat} (hl : lg lv 0 = some (.ref x)) (k : ev G M_Mo_order R E 19 lv (.ref x :: rest) h cells slots) : ev G M_Mo_order R E 18 lv rest h cells slots := ev_aload_n d_Mo_order_18 rfl hl k
theorem d_Mo_order_19 : decode prog_10_method_19_code 19 = .ok (.getfield 85, 3) := by decide +kernel
theorem s_Mo_order_19 {a : Nat} {fs : List Value} {v : Value} (hh : h a = mO 7 fs) (hv : fs[14]? = some v) (k : ev G M_Mo_order R E 22 lv (v :: rest) h cells slots) : ev G M_Mo_order R E 19 lv (.ref a :: rest) h cells slots := ev_getfield (ci := 7) (kf := 14) d_Mo_order_19 rfl ck7 (by decide) w_718 hh hv k
theorem d_Mo_order_22 : decode prog_10_method_19_code 22 = .ok (.imul, 1) := by decide +kernel
theorem s_Mo_order_22 {x y : Int32} (k : ev G M_Mo_order R E 23 lv (.int (x * y) :: rest) h cells slots) : ev G M_Mo_order R E 22 lv (.int y :: .int x :: rest) h cells slots := ev_imul d_Mo_order_22 k
theorem d_Mo_order_23 : decode prog_10_method_19_code 23 = .ok (.iadd, 1) := by decide +kernel
theorem s_Mo_order_23 {x y : Int32} (k : ev G M_Mo_order R E 24 lv (.int (x + y) :: rest) h cells slots) : ev G M_Mo_order R E 23 lv (.int y :: .int x :: rest) h cells slots := ev_iadd d_Mo_order_23 k
theorem d_Mo_order_24 : decode prog_10_method_19_code 24 = .ok (.istore_n 1, 1) := by decide +kernel
theorem s_Mo_order_24 {x : Int32} (k : ev G M_Mo_order R E 25 (ls1 lv 1 (.int x)) rest h cells slots) : ev G M_Mo_order R E 24 lv (.int x :: rest) h cells slots := ev_istore_n d_Mo_order_24 rfl (by decide) k
theorem d_Mo_order_25 : decode prog_10_method_19_code 25 = .ok (.aload_n 0, 1) := by decide +kernel
theorem s_Mo_order_25 {x : Nat} (hl : lg lv 0 = some (.ref x)) (k : ev G M_Mo_order R E 26 lv (.ref x :: rest) h cells slots) : ev G M_Mo_order R E 25 lv rest h cells slots := ev_aload_n d_Mo_order_25 rfl hl k
theorem d_Mo_order_26 : decode prog_10_method_19_code 26 = .ok (.getfield 85, 3) := by decide +kernel
theorem s_Mo_order_26 {a : Nat} {fs : List Value} {v : Value} (hh : h a = mO 7 fs) (hv : fs[14]? = some v) (k : ev G M_Mo_order R E 29 lv (v :: rest) h cells slots) : ev G M_Mo_order R E 26 lv (.ref a :: rest) h cells slots := ev_getfield (ci := 7) (kf := 14) d_Mo_order_26 rfl ck7 (by decide) w_718 hh hv k
theorem d_Mo_order_29 : decode prog_10_method_19_code 29 = .ok (.ifCond .lt 23, 3) := by decide +kernel
theorem s_Mo_order_29 {x : Int32} (kt : x < 0 → ev G M_Mo_order R E 52 lv rest h cells slots) (kf : ¬ x < 0 → ev G M_Mo_order R E 32 lv rest h cells slots) : ev G M_Mo_order R E 29 lv (.int x :: rest) h cells slots := ev_if_lt d_Mo_order_29 (by decide) kt kf
theorem d_Mo_order_32 : decode prog_10_method_19_code 32 = .ok (.aload_n 0, 1) := by decide +kernel
theorem s_Mo_order_32 {x : Nat} (hl : lg lv 0 = some (.ref x)) (k : ev G M_Mo_order R E 33 lv (.ref x :: rest) h cells slots) : ev G M_Mo_order R E 32 lv rest h cells slots := ev_aload_n d_Mo_order_32 rfl hl k
theorem d_Mo_order_33 : decode prog_10_method_19_code 33 = .ok (.getfield 85, 3) := by decide +kernel
theorem s_Mo_order_33 {a : Nat} {fs : List Value} {v : Value} (hh : h a = mO 7 fs) (hv : fs[14]? = some v) (k : ev G M_Mo_order R E 36 lv (v :: rest) h cells slots) : ev G M_Mo_order R E 33 lv (.ref a :: rest) h cells slots := ev_getfield (ci := 7) (kf := 14) d_Mo_order_33 rfl ck7 (by decide) w_718 hh hv k
theorem d_Mo_order_36 : decode prog_10_method_19_code 36 = .ok (.aload_n 0, 1) := by decide +kernel
theorem s_Mo_order_36 {x : Nat} (hl : lg lv 0 = some (.ref x)) (k : ev G M_Mo_order R E 37 lv (.ref x :: rest) h cells slots) : ev G M_Mo_order R E 36 lv rest h cells slots := ev_aload_n d_Mo_order_36 rfl hl k
theorem d_Mo_order_37 : decode prog_10_method_19_code 37 = .ok (.getfield 7, 3) := by decide +kernel
theorem s_Mo_order_37 {a : Nat} {fs : List Value} {v : Value} (hh : h a = mO 7 fs) (hv : fs[1]? = some v) (k : ev G M_Mo_order R E 40 lv (v :: rest) h cells slots) : ev G M_Mo_order R E 37 lv (.ref a :: rest) h cells slots := ev_getfield (ci := 7) (kf := 1) d_Mo_order_37 rfl ck7 (by decide) w_705 hh hv k
theorem d_Mo_order_40 : decode prog_10_method_19_code 40 = .ok (.aload_n 0, 1) := by decide +kernel
theorem s_Mo_order_40 {x : Nat} (hl : lg lv 0 = some (.ref x)) (k : ev G M_Mo_order R E 41 lv (.ref x :: rest) h cells slots) : ev G M_Mo_order R E 40 lv rest h cells slots := ev_aload_n d_Mo_order_40 rfl hl k
theorem d_Mo_order_41 : decode prog_10_method_19_code 41 = .ok (.getfield 82, 3) := by decide +kernel
theorem s_Mo_order_41 {a : Nat} {fs : List Value} {v : Value} (hh : h a = mO 7 fs) (hv : fs[13]? = some v) (k : ev G M_Mo_order R E 44 lv (v :: rest) h cells slots) : ev G M_Mo_order R E 41 lv (.ref a :: rest) h cells slots := ev_getfield (ci := 7) (kf := 13) d_Mo_order_41 rfl ck7 (by decide) w_717 hh hv k
theorem d_Mo_order_44 : decode prog_10_method_19_code 44 = .ok (.iaload, 1) := by decide +kernel
theorem s_Mo_order_44 {a n : Nat} {f : Nat → Int32} {i : Int32} (hh : h a = mI 0 n f) (hin : vp_in i n) (k : ev G M_Mo_order R E 45 lv (.int (f i.toNatClampNeg) :: rest) h cells slots) : ev G M_Mo_order R E 44 lv (.int i :: .ref a :: rest) h cells slots := ev_iaload d_Mo_order_44 rfl hh hin k
theorem d_Mo_order_45 : decode prog_10_method_19_code 45 = .ok (.if_icmp .ge 7, 3) := by decide +kernel
theorem s_Mo_order_45 {x y : Int32} (kt : y ≤ x → ev G M_Mo_order R E 52 lv rest h cells slots) (kf : ¬ y ≤ x → ev G M_Mo_order R E 48 lv rest h cells slots) : ev G M_Mo_order R E 45 lv (.int y :: .int x :: rest) h cells slots := ev_icmp_ge d_Mo_order_45 (by decide) kt kf
theorem d_Mo_order_48 : decode prog_10_method_19_code 48 = .ok (.iconst 1, 1) := by decide +kernel
theorem s_Mo_order_48  (k : ev G M_Mo_order R E 49 lv (.int 1 :: rest) h cells slots) : ev G M_Mo_order R E 48 lv rest h cells slots := ev_iconst d_Mo_order_48 (by decide) k
theorem d_Mo_order_49 : decode prog_10_method_19_code 49 = .ok (.goto 4, 3) := by decide +kernel
theorem s_Mo_order_49  (k : ev G M_Mo_order R E 53 lv rest h cells slots) : ev G M_Mo_order R E 49 lv rest h cells slots := ev_goto d_Mo_order_49 (by decide) k
theorem d_Mo_order_52 : decode prog_10_method_19_code 52 = .ok (.iconst 0, 1) := by decide +kernel
theorem s_Mo_order_52  (k : ev G M_Mo_order R E 53 lv (.int 0 :: rest) h cells slots) : ev G M_Mo_order R E 52 lv rest h cells slots := ev_iconst d_Mo_order_52 (by decide) k
theorem d_Mo_order_53 : decode prog_10_method_19_code 53 = .ok (.istore_n 2, 1) := by decide +kernel
theorem s_Mo_order_53 {x : Int32} (k : ev G M_Mo_order R E 54 (ls1 lv 2 (.int x)) rest h cells slots) : ev G M_Mo_order R E 53 lv (.int x :: rest) h cells slots := ev_istore_n d_Mo_order_53 rfl (by decide) k
theorem d_Mo_order_54 : decode prog_10_method_19_code 54 = .ok (.iload_n 2, 1) := by decide +kernel
theorem s_Mo_order_54 {x : Int32} (hl : lg lv 2 = some (.int x)) (k : ev G M_Mo_order R E 55 lv (.int x :: rest) h cells slots) : ev G M_Mo_order R E 54 lv rest h cells slots := ev_iload_n d_Mo_order_54 rfl hl k
theorem d_Mo_order_55 : decode prog_10_method_19_code 55 = .ok (.ifCond .eq 12, 3) := by decide +kernel
theorem s_Mo_order_55 {x : Int32} (kt : x = 0 → ev G M_Mo_order R E 67 lv rest h cells slots) (kf : ¬ x = 0 → ev G M_Mo_order R E 58 lv rest h cells slots) : ev G M_Mo_order R E 55 lv (.int x :: rest) h cells slots := ev_if_eq d_Mo_order_55 (by decide) kt kf
theorem d_Mo_order_58 : decode prog_10_method_19_code 58 = .ok (.aload_n 0, 1) := by decide +kernel
theorem s_Mo_order_58 {x : Nat} (hl : lg lv 0 = some (.ref x)) (k : ev G M_Mo_order R E 59 lv (.ref x :: rest) h cells slots) : ev G M_Mo_order R E 58 lv rest h cells slots := ev_aload_n d_Mo_order_58 rfl hl k
theorem d_Mo_order_59 : decode prog_10_method_19_code 59 = .ok (.getfield 13, 3) := by decide +kernel
theorem s_Mo_order_59 {a : Nat} {fs : List Value} {v : Value} (hh : h a = mO 7 fs) (hv : fs[2]? = some v) (k : ev G M_Mo_order R E 62 lv (v :: rest) h cells slots) : ev G M_Mo_order R E 59 lv (.ref a :: rest) h cells slots := ev_getfield (ci := 7) (kf := 2) d_Mo_order_59 rfl ck7 (by decide) w_706 hh hv k
theorem d_Mo_order_62 : decode prog_10_method_19_code 62 = .ok (.iload_n 1, 1) := by decide +kernel
theorem s_Mo_order_62 {x : Int32} (hl : lg lv 1 = some (.int x)) (k : ev G M_Mo_order R E 63 lv (.int x :: rest) h cells slots) : ev G M_Mo_order R E 62 lv rest h cells slots := ev_iload_n d_Mo_order_62 rfl hl k
theorem d_Mo_order_63 : decode prog_10_method_19_code 63 = .ok (.iaload, 1) := by decide +kernel
theorem s_Mo_order_63 {a n : Nat} {f : Nat → Int32} {i : Int32} (hh : h a = mI 0 n f) (hin : vp_in i n) (k : ev G M_Mo_order R E 64 lv (.int (f i.toNatClampNeg) :: rest) h cells slots) : ev G M_Mo_order R E 63 lv (.int i :: .ref a :: rest) h cells slots := ev_iaload d_Mo_order_63 rfl hh hin k
theorem d_Mo_order_64 : decode prog_10_method_19_code 64 = .ok (.goto 4, 3) := by decide +kernel
theorem s_Mo_order_64  (k : ev G M_Mo_order R E 68 lv rest h cells slots) : ev G M_Mo_order R E 64 lv rest h cells slots := ev_goto d_Mo_order_64 (by decide) k
theorem d_Mo_order_67 : decode prog_10_method_19_code 67 = .ok (.iconst (-1), 1) := by decide +kernel
theorem s_Mo_order_67  (k : ev G M_Mo_order R E 68 lv (.int (-1) :: rest) h cells slots) : ev G M_Mo_order R E 67 lv rest h cells slots := ev_iconst d_Mo_order_67 (by decide) k
theorem d_Mo_order_68 : decode prog_10_method_19_code 68 = .ok (.istore_n 3, 1) := by decide +kernel
theorem s_Mo_order_68 {x : Int32} (k : ev G M_Mo_order R E 69 (ls1 lv 3 (.int x)) rest h cells slots) : ev G M_Mo_order R E 68 lv (.int x :: rest) h cells slots := ev_istore_n d_Mo_order_68 rfl (by decide) k
theorem d_Mo_order_69 : decode prog_10_method_19_code 69 = .ok (.iload_n 2, 1) := by decide +kernel
theorem s_Mo_order_69 {x : Int32} (hl : lg lv 2 = some (.int x)) (k : ev G M_Mo_order R E 70 lv (.int x :: rest) h cells slots) : ev G M_Mo_order R E 69 lv rest h cells slots := ev_iload_n d_Mo_order_69 rfl hl k
theorem d_Mo_order_70 : decode prog_10_method_19_code 70 = .ok (.ifCond .eq 14, 3) := by decide +kernel
theorem s_Mo_order_70 {x : Int32} (kt : x = 0 → ev G M_Mo_order R E 84 lv rest h cells slots) (kf : ¬ x = 0 → ev G M_Mo_order R E 73 lv rest h cells slots) : ev G M_Mo_order R E 70 lv (.int x :: rest) h cells slots := ev_if_eq d_Mo_order_70 (by decide) kt kf
theorem d_Mo_order_73 : decode prog_10_method_19_code 73 = .ok (.aload_n 0, 1) := by decide +kernel
theorem s_Mo_order_73 {x : Nat} (hl : lg lv 0 = some (.ref x)) (k : ev G M_Mo_order R E 74 lv (.ref x :: rest) h cells slots) : ev G M_Mo_order R E 73 lv rest h cells slots := ev_aload_n d_Mo_order_73 rfl hl k
theorem d_Mo_order_74 : decode prog_10_method_19_code 74 = .ok (.getfield 13, 3) := by decide +kernel
theorem s_Mo_order_74 {a : Nat} {fs : List Value} {v : Value} (hh : h a = mO 7 fs) (hv : fs[2]? = some v) (k : ev G M_Mo_order R E 77 lv (v :: rest) h cells slots) : ev G M_Mo_order R E 74 lv (.ref a :: rest) h cells slots := ev_getfield (ci := 7) (kf := 2) d_Mo_order_74 rfl ck7 (by decide) w_706 hh hv k
theorem d_Mo_order_77 : decode prog_10_method_19_code 77 = .ok (.iload_n 1, 1) := by decide +kernel
theorem s_Mo_order_77 {x : Int32} (hl : lg lv 1 = some (.int x)) (k : ev G M_Mo_order R E 78 lv (.int x :: rest) h cells slots) : ev G M_Mo_order R E 77 lv rest h cells slots := ev_iload_n d_Mo_order_77 rfl hl k
theorem d_Mo_order_78 : decode prog_10_method_19_code 78 = .ok (.iconst 1, 1) := by decide +kernel
theorem s_Mo_order_78  (k : ev G M_Mo_order R E 79 lv (.int 1 :: rest) h cells slots) : ev G M_Mo_order R E 78 lv rest h cells slots := ev_iconst d_Mo_order_78 (by decide) k
theorem d_Mo_order_79 : decode prog_10_method_19_code 79 = .ok (.iadd, 1) := by decide +kernel
theorem s_Mo_order_79 {x y : Int32} (k : ev G M_Mo_order R E 80 lv (.int (x + y) :: rest) h cells slots) : ev G M_Mo_order R E 79 lv (.int y :: .int x :: rest) h cells slots := ev_iadd d_Mo_order_79 k
theorem d_Mo_order_80 : decode prog_10_method_19_code 80 = .ok (.iaload, 1) := by decide +kernel
theorem s_Mo_order_80 {a n : Nat} {f : Nat → Int32} {i : Int32} (hh : h a = mI 0 n f) (hin : vp_in i n) (k : ev G M_Mo_order R E 81 lv (.int (f i.toNatClampNeg) :: rest) h cells slots) : ev G M_Mo_order R E 80 lv (.int i :: .ref a :: rest) h cells slots := ev_iaload d_Mo_order_80 rfl hh hin k
theorem d_Mo_order_81 : decode prog_10_method_19_code 81 = .ok (.goto 4, 3) := by decide +kernel
theorem s_Mo_order_81  (k : ev G M_Mo_order R E 85 lv rest h cells slots) : ev G M_Mo_order R E 81 lv rest h cells slots := ev_goto d_Mo_order_81 (by decide) k
theorem d_Mo_order_84 : decode prog_10_method_19_code 84 = .ok (.iconst 0, 1) := by decide +kernel
theorem s_Mo_order_84  (k : ev G M_Mo_order R E 85 lv (.int 0 :: rest) h cells slots) : ev G M_Mo_order R E 84 lv rest h cells slots := ev_iconst d_Mo_order_84 (by decide) k
theorem d_Mo_order_85 : decode prog_10_method_19_code 85 = .ok (.istore 4, 2) := by decide +kernel
theorem s_Mo_order_85 {x : Int32} (k : ev G M_Mo_order R E 87 (ls1 lv 4 (.int x)) rest h cells slots) : ev G M_Mo_order R E 85 lv (.int x :: rest) h cells slots := ev_istore d_Mo_order_85 (by decide) k
theorem d_Mo_order_87 : decode prog_10_method_19_code 87 = .ok (.iload_n 2, 1) := by decide +kernel
theorem s_Mo_order_87 {x : Int32} (hl : lg lv 2 = some (.int x)) (k : ev G M_Mo_order R E 88 lv (.int x :: rest) h cells slots) : ev G M_Mo_order R E 87 lv rest h cells slots := ev_iload_n d_Mo_order_87 rfl hl k
theorem d_Mo_order_88 : decode prog_10_method_19_code 88 = .ok (.ifCond .eq 14, 3) := by decide +kernel
theorem s_Mo_order_88 {x : Int32} (kt : x = 0 → ev G M_Mo_order R E 102 lv rest h cells slots) (kf : ¬ x = 0 → ev G M_Mo_order R E 91 lv rest h cells slots) : ev G M_Mo_order R E 88 lv (.int x :: rest) h cells slots := ev_if_eq d_Mo_order_88 (by decide) kt kf
theorem d_Mo_order_91 : decode prog_10_method_19_code 91 = .ok (.aload_n 0, 1) := by decide +kernel
theorem s_Mo_order_91 {x : Nat} (hl : lg lv 0 = some (.ref x)) (k : ev G M_Mo_order R E 92 lv (.ref x :: rest) h cells slots) : ev G M_Mo_order R E 91 lv rest h cells slots := ev_aload_n d_Mo_order_91 rfl hl k
theorem d_Mo_order_92 : decode prog_10_method_19_code 92 = .ok (.getfield 13, 3) := by decide +kernel
theorem s_Mo_order_92 {a : Nat} {fs : List Value} {v : Value} (hh : h a = mO 7 fs) (hv : fs[2]? = some v) (k : ev G M_Mo_order R E 95 lv (v :: rest) h cells slots) : ev G M_Mo_order R E 92 lv (.ref a :: rest) h cells slots := ev_getfield (ci := 7) (kf := 2) d_Mo_order_92 rfl ck7 (by decide) w_706 hh hv k
theorem d_Mo_order_95 : decode prog_10_method_19_code 95 = .ok (.iload_n 1, 1) := by decide +kernel
theorem s_Mo_order_95 {x : Int32} (hl : lg lv 1 = some (.int x)) (k : ev G M_Mo_order R E 96 lv (.int x :: rest) h cells slots) : ev G M_Mo_order R E 95 lv rest h cells slots := ev_iload_n d_Mo_order_95 rfl hl k
theorem d_Mo_order_96 : decode prog_10_method_19_code 96 = .ok (.iconst 2, 1) := by decide +kernel
theorem s_Mo_order_96  (k : ev G M_Mo_order R E 97 lv (.int 2 :: rest) h cells slots) : ev G M_Mo_order R E 96 lv rest h cells slots := ev_iconst d_Mo_order_96 (by decide) k
theorem d_Mo_order_97 : decode prog_10_method_19_code 97 = .ok (.iadd, 1) := by decide +kernel
theorem s_Mo_order_97 {x y : Int32} (k : ev G M_Mo_order R E 98 lv (.int (x + y) :: rest) h cells slots) : ev G M_Mo_order R E 97 lv (.int y :: .int x :: rest) h cells slots := ev_iadd d_Mo_order_97 k
theorem d_Mo_order_98 : decode prog_10_method_19_code 98 = .ok (.iaload, 1) := by decide +kernel
theorem s_Mo_order_98 {a n : Nat} {f : Nat → Int32} {i : Int32} (hh : h a = mI 0 n f) (hin : vp_in i n) (k : ev G M_Mo_order R E 99 lv (.int (f i.toNatClampNeg) :: rest) h cells slots) : ev G M_Mo_order R E 98 lv (.int i :: .ref a :: rest) h cells slots := ev_iaload d_Mo_order_98 rfl hh hin k
theorem d_Mo_order_99 : decode prog_10_method_19_code 99 = .ok (.goto 4, 3) := by decide +kernel
theorem s_Mo_order_99  (k : ev G M_Mo_order R E 103 lv rest h cells slots) : ev G M_Mo_order R E 99 lv rest h cells slots := ev_goto d_Mo_order_99 (by decide) k
theorem d_Mo_order_102 : decode prog_10_method_19_code 102 = .ok (.iconst 0, 1) := by decide +kernel
theorem s_Mo_order_102  (k : ev G M_Mo_order R E 103 lv (.int 0 :: rest) h cells slots) : ev G M_Mo_order R E 102 lv rest h cells slots := ev_iconst d_Mo_order_102 (by decide) k
theorem d_Mo_order_103 : decode prog_10_method_19_code 103 = .ok (.istore 5, 2) := by decide +kernel
theorem s_Mo_order_103 {x : Int32} (k : ev G M_Mo_order R E 105 (ls1 lv 5 (.int x)) rest h cells slots) : ev G M_Mo_order R E 103 lv (.int x :: rest) h cells slots := ev_istore d_Mo_order_103 (by decide) k
theorem d_Mo_order_105 : decode prog_10_method_19_code 105 = .ok (.iload_n 2, 1) := by decide +kernel
theorem s_Mo_order_105 {x : Int32} (hl : lg lv 2 = some (.int x)) (k : ev G M_Mo_order R E 106 lv (.int x :: rest) h cells slots) : ev G M_Mo_order R E 105 lv rest h cells slots := ev_iload_n d_Mo_order_105 rfl hl k
theorem d_Mo_order_106 : decode prog_10_method_19_code 106 = .ok (.ifCond .eq 14, 3) := by decide +kernel
theorem s_Mo_order_106 {x : Int32} (kt : x = 0 → ev G M_Mo_order R E 120 lv rest h cells slots) (kf : ¬ x = 0 → ev G M_Mo_order R E 109 lv rest h cells slots) : ev G M_Mo_order R E 106 lv (.int x :: rest) h cells slots := ev_if_eq d_Mo_order_106 (by decide) kt kf
theorem d_Mo_order_109 : decode prog_10_method_19_code 109 = .ok (.aload_n 0, 1) := by decide +kernel
theorem s_Mo_order_109 {x : Nat} (hl : lg lv 0 = some (.ref x)) (k : ev G M_Mo_order R E 110 lv (.ref x :: rest) h cells slots) : ev G M_Mo_order R E 109 lv rest h cells slots := ev_aload_n d_Mo_order_109 rfl hl k
theorem d_Mo_order_110 : decode prog_10_method_19_code 110 = .ok (.getfield 13, 3) := by decide +kernel
theorem s_Mo_order_110 {a : Nat} {fs : List Value} {v : Value} (hh : h a = mO 7 fs) (hv : fs[2]? = some v) (k : ev G M_Mo_order R E 113 lv (v :: rest) h cells slots) : ev G M_Mo_order R E 110 lv (.ref a :: rest) h cells slots := ev_getfield (ci := 7) (kf := 2) d_Mo_order_110 rfl ck7 (by decide) w_706 hh hv k
theorem d_Mo_order_113 : decode prog_10_method_19_code 113 = .ok (.iload_n 1, 1) := by decide +kernel
theorem s_Mo_order_113 {x : Int32} (hl : lg lv 1 = some (.int x)) (k : ev G M_Mo_order R E 114 lv (.int x :: rest) h cells slots) : ev G M_Mo_order R E 113 lv rest h cells slots := ev_iload_n d_Mo_order_113 rfl hl k
theorem d_Mo_order_114 : decode prog_10_method_19_code 114 = .ok (.iconst 3, 1) := by decide +kernel
theorem s_Mo_order_114  (k : ev G M_Mo_order R E 115 lv (.int 3 :: rest) h cells slots) : ev G M_Mo_order R E 114 lv rest h cells slots := ev_iconst d_Mo_order_114 (by decide) k
theorem d_Mo_order_115 : decode prog_10_method_19_code 115 = .ok (.iadd, 1) := by decide +kernel
theorem s_Mo_order_115 {x y : Int32} (k : ev G M_Mo_order R E 116 lv (.int (x + y) :: rest) h cells slots) : ev G M_Mo_order R E 115 lv (.int y :: .int x :: rest) h cells slots := ev_iadd d_Mo_order_115 k
theorem d_Mo_order_116 : decode prog_10_method_19_code 116 = .ok (.iaload, 1) := by decide +kernel
theorem s_Mo_order_116 {a n : Nat} {f : Nat → Int32} {i : Int32} (hh : h a = mI 0 n f) (hin : vp_in i n) (k : ev G M_Mo_order R E 117 lv (.int (f i.toNatClampNeg) :: rest) h cells slots) : ev G M_Mo_order R E 116 lv (.int i :: .ref a :: rest) h cells slots := ev_iaload d_Mo_order_116 rfl hh hin k
theorem d_Mo_order_117 : decode prog_10_method_19_code 117 = .ok (.goto 4, 3) := by decide +kernel
theorem s_Mo_order_117  (k : ev G M_Mo_order R E 121 lv rest h cells slots) : ev G M_Mo_order R E 117 lv rest h cells slots := ev_goto d_Mo_order_117 (by decide) k
theorem d_Mo_order_120 : decode prog_10_method_19_code 120 = .ok (.iconst 0, 1) := by decide +kernel
theorem s_Mo_order_120  (k : ev G M_Mo_order R E 121 lv (.int 0 :: rest) h cells slots) : ev G M_Mo_order R E 120 lv rest h cells slots := ev_iconst d_Mo_order_120 (by decide) k
theorem d_Mo_order_121 : decode prog_10_method_19_code 121 = .ok (.istore 6, 2) := by decide +kernel
theorem s_Mo_order_121 {x : Int32} (k : ev G M_Mo_order R E 123 (ls1 lv 6 (.int x)) rest h cells slots) : ev G M_Mo_order R E 121 lv (.int x :: rest) h cells slots := ev_istore d_Mo_order_121 (by decide) k
theorem d_Mo_order_123 : decode prog_10_method_19_code 123 = .ok (.iload_n 3, 1) := by decide +kernel
theorem s_Mo_order_123 {x : Int32} (hl : lg lv 3 = some (.int x)) (k : ev G M_Mo_order R E 124 lv (.int x :: rest) h cells slots) : ev G M_Mo_order R E 123 lv rest h cells slots := ev_iload_n d_Mo_order_123 rfl hl k
theorem d_Mo_order_124 : decode prog_10_method_19_code 124 = .ok (.iconst 0, 1) := by decide +kernel
theorem s_Mo_order_124  (k : ev G M_Mo_order R E 125 lv (.int 0 :: rest) h cells slots) : ev G M_Mo_order R E 124 lv rest h cells slots := ev_iconst d_Mo_order_124 (by decide) k
theorem d_Mo_order_125 : decode prog_10_method_19_code 125 = .ok (.bipush 16, 2) := by decide +kernel
theorem s_Mo_order_125  (k : ev G M_Mo_order R E 127 lv (.int 16 :: rest) h cells slots) : ev G M_Mo_order R E 125 lv rest h cells slots := ev_bipush d_Mo_order_125 (by decide) k
theorem d_Mo_order_127 : decode prog_10_method_19_code 127 = .ok (.invokestatic 50, 3) := by decide +kernel
theorem s_Mo_order_127 {mc ms : Nat} {P : Option Value → HP → Prop} {a0 : Int32} {a1 : Int32} {a2 : Int32} (hm : mt G M_Mo_in 0 mc ms [.int a0, .int a1, .int a2] h P) (hR : 0 + 1 ≤ R.frames ∧ 8 + (3 + 11) + 39 * 0 ≤ R.locals) (hcs : cells + mc ≤ R.cells ∧ slots + ms ≤ R.slots) (hrest : (rest.map fun v => v.category).sum ≤ 8) (k : ∀ (r : Option Value) (h' : HP), P r h' → ev G M_Mo_order R E 130 lv (r.toList ++ rest) h' (cells + mc) (slots + ms)) : ev G M_Mo_order R E 127 lv (.int a2 :: .int a1 :: .int a0 :: rest) h cells slots := ev_callS (as := [.int a0, .int a1, .int a2]) d_Mo_order_127 hm w_769 w_770 w_70 w_771 hy_Mo_in hR hcs hrest k
theorem d_Mo_order_130 : decode prog_10_method_19_code 130 = .ok (.ifCond .eq 13, 3) := by decide +kernel
theorem s_Mo_order_130 {x : Int32} (kt : x = 0 → ev G M_Mo_order R E 143 lv rest h cells slots) (kf : ¬ x = 0 → ev G M_Mo_order R E 133 lv rest h cells slots) : ev G M_Mo_order R E 130 lv (.int x :: rest) h cells slots := ev_if_eq d_Mo_order_130 (by decide) kt kf
theorem d_Mo_order_133 : decode prog_10_method_19_code 133 = .ok (.iload_n 3, 1) := by decide +kernel
theorem s_Mo_order_133 {x : Int32} (hl : lg lv 3 = some (.int x)) (k : ev G M_Mo_order R E 134 lv (.int x :: rest) h cells slots) : ev G M_Mo_order R E 133 lv rest h cells slots := ev_iload_n d_Mo_order_133 rfl hl k
theorem d_Mo_order_134 : decode prog_10_method_19_code 134 = .ok (.bipush 12, 2) := by decide +kernel
theorem s_Mo_order_134  (k : ev G M_Mo_order R E 136 lv (.int 12 :: rest) h cells slots) : ev G M_Mo_order R E 134 lv rest h cells slots := ev_bipush d_Mo_order_134 (by decide) k
theorem d_Mo_order_136 : decode prog_10_method_19_code 136 = .ok (.if_icmp .eq 7, 3) := by decide +kernel
theorem s_Mo_order_136 {x y : Int32} (kt : x = y → ev G M_Mo_order R E 143 lv rest h cells slots) (kf : ¬ x = y → ev G M_Mo_order R E 139 lv rest h cells slots) : ev G M_Mo_order R E 136 lv (.int y :: .int x :: rest) h cells slots := ev_icmp_eq d_Mo_order_136 (by decide) kt kf
theorem d_Mo_order_139 : decode prog_10_method_19_code 139 = .ok (.iconst 1, 1) := by decide +kernel
theorem s_Mo_order_139  (k : ev G M_Mo_order R E 140 lv (.int 1 :: rest) h cells slots) : ev G M_Mo_order R E 139 lv rest h cells slots := ev_iconst d_Mo_order_139 (by decide) k
theorem d_Mo_order_140 : decode prog_10_method_19_code 140 = .ok (.goto 4, 3) := by decide +kernel
theorem s_Mo_order_140  (k : ev G M_Mo_order R E 144 lv rest h cells slots) : ev G M_Mo_order R E 140 lv rest h cells slots := ev_goto d_Mo_order_140 (by decide) k
theorem d_Mo_order_143 : decode prog_10_method_19_code 143 = .ok (.iconst 0, 1) := by decide +kernel
theorem s_Mo_order_143  (k : ev G M_Mo_order R E 144 lv (.int 0 :: rest) h cells slots) : ev G M_Mo_order R E 143 lv rest h cells slots := ev_iconst d_Mo_order_143 (by decide) k
theorem d_Mo_order_144 : decode prog_10_method_19_code 144 = .ok (.istore 7, 2) := by decide +kernel
theorem s_Mo_order_144 {x : Int32} (k : ev G M_Mo_order R E 146 (ls1 lv 7 (.int x)) rest h cells slots) : ev G M_Mo_order R E 144 lv (.int x :: rest) h cells slots := ev_istore d_Mo_order_144 (by decide) k
theorem d_Mo_order_146 : decode prog_10_method_19_code 146 = .ok (.iload_n 3, 1) := by decide +kernel
theorem s_Mo_order_146 {x : Int32} (hl : lg lv 3 = some (.int x)) (k : ev G M_Mo_order R E 147 lv (.int x :: rest) h cells slots) : ev G M_Mo_order R E 146 lv rest h cells slots := ev_iload_n d_Mo_order_146 rfl hl k
theorem d_Mo_order_147 : decode prog_10_method_19_code 147 = .ok (.iconst 1, 1) := by decide +kernel
theorem s_Mo_order_147  (k : ev G M_Mo_order R E 148 lv (.int 1 :: rest) h cells slots) : ev G M_Mo_order R E 147 lv rest h cells slots := ev_iconst d_Mo_order_147 (by decide) k
theorem d_Mo_order_148 : decode prog_10_method_19_code 148 = .ok (.bipush 6, 2) := by decide +kernel
theorem s_Mo_order_148  (k : ev G M_Mo_order R E 150 lv (.int 6 :: rest) h cells slots) : ev G M_Mo_order R E 148 lv rest h cells slots := ev_bipush d_Mo_order_148 (by decide) k
theorem d_Mo_order_150 : decode prog_10_method_19_code 150 = .ok (.invokestatic 50, 3) := by decide +kernel
theorem s_Mo_order_150 {mc ms : Nat} {P : Option Value → HP → Prop} {a0 : Int32} {a1 : Int32} {a2 : Int32} (hm : mt G M_Mo_in 0 mc ms [.int a0, .int a1, .int a2] h P) (hR : 0 + 1 ≤ R.frames ∧ 8 + (3 + 11) + 39 * 0 ≤ R.locals) (hcs : cells + mc ≤ R.cells ∧ slots + ms ≤ R.slots) (hrest : (rest.map fun v => v.category).sum ≤ 8) (k : ∀ (r : Option Value) (h' : HP), P r h' → ev G M_Mo_order R E 153 lv (r.toList ++ rest) h' (cells + mc) (slots + ms)) : ev G M_Mo_order R E 150 lv (.int a2 :: .int a1 :: .int a0 :: rest) h cells slots := ev_callS (as := [.int a0, .int a1, .int a2]) d_Mo_order_150 hm w_769 w_770 w_70 w_771 hy_Mo_in hR hcs hrest k
theorem d_Mo_order_153 : decode prog_10_method_19_code 153 = .ok (.ifCond .ne 21, 3) := by decide +kernel
theorem s_Mo_order_153 {x : Int32} (kt : ¬ x = 0 → ev G M_Mo_order R E 174 lv rest h cells slots) (kf : x = 0 → ev G M_Mo_order R E 156 lv rest h cells slots) : ev G M_Mo_order R E 153 lv (.int x :: rest) h cells slots := ev_if_ne d_Mo_order_153 (by decide) kt kf
theorem d_Mo_order_156 : decode prog_10_method_19_code 156 = .ok (.iload_n 3, 1) := by decide +kernel
theorem s_Mo_order_156 {x : Int32} (hl : lg lv 3 = some (.int x)) (k : ev G M_Mo_order R E 157 lv (.int x :: rest) h cells slots) : ev G M_Mo_order R E 156 lv rest h cells slots := ev_iload_n d_Mo_order_156 rfl hl k
theorem d_Mo_order_157 : decode prog_10_method_19_code 157 = .ok (.bipush 10, 2) := by decide +kernel
theorem s_Mo_order_157  (k : ev G M_Mo_order R E 159 lv (.int 10 :: rest) h cells slots) : ev G M_Mo_order R E 157 lv rest h cells slots := ev_bipush d_Mo_order_157 (by decide) k
theorem d_Mo_order_159 : decode prog_10_method_19_code 159 = .ok (.if_icmp .eq 15, 3) := by decide +kernel
theorem s_Mo_order_159 {x y : Int32} (kt : x = y → ev G M_Mo_order R E 174 lv rest h cells slots) (kf : ¬ x = y → ev G M_Mo_order R E 162 lv rest h cells slots) : ev G M_Mo_order R E 159 lv (.int y :: .int x :: rest) h cells slots := ev_icmp_eq d_Mo_order_159 (by decide) kt kf
theorem d_Mo_order_162 : decode prog_10_method_19_code 162 = .ok (.iload_n 3, 1) := by decide +kernel
theorem s_Mo_order_162 {x : Int32} (hl : lg lv 3 = some (.int x)) (k : ev G M_Mo_order R E 163 lv (.int x :: rest) h cells slots) : ev G M_Mo_order R E 162 lv rest h cells slots := ev_iload_n d_Mo_order_162 rfl hl k
theorem d_Mo_order_163 : decode prog_10_method_19_code 163 = .ok (.bipush 11, 2) := by decide +kernel
theorem s_Mo_order_163  (k : ev G M_Mo_order R E 165 lv (.int 11 :: rest) h cells slots) : ev G M_Mo_order R E 163 lv rest h cells slots := ev_bipush d_Mo_order_163 (by decide) k
theorem d_Mo_order_165 : decode prog_10_method_19_code 165 = .ok (.if_icmp .eq 9, 3) := by decide +kernel
theorem s_Mo_order_165 {x y : Int32} (kt : x = y → ev G M_Mo_order R E 174 lv rest h cells slots) (kf : ¬ x = y → ev G M_Mo_order R E 168 lv rest h cells slots) : ev G M_Mo_order R E 165 lv (.int y :: .int x :: rest) h cells slots := ev_icmp_eq d_Mo_order_165 (by decide) kt kf
theorem d_Mo_order_168 : decode prog_10_method_19_code 168 = .ok (.iload_n 3, 1) := by decide +kernel
theorem s_Mo_order_168 {x : Int32} (hl : lg lv 3 = some (.int x)) (k : ev G M_Mo_order R E 169 lv (.int x :: rest) h cells slots) : ev G M_Mo_order R E 168 lv rest h cells slots := ev_iload_n d_Mo_order_168 rfl hl k
theorem d_Mo_order_169 : decode prog_10_method_19_code 169 = .ok (.bipush 14, 2) := by decide +kernel
theorem s_Mo_order_169  (k : ev G M_Mo_order R E 171 lv (.int 14 :: rest) h cells slots) : ev G M_Mo_order R E 169 lv rest h cells slots := ev_bipush d_Mo_order_169 (by decide) k
theorem d_Mo_order_171 : decode prog_10_method_19_code 171 = .ok (.if_icmp .ne 7, 3) := by decide +kernel
theorem s_Mo_order_171 {x y : Int32} (kt : ¬ x = y → ev G M_Mo_order R E 178 lv rest h cells slots) (kf : x = y → ev G M_Mo_order R E 174 lv rest h cells slots) : ev G M_Mo_order R E 171 lv (.int y :: .int x :: rest) h cells slots := ev_icmp_ne d_Mo_order_171 (by decide) kt kf
theorem d_Mo_order_174 : decode prog_10_method_19_code 174 = .ok (.iconst 1, 1) := by decide +kernel
theorem s_Mo_order_174  (k : ev G M_Mo_order R E 175 lv (.int 1 :: rest) h cells slots) : ev G M_Mo_order R E 174 lv rest h cells slots := ev_iconst d_Mo_order_174 (by decide) k
theorem d_Mo_order_175 : decode prog_10_method_19_code 175 = .ok (.goto 4, 3) := by decide +kernel
theorem s_Mo_order_175  (k : ev G M_Mo_order R E 179 lv rest h cells slots) : ev G M_Mo_order R E 175 lv rest h cells slots := ev_goto d_Mo_order_175 (by decide) k
theorem d_Mo_order_178 : decode prog_10_method_19_code 178 = .ok (.iconst 0, 1) := by decide +kernel
theorem s_Mo_order_178  (k : ev G M_Mo_order R E 179 lv (.int 0 :: rest) h cells slots) : ev G M_Mo_order R E 178 lv rest h cells slots := ev_iconst d_Mo_order_178 (by decide) k
theorem d_Mo_order_179 : decode prog_10_method_19_code 179 = .ok (.istore 8, 2) := by decide +kernel
theorem s_Mo_order_179 {x : Int32} (k : ev G M_Mo_order R E 181 (ls1 lv 8 (.int x)) rest h cells slots) : ev G M_Mo_order R E 179 lv (.int x :: rest) h cells slots := ev_istore d_Mo_order_179 (by decide) k
theorem d_Mo_order_181 : decode prog_10_method_19_code 181 = .ok (.iload_n 3, 1) := by decide +kernel
theorem s_Mo_order_181 {x : Int32} (hl : lg lv 3 = some (.int x)) (k : ev G M_Mo_order R E 182 lv (.int x :: rest) h cells slots) : ev G M_Mo_order R E 181 lv rest h cells slots := ev_iload_n d_Mo_order_181 rfl hl k
theorem d_Mo_order_182 : decode prog_10_method_19_code 182 = .ok (.iconst 0, 1) := by decide +kernel
theorem s_Mo_order_182  (k : ev G M_Mo_order R E 183 lv (.int 0 :: rest) h cells slots) : ev G M_Mo_order R E 182 lv rest h cells slots := ev_iconst d_Mo_order_182 (by decide) k
theorem d_Mo_order_183 : decode prog_10_method_19_code 183 = .ok (.bipush 18, 2) := by decide +kernel
theorem s_Mo_order_183  (k : ev G M_Mo_order R E 185 lv (.int 18 :: rest) h cells slots) : ev G M_Mo_order R E 183 lv rest h cells slots := ev_bipush d_Mo_order_183 (by decide) k
theorem d_Mo_order_185 : decode prog_10_method_19_code 185 = .ok (.invokestatic 50, 3) := by decide +kernel
theorem s_Mo_order_185 {mc ms : Nat} {P : Option Value → HP → Prop} {a0 : Int32} {a1 : Int32} {a2 : Int32} (hm : mt G M_Mo_in 0 mc ms [.int a0, .int a1, .int a2] h P) (hR : 0 + 1 ≤ R.frames ∧ 8 + (3 + 11) + 39 * 0 ≤ R.locals) (hcs : cells + mc ≤ R.cells ∧ slots + ms ≤ R.slots) (hrest : (rest.map fun v => v.category).sum ≤ 8) (k : ∀ (r : Option Value) (h' : HP), P r h' → ev G M_Mo_order R E 188 lv (r.toList ++ rest) h' (cells + mc) (slots + ms)) : ev G M_Mo_order R E 185 lv (.int a2 :: .int a1 :: .int a0 :: rest) h cells slots := ev_callS (as := [.int a0, .int a1, .int a2]) d_Mo_order_185 hm w_769 w_770 w_70 w_771 hy_Mo_in hR hcs hrest k
theorem d_Mo_order_188 : decode prog_10_method_19_code 188 = .ok (.ifCond .eq 79, 3) := by decide +kernel
theorem s_Mo_order_188 {x : Int32} (kt : x = 0 → ev G M_Mo_order R E 267 lv rest h cells slots) (kf : ¬ x = 0 → ev G M_Mo_order R E 191 lv rest h cells slots) : ev G M_Mo_order R E 188 lv (.int x :: rest) h cells slots := ev_if_eq d_Mo_order_188 (by decide) kt kf
theorem d_Mo_order_191 : decode prog_10_method_19_code 191 = .ok (.iload 7, 2) := by decide +kernel
theorem s_Mo_order_191 {x : Int32} (hl : lg lv 7 = some (.int x)) (k : ev G M_Mo_order R E 193 lv (.int x :: rest) h cells slots) : ev G M_Mo_order R E 191 lv rest h cells slots := ev_iload d_Mo_order_191 hl k
theorem d_Mo_order_193 : decode prog_10_method_19_code 193 = .ok (.ifCond .eq 14, 3) := by decide +kernel
theorem s_Mo_order_193 {x : Int32} (kt : x = 0 → ev G M_Mo_order R E 207 lv rest h cells slots) (kf : ¬ x = 0 → ev G M_Mo_order R E 196 lv rest h cells slots) : ev G M_Mo_order R E 193 lv (.int x :: rest) h cells slots := ev_if_eq d_Mo_order_193 (by decide) kt kf
theorem d_Mo_order_196 : decode prog_10_method_19_code 196 = .ok (.iload 4, 2) := by decide +kernel
theorem s_Mo_order_196 {x : Int32} (hl : lg lv 4 = some (.int x)) (k : ev G M_Mo_order R E 198 lv (.int x :: rest) h cells slots) : ev G M_Mo_order R E 196 lv rest h cells slots := ev_iload d_Mo_order_196 hl k
theorem d_Mo_order_198 : decode prog_10_method_19_code 198 = .ok (.iconst 0, 1) := by decide +kernel
theorem s_Mo_order_198  (k : ev G M_Mo_order R E 199 lv (.int 0 :: rest) h cells slots) : ev G M_Mo_order R E 198 lv rest h cells slots := ev_iconst d_Mo_order_198 (by decide) k
theorem d_Mo_order_199 : decode prog_10_method_19_code 199 = .ok (.bipush 7, 2) := by decide +kernel
theorem s_Mo_order_199  (k : ev G M_Mo_order R E 201 lv (.int 7 :: rest) h cells slots) : ev G M_Mo_order R E 199 lv rest h cells slots := ev_bipush d_Mo_order_199 (by decide) k
theorem d_Mo_order_201 : decode prog_10_method_19_code 201 = .ok (.invokestatic 50, 3) := by decide +kernel
theorem s_Mo_order_201 {mc ms : Nat} {P : Option Value → HP → Prop} {a0 : Int32} {a1 : Int32} {a2 : Int32} (hm : mt G M_Mo_in 0 mc ms [.int a0, .int a1, .int a2] h P) (hR : 0 + 1 ≤ R.frames ∧ 8 + (3 + 11) + 39 * 0 ≤ R.locals) (hcs : cells + mc ≤ R.cells ∧ slots + ms ≤ R.slots) (hrest : (rest.map fun v => v.category).sum ≤ 8) (k : ∀ (r : Option Value) (h' : HP), P r h' → ev G M_Mo_order R E 204 lv (r.toList ++ rest) h' (cells + mc) (slots + ms)) : ev G M_Mo_order R E 201 lv (.int a2 :: .int a1 :: .int a0 :: rest) h cells slots := ev_callS (as := [.int a0, .int a1, .int a2]) d_Mo_order_201 hm w_769 w_770 w_70 w_771 hy_Mo_in hR hcs hrest k
theorem d_Mo_order_204 : decode prog_10_method_19_code 204 = .ok (.ifCond .eq 63, 3) := by decide +kernel
theorem s_Mo_order_204 {x : Int32} (kt : x = 0 → ev G M_Mo_order R E 267 lv rest h cells slots) (kf : ¬ x = 0 → ev G M_Mo_order R E 207 lv rest h cells slots) : ev G M_Mo_order R E 204 lv (.int x :: rest) h cells slots := ev_if_eq d_Mo_order_204 (by decide) kt kf
theorem d_Mo_order_207 : decode prog_10_method_19_code 207 = .ok (.iload 8, 2) := by decide +kernel
theorem s_Mo_order_207 {x : Int32} (hl : lg lv 8 = some (.int x)) (k : ev G M_Mo_order R E 209 lv (.int x :: rest) h cells slots) : ev G M_Mo_order R E 207 lv rest h cells slots := ev_iload d_Mo_order_207 hl k
theorem d_Mo_order_209 : decode prog_10_method_19_code 209 = .ok (.ifCond .eq 14, 3) := by decide +kernel
theorem s_Mo_order_209 {x : Int32} (kt : x = 0 → ev G M_Mo_order R E 223 lv rest h cells slots) (kf : ¬ x = 0 → ev G M_Mo_order R E 212 lv rest h cells slots) : ev G M_Mo_order R E 209 lv (.int x :: rest) h cells slots := ev_if_eq d_Mo_order_209 (by decide) kt kf
theorem d_Mo_order_212 : decode prog_10_method_19_code 212 = .ok (.iload 5, 2) := by decide +kernel
theorem s_Mo_order_212 {x : Int32} (hl : lg lv 5 = some (.int x)) (k : ev G M_Mo_order R E 214 lv (.int x :: rest) h cells slots) : ev G M_Mo_order R E 212 lv rest h cells slots := ev_iload d_Mo_order_212 hl k
theorem d_Mo_order_214 : decode prog_10_method_19_code 214 = .ok (.iconst 0, 1) := by decide +kernel
theorem s_Mo_order_214  (k : ev G M_Mo_order R E 215 lv (.int 0 :: rest) h cells slots) : ev G M_Mo_order R E 214 lv rest h cells slots := ev_iconst d_Mo_order_214 (by decide) k
theorem d_Mo_order_215 : decode prog_10_method_19_code 215 = .ok (.bipush 7, 2) := by decide +kernel
theorem s_Mo_order_215  (k : ev G M_Mo_order R E 217 lv (.int 7 :: rest) h cells slots) : ev G M_Mo_order R E 215 lv rest h cells slots := ev_bipush d_Mo_order_215 (by decide) k
theorem d_Mo_order_217 : decode prog_10_method_19_code 217 = .ok (.invokestatic 50, 3) := by decide +kernel
theorem s_Mo_order_217 {mc ms : Nat} {P : Option Value → HP → Prop} {a0 : Int32} {a1 : Int32} {a2 : Int32} (hm : mt G M_Mo_in 0 mc ms [.int a0, .int a1, .int a2] h P) (hR : 0 + 1 ≤ R.frames ∧ 8 + (3 + 11) + 39 * 0 ≤ R.locals) (hcs : cells + mc ≤ R.cells ∧ slots + ms ≤ R.slots) (hrest : (rest.map fun v => v.category).sum ≤ 8) (k : ∀ (r : Option Value) (h' : HP), P r h' → ev G M_Mo_order R E 220 lv (r.toList ++ rest) h' (cells + mc) (slots + ms)) : ev G M_Mo_order R E 217 lv (.int a2 :: .int a1 :: .int a0 :: rest) h cells slots := ev_callS (as := [.int a0, .int a1, .int a2]) d_Mo_order_217 hm w_769 w_770 w_70 w_771 hy_Mo_in hR hcs hrest k
theorem d_Mo_order_220 : decode prog_10_method_19_code 220 = .ok (.ifCond .eq 47, 3) := by decide +kernel
theorem s_Mo_order_220 {x : Int32} (kt : x = 0 → ev G M_Mo_order R E 267 lv rest h cells slots) (kf : ¬ x = 0 → ev G M_Mo_order R E 223 lv rest h cells slots) : ev G M_Mo_order R E 220 lv (.int x :: rest) h cells slots := ev_if_eq d_Mo_order_220 (by decide) kt kf
theorem d_Mo_order_223 : decode prog_10_method_19_code 223 = .ok (.iload_n 3, 1) := by decide +kernel
theorem s_Mo_order_223 {x : Int32} (hl : lg lv 3 = some (.int x)) (k : ev G M_Mo_order R E 224 lv (.int x :: rest) h cells slots) : ev G M_Mo_order R E 223 lv rest h cells slots := ev_iload_n d_Mo_order_223 rfl hl k
theorem d_Mo_order_224 : decode prog_10_method_19_code 224 = .ok (.bipush 15, 2) := by decide +kernel
theorem s_Mo_order_224  (k : ev G M_Mo_order R E 226 lv (.int 15 :: rest) h cells slots) : ev G M_Mo_order R E 224 lv rest h cells slots := ev_bipush d_Mo_order_224 (by decide) k
theorem d_Mo_order_226 : decode prog_10_method_19_code 226 = .ok (.if_icmp .ne 24, 3) := by decide +kernel
theorem s_Mo_order_226 {x y : Int32} (kt : ¬ x = y → ev G M_Mo_order R E 250 lv rest h cells slots) (kf : x = y → ev G M_Mo_order R E 229 lv rest h cells slots) : ev G M_Mo_order R E 226 lv (.int y :: .int x :: rest) h cells slots := ev_icmp_ne d_Mo_order_226 (by decide) kt kf
theorem d_Mo_order_229 : decode prog_10_method_19_code 229 = .ok (.iload 5, 2) := by decide +kernel
theorem s_Mo_order_229 {x : Int32} (hl : lg lv 5 = some (.int x)) (k : ev G M_Mo_order R E 231 lv (.int x :: rest) h cells slots) : ev G M_Mo_order R E 229 lv rest h cells slots := ev_iload d_Mo_order_229 hl k
theorem d_Mo_order_231 : decode prog_10_method_19_code 231 = .ok (.iconst 0, 1) := by decide +kernel
theorem s_Mo_order_231  (k : ev G M_Mo_order R E 232 lv (.int 0 :: rest) h cells slots) : ev G M_Mo_order R E 231 lv rest h cells slots := ev_iconst d_Mo_order_231 (by decide) k
theorem d_Mo_order_232 : decode prog_10_method_19_code 232 = .ok (.iconst 2, 1) := by decide +kernel
theorem s_Mo_order_232  (k : ev G M_Mo_order R E 233 lv (.int 2 :: rest) h cells slots) : ev G M_Mo_order R E 232 lv rest h cells slots := ev_iconst d_Mo_order_232 (by decide) k
theorem d_Mo_order_233 : decode prog_10_method_19_code 233 = .ok (.invokestatic 50, 3) := by decide +kernel
theorem s_Mo_order_233 {mc ms : Nat} {P : Option Value → HP → Prop} {a0 : Int32} {a1 : Int32} {a2 : Int32} (hm : mt G M_Mo_in 0 mc ms [.int a0, .int a1, .int a2] h P) (hR : 0 + 1 ≤ R.frames ∧ 8 + (3 + 11) + 39 * 0 ≤ R.locals) (hcs : cells + mc ≤ R.cells ∧ slots + ms ≤ R.slots) (hrest : (rest.map fun v => v.category).sum ≤ 8) (k : ∀ (r : Option Value) (h' : HP), P r h' → ev G M_Mo_order R E 236 lv (r.toList ++ rest) h' (cells + mc) (slots + ms)) : ev G M_Mo_order R E 233 lv (.int a2 :: .int a1 :: .int a0 :: rest) h cells slots := ev_callS (as := [.int a0, .int a1, .int a2]) d_Mo_order_233 hm w_769 w_770 w_70 w_771 hy_Mo_in hR hcs hrest k
theorem d_Mo_order_236 : decode prog_10_method_19_code 236 = .ok (.ifCond .eq 31, 3) := by decide +kernel
theorem s_Mo_order_236 {x : Int32} (kt : x = 0 → ev G M_Mo_order R E 267 lv rest h cells slots) (kf : ¬ x = 0 → ev G M_Mo_order R E 239 lv rest h cells slots) : ev G M_Mo_order R E 236 lv (.int x :: rest) h cells slots := ev_if_eq d_Mo_order_236 (by decide) kt kf
theorem d_Mo_order_239 : decode prog_10_method_19_code 239 = .ok (.iload 6, 2) := by decide +kernel
theorem s_Mo_order_239 {x : Int32} (hl : lg lv 6 = some (.int x)) (k : ev G M_Mo_order R E 241 lv (.int x :: rest) h cells slots) : ev G M_Mo_order R E 239 lv rest h cells slots := ev_iload d_Mo_order_239 hl k
theorem d_Mo_order_241 : decode prog_10_method_19_code 241 = .ok (.iconst 0, 1) := by decide +kernel
theorem s_Mo_order_241  (k : ev G M_Mo_order R E 242 lv (.int 0 :: rest) h cells slots) : ev G M_Mo_order R E 241 lv rest h cells slots := ev_iconst d_Mo_order_241 (by decide) k
theorem d_Mo_order_242 : decode prog_10_method_19_code 242 = .ok (.bipush 63, 2) := by decide +kernel
theorem s_Mo_order_242  (k : ev G M_Mo_order R E 244 lv (.int 63 :: rest) h cells slots) : ev G M_Mo_order R E 242 lv rest h cells slots := ev_bipush d_Mo_order_242 (by decide) k
theorem d_Mo_order_244 : decode prog_10_method_19_code 244 = .ok (.invokestatic 50, 3) := by decide +kernel
theorem s_Mo_order_244 {mc ms : Nat} {P : Option Value → HP → Prop} {a0 : Int32} {a1 : Int32} {a2 : Int32} (hm : mt G M_Mo_in 0 mc ms [.int a0, .int a1, .int a2] h P) (hR : 0 + 1 ≤ R.frames ∧ 8 + (3 + 11) + 39 * 0 ≤ R.locals) (hcs : cells + mc ≤ R.cells ∧ slots + ms ≤ R.slots) (hrest : (rest.map fun v => v.category).sum ≤ 8) (k : ∀ (r : Option Value) (h' : HP), P r h' → ev G M_Mo_order R E 247 lv (r.toList ++ rest) h' (cells + mc) (slots + ms)) : ev G M_Mo_order R E 244 lv (.int a2 :: .int a1 :: .int a0 :: rest) h cells slots := ev_callS (as := [.int a0, .int a1, .int a2]) d_Mo_order_244 hm w_769 w_770 w_70 w_771 hy_Mo_in hR hcs hrest k
theorem d_Mo_order_247 : decode prog_10_method_19_code 247 = .ok (.ifCond .eq 20, 3) := by decide +kernel
theorem s_Mo_order_247 {x : Int32} (kt : x = 0 → ev G M_Mo_order R E 267 lv rest h cells slots) (kf : ¬ x = 0 → ev G M_Mo_order R E 250 lv rest h cells slots) : ev G M_Mo_order R E 247 lv (.int x :: rest) h cells slots := ev_if_eq d_Mo_order_247 (by decide) kt kf
theorem d_Mo_order_250 : decode prog_10_method_19_code 250 = .ok (.iload_n 3, 1) := by decide +kernel
theorem s_Mo_order_250 {x : Int32} (hl : lg lv 3 = some (.int x)) (k : ev G M_Mo_order R E 251 lv (.int x :: rest) h cells slots) : ev G M_Mo_order R E 250 lv rest h cells slots := ev_iload_n d_Mo_order_250 rfl hl k
theorem d_Mo_order_251 : decode prog_10_method_19_code 251 = .ok (.bipush 16, 2) := by decide +kernel
theorem s_Mo_order_251  (k : ev G M_Mo_order R E 253 lv (.int 16 :: rest) h cells slots) : ev G M_Mo_order R E 251 lv rest h cells slots := ev_bipush d_Mo_order_251 (by decide) k
theorem d_Mo_order_253 : decode prog_10_method_19_code 253 = .ok (.if_icmp .ne 18, 3) := by decide +kernel
theorem s_Mo_order_253 {x y : Int32} (kt : ¬ x = y → ev G M_Mo_order R E 271 lv rest h cells slots) (kf : x = y → ev G M_Mo_order R E 256 lv rest h cells slots) : ev G M_Mo_order R E 253 lv (.int y :: .int x :: rest) h cells slots := ev_icmp_ne d_Mo_order_253 (by decide) kt kf
theorem d_Mo_order_256 : decode prog_10_method_19_code 256 = .ok (.iload 5, 2) := by decide +kernel
theorem s_Mo_order_256 {x : Int32} (hl : lg lv 5 = some (.int x)) (k : ev G M_Mo_order R E 258 lv (.int x :: rest) h cells slots) : ev G M_Mo_order R E 256 lv rest h cells slots := ev_iload d_Mo_order_256 hl k
theorem d_Mo_order_258 : decode prog_10_method_19_code 258 = .ok (.iconst 0, 1) := by decide +kernel
theorem s_Mo_order_258  (k : ev G M_Mo_order R E 259 lv (.int 0 :: rest) h cells slots) : ev G M_Mo_order R E 258 lv rest h cells slots := ev_iconst d_Mo_order_258 (by decide) k
theorem d_Mo_order_259 : decode prog_10_method_19_code 259 = .ok (.bipush 6, 2) := by decide +kernel
theorem s_Mo_order_259  (k : ev G M_Mo_order R E 261 lv (.int 6 :: rest) h cells slots) : ev G M_Mo_order R E 259 lv rest h cells slots := ev_bipush d_Mo_order_259 (by decide) k
theorem d_Mo_order_261 : decode prog_10_method_19_code 261 = .ok (.invokestatic 50, 3) := by decide +kernel
theorem s_Mo_order_261 {mc ms : Nat} {P : Option Value → HP → Prop} {a0 : Int32} {a1 : Int32} {a2 : Int32} (hm : mt G M_Mo_in 0 mc ms [.int a0, .int a1, .int a2] h P) (hR : 0 + 1 ≤ R.frames ∧ 8 + (3 + 11) + 39 * 0 ≤ R.locals) (hcs : cells + mc ≤ R.cells ∧ slots + ms ≤ R.slots) (hrest : (rest.map fun v => v.category).sum ≤ 8) (k : ∀ (r : Option Value) (h' : HP), P r h' → ev G M_Mo_order R E 264 lv (r.toList ++ rest) h' (cells + mc) (slots + ms)) : ev G M_Mo_order R E 261 lv (.int a2 :: .int a1 :: .int a0 :: rest) h cells slots := ev_callS (as := [.int a0, .int a1, .int a2]) d_Mo_order_261 hm w_769 w_770 w_70 w_771 hy_Mo_in hR hcs hrest k
theorem d_Mo_order_264 : decode prog_10_method_19_code 264 = .ok (.ifCond .ne 7, 3) := by decide +kernel
theorem s_Mo_order_264 {x : Int32} (kt : ¬ x = 0 → ev G M_Mo_order R E 271 lv rest h cells slots) (kf : x = 0 → ev G M_Mo_order R E 267 lv rest h cells slots) : ev G M_Mo_order R E 264 lv (.int x :: rest) h cells slots := ev_if_ne d_Mo_order_264 (by decide) kt kf
theorem d_Mo_order_267 : decode prog_10_method_19_code 267 = .ok (.iconst 1, 1) := by decide +kernel
theorem s_Mo_order_267  (k : ev G M_Mo_order R E 268 lv (.int 1 :: rest) h cells slots) : ev G M_Mo_order R E 267 lv rest h cells slots := ev_iconst d_Mo_order_267 (by decide) k
theorem d_Mo_order_268 : decode prog_10_method_19_code 268 = .ok (.goto 4, 3) := by decide +kernel
theorem s_Mo_order_268  (k : ev G M_Mo_order R E 272 lv rest h cells slots) : ev G M_Mo_order R E 268 lv rest h cells slots := ev_goto d_Mo_order_268 (by decide) k
theorem d_Mo_order_271 : decode prog_10_method_19_code 271 = .ok (.iconst 0, 1) := by decide +kernel
theorem s_Mo_order_271  (k : ev G M_Mo_order R E 272 lv (.int 0 :: rest) h cells slots) : ev G M_Mo_order R E 271 lv rest h cells slots := ev_iconst d_Mo_order_271 (by decide) k
theorem d_Mo_order_272 : decode prog_10_method_19_code 272 = .ok (.istore 9, 2) := by decide +kernel
theorem s_Mo_order_272 {x : Int32} (k : ev G M_Mo_order R E 274 (ls1 lv 9 (.int x)) rest h cells slots) : ev G M_Mo_order R E 272 lv (.int x :: rest) h cells slots := ev_istore d_Mo_order_272 (by decide) k
theorem d_Mo_order_274 : decode prog_10_method_19_code 274 = .ok (.iload 9, 2) := by decide +kernel
theorem s_Mo_order_274 {x : Int32} (hl : lg lv 9 = some (.int x)) (k : ev G M_Mo_order R E 276 lv (.int x :: rest) h cells slots) : ev G M_Mo_order R E 274 lv rest h cells slots := ev_iload d_Mo_order_274 hl k
theorem d_Mo_order_276 : decode prog_10_method_19_code 276 = .ok (.ifCond .eq 7, 3) := by decide +kernel
theorem s_Mo_order_276 {x : Int32} (kt : x = 0 → ev G M_Mo_order R E 283 lv rest h cells slots) (kf : ¬ x = 0 → ev G M_Mo_order R E 279 lv rest h cells slots) : ev G M_Mo_order R E 276 lv (.int x :: rest) h cells slots := ev_if_eq d_Mo_order_276 (by decide) kt kf
theorem d_Mo_order_279 : decode prog_10_method_19_code 279 = .ok (.iconst 5, 1) := by decide +kernel
theorem s_Mo_order_279  (k : ev G M_Mo_order R E 280 lv (.int 5 :: rest) h cells slots) : ev G M_Mo_order R E 279 lv rest h cells slots := ev_iconst d_Mo_order_279 (by decide) k
theorem d_Mo_order_280 : decode prog_10_method_19_code 280 = .ok (.goto 146, 3) := by decide +kernel
theorem s_Mo_order_280  (k : ev G M_Mo_order R E 426 lv rest h cells slots) : ev G M_Mo_order R E 280 lv rest h cells slots := ev_goto d_Mo_order_280 (by decide) k
theorem d_Mo_order_283 : decode prog_10_method_19_code 283 = .ok (.iload_n 3, 1) := by decide +kernel
theorem s_Mo_order_283 {x : Int32} (hl : lg lv 3 = some (.int x)) (k : ev G M_Mo_order R E 284 lv (.int x :: rest) h cells slots) : ev G M_Mo_order R E 283 lv rest h cells slots := ev_iload_n d_Mo_order_283 rfl hl k
theorem d_Mo_order_284 : decode prog_10_method_19_code 284 = .ok (.iconst 4, 1) := by decide +kernel
theorem s_Mo_order_284  (k : ev G M_Mo_order R E 285 lv (.int 4 :: rest) h cells slots) : ev G M_Mo_order R E 284 lv rest h cells slots := ev_iconst d_Mo_order_284 (by decide) k
theorem d_Mo_order_285 : decode prog_10_method_19_code 285 = .ok (.if_icmp .ge 15, 3) := by decide +kernel
theorem s_Mo_order_285 {x y : Int32} (kt : y ≤ x → ev G M_Mo_order R E 300 lv rest h cells slots) (kf : ¬ y ≤ x → ev G M_Mo_order R E 288 lv rest h cells slots) : ev G M_Mo_order R E 285 lv (.int y :: .int x :: rest) h cells slots := ev_icmp_ge d_Mo_order_285 (by decide) kt kf
theorem d_Mo_order_288 : decode prog_10_method_19_code 288 = .ok (.aload_n 0, 1) := by decide +kernel
theorem s_Mo_order_288 {x : Nat} (hl : lg lv 0 = some (.ref x)) (k : ev G M_Mo_order R E 289 lv (.ref x :: rest) h cells slots) : ev G M_Mo_order R E 288 lv rest h cells slots := ev_aload_n d_Mo_order_288 rfl hl k
theorem d_Mo_order_289 : decode prog_10_method_19_code 289 = .ok (.iload_n 3, 1) := by decide +kernel
theorem s_Mo_order_289 {x : Int32} (hl : lg lv 3 = some (.int x)) (k : ev G M_Mo_order R E 290 lv (.int x :: rest) h cells slots) : ev G M_Mo_order R E 289 lv rest h cells slots := ev_iload_n d_Mo_order_289 rfl hl k
theorem d_Mo_order_290 : decode prog_10_method_19_code 290 = .ok (.iload 4, 2) := by decide +kernel
theorem s_Mo_order_290 {x : Int32} (hl : lg lv 4 = some (.int x)) (k : ev G M_Mo_order R E 292 lv (.int x :: rest) h cells slots) : ev G M_Mo_order R E 290 lv rest h cells slots := ev_iload d_Mo_order_290 hl k
theorem d_Mo_order_292 : decode prog_10_method_19_code 292 = .ok (.iload 5, 2) := by decide +kernel
theorem s_Mo_order_292 {x : Int32} (hl : lg lv 5 = some (.int x)) (k : ev G M_Mo_order R E 294 lv (.int x :: rest) h cells slots) : ev G M_Mo_order R E 292 lv rest h cells slots := ev_iload d_Mo_order_292 hl k
theorem d_Mo_order_294 : decode prog_10_method_19_code 294 = .ok (.invokevirtual 103, 3) := by decide +kernel
theorem s_Mo_order_294 {mc ms : Nat} {P : Option Value → HP → Prop} {a0 : Int32} {a1 : Int32} {a2 : Int32} {b : Nat} {fs : List Value} {v0 : Value} (hm : mt G M_Mo_simple 4 mc ms (.ref b :: [.int a0, .int a1, .int a2]) h P) (hb : h b = mO 7 fs) (hv0 : fs[0]? = some v0) (hR : 4 + 1 ≤ R.frames ∧ 8 + (4 + 11) + 39 * 4 ≤ R.locals) (hcs : cells + mc ≤ R.cells ∧ slots + ms ≤ R.slots) (hrest : (rest.map fun v => v.category).sum ≤ 8) (k : ∀ (r : Option Value) (h' : HP), P r h' → ev G M_Mo_order R E 297 lv (r.toList ++ rest) h' (cells + mc) (slots + ms)) : ev G M_Mo_order R E 294 lv (.int a2 :: .int a1 :: .int a0 :: .ref b :: rest) h cells slots := ev_callV (as := [.int a0, .int a1, .int a2]) (ci := 7) d_Mo_order_294 hm hb hv0 rfl w_796 w_798 w_37 w_70 w_799 hy_Mo_simple hR hcs hrest k
theorem d_Mo_order_297 : decode prog_10_method_19_code 297 = .ok (.goto 129, 3) := by decide +kernel
theorem s_Mo_order_297  (k : ev G M_Mo_order R E 426 lv rest h cells slots) : ev G M_Mo_order R E 297 lv rest h cells slots := ev_goto d_Mo_order_297 (by decide) k
theorem d_Mo_order_300 : decode prog_10_method_19_code 300 = .ok (.iload_n 3, 1) := by decide +kernel
theorem s_Mo_order_300 {x : Int32} (hl : lg lv 3 = some (.int x)) (k : ev G M_Mo_order R E 301 lv (.int x :: rest) h cells slots) : ev G M_Mo_order R E 300 lv rest h cells slots := ev_iload_n d_Mo_order_300 rfl hl k
theorem d_Mo_order_301 : decode prog_10_method_19_code 301 = .ok (.bipush 7, 2) := by decide +kernel
theorem s_Mo_order_301  (k : ev G M_Mo_order R E 303 lv (.int 7 :: rest) h cells slots) : ev G M_Mo_order R E 301 lv rest h cells slots := ev_bipush d_Mo_order_301 (by decide) k
theorem d_Mo_order_303 : decode prog_10_method_19_code 303 = .ok (.if_icmp .ge 17, 3) := by decide +kernel
theorem s_Mo_order_303 {x y : Int32} (kt : y ≤ x → ev G M_Mo_order R E 320 lv rest h cells slots) (kf : ¬ y ≤ x → ev G M_Mo_order R E 306 lv rest h cells slots) : ev G M_Mo_order R E 303 lv (.int y :: .int x :: rest) h cells slots := ev_icmp_ge d_Mo_order_303 (by decide) kt kf
theorem d_Mo_order_306 : decode prog_10_method_19_code 306 = .ok (.aload_n 0, 1) := by decide +kernel
theorem s_Mo_order_306 {x : Nat} (hl : lg lv 0 = some (.ref x)) (k : ev G M_Mo_order R E 307 lv (.ref x :: rest) h cells slots) : ev G M_Mo_order R E 306 lv rest h cells slots := ev_aload_n d_Mo_order_306 rfl hl k
theorem d_Mo_order_307 : decode prog_10_method_19_code 307 = .ok (.iload_n 3, 1) := by decide +kernel
theorem s_Mo_order_307 {x : Int32} (hl : lg lv 3 = some (.int x)) (k : ev G M_Mo_order R E 308 lv (.int x :: rest) h cells slots) : ev G M_Mo_order R E 307 lv rest h cells slots := ev_iload_n d_Mo_order_307 rfl hl k
theorem d_Mo_order_308 : decode prog_10_method_19_code 308 = .ok (.iload 4, 2) := by decide +kernel
theorem s_Mo_order_308 {x : Int32} (hl : lg lv 4 = some (.int x)) (k : ev G M_Mo_order R E 310 lv (.int x :: rest) h cells slots) : ev G M_Mo_order R E 308 lv rest h cells slots := ev_iload d_Mo_order_308 hl k
theorem d_Mo_order_310 : decode prog_10_method_19_code 310 = .ok (.iload 5, 2) := by decide +kernel
theorem s_Mo_order_310 {x : Int32} (hl : lg lv 5 = some (.int x)) (k : ev G M_Mo_order R E 312 lv (.int x :: rest) h cells slots) : ev G M_Mo_order R E 310 lv rest h cells slots := ev_iload d_Mo_order_310 hl k
theorem d_Mo_order_312 : decode prog_10_method_19_code 312 = .ok (.iload 6, 2) := by decide +kernel
theorem s_Mo_order_312 {x : Int32} (hl : lg lv 6 = some (.int x)) (k : ev G M_Mo_order R E 314 lv (.int x :: rest) h cells slots) : ev G M_Mo_order R E 312 lv rest h cells slots := ev_iload d_Mo_order_312 hl k
theorem d_Mo_order_314 : decode prog_10_method_19_code 314 = .ok (.invokevirtual 107, 3) := by decide +kernel
theorem s_Mo_order_314 {mc ms : Nat} {P : Option Value → HP → Prop} {a0 : Int32} {a1 : Int32} {a2 : Int32} {a3 : Int32} {b : Nat} {fs : List Value} {v0 : Value} (hm : mt G M_Mo_ranges 3 mc ms (.ref b :: [.int a0, .int a1, .int a2, .int a3]) h P) (hb : h b = mO 7 fs) (hv0 : fs[0]? = some v0) (hR : 3 + 1 ≤ R.frames ∧ 8 + (8 + 11) + 39 * 3 ≤ R.locals) (hcs : cells + mc ≤ R.cells ∧ slots + ms ≤ R.slots) (hrest : (rest.map fun v => v.category).sum ≤ 8) (k : ∀ (r : Option Value) (h' : HP), P r h' → ev G M_Mo_order R E 317 lv (r.toList ++ rest) h' (cells + mc) (slots + ms)) : ev G M_Mo_order R E 314 lv (.int a3 :: .int a2 :: .int a1 :: .int a0 :: .ref b :: rest) h cells slots := ev_callV (as := [.int a0, .int a1, .int a2, .int a3]) (ci := 7) d_Mo_order_314 hm hb hv0 rfl w_820 w_822 w_43 w_70 w_823 hy_Mo_ranges hR hcs hrest k
theorem d_Mo_order_317 : decode prog_10_method_19_code 317 = .ok (.goto 109, 3) := by decide +kernel
theorem s_Mo_order_317  (k : ev G M_Mo_order R E 426 lv rest h cells slots) : ev G M_Mo_order R E 317 lv rest h cells slots := ev_goto d_Mo_order_317 (by decide) k
theorem d_Mo_order_320 : decode prog_10_method_19_code 320 = .ok (.iload_n 3, 1) := by decide +kernel
theorem s_Mo_order_320 {x : Int32} (hl : lg lv 3 = some (.int x)) (k : ev G M_Mo_order R E 321 lv (.int x :: rest) h cells slots) : ev G M_Mo_order R E 320 lv rest h cells slots := ev_iload_n d_Mo_order_320 rfl hl k
theorem d_Mo_order_321 : decode prog_10_method_19_code 321 = .ok (.bipush 10, 2) := by decide +kernel
theorem s_Mo_order_321  (k : ev G M_Mo_order R E 323 lv (.int 10 :: rest) h cells slots) : ev G M_Mo_order R E 321 lv rest h cells slots := ev_bipush d_Mo_order_321 (by decide) k
theorem d_Mo_order_323 : decode prog_10_method_19_code 323 = .ok (.if_icmp .ge 13, 3) := by decide +kernel
theorem s_Mo_order_323 {x y : Int32} (kt : y ≤ x → ev G M_Mo_order R E 336 lv rest h cells slots) (kf : ¬ y ≤ x → ev G M_Mo_order R E 326 lv rest h cells slots) : ev G M_Mo_order R E 323 lv (.int y :: .int x :: rest) h cells slots := ev_icmp_ge d_Mo_order_323 (by decide) kt kf
theorem d_Mo_order_326 : decode prog_10_method_19_code 326 = .ok (.aload_n 0, 1) := by decide +kernel
theorem s_Mo_order_326 {x : Nat} (hl : lg lv 0 = some (.ref x)) (k : ev G M_Mo_order R E 327 lv (.ref x :: rest) h cells slots) : ev G M_Mo_order R E 326 lv rest h cells slots := ev_aload_n d_Mo_order_326 rfl hl k
theorem d_Mo_order_327 : decode prog_10_method_19_code 327 = .ok (.iload_n 3, 1) := by decide +kernel
theorem s_Mo_order_327 {x : Int32} (hl : lg lv 3 = some (.int x)) (k : ev G M_Mo_order R E 328 lv (.int x :: rest) h cells slots) : ev G M_Mo_order R E 327 lv rest h cells slots := ev_iload_n d_Mo_order_327 rfl hl k
theorem d_Mo_order_328 : decode prog_10_method_19_code 328 = .ok (.iload 4, 2) := by decide +kernel
theorem s_Mo_order_328 {x : Int32} (hl : lg lv 4 = some (.int x)) (k : ev G M_Mo_order R E 330 lv (.int x :: rest) h cells slots) : ev G M_Mo_order R E 328 lv rest h cells slots := ev_iload d_Mo_order_328 hl k
theorem d_Mo_order_330 : decode prog_10_method_19_code 330 = .ok (.invokevirtual 111, 3) := by decide +kernel
theorem s_Mo_order_330 {mc ms : Nat} {P : Option Value → HP → Prop} {a0 : Int32} {a1 : Int32} {b : Nat} {fs : List Value} {v0 : Value} (hm : mt G M_Mo_cells 2 mc ms (.ref b :: [.int a0, .int a1]) h P) (hb : h b = mO 7 fs) (hv0 : fs[0]? = some v0) (hR : 2 + 1 ≤ R.frames ∧ 8 + (6 + 11) + 39 * 2 ≤ R.locals) (hcs : cells + mc ≤ R.cells ∧ slots + ms ≤ R.slots) (hrest : (rest.map fun v => v.category).sum ≤ 8) (k : ∀ (r : Option Value) (h' : HP), P r h' → ev G M_Mo_order R E 333 lv (r.toList ++ rest) h' (cells + mc) (slots + ms)) : ev G M_Mo_order R E 330 lv (.int a1 :: .int a0 :: .ref b :: rest) h cells slots := ev_callV (as := [.int a0, .int a1]) (ci := 7) d_Mo_order_330 hm hb hv0 rfl w_828 w_830 w_45 w_70 w_831 hy_Mo_cells hR hcs hrest k
theorem d_Mo_order_333 : decode prog_10_method_19_code 333 = .ok (.goto 93, 3) := by decide +kernel
theorem s_Mo_order_333  (k : ev G M_Mo_order R E 426 lv rest h cells slots) : ev G M_Mo_order R E 333 lv rest h cells slots := ev_goto d_Mo_order_333 (by decide) k
theorem d_Mo_order_336 : decode prog_10_method_19_code 336 = .ok (.iload_n 3, 1) := by decide +kernel
theorem s_Mo_order_336 {x : Int32} (hl : lg lv 3 = some (.int x)) (k : ev G M_Mo_order R E 337 lv (.int x :: rest) h cells slots) : ev G M_Mo_order R E 336 lv rest h cells slots := ev_iload_n d_Mo_order_336 rfl hl k
theorem d_Mo_order_337 : decode prog_10_method_19_code 337 = .ok (.bipush 12, 2) := by decide +kernel
theorem s_Mo_order_337  (k : ev G M_Mo_order R E 339 lv (.int 12 :: rest) h cells slots) : ev G M_Mo_order R E 337 lv rest h cells slots := ev_bipush d_Mo_order_337 (by decide) k
theorem d_Mo_order_339 : decode prog_10_method_19_code 339 = .ok (.if_icmp .ge 17, 3) := by decide +kernel
theorem s_Mo_order_339 {x y : Int32} (kt : y ≤ x → ev G M_Mo_order R E 356 lv rest h cells slots) (kf : ¬ y ≤ x → ev G M_Mo_order R E 342 lv rest h cells slots) : ev G M_Mo_order R E 339 lv (.int y :: .int x :: rest) h cells slots := ev_icmp_ge d_Mo_order_339 (by decide) kt kf
theorem d_Mo_order_342 : decode prog_10_method_19_code 342 = .ok (.aload_n 0, 1) := by decide +kernel
theorem s_Mo_order_342 {x : Nat} (hl : lg lv 0 = some (.ref x)) (k : ev G M_Mo_order R E 343 lv (.ref x :: rest) h cells slots) : ev G M_Mo_order R E 342 lv rest h cells slots := ev_aload_n d_Mo_order_342 rfl hl k
theorem d_Mo_order_343 : decode prog_10_method_19_code 343 = .ok (.iload_n 3, 1) := by decide +kernel
theorem s_Mo_order_343 {x : Int32} (hl : lg lv 3 = some (.int x)) (k : ev G M_Mo_order R E 344 lv (.int x :: rest) h cells slots) : ev G M_Mo_order R E 343 lv rest h cells slots := ev_iload_n d_Mo_order_343 rfl hl k
theorem d_Mo_order_344 : decode prog_10_method_19_code 344 = .ok (.iload 4, 2) := by decide +kernel
theorem s_Mo_order_344 {x : Int32} (hl : lg lv 4 = some (.int x)) (k : ev G M_Mo_order R E 346 lv (.int x :: rest) h cells slots) : ev G M_Mo_order R E 344 lv rest h cells slots := ev_iload d_Mo_order_344 hl k
theorem d_Mo_order_346 : decode prog_10_method_19_code 346 = .ok (.iload 5, 2) := by decide +kernel
theorem s_Mo_order_346 {x : Int32} (hl : lg lv 5 = some (.int x)) (k : ev G M_Mo_order R E 348 lv (.int x :: rest) h cells slots) : ev G M_Mo_order R E 346 lv rest h cells slots := ev_iload d_Mo_order_346 hl k
theorem d_Mo_order_348 : decode prog_10_method_19_code 348 = .ok (.iload 6, 2) := by decide +kernel
theorem s_Mo_order_348 {x : Int32} (hl : lg lv 6 = some (.int x)) (k : ev G M_Mo_order R E 350 lv (.int x :: rest) h cells slots) : ev G M_Mo_order R E 348 lv rest h cells slots := ev_iload d_Mo_order_348 hl k
theorem d_Mo_order_350 : decode prog_10_method_19_code 350 = .ok (.invokevirtual 114, 3) := by decide +kernel
theorem s_Mo_order_350 {mc ms : Nat} {P : Option Value → HP → Prop} {a0 : Int32} {a1 : Int32} {a2 : Int32} {a3 : Int32} {b : Nat} {fs : List Value} {v0 : Value} (hm : mt G M_Mo_memory 4 mc ms (.ref b :: [.int a0, .int a1, .int a2, .int a3]) h P) (hb : h b = mO 7 fs) (hv0 : fs[0]? = some v0) (hR : 4 + 1 ≤ R.frames ∧ 8 + (9 + 11) + 39 * 4 ≤ R.locals) (hcs : cells + mc ≤ R.cells ∧ slots + ms ≤ R.slots) (hrest : (rest.map fun v => v.category).sum ≤ 8) (k : ∀ (r : Option Value) (h' : HP), P r h' → ev G M_Mo_order R E 353 lv (r.toList ++ rest) h' (cells + mc) (slots + ms)) : ev G M_Mo_order R E 350 lv (.int a3 :: .int a2 :: .int a1 :: .int a0 :: .ref b :: rest) h cells slots := ev_callV (as := [.int a0, .int a1, .int a2, .int a3]) (ci := 7) d_Mo_order_350 hm hb hv0 rfl w_836 w_838 w_47 w_70 w_839 hy_Mo_memory hR hcs hrest k
theorem d_Mo_order_353 : decode prog_10_method_19_code 353 = .ok (.goto 73, 3) := by decide +kernel
theorem s_Mo_order_353  (k : ev G M_Mo_order R E 426 lv rest h cells slots) : ev G M_Mo_order R E 353 lv rest h cells slots := ev_goto d_Mo_order_353 (by decide) k
theorem d_Mo_order_356 : decode prog_10_method_19_code 356 = .ok (.iload_n 3, 1) := by decide +kernel
theorem s_Mo_order_356 {x : Int32} (hl : lg lv 3 = some (.int x)) (k : ev G M_Mo_order R E 357 lv (.int x :: rest) h cells slots) : ev G M_Mo_order R E 356 lv rest h cells slots := ev_iload_n d_Mo_order_356 rfl hl k
theorem d_Mo_order_357 : decode prog_10_method_19_code 357 = .ok (.bipush 15, 2) := by decide +kernel
theorem s_Mo_order_357  (k : ev G M_Mo_order R E 359 lv (.int 15 :: rest) h cells slots) : ev G M_Mo_order R E 357 lv rest h cells slots := ev_bipush d_Mo_order_357 (by decide) k
theorem d_Mo_order_359 : decode prog_10_method_19_code 359 = .ok (.if_icmp .ge 17, 3) := by decide +kernel
theorem s_Mo_order_359 {x y : Int32} (kt : y ≤ x → ev G M_Mo_order R E 376 lv rest h cells slots) (kf : ¬ y ≤ x → ev G M_Mo_order R E 362 lv rest h cells slots) : ev G M_Mo_order R E 359 lv (.int y :: .int x :: rest) h cells slots := ev_icmp_ge d_Mo_order_359 (by decide) kt kf
theorem d_Mo_order_362 : decode prog_10_method_19_code 362 = .ok (.aload_n 0, 1) := by decide +kernel
theorem s_Mo_order_362 {x : Nat} (hl : lg lv 0 = some (.ref x)) (k : ev G M_Mo_order R E 363 lv (.ref x :: rest) h cells slots) : ev G M_Mo_order R E 362 lv rest h cells slots := ev_aload_n d_Mo_order_362 rfl hl k
theorem d_Mo_order_363 : decode prog_10_method_19_code 363 = .ok (.iload_n 3, 1) := by decide +kernel
theorem s_Mo_order_363 {x : Int32} (hl : lg lv 3 = some (.int x)) (k : ev G M_Mo_order R E 364 lv (.int x :: rest) h cells slots) : ev G M_Mo_order R E 363 lv rest h cells slots := ev_iload_n d_Mo_order_363 rfl hl k
theorem d_Mo_order_364 : decode prog_10_method_19_code 364 = .ok (.iload 4, 2) := by decide +kernel
theorem s_Mo_order_364 {x : Int32} (hl : lg lv 4 = some (.int x)) (k : ev G M_Mo_order R E 366 lv (.int x :: rest) h cells slots) : ev G M_Mo_order R E 364 lv rest h cells slots := ev_iload d_Mo_order_364 hl k
theorem d_Mo_order_366 : decode prog_10_method_19_code 366 = .ok (.iload 5, 2) := by decide +kernel
theorem s_Mo_order_366 {x : Int32} (hl : lg lv 5 = some (.int x)) (k : ev G M_Mo_order R E 368 lv (.int x :: rest) h cells slots) : ev G M_Mo_order R E 366 lv rest h cells slots := ev_iload d_Mo_order_366 hl k
theorem d_Mo_order_368 : decode prog_10_method_19_code 368 = .ok (.iload 6, 2) := by decide +kernel
theorem s_Mo_order_368 {x : Int32} (hl : lg lv 6 = some (.int x)) (k : ev G M_Mo_order R E 370 lv (.int x :: rest) h cells slots) : ev G M_Mo_order R E 368 lv rest h cells slots := ev_iload d_Mo_order_368 hl k
theorem d_Mo_order_370 : decode prog_10_method_19_code 370 = .ok (.invokevirtual 117, 3) := by decide +kernel
theorem s_Mo_order_370 {mc ms : Nat} {P : Option Value → HP → Prop} {a0 : Int32} {a1 : Int32} {a2 : Int32} {a3 : Int32} {b : Nat} {fs : List Value} {v0 : Value} (hm : mt G M_Mo_jumps 2 mc ms (.ref b :: [.int a0, .int a1, .int a2, .int a3]) h P) (hb : h b = mO 7 fs) (hv0 : fs[0]? = some v0) (hR : 2 + 1 ≤ R.frames ∧ 8 + (7 + 11) + 39 * 2 ≤ R.locals) (hcs : cells + mc ≤ R.cells ∧ slots + ms ≤ R.slots) (hrest : (rest.map fun v => v.category).sum ≤ 8) (k : ∀ (r : Option Value) (h' : HP), P r h' → ev G M_Mo_order R E 373 lv (r.toList ++ rest) h' (cells + mc) (slots + ms)) : ev G M_Mo_order R E 370 lv (.int a3 :: .int a2 :: .int a1 :: .int a0 :: .ref b :: rest) h cells slots := ev_callV (as := [.int a0, .int a1, .int a2, .int a3]) (ci := 7) d_Mo_order_370 hm hb hv0 rfl w_848 w_850 w_50 w_70 w_851 hy_Mo_jumps hR hcs hrest k
theorem d_Mo_order_373 : decode prog_10_method_19_code 373 = .ok (.goto 53, 3) := by decide +kernel
theorem s_Mo_order_373  (k : ev G M_Mo_order R E 426 lv rest h cells slots) : ev G M_Mo_order R E 373 lv rest h cells slots := ev_goto d_Mo_order_373 (by decide) k
theorem d_Mo_order_376 : decode prog_10_method_19_code 376 = .ok (.iload_n 3, 1) := by decide +kernel
theorem s_Mo_order_376 {x : Int32} (hl : lg lv 3 = some (.int x)) (k : ev G M_Mo_order R E 377 lv (.int x :: rest) h cells slots) : ev G M_Mo_order R E 376 lv rest h cells slots := ev_iload_n d_Mo_order_376 rfl hl k
theorem d_Mo_order_377 : decode prog_10_method_19_code 377 = .ok (.bipush 15, 2) := by decide +kernel
theorem s_Mo_order_377  (k : ev G M_Mo_order R E 379 lv (.int 15 :: rest) h cells slots) : ev G M_Mo_order R E 377 lv rest h cells slots := ev_bipush d_Mo_order_377 (by decide) k
theorem d_Mo_order_379 : decode prog_10_method_19_code 379 = .ok (.if_icmp .ne 16, 3) := by decide +kernel
theorem s_Mo_order_379 {x y : Int32} (kt : ¬ x = y → ev G M_Mo_order R E 395 lv rest h cells slots) (kf : x = y → ev G M_Mo_order R E 382 lv rest h cells slots) : ev G M_Mo_order R E 379 lv (.int y :: .int x :: rest) h cells slots := ev_icmp_ne d_Mo_order_379 (by decide) kt kf
theorem d_Mo_order_382 : decode prog_10_method_19_code 382 = .ok (.aload_n 0, 1) := by decide +kernel
theorem s_Mo_order_382 {x : Nat} (hl : lg lv 0 = some (.ref x)) (k : ev G M_Mo_order R E 383 lv (.ref x :: rest) h cells slots) : ev G M_Mo_order R E 382 lv rest h cells slots := ev_aload_n d_Mo_order_382 rfl hl k
theorem d_Mo_order_383 : decode prog_10_method_19_code 383 = .ok (.iload 4, 2) := by decide +kernel
theorem s_Mo_order_383 {x : Int32} (hl : lg lv 4 = some (.int x)) (k : ev G M_Mo_order R E 385 lv (.int x :: rest) h cells slots) : ev G M_Mo_order R E 383 lv rest h cells slots := ev_iload d_Mo_order_383 hl k
theorem d_Mo_order_385 : decode prog_10_method_19_code 385 = .ok (.iload 5, 2) := by decide +kernel
theorem s_Mo_order_385 {x : Int32} (hl : lg lv 5 = some (.int x)) (k : ev G M_Mo_order R E 387 lv (.int x :: rest) h cells slots) : ev G M_Mo_order R E 385 lv rest h cells slots := ev_iload d_Mo_order_385 hl k
theorem d_Mo_order_387 : decode prog_10_method_19_code 387 = .ok (.iload 6, 2) := by decide +kernel
theorem s_Mo_order_387 {x : Int32} (hl : lg lv 6 = some (.int x)) (k : ev G M_Mo_order R E 389 lv (.int x :: rest) h cells slots) : ev G M_Mo_order R E 387 lv rest h cells slots := ev_iload d_Mo_order_387 hl k
theorem d_Mo_order_389 : decode prog_10_method_19_code 389 = .ok (.invokevirtual 120, 3) := by decide +kernel
theorem s_Mo_order_389 {mc ms : Nat} {P : Option Value → HP → Prop} {a0 : Int32} {a1 : Int32} {a2 : Int32} {b : Nat} {fs : List Value} {v0 : Value} (hm : mt G M_Mo_seal 3 mc ms (.ref b :: [.int a0, .int a1, .int a2]) h P) (hb : h b = mO 7 fs) (hv0 : fs[0]? = some v0) (hR : 3 + 1 ≤ R.frames ∧ 8 + (5 + 11) + 39 * 3 ≤ R.locals) (hcs : cells + mc ≤ R.cells ∧ slots + ms ≤ R.slots) (hrest : (rest.map fun v => v.category).sum ≤ 8) (k : ∀ (r : Option Value) (h' : HP), P r h' → ev G M_Mo_order R E 392 lv (r.toList ++ rest) h' (cells + mc) (slots + ms)) : ev G M_Mo_order R E 389 lv (.int a2 :: .int a1 :: .int a0 :: .ref b :: rest) h cells slots := ev_callV (as := [.int a0, .int a1, .int a2]) (ci := 7) d_Mo_order_389 hm hb hv0 rfl w_852 w_854 w_51 w_70 w_855 hy_Mo_seal hR hcs hrest k
theorem d_Mo_order_392 : decode prog_10_method_19_code 392 = .ok (.goto 34, 3) := by decide +kernel
theorem s_Mo_order_392  (k : ev G M_Mo_order R E 426 lv rest h cells slots) : ev G M_Mo_order R E 392 lv rest h cells slots := ev_goto d_Mo_order_392 (by decide) k
theorem d_Mo_order_395 : decode prog_10_method_19_code 395 = .ok (.iload_n 3, 1) := by decide +kernel
theorem s_Mo_order_395 {x : Int32} (hl : lg lv 3 = some (.int x)) (k : ev G M_Mo_order R E 396 lv (.int x :: rest) h cells slots) : ev G M_Mo_order R E 395 lv rest h cells slots := ev_iload_n d_Mo_order_395 rfl hl k
theorem d_Mo_order_396 : decode prog_10_method_19_code 396 = .ok (.bipush 16, 2) := by decide +kernel
theorem s_Mo_order_396  (k : ev G M_Mo_order R E 398 lv (.int 16 :: rest) h cells slots) : ev G M_Mo_order R E 396 lv rest h cells slots := ev_bipush d_Mo_order_396 (by decide) k
theorem d_Mo_order_398 : decode prog_10_method_19_code 398 = .ok (.if_icmp .ne 14, 3) := by decide +kernel
theorem s_Mo_order_398 {x y : Int32} (kt : ¬ x = y → ev G M_Mo_order R E 412 lv rest h cells slots) (kf : x = y → ev G M_Mo_order R E 401 lv rest h cells slots) : ev G M_Mo_order R E 398 lv (.int y :: .int x :: rest) h cells slots := ev_icmp_ne d_Mo_order_398 (by decide) kt kf
theorem d_Mo_order_401 : decode prog_10_method_19_code 401 = .ok (.aload_n 0, 1) := by decide +kernel
theorem s_Mo_order_401 {x : Nat} (hl : lg lv 0 = some (.ref x)) (k : ev G M_Mo_order R E 402 lv (.ref x :: rest) h cells slots) : ev G M_Mo_order R E 401 lv rest h cells slots := ev_aload_n d_Mo_order_401 rfl hl k
theorem d_Mo_order_402 : decode prog_10_method_19_code 402 = .ok (.iload 4, 2) := by decide +kernel
theorem s_Mo_order_402 {x : Int32} (hl : lg lv 4 = some (.int x)) (k : ev G M_Mo_order R E 404 lv (.int x :: rest) h cells slots) : ev G M_Mo_order R E 402 lv rest h cells slots := ev_iload d_Mo_order_402 hl k
theorem d_Mo_order_404 : decode prog_10_method_19_code 404 = .ok (.iload 5, 2) := by decide +kernel
theorem s_Mo_order_404 {x : Int32} (hl : lg lv 5 = some (.int x)) (k : ev G M_Mo_order R E 406 lv (.int x :: rest) h cells slots) : ev G M_Mo_order R E 404 lv rest h cells slots := ev_iload d_Mo_order_404 hl k
theorem d_Mo_order_406 : decode prog_10_method_19_code 406 = .ok (.invokevirtual 123, 3) := by decide +kernel
theorem s_Mo_order_406 {mc ms : Nat} {P : Option Value → HP → Prop} {a0 : Int32} {a1 : Int32} {b : Nat} {fs : List Value} {v0 : Value} (hm : mt G M_Mo_call 3 mc ms (.ref b :: [.int a0, .int a1]) h P) (hb : h b = mO 7 fs) (hv0 : fs[0]? = some v0) (hR : 3 + 1 ≤ R.frames ∧ 8 + (6 + 11) + 39 * 3 ≤ R.locals) (hcs : cells + mc ≤ R.cells ∧ slots + ms ≤ R.slots) (hrest : (rest.map fun v => v.category).sum ≤ 8) (k : ∀ (r : Option Value) (h' : HP), P r h' → ev G M_Mo_order R E 409 lv (r.toList ++ rest) h' (cells + mc) (slots + ms)) : ev G M_Mo_order R E 406 lv (.int a1 :: .int a0 :: .ref b :: rest) h cells slots := ev_callV (as := [.int a0, .int a1]) (ci := 7) d_Mo_order_406 hm hb hv0 rfl w_860 w_862 w_53 w_70 w_863 hy_Mo_call hR hcs hrest k
theorem d_Mo_order_409 : decode prog_10_method_19_code 409 = .ok (.goto 17, 3) := by decide +kernel
theorem s_Mo_order_409  (k : ev G M_Mo_order R E 426 lv rest h cells slots) : ev G M_Mo_order R E 409 lv rest h cells slots := ev_goto d_Mo_order_409 (by decide) k
theorem d_Mo_order_412 : decode prog_10_method_19_code 412 = .ok (.iload_n 3, 1) := by decide +kernel
theorem s_Mo_order_412 {x : Int32} (hl : lg lv 3 = some (.int x)) (k : ev G M_Mo_order R E 413 lv (.int x :: rest) h cells slots) : ev G M_Mo_order R E 412 lv rest h cells slots := ev_iload_n d_Mo_order_412 rfl hl k
theorem d_Mo_order_413 : decode prog_10_method_19_code 413 = .ok (.bipush 17, 2) := by decide +kernel
theorem s_Mo_order_413  (k : ev G M_Mo_order R E 415 lv (.int 17 :: rest) h cells slots) : ev G M_Mo_order R E 413 lv rest h cells slots := ev_bipush d_Mo_order_413 (by decide) k
theorem d_Mo_order_415 : decode prog_10_method_19_code 415 = .ok (.if_icmp .ne 10, 3) := by decide +kernel
theorem s_Mo_order_415 {x y : Int32} (kt : ¬ x = y → ev G M_Mo_order R E 425 lv rest h cells slots) (kf : x = y → ev G M_Mo_order R E 418 lv rest h cells slots) : ev G M_Mo_order R E 415 lv (.int y :: .int x :: rest) h cells slots := ev_icmp_ne d_Mo_order_415 (by decide) kt kf
theorem d_Mo_order_418 : decode prog_10_method_19_code 418 = .ok (.aload_n 0, 1) := by decide +kernel
theorem s_Mo_order_418 {x : Nat} (hl : lg lv 0 = some (.ref x)) (k : ev G M_Mo_order R E 419 lv (.ref x :: rest) h cells slots) : ev G M_Mo_order R E 418 lv rest h cells slots := ev_aload_n d_Mo_order_418 rfl hl k
theorem d_Mo_order_419 : decode prog_10_method_19_code 419 = .ok (.invokevirtual 126, 3) := by decide +kernel
theorem s_Mo_order_419 {mc ms : Nat} {P : Option Value → HP → Prop}  {b : Nat} {fs : List Value} {v0 : Value} (hm : mt G M_Mo_comeBack 3 mc ms (.ref b :: []) h P) (hb : h b = mO 7 fs) (hv0 : fs[0]? = some v0) (hR : 3 + 1 ≤ R.frames ∧ 8 + (6 + 11) + 39 * 3 ≤ R.locals) (hcs : cells + mc ≤ R.cells ∧ slots + ms ≤ R.slots) (hrest : (rest.map fun v => v.category).sum ≤ 8) (k : ∀ (r : Option Value) (h' : HP), P r h' → ev G M_Mo_order R E 422 lv (r.toList ++ rest) h' (cells + mc) (slots + ms)) : ev G M_Mo_order R E 419 lv (.ref b :: rest) h cells slots := ev_callV (as := []) (ci := 7) d_Mo_order_419 hm hb hv0 rfl w_868 w_870 w_55 w_70 w_871 hy_Mo_comeBack hR hcs hrest k
theorem d_Mo_order_422 : decode prog_10_method_19_code 422 = .ok (.goto 4, 3) := by decide +kernel
theorem s_Mo_order_422  (k : ev G M_Mo_order R E 426 lv rest h cells slots) : ev G M_Mo_order R E 422 lv rest h cells slots := ev_goto d_Mo_order_422 (by decide) k
theorem d_Mo_order_425 : decode prog_10_method_19_code 425 = .ok (.iconst (-1), 1) := by decide +kernel
theorem s_Mo_order_425  (k : ev G M_Mo_order R E 426 lv (.int (-1) :: rest) h cells slots) : ev G M_Mo_order R E 425 lv rest h cells slots := ev_iconst d_Mo_order_425 (by decide) k
theorem d_Mo_order_426 : decode prog_10_method_19_code 426 = .ok (.istore 10, 2) := by decide +kernel
theorem s_Mo_order_426 {x : Int32} (k : ev G M_Mo_order R E 428 (ls1 lv 10 (.int x)) rest h cells slots) : ev G M_Mo_order R E 426 lv (.int x :: rest) h cells slots := ev_istore d_Mo_order_426 (by decide) k
theorem d_Mo_order_428 : decode prog_10_method_19_code 428 = .ok (.aload_n 0, 1) := by decide +kernel
theorem s_Mo_order_428 {x : Nat} (hl : lg lv 0 = some (.ref x)) (k : ev G M_Mo_order R E 429 lv (.ref x :: rest) h cells slots) : ev G M_Mo_order R E 428 lv rest h cells slots := ev_aload_n d_Mo_order_428 rfl hl k
theorem d_Mo_order_429 : decode prog_10_method_19_code 429 = .ok (.iload 10, 2) := by decide +kernel
theorem s_Mo_order_429 {x : Int32} (hl : lg lv 10 = some (.int x)) (k : ev G M_Mo_order R E 431 lv (.int x :: rest) h cells slots) : ev G M_Mo_order R E 429 lv rest h cells slots := ev_iload d_Mo_order_429 hl k
theorem d_Mo_order_431 : decode prog_10_method_19_code 431 = .ok (.putfield 88, 3) := by decide +kernel
theorem s_Mo_order_431 {x : Int32} {a : Nat} {fs : List Value} (hh : h a = mO 7 fs) (hlen : 15 < fs.length) (k : ev G M_Mo_order R E 434 lv rest (va_up h a (mO 7 (fs.set 15 (.int x)))) cells slots) : ev G M_Mo_order R E 431 lv (.int x :: .ref a :: rest) h cells slots := ev_putfield (ci := 7) (kf := 15) d_Mo_order_431 rfl ck7 (by decide) w_719 rfl hh hlen (fun _ _ => rfl) (fun _ _ => rfl) k
theorem d_Mo_order_434 : decode prog_10_method_19_code 434 = .ok (.aload_n 0, 1) := by decide +kernel
theorem s_Mo_order_434 {x : Nat} (hl : lg lv 0 = some (.ref x)) (k : ev G M_Mo_order R E 435 lv (.ref x :: rest) h cells slots) : ev G M_Mo_order R E 434 lv rest h cells slots := ev_aload_n d_Mo_order_434 rfl hl k
theorem d_Mo_order_435 : decode prog_10_method_19_code 435 = .ok (.iload 10, 2) := by decide +kernel
theorem s_Mo_order_435 {x : Int32} (hl : lg lv 10 = some (.int x)) (k : ev G M_Mo_order R E 437 lv (.int x :: rest) h cells slots) : ev G M_Mo_order R E 435 lv rest h cells slots := ev_iload d_Mo_order_435 hl k
theorem d_Mo_order_437 : decode prog_10_method_19_code 437 = .ok (.ifCond .gt 15, 3) := by decide +kernel
theorem s_Mo_order_437 {x : Int32} (kt : 0 < x → ev G M_Mo_order R E 452 lv rest h cells slots) (kf : ¬ 0 < x → ev G M_Mo_order R E 440 lv rest h cells slots) : ev G M_Mo_order R E 437 lv (.int x :: rest) h cells slots := ev_if_gt d_Mo_order_437 (by decide) kt kf
theorem d_Mo_order_440 : decode prog_10_method_19_code 440 = .ok (.iload_n 3, 1) := by decide +kernel
theorem s_Mo_order_440 {x : Int32} (hl : lg lv 3 = some (.int x)) (k : ev G M_Mo_order R E 441 lv (.int x :: rest) h cells slots) : ev G M_Mo_order R E 440 lv rest h cells slots := ev_iload_n d_Mo_order_440 rfl hl k
theorem d_Mo_order_441 : decode prog_10_method_19_code 441 = .ok (.bipush 17, 2) := by decide +kernel
theorem s_Mo_order_441  (k : ev G M_Mo_order R E 443 lv (.int 17 :: rest) h cells slots) : ev G M_Mo_order R E 441 lv rest h cells slots := ev_bipush d_Mo_order_441 (by decide) k
theorem d_Mo_order_443 : decode prog_10_method_19_code 443 = .ok (.if_icmp .eq 9, 3) := by decide +kernel
theorem s_Mo_order_443 {x y : Int32} (kt : x = y → ev G M_Mo_order R E 452 lv rest h cells slots) (kf : ¬ x = y → ev G M_Mo_order R E 446 lv rest h cells slots) : ev G M_Mo_order R E 443 lv (.int y :: .int x :: rest) h cells slots := ev_icmp_eq d_Mo_order_443 (by decide) kt kf
theorem d_Mo_order_446 : decode prog_10_method_19_code 446 = .ok (.iload_n 3, 1) := by decide +kernel
theorem s_Mo_order_446 {x : Int32} (hl : lg lv 3 = some (.int x)) (k : ev G M_Mo_order R E 447 lv (.int x :: rest) h cells slots) : ev G M_Mo_order R E 446 lv rest h cells slots := ev_iload_n d_Mo_order_446 rfl hl k
theorem d_Mo_order_447 : decode prog_10_method_19_code 447 = .ok (.bipush 16, 2) := by decide +kernel
theorem s_Mo_order_447  (k : ev G M_Mo_order R E 449 lv (.int 16 :: rest) h cells slots) : ev G M_Mo_order R E 447 lv rest h cells slots := ev_bipush d_Mo_order_447 (by decide) k
theorem d_Mo_order_449 : decode prog_10_method_19_code 449 = .ok (.if_icmp .ne 10, 3) := by decide +kernel
theorem s_Mo_order_449 {x y : Int32} (kt : ¬ x = y → ev G M_Mo_order R E 459 lv rest h cells slots) (kf : x = y → ev G M_Mo_order R E 452 lv rest h cells slots) : ev G M_Mo_order R E 449 lv (.int y :: .int x :: rest) h cells slots := ev_icmp_ne d_Mo_order_449 (by decide) kt kf
theorem d_Mo_order_452 : decode prog_10_method_19_code 452 = .ok (.aload_n 0, 1) := by decide +kernel
theorem s_Mo_order_452 {x : Nat} (hl : lg lv 0 = some (.ref x)) (k : ev G M_Mo_order R E 453 lv (.ref x :: rest) h cells slots) : ev G M_Mo_order R E 452 lv rest h cells slots := ev_aload_n d_Mo_order_452 rfl hl k
theorem d_Mo_order_453 : decode prog_10_method_19_code 453 = .ok (.getfield 85, 3) := by decide +kernel
theorem s_Mo_order_453 {a : Nat} {fs : List Value} {v : Value} (hh : h a = mO 7 fs) (hv : fs[14]? = some v) (k : ev G M_Mo_order R E 456 lv (v :: rest) h cells slots) : ev G M_Mo_order R E 453 lv (.ref a :: rest) h cells slots := ev_getfield (ci := 7) (kf := 14) d_Mo_order_453 rfl ck7 (by decide) w_718 hh hv k
theorem d_Mo_order_456 : decode prog_10_method_19_code 456 = .ok (.goto 9, 3) := by decide +kernel
theorem s_Mo_order_456  (k : ev G M_Mo_order R E 465 lv rest h cells slots) : ev G M_Mo_order R E 456 lv rest h cells slots := ev_goto d_Mo_order_456 (by decide) k
theorem d_Mo_order_459 : decode prog_10_method_19_code 459 = .ok (.aload_n 0, 1) := by decide +kernel
theorem s_Mo_order_459 {x : Nat} (hl : lg lv 0 = some (.ref x)) (k : ev G M_Mo_order R E 460 lv (.ref x :: rest) h cells slots) : ev G M_Mo_order R E 459 lv rest h cells slots := ev_aload_n d_Mo_order_459 rfl hl k
theorem d_Mo_order_460 : decode prog_10_method_19_code 460 = .ok (.getfield 85, 3) := by decide +kernel
theorem s_Mo_order_460 {a : Nat} {fs : List Value} {v : Value} (hh : h a = mO 7 fs) (hv : fs[14]? = some v) (k : ev G M_Mo_order R E 463 lv (v :: rest) h cells slots) : ev G M_Mo_order R E 460 lv (.ref a :: rest) h cells slots := ev_getfield (ci := 7) (kf := 14) d_Mo_order_460 rfl ck7 (by decide) w_718 hh hv k
theorem d_Mo_order_463 : decode prog_10_method_19_code 463 = .ok (.iconst 1, 1) := by decide +kernel
theorem s_Mo_order_463  (k : ev G M_Mo_order R E 464 lv (.int 1 :: rest) h cells slots) : ev G M_Mo_order R E 463 lv rest h cells slots := ev_iconst d_Mo_order_463 (by decide) k
theorem d_Mo_order_464 : decode prog_10_method_19_code 464 = .ok (.iadd, 1) := by decide +kernel
theorem s_Mo_order_464 {x y : Int32} (k : ev G M_Mo_order R E 465 lv (.int (x + y) :: rest) h cells slots) : ev G M_Mo_order R E 464 lv (.int y :: .int x :: rest) h cells slots := ev_iadd d_Mo_order_464 k
theorem d_Mo_order_465 : decode prog_10_method_19_code 465 = .ok (.putfield 85, 3) := by decide +kernel
theorem s_Mo_order_465 {x : Int32} {a : Nat} {fs : List Value} (hh : h a = mO 7 fs) (hlen : 14 < fs.length) (k : ev G M_Mo_order R E 468 lv rest (va_up h a (mO 7 (fs.set 14 (.int x)))) cells slots) : ev G M_Mo_order R E 465 lv (.int x :: .ref a :: rest) h cells slots := ev_putfield (ci := 7) (kf := 14) d_Mo_order_465 rfl ck7 (by decide) w_718 rfl hh hlen (fun _ _ => rfl) (fun _ _ => rfl) k
theorem d_Mo_order_468 : decode prog_10_method_19_code 468 = .ok (.return_, 1) := by decide +kernel
theorem s_Mo_order_468 {P : Option Value → HP → Prop} {mc ms : Nat} (hP : P none h) (hc : cells ≤ mc ∧ slots ≤ ms) : ev G M_Mo_order R (Er M_Mo_order P mc ms) 468 lv [] h cells slots := ev_exit ⟨hc.1, hc.2, Or.inl ⟨rfl, d_Mo_order_468, rfl, hP⟩⟩
abbrev M_Mo_step : MW := (⟨"UseOnceMachineModel", "step", "(I)I"⟩, prog_10_method_15_code, 3, (some .int))
theorem hy_Mo_step : M_Mo_step.1.cls ≠ "java/lang/invoke/MethodHandle" ∧ M_Mo_step.1.cls ≠ "java/lang/invoke/VarHandle" ∧ (parseMethodDescriptor M_Mo_step.1.desc).map (fun d => d.parameters.length) = some 1 := by decide +kernel
theorem d_Mo_step_0 : decode prog_10_method_15_code 0 = .ok (.iload_n 1, 1) := by decide +kernel
theorem s_Mo_step_0 {x : Int32} (hl : lg lv 1 = some (.int x)) (k : ev G M_Mo_step R E 1 lv (.int x :: rest) h cells slots) : ev G M_Mo_step R E 0 lv rest h cells slots := ev_iload_n d_Mo_step_0 rfl hl k
theorem d_Mo_step_1 : decode prog_10_method_15_code 1 = .ok (.iconst 1, 1) := by decide +kernel
theorem s_Mo_step_1  (k : ev G M_Mo_step R E 2 lv (.int 1 :: rest) h cells slots) : ev G M_Mo_step R E 1 lv rest h cells slots := ev_iconst d_Mo_step_1 (by decide) k
theorem d_Mo_step_2 : decode prog_10_method_15_code 2 = .ok (.bipush 30, 2) := by decide +kernel
theorem s_Mo_step_2  (k : ev G M_Mo_step R E 4 lv (.int 30 :: rest) h cells slots) : ev G M_Mo_step R E 2 lv rest h cells slots := ev_bipush d_Mo_step_2 (by decide) k
theorem d_Mo_step_4 : decode prog_10_method_15_code 4 = .ok (.invokestatic 50, 3) := by decide +kernel
theorem s_Mo_step_4 {mc ms : Nat} {P : Option Value → HP → Prop} {a0 : Int32} {a1 : Int32} {a2 : Int32} (hm : mt G M_Mo_in 0 mc ms [.int a0, .int a1, .int a2] h P) (hR : 0 + 1 ≤ R.frames ∧ 8 + (3 + 11) + 39 * 0 ≤ R.locals) (hcs : cells + mc ≤ R.cells ∧ slots + ms ≤ R.slots) (hrest : (rest.map fun v => v.category).sum ≤ 8) (k : ∀ (r : Option Value) (h' : HP), P r h' → ev G M_Mo_step R E 7 lv (r.toList ++ rest) h' (cells + mc) (slots + ms)) : ev G M_Mo_step R E 4 lv (.int a2 :: .int a1 :: .int a0 :: rest) h cells slots := ev_callS (as := [.int a0, .int a1, .int a2]) d_Mo_step_4 hm w_769 w_770 w_70 w_771 hy_Mo_in hR hcs hrest k
theorem d_Mo_step_7 : decode prog_10_method_15_code 7 = .ok (.ifCond .eq 10, 3) := by decide +kernel
theorem s_Mo_step_7 {x : Int32} (kt : x = 0 → ev G M_Mo_step R E 17 lv rest h cells slots) (kf : ¬ x = 0 → ev G M_Mo_step R E 10 lv rest h cells slots) : ev G M_Mo_step R E 7 lv (.int x :: rest) h cells slots := ev_if_eq d_Mo_step_7 (by decide) kt kf
theorem d_Mo_step_10 : decode prog_10_method_15_code 10 = .ok (.aload_n 0, 1) := by decide +kernel
theorem s_Mo_step_10 {x : Nat} (hl : lg lv 0 = some (.ref x)) (k : ev G M_Mo_step R E 11 lv (.ref x :: rest) h cells slots) : ev G M_Mo_step R E 10 lv rest h cells slots := ev_aload_n d_Mo_step_10 rfl hl k
theorem d_Mo_step_11 : decode prog_10_method_15_code 11 = .ok (.getfield 54, 3) := by decide +kernel
theorem s_Mo_step_11 {a : Nat} {fs : List Value} {v : Value} (hh : h a = mO 7 fs) (hv : fs[0]? = some v) (k : ev G M_Mo_step R E 14 lv (v :: rest) h cells slots) : ev G M_Mo_step R E 11 lv (.ref a :: rest) h cells slots := ev_getfield (ci := 7) (kf := 0) d_Mo_step_11 rfl ck7 (by decide) w_704 hh hv k
theorem d_Mo_step_14 : decode prog_10_method_15_code 14 = .ok (.ifCond .ne 6, 3) := by decide +kernel
theorem s_Mo_step_14 {x : Int32} (kt : ¬ x = 0 → ev G M_Mo_step R E 20 lv rest h cells slots) (kf : x = 0 → ev G M_Mo_step R E 17 lv rest h cells slots) : ev G M_Mo_step R E 14 lv (.int x :: rest) h cells slots := ev_if_ne d_Mo_step_14 (by decide) kt kf
theorem d_Mo_step_17 : decode prog_10_method_15_code 17 = .ok (.bipush (-2), 2) := by decide +kernel
theorem s_Mo_step_17  (k : ev G M_Mo_step R E 19 lv (.int (-2) :: rest) h cells slots) : ev G M_Mo_step R E 17 lv rest h cells slots := ev_bipush d_Mo_step_17 (by decide) k
theorem d_Mo_step_19 : decode prog_10_method_15_code 19 = .ok (.ireturn, 1) := by decide +kernel
theorem s_Mo_step_19 {P : Option Value → HP → Prop} {mc ms : Nat} {v : Int32} (hP : P (some (.int v)) h) (hc : cells ≤ mc ∧ slots ≤ ms) : ev G M_Mo_step R (Er M_Mo_step P mc ms) 19 lv [.int v] h cells slots := ev_exit ⟨hc.1, hc.2, Or.inr (Or.inl ⟨v, .int, rfl, rfl, d_Mo_step_19, rfl, hP⟩)⟩
theorem d_Mo_step_20 : decode prog_10_method_15_code 20 = .ok (.iconst 0, 1) := by decide +kernel
theorem s_Mo_step_20  (k : ev G M_Mo_step R E 21 lv (.int 0 :: rest) h cells slots) : ev G M_Mo_step R E 20 lv rest h cells slots := ev_iconst d_Mo_step_20 (by decide) k
theorem d_Mo_step_21 : decode prog_10_method_15_code 21 = .ok (.istore_n 2, 1) := by decide +kernel
theorem s_Mo_step_21 {x : Int32} (k : ev G M_Mo_step R E 22 (ls1 lv 2 (.int x)) rest h cells slots) : ev G M_Mo_step R E 21 lv (.int x :: rest) h cells slots := ev_istore_n d_Mo_step_21 rfl (by decide) k
theorem d_Mo_step_22 : decode prog_10_method_15_code 22 = .ok (.iload_n 2, 1) := by decide +kernel
theorem s_Mo_step_22 {x : Int32} (hl : lg lv 2 = some (.int x)) (k : ev G M_Mo_step R E 23 lv (.int x :: rest) h cells slots) : ev G M_Mo_step R E 22 lv rest h cells slots := ev_iload_n d_Mo_step_22 rfl hl k
theorem d_Mo_step_23 : decode prog_10_method_15_code 23 = .ok (.iload_n 1, 1) := by decide +kernel
theorem s_Mo_step_23 {x : Int32} (hl : lg lv 1 = some (.int x)) (k : ev G M_Mo_step R E 24 lv (.int x :: rest) h cells slots) : ev G M_Mo_step R E 23 lv rest h cells slots := ev_iload_n d_Mo_step_23 rfl hl k
theorem d_Mo_step_24 : decode prog_10_method_15_code 24 = .ok (.if_icmp .ge 44, 3) := by decide +kernel
theorem s_Mo_step_24 {x y : Int32} (kt : y ≤ x → ev G M_Mo_step R E 68 lv rest h cells slots) (kf : ¬ y ≤ x → ev G M_Mo_step R E 27 lv rest h cells slots) : ev G M_Mo_step R E 24 lv (.int y :: .int x :: rest) h cells slots := ev_icmp_ge d_Mo_step_24 (by decide) kt kf
theorem d_Mo_step_27 : decode prog_10_method_15_code 27 = .ok (.aload_n 0, 1) := by decide +kernel
theorem s_Mo_step_27 {x : Nat} (hl : lg lv 0 = some (.ref x)) (k : ev G M_Mo_step R E 28 lv (.ref x :: rest) h cells slots) : ev G M_Mo_step R E 27 lv rest h cells slots := ev_aload_n d_Mo_step_27 rfl hl k
theorem d_Mo_step_28 : decode prog_10_method_15_code 28 = .ok (.getfield 88, 3) := by decide +kernel
theorem s_Mo_step_28 {a : Nat} {fs : List Value} {v : Value} (hh : h a = mO 7 fs) (hv : fs[15]? = some v) (k : ev G M_Mo_step R E 31 lv (v :: rest) h cells slots) : ev G M_Mo_step R E 28 lv (.ref a :: rest) h cells slots := ev_getfield (ci := 7) (kf := 15) d_Mo_step_28 rfl ck7 (by decide) w_719 hh hv k
theorem d_Mo_step_31 : decode prog_10_method_15_code 31 = .ok (.ifCond .ne 37, 3) := by decide +kernel
theorem s_Mo_step_31 {x : Int32} (kt : ¬ x = 0 → ev G M_Mo_step R E 68 lv rest h cells slots) (kf : x = 0 → ev G M_Mo_step R E 34 lv rest h cells slots) : ev G M_Mo_step R E 31 lv (.int x :: rest) h cells slots := ev_if_ne d_Mo_step_31 (by decide) kt kf
theorem d_Mo_step_34 : decode prog_10_method_15_code 34 = .ok (.aload_n 0, 1) := by decide +kernel
theorem s_Mo_step_34 {x : Nat} (hl : lg lv 0 = some (.ref x)) (k : ev G M_Mo_step R E 35 lv (.ref x :: rest) h cells slots) : ev G M_Mo_step R E 34 lv rest h cells slots := ev_aload_n d_Mo_step_34 rfl hl k
theorem d_Mo_step_35 : decode prog_10_method_15_code 35 = .ok (.invokevirtual 100, 3) := by decide +kernel
theorem s_Mo_step_35 {mc ms : Nat} {P : Option Value → HP → Prop}  {b : Nat} {fs : List Value} {v0 : Value} (hm : mt G M_Mo_order 5 mc ms (.ref b :: []) h P) (hb : h b = mO 7 fs) (hv0 : fs[0]? = some v0) (hR : 5 + 1 ≤ R.frames ∧ 8 + (11 + 11) + 39 * 5 ≤ R.locals) (hcs : cells + mc ≤ R.cells ∧ slots + ms ≤ R.slots) (hrest : (rest.map fun v => v.category).sum ≤ 8) (k : ∀ (r : Option Value) (h' : HP), P r h' → ev G M_Mo_step R E 38 lv (r.toList ++ rest) h' (cells + mc) (slots + ms)) : ev G M_Mo_step R E 35 lv (.ref b :: rest) h cells slots := ev_callV (as := []) (ci := 7) d_Mo_step_35 hm hb hv0 rfl w_792 w_794 w_36 w_70 w_795 hy_Mo_order hR hcs hrest k
theorem d_Mo_step_38 : decode prog_10_method_15_code 38 = .ok (.aload_n 0, 1) := by decide +kernel
theorem s_Mo_step_38 {x : Nat} (hl : lg lv 0 = some (.ref x)) (k : ev G M_Mo_step R E 39 lv (.ref x :: rest) h cells slots) : ev G M_Mo_step R E 38 lv rest h cells slots := ev_aload_n d_Mo_step_38 rfl hl k
theorem d_Mo_step_39 : decode prog_10_method_15_code 39 = .ok (.aload_n 0, 1) := by decide +kernel
theorem s_Mo_step_39 {x : Nat} (hl : lg lv 0 = some (.ref x)) (k : ev G M_Mo_step R E 40 lv (.ref x :: rest) h cells slots) : ev G M_Mo_step R E 39 lv rest h cells slots := ev_aload_n d_Mo_step_39 rfl hl k
theorem d_Mo_step_40 : decode prog_10_method_15_code 40 = .ok (.getfield 94, 3) := by decide +kernel
theorem s_Mo_step_40 {a : Nat} {fs : List Value} {v : Value} (hh : h a = mO 7 fs) (hv : fs[17]? = some v) (k : ev G M_Mo_step R E 43 lv (v :: rest) h cells slots) : ev G M_Mo_step R E 40 lv (.ref a :: rest) h cells slots := ev_getfield (ci := 7) (kf := 17) d_Mo_step_40 rfl ck7 (by decide) w_721 hh hv k
theorem d_Mo_step_43 : decode prog_10_method_15_code 43 = .ok (.bipush 40, 2) := by decide +kernel
theorem s_Mo_step_43  (k : ev G M_Mo_step R E 45 lv (.int 40 :: rest) h cells slots) : ev G M_Mo_step R E 43 lv rest h cells slots := ev_bipush d_Mo_step_43 (by decide) k
theorem d_Mo_step_45 : decode prog_10_method_15_code 45 = .ok (.if_icmp .ge 12, 3) := by decide +kernel
theorem s_Mo_step_45 {x y : Int32} (kt : y ≤ x → ev G M_Mo_step R E 57 lv rest h cells slots) (kf : ¬ y ≤ x → ev G M_Mo_step R E 48 lv rest h cells slots) : ev G M_Mo_step R E 45 lv (.int y :: .int x :: rest) h cells slots := ev_icmp_ge d_Mo_step_45 (by decide) kt kf
theorem d_Mo_step_48 : decode prog_10_method_15_code 48 = .ok (.aload_n 0, 1) := by decide +kernel
theorem s_Mo_step_48 {x : Nat} (hl : lg lv 0 = some (.ref x)) (k : ev G M_Mo_step R E 49 lv (.ref x :: rest) h cells slots) : ev G M_Mo_step R E 48 lv rest h cells slots := ev_aload_n d_Mo_step_48 rfl hl k
theorem d_Mo_step_49 : decode prog_10_method_15_code 49 = .ok (.getfield 94, 3) := by decide +kernel
theorem s_Mo_step_49 {a : Nat} {fs : List Value} {v : Value} (hh : h a = mO 7 fs) (hv : fs[17]? = some v) (k : ev G M_Mo_step R E 52 lv (v :: rest) h cells slots) : ev G M_Mo_step R E 49 lv (.ref a :: rest) h cells slots := ev_getfield (ci := 7) (kf := 17) d_Mo_step_49 rfl ck7 (by decide) w_721 hh hv k
theorem d_Mo_step_52 : decode prog_10_method_15_code 52 = .ok (.iconst 1, 1) := by decide +kernel
theorem s_Mo_step_52  (k : ev G M_Mo_step R E 53 lv (.int 1 :: rest) h cells slots) : ev G M_Mo_step R E 52 lv rest h cells slots := ev_iconst d_Mo_step_52 (by decide) k
theorem d_Mo_step_53 : decode prog_10_method_15_code 53 = .ok (.iadd, 1) := by decide +kernel
theorem s_Mo_step_53 {x y : Int32} (k : ev G M_Mo_step R E 54 lv (.int (x + y) :: rest) h cells slots) : ev G M_Mo_step R E 53 lv (.int y :: .int x :: rest) h cells slots := ev_iadd d_Mo_step_53 k
theorem d_Mo_step_54 : decode prog_10_method_15_code 54 = .ok (.goto 5, 3) := by decide +kernel
theorem s_Mo_step_54  (k : ev G M_Mo_step R E 59 lv rest h cells slots) : ev G M_Mo_step R E 54 lv rest h cells slots := ev_goto d_Mo_step_54 (by decide) k
theorem d_Mo_step_57 : decode prog_10_method_15_code 57 = .ok (.bipush 40, 2) := by decide +kernel
theorem s_Mo_step_57  (k : ev G M_Mo_step R E 59 lv (.int 40 :: rest) h cells slots) : ev G M_Mo_step R E 57 lv rest h cells slots := ev_bipush d_Mo_step_57 (by decide) k
theorem d_Mo_step_59 : decode prog_10_method_15_code 59 = .ok (.putfield 94, 3) := by decide +kernel
theorem s_Mo_step_59 {x : Int32} {a : Nat} {fs : List Value} (hh : h a = mO 7 fs) (hlen : 17 < fs.length) (k : ev G M_Mo_step R E 62 lv rest (va_up h a (mO 7 (fs.set 17 (.int x)))) cells slots) : ev G M_Mo_step R E 59 lv (.int x :: .ref a :: rest) h cells slots := ev_putfield (ci := 7) (kf := 17) d_Mo_step_59 rfl ck7 (by decide) w_721 rfl hh hlen (fun _ _ => rfl) (fun _ _ => rfl) k
theorem d_Mo_step_62 : decode prog_10_method_15_code 62 = .ok (.iinc 2 1, 3) := by decide +kernel
theorem s_Mo_step_62 {x : Int32} (hl : lg lv 2 = some (.int x)) (k : ev G M_Mo_step R E 65 (ls1 lv 2 (.int (x + 1))) rest h cells slots) : ev G M_Mo_step R E 62 lv rest h cells slots := ev_iinc d_Mo_step_62 (by decide) hl (by decide) k
theorem d_Mo_step_65 : decode prog_10_method_15_code 65 = .ok (.goto (-43), 3) := by decide +kernel
theorem s_Mo_step_65  (k : ev G M_Mo_step R E 22 lv rest h cells slots) : ev G M_Mo_step R E 65 lv rest h cells slots := ev_goto d_Mo_step_65 (by decide) k
theorem d_Mo_step_68 : decode prog_10_method_15_code 68 = .ok (.aload_n 0, 1) := by decide +kernel
theorem s_Mo_step_68 {x : Nat} (hl : lg lv 0 = some (.ref x)) (k : ev G M_Mo_step R E 69 lv (.ref x :: rest) h cells slots) : ev G M_Mo_step R E 68 lv rest h cells slots := ev_aload_n d_Mo_step_68 rfl hl k
theorem d_Mo_step_69 : decode prog_10_method_15_code 69 = .ok (.getfield 88, 3) := by decide +kernel
theorem s_Mo_step_69 {a : Nat} {fs : List Value} {v : Value} (hh : h a = mO 7 fs) (hv : fs[15]? = some v) (k : ev G M_Mo_step R E 72 lv (v :: rest) h cells slots) : ev G M_Mo_step R E 69 lv (.ref a :: rest) h cells slots := ev_getfield (ci := 7) (kf := 15) d_Mo_step_69 rfl ck7 (by decide) w_719 hh hv k
theorem d_Mo_step_72 : decode prog_10_method_15_code 72 = .ok (.ireturn, 1) := by decide +kernel
theorem s_Mo_step_72 {P : Option Value → HP → Prop} {mc ms : Nat} {v : Int32} (hP : P (some (.int v)) h) (hc : cells ≤ mc ∧ slots ≤ ms) : ev G M_Mo_step R (Er M_Mo_step P mc ms) 72 lv [.int v] h cells slots := ev_exit ⟨hc.1, hc.2, Or.inr (Or.inl ⟨v, .int, rfl, rfl, d_Mo_step_72, rfl, hP⟩)⟩
abbrev M_Mo_undo : MW := (⟨"UseOnceMachineModel", "undo", "(I)I"⟩, prog_10_method_16_code, 5, (some .int))
theorem hy_Mo_undo : M_Mo_undo.1.cls ≠ "java/lang/invoke/MethodHandle" ∧ M_Mo_undo.1.cls ≠ "java/lang/invoke/VarHandle" ∧ (parseMethodDescriptor M_Mo_undo.1.desc).map (fun d => d.parameters.length) = some 1 := by decide +kernel
theorem d_Mo_undo_0 : decode prog_10_method_16_code 0 = .ok (.iload_n 1, 1) := by decide +kernel
theorem s_Mo_undo_0 {x : Int32} (hl : lg lv 1 = some (.int x)) (k : ev G M_Mo_undo R E 1 lv (.int x :: rest) h cells slots) : ev G M_Mo_undo R E 0 lv rest h cells slots := ev_iload_n d_Mo_undo_0 rfl hl k
theorem d_Mo_undo_1 : decode prog_10_method_16_code 1 = .ok (.iconst 1, 1) := by decide +kernel
theorem s_Mo_undo_1  (k : ev G M_Mo_undo R E 2 lv (.int 1 :: rest) h cells slots) : ev G M_Mo_undo R E 1 lv rest h cells slots := ev_iconst d_Mo_undo_1 (by decide) k
theorem d_Mo_undo_2 : decode prog_10_method_16_code 2 = .ok (.bipush 40, 2) := by decide +kernel
theorem s_Mo_undo_2  (k : ev G M_Mo_undo R E 4 lv (.int 40 :: rest) h cells slots) : ev G M_Mo_undo R E 2 lv rest h cells slots := ev_bipush d_Mo_undo_2 (by decide) k
theorem d_Mo_undo_4 : decode prog_10_method_16_code 4 = .ok (.invokestatic 50, 3) := by decide +kernel
theorem s_Mo_undo_4 {mc ms : Nat} {P : Option Value → HP → Prop} {a0 : Int32} {a1 : Int32} {a2 : Int32} (hm : mt G M_Mo_in 0 mc ms [.int a0, .int a1, .int a2] h P) (hR : 0 + 1 ≤ R.frames ∧ 8 + (3 + 11) + 39 * 0 ≤ R.locals) (hcs : cells + mc ≤ R.cells ∧ slots + ms ≤ R.slots) (hrest : (rest.map fun v => v.category).sum ≤ 8) (k : ∀ (r : Option Value) (h' : HP), P r h' → ev G M_Mo_undo R E 7 lv (r.toList ++ rest) h' (cells + mc) (slots + ms)) : ev G M_Mo_undo R E 4 lv (.int a2 :: .int a1 :: .int a0 :: rest) h cells slots := ev_callS (as := [.int a0, .int a1, .int a2]) d_Mo_undo_4 hm w_769 w_770 w_70 w_771 hy_Mo_in hR hcs hrest k
theorem d_Mo_undo_7 : decode prog_10_method_16_code 7 = .ok (.ifCond .ne 5, 3) := by decide +kernel
theorem s_Mo_undo_7 {x : Int32} (kt : ¬ x = 0 → ev G M_Mo_undo R E 12 lv rest h cells slots) (kf : x = 0 → ev G M_Mo_undo R E 10 lv rest h cells slots) : ev G M_Mo_undo R E 7 lv (.int x :: rest) h cells slots := ev_if_ne d_Mo_undo_7 (by decide) kt kf
theorem d_Mo_undo_10 : decode prog_10_method_16_code 10 = .ok (.iconst (-1), 1) := by decide +kernel
theorem s_Mo_undo_10  (k : ev G M_Mo_undo R E 11 lv (.int (-1) :: rest) h cells slots) : ev G M_Mo_undo R E 10 lv rest h cells slots := ev_iconst d_Mo_undo_10 (by decide) k
theorem d_Mo_undo_11 : decode prog_10_method_16_code 11 = .ok (.ireturn, 1) := by decide +kernel
theorem s_Mo_undo_11 {P : Option Value → HP → Prop} {mc ms : Nat} {v : Int32} (hP : P (some (.int v)) h) (hc : cells ≤ mc ∧ slots ≤ ms) : ev G M_Mo_undo R (Er M_Mo_undo P mc ms) 11 lv [.int v] h cells slots := ev_exit ⟨hc.1, hc.2, Or.inr (Or.inl ⟨v, .int, rfl, rfl, d_Mo_undo_11, rfl, hP⟩)⟩
theorem d_Mo_undo_12 : decode prog_10_method_16_code 12 = .ok (.iload_n 1, 1) := by decide +kernel
theorem s_Mo_undo_12 {x : Int32} (hl : lg lv 1 = some (.int x)) (k : ev G M_Mo_undo R E 13 lv (.int x :: rest) h cells slots) : ev G M_Mo_undo R E 12 lv rest h cells slots := ev_iload_n d_Mo_undo_12 rfl hl k
theorem d_Mo_undo_13 : decode prog_10_method_16_code 13 = .ok (.aload_n 0, 1) := by decide +kernel
theorem s_Mo_undo_13 {x : Nat} (hl : lg lv 0 = some (.ref x)) (k : ev G M_Mo_undo R E 14 lv (.ref x :: rest) h cells slots) : ev G M_Mo_undo R E 13 lv rest h cells slots := ev_aload_n d_Mo_undo_13 rfl hl k
theorem d_Mo_undo_14 : decode prog_10_method_16_code 14 = .ok (.getfield 94, 3) := by decide +kernel
theorem s_Mo_undo_14 {a : Nat} {fs : List Value} {v : Value} (hh : h a = mO 7 fs) (hv : fs[17]? = some v) (k : ev G M_Mo_undo R E 17 lv (v :: rest) h cells slots) : ev G M_Mo_undo R E 14 lv (.ref a :: rest) h cells slots := ev_getfield (ci := 7) (kf := 17) d_Mo_undo_14 rfl ck7 (by decide) w_721 hh hv k
theorem d_Mo_undo_17 : decode prog_10_method_16_code 17 = .ok (.if_icmp .ge 7, 3) := by decide +kernel
theorem s_Mo_undo_17 {x y : Int32} (kt : y ≤ x → ev G M_Mo_undo R E 24 lv rest h cells slots) (kf : ¬ y ≤ x → ev G M_Mo_undo R E 20 lv rest h cells slots) : ev G M_Mo_undo R E 17 lv (.int y :: .int x :: rest) h cells slots := ev_icmp_ge d_Mo_undo_17 (by decide) kt kf
theorem d_Mo_undo_20 : decode prog_10_method_16_code 20 = .ok (.iload_n 1, 1) := by decide +kernel
theorem s_Mo_undo_20 {x : Int32} (hl : lg lv 1 = some (.int x)) (k : ev G M_Mo_undo R E 21 lv (.int x :: rest) h cells slots) : ev G M_Mo_undo R E 20 lv rest h cells slots := ev_iload_n d_Mo_undo_20 rfl hl k
theorem d_Mo_undo_21 : decode prog_10_method_16_code 21 = .ok (.goto 7, 3) := by decide +kernel
theorem s_Mo_undo_21  (k : ev G M_Mo_undo R E 28 lv rest h cells slots) : ev G M_Mo_undo R E 21 lv rest h cells slots := ev_goto d_Mo_undo_21 (by decide) k
theorem d_Mo_undo_24 : decode prog_10_method_16_code 24 = .ok (.aload_n 0, 1) := by decide +kernel
theorem s_Mo_undo_24 {x : Nat} (hl : lg lv 0 = some (.ref x)) (k : ev G M_Mo_undo R E 25 lv (.ref x :: rest) h cells slots) : ev G M_Mo_undo R E 24 lv rest h cells slots := ev_aload_n d_Mo_undo_24 rfl hl k
theorem d_Mo_undo_25 : decode prog_10_method_16_code 25 = .ok (.getfield 94, 3) := by decide +kernel
theorem s_Mo_undo_25 {a : Nat} {fs : List Value} {v : Value} (hh : h a = mO 7 fs) (hv : fs[17]? = some v) (k : ev G M_Mo_undo R E 28 lv (v :: rest) h cells slots) : ev G M_Mo_undo R E 25 lv (.ref a :: rest) h cells slots := ev_getfield (ci := 7) (kf := 17) d_Mo_undo_25 rfl ck7 (by decide) w_721 hh hv k
theorem d_Mo_undo_28 : decode prog_10_method_16_code 28 = .ok (.istore_n 2, 1) := by decide +kernel
theorem s_Mo_undo_28 {x : Int32} (k : ev G M_Mo_undo R E 29 (ls1 lv 2 (.int x)) rest h cells slots) : ev G M_Mo_undo R E 28 lv (.int x :: rest) h cells slots := ev_istore_n d_Mo_undo_28 rfl (by decide) k
theorem d_Mo_undo_29 : decode prog_10_method_16_code 29 = .ok (.aload_n 0, 1) := by decide +kernel
theorem s_Mo_undo_29 {x : Nat} (hl : lg lv 0 = some (.ref x)) (k : ev G M_Mo_undo R E 30 lv (.ref x :: rest) h cells slots) : ev G M_Mo_undo R E 29 lv rest h cells slots := ev_aload_n d_Mo_undo_29 rfl hl k
theorem d_Mo_undo_30 : decode prog_10_method_16_code 30 = .ok (.getfield 91, 3) := by decide +kernel
theorem s_Mo_undo_30 {a : Nat} {fs : List Value} {v : Value} (hh : h a = mO 7 fs) (hv : fs[16]? = some v) (k : ev G M_Mo_undo R E 33 lv (v :: rest) h cells slots) : ev G M_Mo_undo R E 30 lv (.ref a :: rest) h cells slots := ev_getfield (ci := 7) (kf := 16) d_Mo_undo_30 rfl ck7 (by decide) w_720 hh hv k
theorem d_Mo_undo_33 : decode prog_10_method_16_code 33 = .ok (.iload_n 2, 1) := by decide +kernel
theorem s_Mo_undo_33 {x : Int32} (hl : lg lv 2 = some (.int x)) (k : ev G M_Mo_undo R E 34 lv (.int x :: rest) h cells slots) : ev G M_Mo_undo R E 33 lv rest h cells slots := ev_iload_n d_Mo_undo_33 rfl hl k
theorem d_Mo_undo_34 : decode prog_10_method_16_code 34 = .ok (.isub, 1) := by decide +kernel
theorem s_Mo_undo_34 {x y : Int32} (k : ev G M_Mo_undo R E 35 lv (.int (x - y) :: rest) h cells slots) : ev G M_Mo_undo R E 34 lv (.int y :: .int x :: rest) h cells slots := ev_isub d_Mo_undo_34 k
theorem d_Mo_undo_35 : decode prog_10_method_16_code 35 = .ok (.istore_n 3, 1) := by decide +kernel
theorem s_Mo_undo_35 {x : Int32} (k : ev G M_Mo_undo R E 36 (ls1 lv 3 (.int x)) rest h cells slots) : ev G M_Mo_undo R E 35 lv (.int x :: rest) h cells slots := ev_istore_n d_Mo_undo_35 rfl (by decide) k
theorem d_Mo_undo_36 : decode prog_10_method_16_code 36 = .ok (.aload_n 0, 1) := by decide +kernel
theorem s_Mo_undo_36 {x : Nat} (hl : lg lv 0 = some (.ref x)) (k : ev G M_Mo_undo R E 37 lv (.ref x :: rest) h cells slots) : ev G M_Mo_undo R E 36 lv rest h cells slots := ev_aload_n d_Mo_undo_36 rfl hl k
theorem d_Mo_undo_37 : decode prog_10_method_16_code 37 = .ok (.invokevirtual 97, 3) := by decide +kernel
theorem s_Mo_undo_37 {mc ms : Nat} {P : Option Value → HP → Prop}  {b : Nat} {fs : List Value} {v0 : Value} (hm : mt G M_Mo_begin 2 mc ms (.ref b :: []) h P) (hb : h b = mO 7 fs) (hv0 : fs[0]? = some v0) (hR : 2 + 1 ≤ R.frames ∧ 8 + (2 + 11) + 39 * 2 ≤ R.locals) (hcs : cells + mc ≤ R.cells ∧ slots + ms ≤ R.slots) (hrest : (rest.map fun v => v.category).sum ≤ 8) (k : ∀ (r : Option Value) (h' : HP), P r h' → ev G M_Mo_undo R E 40 lv (r.toList ++ rest) h' (cells + mc) (slots + ms)) : ev G M_Mo_undo R E 37 lv (.ref b :: rest) h cells slots := ev_callV (as := []) (ci := 7) d_Mo_undo_37 hm hb hv0 rfl w_776 w_778 w_33 w_70 w_779 hy_Mo_begin hR hcs hrest k
theorem d_Mo_undo_40 : decode prog_10_method_16_code 40 = .ok (.iconst 0, 1) := by decide +kernel
theorem s_Mo_undo_40  (k : ev G M_Mo_undo R E 41 lv (.int 0 :: rest) h cells slots) : ev G M_Mo_undo R E 40 lv rest h cells slots := ev_iconst d_Mo_undo_40 (by decide) k
theorem d_Mo_undo_41 : decode prog_10_method_16_code 41 = .ok (.istore 4, 2) := by decide +kernel
theorem s_Mo_undo_41 {x : Int32} (k : ev G M_Mo_undo R E 43 (ls1 lv 4 (.int x)) rest h cells slots) : ev G M_Mo_undo R E 41 lv (.int x :: rest) h cells slots := ev_istore d_Mo_undo_41 (by decide) k
theorem d_Mo_undo_43 : decode prog_10_method_16_code 43 = .ok (.iload 4, 2) := by decide +kernel
theorem s_Mo_undo_43 {x : Int32} (hl : lg lv 4 = some (.int x)) (k : ev G M_Mo_undo R E 45 lv (.int x :: rest) h cells slots) : ev G M_Mo_undo R E 43 lv rest h cells slots := ev_iload d_Mo_undo_43 hl k
theorem d_Mo_undo_45 : decode prog_10_method_16_code 45 = .ok (.iload_n 3, 1) := by decide +kernel
theorem s_Mo_undo_45 {x : Int32} (hl : lg lv 3 = some (.int x)) (k : ev G M_Mo_undo R E 46 lv (.int x :: rest) h cells slots) : ev G M_Mo_undo R E 45 lv rest h cells slots := ev_iload_n d_Mo_undo_45 rfl hl k
theorem d_Mo_undo_46 : decode prog_10_method_16_code 46 = .ok (.if_icmp .ge 13, 3) := by decide +kernel
theorem s_Mo_undo_46 {x y : Int32} (kt : y ≤ x → ev G M_Mo_undo R E 59 lv rest h cells slots) (kf : ¬ y ≤ x → ev G M_Mo_undo R E 49 lv rest h cells slots) : ev G M_Mo_undo R E 46 lv (.int y :: .int x :: rest) h cells slots := ev_icmp_ge d_Mo_undo_46 (by decide) kt kf
theorem d_Mo_undo_49 : decode prog_10_method_16_code 49 = .ok (.aload_n 0, 1) := by decide +kernel
theorem s_Mo_undo_49 {x : Nat} (hl : lg lv 0 = some (.ref x)) (k : ev G M_Mo_undo R E 50 lv (.ref x :: rest) h cells slots) : ev G M_Mo_undo R E 49 lv rest h cells slots := ev_aload_n d_Mo_undo_49 rfl hl k
theorem d_Mo_undo_50 : decode prog_10_method_16_code 50 = .ok (.invokevirtual 100, 3) := by decide +kernel
theorem s_Mo_undo_50 {mc ms : Nat} {P : Option Value → HP → Prop}  {b : Nat} {fs : List Value} {v0 : Value} (hm : mt G M_Mo_order 5 mc ms (.ref b :: []) h P) (hb : h b = mO 7 fs) (hv0 : fs[0]? = some v0) (hR : 5 + 1 ≤ R.frames ∧ 8 + (11 + 11) + 39 * 5 ≤ R.locals) (hcs : cells + mc ≤ R.cells ∧ slots + ms ≤ R.slots) (hrest : (rest.map fun v => v.category).sum ≤ 8) (k : ∀ (r : Option Value) (h' : HP), P r h' → ev G M_Mo_undo R E 53 lv (r.toList ++ rest) h' (cells + mc) (slots + ms)) : ev G M_Mo_undo R E 50 lv (.ref b :: rest) h cells slots := ev_callV (as := []) (ci := 7) d_Mo_undo_50 hm hb hv0 rfl w_792 w_794 w_36 w_70 w_795 hy_Mo_order hR hcs hrest k
theorem d_Mo_undo_53 : decode prog_10_method_16_code 53 = .ok (.iinc 4 1, 3) := by decide +kernel
theorem s_Mo_undo_53 {x : Int32} (hl : lg lv 4 = some (.int x)) (k : ev G M_Mo_undo R E 56 (ls1 lv 4 (.int (x + 1))) rest h cells slots) : ev G M_Mo_undo R E 53 lv rest h cells slots := ev_iinc d_Mo_undo_53 (by decide) hl (by decide) k
theorem d_Mo_undo_56 : decode prog_10_method_16_code 56 = .ok (.goto (-13), 3) := by decide +kernel
theorem s_Mo_undo_56  (k : ev G M_Mo_undo R E 43 lv rest h cells slots) : ev G M_Mo_undo R E 56 lv rest h cells slots := ev_goto d_Mo_undo_56 (by decide) k
theorem d_Mo_undo_59 : decode prog_10_method_16_code 59 = .ok (.aload_n 0, 1) := by decide +kernel
theorem s_Mo_undo_59 {x : Nat} (hl : lg lv 0 = some (.ref x)) (k : ev G M_Mo_undo R E 60 lv (.ref x :: rest) h cells slots) : ev G M_Mo_undo R E 59 lv rest h cells slots := ev_aload_n d_Mo_undo_59 rfl hl k
theorem d_Mo_undo_60 : decode prog_10_method_16_code 60 = .ok (.aload_n 0, 1) := by decide +kernel
theorem s_Mo_undo_60 {x : Nat} (hl : lg lv 0 = some (.ref x)) (k : ev G M_Mo_undo R E 61 lv (.ref x :: rest) h cells slots) : ev G M_Mo_undo R E 60 lv rest h cells slots := ev_aload_n d_Mo_undo_60 rfl hl k
theorem d_Mo_undo_61 : decode prog_10_method_16_code 61 = .ok (.getfield 94, 3) := by decide +kernel
theorem s_Mo_undo_61 {a : Nat} {fs : List Value} {v : Value} (hh : h a = mO 7 fs) (hv : fs[17]? = some v) (k : ev G M_Mo_undo R E 64 lv (v :: rest) h cells slots) : ev G M_Mo_undo R E 61 lv (.ref a :: rest) h cells slots := ev_getfield (ci := 7) (kf := 17) d_Mo_undo_61 rfl ck7 (by decide) w_721 hh hv k
theorem d_Mo_undo_64 : decode prog_10_method_16_code 64 = .ok (.iload_n 2, 1) := by decide +kernel
theorem s_Mo_undo_64 {x : Int32} (hl : lg lv 2 = some (.int x)) (k : ev G M_Mo_undo R E 65 lv (.int x :: rest) h cells slots) : ev G M_Mo_undo R E 64 lv rest h cells slots := ev_iload_n d_Mo_undo_64 rfl hl k
theorem d_Mo_undo_65 : decode prog_10_method_16_code 65 = .ok (.isub, 1) := by decide +kernel
theorem s_Mo_undo_65 {x y : Int32} (k : ev G M_Mo_undo R E 66 lv (.int (x - y) :: rest) h cells slots) : ev G M_Mo_undo R E 65 lv (.int y :: .int x :: rest) h cells slots := ev_isub d_Mo_undo_65 k
theorem d_Mo_undo_66 : decode prog_10_method_16_code 66 = .ok (.putfield 94, 3) := by decide +kernel
theorem s_Mo_undo_66 {x : Int32} {a : Nat} {fs : List Value} (hh : h a = mO 7 fs) (hlen : 17 < fs.length) (k : ev G M_Mo_undo R E 69 lv rest (va_up h a (mO 7 (fs.set 17 (.int x)))) cells slots) : ev G M_Mo_undo R E 66 lv (.int x :: .ref a :: rest) h cells slots := ev_putfield (ci := 7) (kf := 17) d_Mo_undo_66 rfl ck7 (by decide) w_721 rfl hh hlen (fun _ _ => rfl) (fun _ _ => rfl) k
theorem d_Mo_undo_69 : decode prog_10_method_16_code 69 = .ok (.iload_n 2, 1) := by decide +kernel
theorem s_Mo_undo_69 {x : Int32} (hl : lg lv 2 = some (.int x)) (k : ev G M_Mo_undo R E 70 lv (.int x :: rest) h cells slots) : ev G M_Mo_undo R E 69 lv rest h cells slots := ev_iload_n d_Mo_undo_69 rfl hl k
theorem d_Mo_undo_70 : decode prog_10_method_16_code 70 = .ok (.ireturn, 1) := by decide +kernel
theorem s_Mo_undo_70 {P : Option Value → HP → Prop} {mc ms : Nat} {v : Int32} (hP : P (some (.int v)) h) (hc : cells ≤ mc ∧ slots ≤ ms) : ev G M_Mo_undo R (Er M_Mo_undo P mc ms) 70 lv [.int v] h cells slots := ev_exit ⟨hc.1, hc.2, Or.inr (Or.inl ⟨v, .int, rfl, rfl, d_Mo_undo_70, rfl, hP⟩)⟩
abbrev M_Mo_shown : MW := (⟨"UseOnceMachineModel", "shown", "(II)I"⟩, prog_10_method_32_code, 3, (some .int))
theorem hy_Mo_shown : M_Mo_shown.1.cls ≠ "java/lang/invoke/MethodHandle" ∧ M_Mo_shown.1.cls ≠ "java/lang/invoke/VarHandle" ∧ (parseMethodDescriptor M_Mo_shown.1.desc).map (fun d => d.parameters.length) = some 2 := by decide +kernel
theorem d_Mo_shown_0 : decode prog_10_method_32_code 0 = .ok (.iload_n 2, 1) := by decide +kernel
theorem s_Mo_shown_0 {x : Int32} (hl : lg lv 2 = some (.int x)) (k : ev G M_Mo_shown R E 1 lv (.int x :: rest) h cells slots) : ev G M_Mo_shown R E 0 lv rest h cells slots := ev_iload_n d_Mo_shown_0 rfl hl k
theorem d_Mo_shown_1 : decode prog_10_method_32_code 1 = .ok (.iconst 0, 1) := by decide +kernel
theorem s_Mo_shown_1  (k : ev G M_Mo_shown R E 2 lv (.int 0 :: rest) h cells slots) : ev G M_Mo_shown R E 1 lv rest h cells slots := ev_iconst d_Mo_shown_1 (by decide) k
theorem d_Mo_shown_2 : decode prog_10_method_32_code 2 = .ok (.iconst 4, 1) := by decide +kernel
theorem s_Mo_shown_2  (k : ev G M_Mo_shown R E 3 lv (.int 4 :: rest) h cells slots) : ev G M_Mo_shown R E 2 lv rest h cells slots := ev_iconst d_Mo_shown_2 (by decide) k
theorem d_Mo_shown_3 : decode prog_10_method_32_code 3 = .ok (.invokestatic 50, 3) := by decide +kernel
theorem s_Mo_shown_3 {mc ms : Nat} {P : Option Value → HP → Prop} {a0 : Int32} {a1 : Int32} {a2 : Int32} (hm : mt G M_Mo_in 0 mc ms [.int a0, .int a1, .int a2] h P) (hR : 0 + 1 ≤ R.frames ∧ 8 + (3 + 11) + 39 * 0 ≤ R.locals) (hcs : cells + mc ≤ R.cells ∧ slots + ms ≤ R.slots) (hrest : (rest.map fun v => v.category).sum ≤ 8) (k : ∀ (r : Option Value) (h' : HP), P r h' → ev G M_Mo_shown R E 6 lv (r.toList ++ rest) h' (cells + mc) (slots + ms)) : ev G M_Mo_shown R E 3 lv (.int a2 :: .int a1 :: .int a0 :: rest) h cells slots := ev_callS (as := [.int a0, .int a1, .int a2]) d_Mo_shown_3 hm w_769 w_770 w_70 w_771 hy_Mo_in hR hcs hrest k
theorem d_Mo_shown_6 : decode prog_10_method_32_code 6 = .ok (.ifCond .eq 12, 3) := by decide +kernel
theorem s_Mo_shown_6 {x : Int32} (kt : x = 0 → ev G M_Mo_shown R E 18 lv rest h cells slots) (kf : ¬ x = 0 → ev G M_Mo_shown R E 9 lv rest h cells slots) : ev G M_Mo_shown R E 6 lv (.int x :: rest) h cells slots := ev_if_eq d_Mo_shown_6 (by decide) kt kf
theorem d_Mo_shown_9 : decode prog_10_method_32_code 9 = .ok (.aload_n 0, 1) := by decide +kernel
theorem s_Mo_shown_9 {x : Nat} (hl : lg lv 0 = some (.ref x)) (k : ev G M_Mo_shown R E 10 lv (.ref x :: rest) h cells slots) : ev G M_Mo_shown R E 9 lv rest h cells slots := ev_aload_n d_Mo_shown_9 rfl hl k
theorem d_Mo_shown_10 : decode prog_10_method_32_code 10 = .ok (.iload_n 1, 1) := by decide +kernel
theorem s_Mo_shown_10 {x : Int32} (hl : lg lv 1 = some (.int x)) (k : ev G M_Mo_shown R E 11 lv (.int x :: rest) h cells slots) : ev G M_Mo_shown R E 10 lv rest h cells slots := ev_iload_n d_Mo_shown_10 rfl hl k
theorem d_Mo_shown_11 : decode prog_10_method_32_code 11 = .ok (.iload_n 2, 1) := by decide +kernel
theorem s_Mo_shown_11 {x : Int32} (hl : lg lv 2 = some (.int x)) (k : ev G M_Mo_shown R E 12 lv (.int x :: rest) h cells slots) : ev G M_Mo_shown R E 11 lv rest h cells slots := ev_iload_n d_Mo_shown_11 rfl hl k
theorem d_Mo_shown_12 : decode prog_10_method_32_code 12 = .ok (.invokevirtual 66, 3) := by decide +kernel
theorem s_Mo_shown_12 {mc ms : Nat} {P : Option Value → HP → Prop} {a0 : Int32} {a1 : Int32} {b : Nat} {fs : List Value} {v0 : Value} (hm : mt G M_Mo_get 0 mc ms (.ref b :: [.int a0, .int a1]) h P) (hb : h b = mO 7 fs) (hv0 : fs[0]? = some v0) (hR : 0 + 1 ≤ R.frames ∧ 8 + (3 + 11) + 39 * 0 ≤ R.locals) (hcs : cells + mc ≤ R.cells ∧ slots + ms ≤ R.slots) (hrest : (rest.map fun v => v.category).sum ≤ 8) (k : ∀ (r : Option Value) (h' : HP), P r h' → ev G M_Mo_shown R E 15 lv (r.toList ++ rest) h' (cells + mc) (slots + ms)) : ev G M_Mo_shown R E 12 lv (.int a1 :: .int a0 :: .ref b :: rest) h cells slots := ev_callV (as := [.int a0, .int a1]) (ci := 7) d_Mo_shown_12 hm hb hv0 rfl w_816 w_818 w_42 w_70 w_819 hy_Mo_get hR hcs hrest k
theorem d_Mo_shown_15 : decode prog_10_method_32_code 15 = .ok (.goto 4, 3) := by decide +kernel
theorem s_Mo_shown_15  (k : ev G M_Mo_shown R E 19 lv rest h cells slots) : ev G M_Mo_shown R E 15 lv rest h cells slots := ev_goto d_Mo_shown_15 (by decide) k
theorem d_Mo_shown_18 : decode prog_10_method_32_code 18 = .ok (.iconst (-1), 1) := by decide +kernel
theorem s_Mo_shown_18  (k : ev G M_Mo_shown R E 19 lv (.int (-1) :: rest) h cells slots) : ev G M_Mo_shown R E 18 lv rest h cells slots := ev_iconst d_Mo_shown_18 (by decide) k
theorem d_Mo_shown_19 : decode prog_10_method_32_code 19 = .ok (.ireturn, 1) := by decide +kernel
theorem s_Mo_shown_19 {P : Option Value → HP → Prop} {mc ms : Nat} {v : Int32} (hP : P (some (.int v)) h) (hc : cells ≤ mc ∧ slots ≤ ms) : ev G M_Mo_shown R (Er M_Mo_shown P mc ms) 19 lv [.int v] h cells slots := ev_exit ⟨hc.1, hc.2, Or.inr (Or.inl ⟨v, .int, rfl, rfl, d_Mo_shown_19, rfl, hP⟩)⟩
abbrev M_Mo_register : MW := (⟨"UseOnceMachineModel", "register", "(II)I"⟩, prog_10_method_33_code, 3, (some .int))
theorem hy_Mo_register : M_Mo_register.1.cls ≠ "java/lang/invoke/MethodHandle" ∧ M_Mo_register.1.cls ≠ "java/lang/invoke/VarHandle" ∧ (parseMethodDescriptor M_Mo_register.1.desc).map (fun d => d.parameters.length) = some 2 := by decide +kernel
theorem d_Mo_register_0 : decode prog_10_method_33_code 0 = .ok (.iload_n 1, 1) := by decide +kernel
theorem s_Mo_register_0 {x : Int32} (hl : lg lv 1 = some (.int x)) (k : ev G M_Mo_register R E 1 lv (.int x :: rest) h cells slots) : ev G M_Mo_register R E 0 lv rest h cells slots := ev_iload_n d_Mo_register_0 rfl hl k
theorem d_Mo_register_1 : decode prog_10_method_33_code 1 = .ok (.iconst 0, 1) := by decide +kernel
theorem s_Mo_register_1  (k : ev G M_Mo_register R E 2 lv (.int 0 :: rest) h cells slots) : ev G M_Mo_register R E 1 lv rest h cells slots := ev_iconst d_Mo_register_1 (by decide) k
theorem d_Mo_register_2 : decode prog_10_method_33_code 2 = .ok (.bipush 7, 2) := by decide +kernel
theorem s_Mo_register_2  (k : ev G M_Mo_register R E 4 lv (.int 7 :: rest) h cells slots) : ev G M_Mo_register R E 2 lv rest h cells slots := ev_bipush d_Mo_register_2 (by decide) k
theorem d_Mo_register_4 : decode prog_10_method_33_code 4 = .ok (.invokestatic 50, 3) := by decide +kernel
theorem s_Mo_register_4 {mc ms : Nat} {P : Option Value → HP → Prop} {a0 : Int32} {a1 : Int32} {a2 : Int32} (hm : mt G M_Mo_in 0 mc ms [.int a0, .int a1, .int a2] h P) (hR : 0 + 1 ≤ R.frames ∧ 8 + (3 + 11) + 39 * 0 ≤ R.locals) (hcs : cells + mc ≤ R.cells ∧ slots + ms ≤ R.slots) (hrest : (rest.map fun v => v.category).sum ≤ 8) (k : ∀ (r : Option Value) (h' : HP), P r h' → ev G M_Mo_register R E 7 lv (r.toList ++ rest) h' (cells + mc) (slots + ms)) : ev G M_Mo_register R E 4 lv (.int a2 :: .int a1 :: .int a0 :: rest) h cells slots := ev_callS (as := [.int a0, .int a1, .int a2]) d_Mo_register_4 hm w_769 w_770 w_70 w_771 hy_Mo_in hR hcs hrest k
theorem d_Mo_register_7 : decode prog_10_method_33_code 7 = .ok (.ifCond .eq 12, 3) := by decide +kernel
theorem s_Mo_register_7 {x : Int32} (kt : x = 0 → ev G M_Mo_register R E 19 lv rest h cells slots) (kf : ¬ x = 0 → ev G M_Mo_register R E 10 lv rest h cells slots) : ev G M_Mo_register R E 7 lv (.int x :: rest) h cells slots := ev_if_eq d_Mo_register_7 (by decide) kt kf
theorem d_Mo_register_10 : decode prog_10_method_33_code 10 = .ok (.aload_n 0, 1) := by decide +kernel
theorem s_Mo_register_10 {x : Nat} (hl : lg lv 0 = some (.ref x)) (k : ev G M_Mo_register R E 11 lv (.ref x :: rest) h cells slots) : ev G M_Mo_register R E 10 lv rest h cells slots := ev_aload_n d_Mo_register_10 rfl hl k
theorem d_Mo_register_11 : decode prog_10_method_33_code 11 = .ok (.iload_n 1, 1) := by decide +kernel
theorem s_Mo_register_11 {x : Int32} (hl : lg lv 1 = some (.int x)) (k : ev G M_Mo_register R E 12 lv (.int x :: rest) h cells slots) : ev G M_Mo_register R E 11 lv rest h cells slots := ev_iload_n d_Mo_register_11 rfl hl k
theorem d_Mo_register_12 : decode prog_10_method_33_code 12 = .ok (.iload_n 2, 1) := by decide +kernel
theorem s_Mo_register_12 {x : Int32} (hl : lg lv 2 = some (.int x)) (k : ev G M_Mo_register R E 13 lv (.int x :: rest) h cells slots) : ev G M_Mo_register R E 12 lv rest h cells slots := ev_iload_n d_Mo_register_12 rfl hl k
theorem d_Mo_register_13 : decode prog_10_method_33_code 13 = .ok (.invokevirtual 163, 3) := by decide +kernel
theorem s_Mo_register_13 {mc ms : Nat} {P : Option Value → HP → Prop} {a0 : Int32} {a1 : Int32} {b : Nat} {fs : List Value} {v0 : Value} (hm : mt G M_Mo_shown 1 mc ms (.ref b :: [.int a0, .int a1]) h P) (hb : h b = mO 7 fs) (hv0 : fs[0]? = some v0) (hR : 1 + 1 ≤ R.frames ∧ 8 + (3 + 11) + 39 * 1 ≤ R.locals) (hcs : cells + mc ≤ R.cells ∧ slots + ms ≤ R.slots) (hrest : (rest.map fun v => v.category).sum ≤ 8) (k : ∀ (r : Option Value) (h' : HP), P r h' → ev G M_Mo_register R E 16 lv (r.toList ++ rest) h' (cells + mc) (slots + ms)) : ev G M_Mo_register R E 13 lv (.int a1 :: .int a0 :: .ref b :: rest) h cells slots := ev_callV (as := [.int a0, .int a1]) (ci := 7) d_Mo_register_13 hm hb hv0 rfl w_888 w_890 w_58 w_70 w_891 hy_Mo_shown hR hcs hrest k
theorem d_Mo_register_16 : decode prog_10_method_33_code 16 = .ok (.goto 4, 3) := by decide +kernel
theorem s_Mo_register_16  (k : ev G M_Mo_register R E 20 lv rest h cells slots) : ev G M_Mo_register R E 16 lv rest h cells slots := ev_goto d_Mo_register_16 (by decide) k
theorem d_Mo_register_19 : decode prog_10_method_33_code 19 = .ok (.iconst (-1), 1) := by decide +kernel
theorem s_Mo_register_19  (k : ev G M_Mo_register R E 20 lv (.int (-1) :: rest) h cells slots) : ev G M_Mo_register R E 19 lv rest h cells slots := ev_iconst d_Mo_register_19 (by decide) k
theorem d_Mo_register_20 : decode prog_10_method_33_code 20 = .ok (.ireturn, 1) := by decide +kernel
theorem s_Mo_register_20 {P : Option Value → HP → Prop} {mc ms : Nat} {v : Int32} (hP : P (some (.int v)) h) (hc : cells ≤ mc ∧ slots ≤ ms) : ev G M_Mo_register R (Er M_Mo_register P mc ms) 20 lv [.int v] h cells slots := ev_exit ⟨hc.1, hc.2, Or.inr (Or.inl ⟨v, .int, rfl, rfl, d_Mo_register_20, rfl, hP⟩)⟩
abbrev M_Mo_word : MW := (⟨"UseOnceMachineModel", "word", "(II)I"⟩, prog_10_method_34_code, 3, (some .int))
theorem hy_Mo_word : M_Mo_word.1.cls ≠ "java/lang/invoke/MethodHandle" ∧ M_Mo_word.1.cls ≠ "java/lang/invoke/VarHandle" ∧ (parseMethodDescriptor M_Mo_word.1.desc).map (fun d => d.parameters.length) = some 2 := by decide +kernel
theorem d_Mo_word_0 : decode prog_10_method_34_code 0 = .ok (.iload_n 1, 1) := by decide +kernel
theorem s_Mo_word_0 {x : Int32} (hl : lg lv 1 = some (.int x)) (k : ev G M_Mo_word R E 1 lv (.int x :: rest) h cells slots) : ev G M_Mo_word R E 0 lv rest h cells slots := ev_iload_n d_Mo_word_0 rfl hl k
theorem d_Mo_word_1 : decode prog_10_method_34_code 1 = .ok (.iconst 0, 1) := by decide +kernel
theorem s_Mo_word_1  (k : ev G M_Mo_word R E 2 lv (.int 0 :: rest) h cells slots) : ev G M_Mo_word R E 1 lv rest h cells slots := ev_iconst d_Mo_word_1 (by decide) k
theorem d_Mo_word_2 : decode prog_10_method_34_code 2 = .ok (.bipush 47, 2) := by decide +kernel
theorem s_Mo_word_2  (k : ev G M_Mo_word R E 4 lv (.int 47 :: rest) h cells slots) : ev G M_Mo_word R E 2 lv rest h cells slots := ev_bipush d_Mo_word_2 (by decide) k
theorem d_Mo_word_4 : decode prog_10_method_34_code 4 = .ok (.invokestatic 50, 3) := by decide +kernel
theorem s_Mo_word_4 {mc ms : Nat} {P : Option Value → HP → Prop} {a0 : Int32} {a1 : Int32} {a2 : Int32} (hm : mt G M_Mo_in 0 mc ms [.int a0, .int a1, .int a2] h P) (hR : 0 + 1 ≤ R.frames ∧ 8 + (3 + 11) + 39 * 0 ≤ R.locals) (hcs : cells + mc ≤ R.cells ∧ slots + ms ≤ R.slots) (hrest : (rest.map fun v => v.category).sum ≤ 8) (k : ∀ (r : Option Value) (h' : HP), P r h' → ev G M_Mo_word R E 7 lv (r.toList ++ rest) h' (cells + mc) (slots + ms)) : ev G M_Mo_word R E 4 lv (.int a2 :: .int a1 :: .int a0 :: rest) h cells slots := ev_callS (as := [.int a0, .int a1, .int a2]) d_Mo_word_4 hm w_769 w_770 w_70 w_771 hy_Mo_in hR hcs hrest k
theorem d_Mo_word_7 : decode prog_10_method_34_code 7 = .ok (.ifCond .eq 15, 3) := by decide +kernel
theorem s_Mo_word_7 {x : Int32} (kt : x = 0 → ev G M_Mo_word R E 22 lv rest h cells slots) (kf : ¬ x = 0 → ev G M_Mo_word R E 10 lv rest h cells slots) : ev G M_Mo_word R E 7 lv (.int x :: rest) h cells slots := ev_if_eq d_Mo_word_7 (by decide) kt kf
theorem d_Mo_word_10 : decode prog_10_method_34_code 10 = .ok (.aload_n 0, 1) := by decide +kernel
theorem s_Mo_word_10 {x : Nat} (hl : lg lv 0 = some (.ref x)) (k : ev G M_Mo_word R E 11 lv (.ref x :: rest) h cells slots) : ev G M_Mo_word R E 10 lv rest h cells slots := ev_aload_n d_Mo_word_10 rfl hl k
theorem d_Mo_word_11 : decode prog_10_method_34_code 11 = .ok (.bipush 8, 2) := by decide +kernel
theorem s_Mo_word_11  (k : ev G M_Mo_word R E 13 lv (.int 8 :: rest) h cells slots) : ev G M_Mo_word R E 11 lv rest h cells slots := ev_bipush d_Mo_word_11 (by decide) k
theorem d_Mo_word_13 : decode prog_10_method_34_code 13 = .ok (.iload_n 1, 1) := by decide +kernel
theorem s_Mo_word_13 {x : Int32} (hl : lg lv 1 = some (.int x)) (k : ev G M_Mo_word R E 14 lv (.int x :: rest) h cells slots) : ev G M_Mo_word R E 13 lv rest h cells slots := ev_iload_n d_Mo_word_13 rfl hl k
theorem d_Mo_word_14 : decode prog_10_method_34_code 14 = .ok (.iadd, 1) := by decide +kernel
theorem s_Mo_word_14 {x y : Int32} (k : ev G M_Mo_word R E 15 lv (.int (x + y) :: rest) h cells slots) : ev G M_Mo_word R E 14 lv (.int y :: .int x :: rest) h cells slots := ev_iadd d_Mo_word_14 k
theorem d_Mo_word_15 : decode prog_10_method_34_code 15 = .ok (.iload_n 2, 1) := by decide +kernel
theorem s_Mo_word_15 {x : Int32} (hl : lg lv 2 = some (.int x)) (k : ev G M_Mo_word R E 16 lv (.int x :: rest) h cells slots) : ev G M_Mo_word R E 15 lv rest h cells slots := ev_iload_n d_Mo_word_15 rfl hl k
theorem d_Mo_word_16 : decode prog_10_method_34_code 16 = .ok (.invokevirtual 163, 3) := by decide +kernel
theorem s_Mo_word_16 {mc ms : Nat} {P : Option Value → HP → Prop} {a0 : Int32} {a1 : Int32} {b : Nat} {fs : List Value} {v0 : Value} (hm : mt G M_Mo_shown 1 mc ms (.ref b :: [.int a0, .int a1]) h P) (hb : h b = mO 7 fs) (hv0 : fs[0]? = some v0) (hR : 1 + 1 ≤ R.frames ∧ 8 + (3 + 11) + 39 * 1 ≤ R.locals) (hcs : cells + mc ≤ R.cells ∧ slots + ms ≤ R.slots) (hrest : (rest.map fun v => v.category).sum ≤ 8) (k : ∀ (r : Option Value) (h' : HP), P r h' → ev G M_Mo_word R E 19 lv (r.toList ++ rest) h' (cells + mc) (slots + ms)) : ev G M_Mo_word R E 16 lv (.int a1 :: .int a0 :: .ref b :: rest) h cells slots := ev_callV (as := [.int a0, .int a1]) (ci := 7) d_Mo_word_16 hm hb hv0 rfl w_888 w_890 w_58 w_70 w_891 hy_Mo_shown hR hcs hrest k
theorem d_Mo_word_19 : decode prog_10_method_34_code 19 = .ok (.goto 4, 3) := by decide +kernel
theorem s_Mo_word_19  (k : ev G M_Mo_word R E 23 lv rest h cells slots) : ev G M_Mo_word R E 19 lv rest h cells slots := ev_goto d_Mo_word_19 (by decide) k
theorem d_Mo_word_22 : decode prog_10_method_34_code 22 = .ok (.iconst (-1), 1) := by decide +kernel
theorem s_Mo_word_22  (k : ev G M_Mo_word R E 23 lv (.int (-1) :: rest) h cells slots) : ev G M_Mo_word R E 22 lv rest h cells slots := ev_iconst d_Mo_word_22 (by decide) k
theorem d_Mo_word_23 : decode prog_10_method_34_code 23 = .ok (.ireturn, 1) := by decide +kernel
theorem s_Mo_word_23 {P : Option Value → HP → Prop} {mc ms : Nat} {v : Int32} (hP : P (some (.int v)) h) (hc : cells ≤ mc ∧ slots ≤ ms) : ev G M_Mo_word R (Er M_Mo_word P mc ms) 23 lv [.int v] h cells slots := ev_exit ⟨hc.1, hc.2, Or.inr (Or.inl ⟨v, .int, rfl, rfl, d_Mo_word_23, rfl, hP⟩)⟩
abbrev M_Mo_look : MW := (⟨"UseOnceMachineModel", "look", "(I)I"⟩, prog_10_method_35_code, 2, (some .int))
theorem hy_Mo_look : M_Mo_look.1.cls ≠ "java/lang/invoke/MethodHandle" ∧ M_Mo_look.1.cls ≠ "java/lang/invoke/VarHandle" ∧ (parseMethodDescriptor M_Mo_look.1.desc).map (fun d => d.parameters.length) = some 1 := by decide +kernel
theorem d_Mo_look_0 : decode prog_10_method_35_code 0 = .ok (.iload_n 1, 1) := by decide +kernel
theorem s_Mo_look_0 {x : Int32} (hl : lg lv 1 = some (.int x)) (k : ev G M_Mo_look R E 1 lv (.int x :: rest) h cells slots) : ev G M_Mo_look R E 0 lv rest h cells slots := ev_iload_n d_Mo_look_0 rfl hl k
theorem d_Mo_look_1 : decode prog_10_method_35_code 1 = .ok (.ifCond .ne 8, 3) := by decide +kernel
theorem s_Mo_look_1 {x : Int32} (kt : ¬ x = 0 → ev G M_Mo_look R E 9 lv rest h cells slots) (kf : x = 0 → ev G M_Mo_look R E 4 lv rest h cells slots) : ev G M_Mo_look R E 1 lv (.int x :: rest) h cells slots := ev_if_ne d_Mo_look_1 (by decide) kt kf
theorem d_Mo_look_4 : decode prog_10_method_35_code 4 = .ok (.aload_n 0, 1) := by decide +kernel
theorem s_Mo_look_4 {x : Nat} (hl : lg lv 0 = some (.ref x)) (k : ev G M_Mo_look R E 5 lv (.ref x :: rest) h cells slots) : ev G M_Mo_look R E 4 lv rest h cells slots := ev_aload_n d_Mo_look_4 rfl hl k
theorem d_Mo_look_5 : decode prog_10_method_35_code 5 = .ok (.getfield 78, 3) := by decide +kernel
theorem s_Mo_look_5 {a : Nat} {fs : List Value} {v : Value} (hh : h a = mO 7 fs) (hv : fs[10]? = some v) (k : ev G M_Mo_look R E 8 lv (v :: rest) h cells slots) : ev G M_Mo_look R E 5 lv (.ref a :: rest) h cells slots := ev_getfield (ci := 7) (kf := 10) d_Mo_look_5 rfl ck7 (by decide) w_714 hh hv k
theorem d_Mo_look_8 : decode prog_10_method_35_code 8 = .ok (.ireturn, 1) := by decide +kernel
theorem s_Mo_look_8 {P : Option Value → HP → Prop} {mc ms : Nat} {v : Int32} (hP : P (some (.int v)) h) (hc : cells ≤ mc ∧ slots ≤ ms) : ev G M_Mo_look R (Er M_Mo_look P mc ms) 8 lv [.int v] h cells slots := ev_exit ⟨hc.1, hc.2, Or.inr (Or.inl ⟨v, .int, rfl, rfl, d_Mo_look_8, rfl, hP⟩)⟩
theorem d_Mo_look_9 : decode prog_10_method_35_code 9 = .ok (.iload_n 1, 1) := by decide +kernel
theorem s_Mo_look_9 {x : Int32} (hl : lg lv 1 = some (.int x)) (k : ev G M_Mo_look R E 10 lv (.int x :: rest) h cells slots) : ev G M_Mo_look R E 9 lv rest h cells slots := ev_iload_n d_Mo_look_9 rfl hl k
theorem d_Mo_look_10 : decode prog_10_method_35_code 10 = .ok (.iconst 1, 1) := by decide +kernel
theorem s_Mo_look_10  (k : ev G M_Mo_look R E 11 lv (.int 1 :: rest) h cells slots) : ev G M_Mo_look R E 10 lv rest h cells slots := ev_iconst d_Mo_look_10 (by decide) k
theorem d_Mo_look_11 : decode prog_10_method_35_code 11 = .ok (.if_icmp .ne 8, 3) := by decide +kernel
theorem s_Mo_look_11 {x y : Int32} (kt : ¬ x = y → ev G M_Mo_look R E 19 lv rest h cells slots) (kf : x = y → ev G M_Mo_look R E 14 lv rest h cells slots) : ev G M_Mo_look R E 11 lv (.int y :: .int x :: rest) h cells slots := ev_icmp_ne d_Mo_look_11 (by decide) kt kf
theorem d_Mo_look_14 : decode prog_10_method_35_code 14 = .ok (.aload_n 0, 1) := by decide +kernel
theorem s_Mo_look_14 {x : Nat} (hl : lg lv 0 = some (.ref x)) (k : ev G M_Mo_look R E 15 lv (.ref x :: rest) h cells slots) : ev G M_Mo_look R E 14 lv rest h cells slots := ev_aload_n d_Mo_look_14 rfl hl k
theorem d_Mo_look_15 : decode prog_10_method_35_code 15 = .ok (.getfield 82, 3) := by decide +kernel
theorem s_Mo_look_15 {a : Nat} {fs : List Value} {v : Value} (hh : h a = mO 7 fs) (hv : fs[13]? = some v) (k : ev G M_Mo_look R E 18 lv (v :: rest) h cells slots) : ev G M_Mo_look R E 15 lv (.ref a :: rest) h cells slots := ev_getfield (ci := 7) (kf := 13) d_Mo_look_15 rfl ck7 (by decide) w_717 hh hv k
theorem d_Mo_look_18 : decode prog_10_method_35_code 18 = .ok (.ireturn, 1) := by decide +kernel
theorem s_Mo_look_18 {P : Option Value → HP → Prop} {mc ms : Nat} {v : Int32} (hP : P (some (.int v)) h) (hc : cells ≤ mc ∧ slots ≤ ms) : ev G M_Mo_look R (Er M_Mo_look P mc ms) 18 lv [.int v] h cells slots := ev_exit ⟨hc.1, hc.2, Or.inr (Or.inl ⟨v, .int, rfl, rfl, d_Mo_look_18, rfl, hP⟩)⟩
theorem d_Mo_look_19 : decode prog_10_method_35_code 19 = .ok (.iload_n 1, 1) := by decide +kernel
theorem s_Mo_look_19 {x : Int32} (hl : lg lv 1 = some (.int x)) (k : ev G M_Mo_look R E 20 lv (.int x :: rest) h cells slots) : ev G M_Mo_look R E 19 lv rest h cells slots := ev_iload_n d_Mo_look_19 rfl hl k
theorem d_Mo_look_20 : decode prog_10_method_35_code 20 = .ok (.iconst 2, 1) := by decide +kernel
theorem s_Mo_look_20  (k : ev G M_Mo_look R E 21 lv (.int 2 :: rest) h cells slots) : ev G M_Mo_look R E 20 lv rest h cells slots := ev_iconst d_Mo_look_20 (by decide) k
theorem d_Mo_look_21 : decode prog_10_method_35_code 21 = .ok (.if_icmp .ne 8, 3) := by decide +kernel
theorem s_Mo_look_21 {x y : Int32} (kt : ¬ x = y → ev G M_Mo_look R E 29 lv rest h cells slots) (kf : x = y → ev G M_Mo_look R E 24 lv rest h cells slots) : ev G M_Mo_look R E 21 lv (.int y :: .int x :: rest) h cells slots := ev_icmp_ne d_Mo_look_21 (by decide) kt kf
theorem d_Mo_look_24 : decode prog_10_method_35_code 24 = .ok (.aload_n 0, 1) := by decide +kernel
theorem s_Mo_look_24 {x : Nat} (hl : lg lv 0 = some (.ref x)) (k : ev G M_Mo_look R E 25 lv (.ref x :: rest) h cells slots) : ev G M_Mo_look R E 24 lv rest h cells slots := ev_aload_n d_Mo_look_24 rfl hl k
theorem d_Mo_look_25 : decode prog_10_method_35_code 25 = .ok (.getfield 85, 3) := by decide +kernel
theorem s_Mo_look_25 {a : Nat} {fs : List Value} {v : Value} (hh : h a = mO 7 fs) (hv : fs[14]? = some v) (k : ev G M_Mo_look R E 28 lv (v :: rest) h cells slots) : ev G M_Mo_look R E 25 lv (.ref a :: rest) h cells slots := ev_getfield (ci := 7) (kf := 14) d_Mo_look_25 rfl ck7 (by decide) w_718 hh hv k
theorem d_Mo_look_28 : decode prog_10_method_35_code 28 = .ok (.ireturn, 1) := by decide +kernel
theorem s_Mo_look_28 {P : Option Value → HP → Prop} {mc ms : Nat} {v : Int32} (hP : P (some (.int v)) h) (hc : cells ≤ mc ∧ slots ≤ ms) : ev G M_Mo_look R (Er M_Mo_look P mc ms) 28 lv [.int v] h cells slots := ev_exit ⟨hc.1, hc.2, Or.inr (Or.inl ⟨v, .int, rfl, rfl, d_Mo_look_28, rfl, hP⟩)⟩
theorem d_Mo_look_29 : decode prog_10_method_35_code 29 = .ok (.iload_n 1, 1) := by decide +kernel
theorem s_Mo_look_29 {x : Int32} (hl : lg lv 1 = some (.int x)) (k : ev G M_Mo_look R E 30 lv (.int x :: rest) h cells slots) : ev G M_Mo_look R E 29 lv rest h cells slots := ev_iload_n d_Mo_look_29 rfl hl k
theorem d_Mo_look_30 : decode prog_10_method_35_code 30 = .ok (.iconst 3, 1) := by decide +kernel
theorem s_Mo_look_30  (k : ev G M_Mo_look R E 31 lv (.int 3 :: rest) h cells slots) : ev G M_Mo_look R E 30 lv rest h cells slots := ev_iconst d_Mo_look_30 (by decide) k
theorem d_Mo_look_31 : decode prog_10_method_35_code 31 = .ok (.if_icmp .ne 8, 3) := by decide +kernel
theorem s_Mo_look_31 {x y : Int32} (kt : ¬ x = y → ev G M_Mo_look R E 39 lv rest h cells slots) (kf : x = y → ev G M_Mo_look R E 34 lv rest h cells slots) : ev G M_Mo_look R E 31 lv (.int y :: .int x :: rest) h cells slots := ev_icmp_ne d_Mo_look_31 (by decide) kt kf
theorem d_Mo_look_34 : decode prog_10_method_35_code 34 = .ok (.aload_n 0, 1) := by decide +kernel
theorem s_Mo_look_34 {x : Nat} (hl : lg lv 0 = some (.ref x)) (k : ev G M_Mo_look R E 35 lv (.ref x :: rest) h cells slots) : ev G M_Mo_look R E 34 lv rest h cells slots := ev_aload_n d_Mo_look_34 rfl hl k
theorem d_Mo_look_35 : decode prog_10_method_35_code 35 = .ok (.getfield 91, 3) := by decide +kernel
theorem s_Mo_look_35 {a : Nat} {fs : List Value} {v : Value} (hh : h a = mO 7 fs) (hv : fs[16]? = some v) (k : ev G M_Mo_look R E 38 lv (v :: rest) h cells slots) : ev G M_Mo_look R E 35 lv (.ref a :: rest) h cells slots := ev_getfield (ci := 7) (kf := 16) d_Mo_look_35 rfl ck7 (by decide) w_720 hh hv k
theorem d_Mo_look_38 : decode prog_10_method_35_code 38 = .ok (.ireturn, 1) := by decide +kernel
theorem s_Mo_look_38 {P : Option Value → HP → Prop} {mc ms : Nat} {v : Int32} (hP : P (some (.int v)) h) (hc : cells ≤ mc ∧ slots ≤ ms) : ev G M_Mo_look R (Er M_Mo_look P mc ms) 38 lv [.int v] h cells slots := ev_exit ⟨hc.1, hc.2, Or.inr (Or.inl ⟨v, .int, rfl, rfl, d_Mo_look_38, rfl, hP⟩)⟩
theorem d_Mo_look_39 : decode prog_10_method_35_code 39 = .ok (.iload_n 1, 1) := by decide +kernel
theorem s_Mo_look_39 {x : Int32} (hl : lg lv 1 = some (.int x)) (k : ev G M_Mo_look R E 40 lv (.int x :: rest) h cells slots) : ev G M_Mo_look R E 39 lv rest h cells slots := ev_iload_n d_Mo_look_39 rfl hl k
theorem d_Mo_look_40 : decode prog_10_method_35_code 40 = .ok (.iconst 4, 1) := by decide +kernel
theorem s_Mo_look_40  (k : ev G M_Mo_look R E 41 lv (.int 4 :: rest) h cells slots) : ev G M_Mo_look R E 40 lv rest h cells slots := ev_iconst d_Mo_look_40 (by decide) k
theorem d_Mo_look_41 : decode prog_10_method_35_code 41 = .ok (.if_icmp .ne 8, 3) := by decide +kernel
theorem s_Mo_look_41 {x y : Int32} (kt : ¬ x = y → ev G M_Mo_look R E 49 lv rest h cells slots) (kf : x = y → ev G M_Mo_look R E 44 lv rest h cells slots) : ev G M_Mo_look R E 41 lv (.int y :: .int x :: rest) h cells slots := ev_icmp_ne d_Mo_look_41 (by decide) kt kf
theorem d_Mo_look_44 : decode prog_10_method_35_code 44 = .ok (.aload_n 0, 1) := by decide +kernel
theorem s_Mo_look_44 {x : Nat} (hl : lg lv 0 = some (.ref x)) (k : ev G M_Mo_look R E 45 lv (.ref x :: rest) h cells slots) : ev G M_Mo_look R E 44 lv rest h cells slots := ev_aload_n d_Mo_look_44 rfl hl k
theorem d_Mo_look_45 : decode prog_10_method_35_code 45 = .ok (.getfield 88, 3) := by decide +kernel
theorem s_Mo_look_45 {a : Nat} {fs : List Value} {v : Value} (hh : h a = mO 7 fs) (hv : fs[15]? = some v) (k : ev G M_Mo_look R E 48 lv (v :: rest) h cells slots) : ev G M_Mo_look R E 45 lv (.ref a :: rest) h cells slots := ev_getfield (ci := 7) (kf := 15) d_Mo_look_45 rfl ck7 (by decide) w_719 hh hv k
theorem d_Mo_look_48 : decode prog_10_method_35_code 48 = .ok (.ireturn, 1) := by decide +kernel
theorem s_Mo_look_48 {P : Option Value → HP → Prop} {mc ms : Nat} {v : Int32} (hP : P (some (.int v)) h) (hc : cells ≤ mc ∧ slots ≤ ms) : ev G M_Mo_look R (Er M_Mo_look P mc ms) 48 lv [.int v] h cells slots := ev_exit ⟨hc.1, hc.2, Or.inr (Or.inl ⟨v, .int, rfl, rfl, d_Mo_look_48, rfl, hP⟩)⟩
theorem d_Mo_look_49 : decode prog_10_method_35_code 49 = .ok (.iload_n 1, 1) := by decide +kernel
theorem s_Mo_look_49 {x : Int32} (hl : lg lv 1 = some (.int x)) (k : ev G M_Mo_look R E 50 lv (.int x :: rest) h cells slots) : ev G M_Mo_look R E 49 lv rest h cells slots := ev_iload_n d_Mo_look_49 rfl hl k
theorem d_Mo_look_50 : decode prog_10_method_35_code 50 = .ok (.iconst 5, 1) := by decide +kernel
theorem s_Mo_look_50  (k : ev G M_Mo_look R E 51 lv (.int 5 :: rest) h cells slots) : ev G M_Mo_look R E 50 lv rest h cells slots := ev_iconst d_Mo_look_50 (by decide) k
theorem d_Mo_look_51 : decode prog_10_method_35_code 51 = .ok (.bipush 7, 2) := by decide +kernel
theorem s_Mo_look_51  (k : ev G M_Mo_look R E 53 lv (.int 7 :: rest) h cells slots) : ev G M_Mo_look R E 51 lv rest h cells slots := ev_bipush d_Mo_look_51 (by decide) k
theorem d_Mo_look_53 : decode prog_10_method_35_code 53 = .ok (.invokestatic 50, 3) := by decide +kernel
theorem s_Mo_look_53 {mc ms : Nat} {P : Option Value → HP → Prop} {a0 : Int32} {a1 : Int32} {a2 : Int32} (hm : mt G M_Mo_in 0 mc ms [.int a0, .int a1, .int a2] h P) (hR : 0 + 1 ≤ R.frames ∧ 8 + (3 + 11) + 39 * 0 ≤ R.locals) (hcs : cells + mc ≤ R.cells ∧ slots + ms ≤ R.slots) (hrest : (rest.map fun v => v.category).sum ≤ 8) (k : ∀ (r : Option Value) (h' : HP), P r h' → ev G M_Mo_look R E 56 lv (r.toList ++ rest) h' (cells + mc) (slots + ms)) : ev G M_Mo_look R E 53 lv (.int a2 :: .int a1 :: .int a0 :: rest) h cells slots := ev_callS (as := [.int a0, .int a1, .int a2]) d_Mo_look_53 hm w_769 w_770 w_70 w_771 hy_Mo_in hR hcs hrest k
theorem d_Mo_look_56 : decode prog_10_method_35_code 56 = .ok (.ifCond .eq 14, 3) := by decide +kernel
theorem s_Mo_look_56 {x : Int32} (kt : x = 0 → ev G M_Mo_look R E 70 lv rest h cells slots) (kf : ¬ x = 0 → ev G M_Mo_look R E 59 lv rest h cells slots) : ev G M_Mo_look R E 56 lv (.int x :: rest) h cells slots := ev_if_eq d_Mo_look_56 (by decide) kt kf
theorem d_Mo_look_59 : decode prog_10_method_35_code 59 = .ok (.aload_n 0, 1) := by decide +kernel
theorem s_Mo_look_59 {x : Nat} (hl : lg lv 0 = some (.ref x)) (k : ev G M_Mo_look R E 60 lv (.ref x :: rest) h cells slots) : ev G M_Mo_look R E 59 lv rest h cells slots := ev_aload_n d_Mo_look_59 rfl hl k
theorem d_Mo_look_60 : decode prog_10_method_35_code 60 = .ok (.getfield 7, 3) := by decide +kernel
theorem s_Mo_look_60 {a : Nat} {fs : List Value} {v : Value} (hh : h a = mO 7 fs) (hv : fs[1]? = some v) (k : ev G M_Mo_look R E 63 lv (v :: rest) h cells slots) : ev G M_Mo_look R E 60 lv (.ref a :: rest) h cells slots := ev_getfield (ci := 7) (kf := 1) d_Mo_look_60 rfl ck7 (by decide) w_705 hh hv k
theorem d_Mo_look_63 : decode prog_10_method_35_code 63 = .ok (.iload_n 1, 1) := by decide +kernel
theorem s_Mo_look_63 {x : Int32} (hl : lg lv 1 = some (.int x)) (k : ev G M_Mo_look R E 64 lv (.int x :: rest) h cells slots) : ev G M_Mo_look R E 63 lv rest h cells slots := ev_iload_n d_Mo_look_63 rfl hl k
theorem d_Mo_look_64 : decode prog_10_method_35_code 64 = .ok (.iconst 5, 1) := by decide +kernel
theorem s_Mo_look_64  (k : ev G M_Mo_look R E 65 lv (.int 5 :: rest) h cells slots) : ev G M_Mo_look R E 64 lv rest h cells slots := ev_iconst d_Mo_look_64 (by decide) k
theorem d_Mo_look_65 : decode prog_10_method_35_code 65 = .ok (.isub, 1) := by decide +kernel
theorem s_Mo_look_65 {x y : Int32} (k : ev G M_Mo_look R E 66 lv (.int (x - y) :: rest) h cells slots) : ev G M_Mo_look R E 65 lv (.int y :: .int x :: rest) h cells slots := ev_isub d_Mo_look_65 k
theorem d_Mo_look_66 : decode prog_10_method_35_code 66 = .ok (.iaload, 1) := by decide +kernel
theorem s_Mo_look_66 {a n : Nat} {f : Nat → Int32} {i : Int32} (hh : h a = mI 0 n f) (hin : vp_in i n) (k : ev G M_Mo_look R E 67 lv (.int (f i.toNatClampNeg) :: rest) h cells slots) : ev G M_Mo_look R E 66 lv (.int i :: .ref a :: rest) h cells slots := ev_iaload d_Mo_look_66 rfl hh hin k
theorem d_Mo_look_67 : decode prog_10_method_35_code 67 = .ok (.goto 4, 3) := by decide +kernel
theorem s_Mo_look_67  (k : ev G M_Mo_look R E 71 lv rest h cells slots) : ev G M_Mo_look R E 67 lv rest h cells slots := ev_goto d_Mo_look_67 (by decide) k
theorem d_Mo_look_70 : decode prog_10_method_35_code 70 = .ok (.iconst (-1), 1) := by decide +kernel
theorem s_Mo_look_70  (k : ev G M_Mo_look R E 71 lv (.int (-1) :: rest) h cells slots) : ev G M_Mo_look R E 70 lv rest h cells slots := ev_iconst d_Mo_look_70 (by decide) k
theorem d_Mo_look_71 : decode prog_10_method_35_code 71 = .ok (.ireturn, 1) := by decide +kernel
theorem s_Mo_look_71 {P : Option Value → HP → Prop} {mc ms : Nat} {v : Int32} (hP : P (some (.int v)) h) (hc : cells ≤ mc ∧ slots ≤ ms) : ev G M_Mo_look R (Er M_Mo_look P mc ms) 71 lv [.int v] h cells slots := ev_exit ⟨hc.1, hc.2, Or.inr (Or.inl ⟨v, .int, rfl, rfl, d_Mo_look_71, rfl, hP⟩)⟩
abbrev M_Mo_owns : MW := (⟨"UseOnceMachineModel", "owns", "(III)Z"⟩, prog_10_method_36_code, 4, (some .boolean))
theorem hy_Mo_owns : M_Mo_owns.1.cls ≠ "java/lang/invoke/MethodHandle" ∧ M_Mo_owns.1.cls ≠ "java/lang/invoke/VarHandle" ∧ (parseMethodDescriptor M_Mo_owns.1.desc).map (fun d => d.parameters.length) = some 3 := by decide +kernel
theorem d_Mo_owns_0 : decode prog_10_method_36_code 0 = .ok (.aload_n 0, 1) := by decide +kernel
theorem s_Mo_owns_0 {x : Nat} (hl : lg lv 0 = some (.ref x)) (k : ev G M_Mo_owns R E 1 lv (.ref x :: rest) h cells slots) : ev G M_Mo_owns R E 0 lv rest h cells slots := ev_aload_n d_Mo_owns_0 rfl hl k
theorem d_Mo_owns_1 : decode prog_10_method_36_code 1 = .ok (.iload_n 1, 1) := by decide +kernel
theorem s_Mo_owns_1 {x : Int32} (hl : lg lv 1 = some (.int x)) (k : ev G M_Mo_owns R E 2 lv (.int x :: rest) h cells slots) : ev G M_Mo_owns R E 1 lv rest h cells slots := ev_iload_n d_Mo_owns_1 rfl hl k
theorem d_Mo_owns_2 : decode prog_10_method_36_code 2 = .ok (.invokevirtual 62, 3) := by decide +kernel
theorem s_Mo_owns_2 {mc ms : Nat} {P : Option Value → HP → Prop} {a0 : Int32} {b : Nat} {fs : List Value} {v0 : Value} (hm : mt G M_Mo_what 0 mc ms (.ref b :: [.int a0]) h P) (hb : h b = mO 7 fs) (hv0 : fs[0]? = some v0) (hR : 0 + 1 ≤ R.frames ∧ 8 + (2 + 11) + 39 * 0 ≤ R.locals) (hcs : cells + mc ≤ R.cells ∧ slots + ms ≤ R.slots) (hrest : (rest.map fun v => v.category).sum ≤ 8) (k : ∀ (r : Option Value) (h' : HP), P r h' → ev G M_Mo_owns R E 5 lv (r.toList ++ rest) h' (cells + mc) (slots + ms)) : ev G M_Mo_owns R E 2 lv (.int a0 :: .ref b :: rest) h cells slots := ev_callV (as := [.int a0]) (ci := 7) d_Mo_owns_2 hm hb hv0 rfl w_804 w_806 w_39 w_70 w_807 hy_Mo_what hR hcs hrest k
theorem d_Mo_owns_5 : decode prog_10_method_36_code 5 = .ok (.iconst 1, 1) := by decide +kernel
theorem s_Mo_owns_5  (k : ev G M_Mo_owns R E 6 lv (.int 1 :: rest) h cells slots) : ev G M_Mo_owns R E 5 lv rest h cells slots := ev_iconst d_Mo_owns_5 (by decide) k
theorem d_Mo_owns_6 : decode prog_10_method_36_code 6 = .ok (.if_icmp .ne 37, 3) := by decide +kernel
theorem s_Mo_owns_6 {x y : Int32} (kt : ¬ x = y → ev G M_Mo_owns R E 43 lv rest h cells slots) (kf : x = y → ev G M_Mo_owns R E 9 lv rest h cells slots) : ev G M_Mo_owns R E 6 lv (.int y :: .int x :: rest) h cells slots := ev_icmp_ne d_Mo_owns_6 (by decide) kt kf
theorem d_Mo_owns_9 : decode prog_10_method_36_code 9 = .ok (.aload_n 0, 1) := by decide +kernel
theorem s_Mo_owns_9 {x : Nat} (hl : lg lv 0 = some (.ref x)) (k : ev G M_Mo_owns R E 10 lv (.ref x :: rest) h cells slots) : ev G M_Mo_owns R E 9 lv rest h cells slots := ev_aload_n d_Mo_owns_9 rfl hl k
theorem d_Mo_owns_10 : decode prog_10_method_36_code 10 = .ok (.iload_n 1, 1) := by decide +kernel
theorem s_Mo_owns_10 {x : Int32} (hl : lg lv 1 = some (.int x)) (k : ev G M_Mo_owns R E 11 lv (.int x :: rest) h cells slots) : ev G M_Mo_owns R E 10 lv rest h cells slots := ev_iload_n d_Mo_owns_10 rfl hl k
theorem d_Mo_owns_11 : decode prog_10_method_36_code 11 = .ok (.iload_n 3, 1) := by decide +kernel
theorem s_Mo_owns_11 {x : Int32} (hl : lg lv 3 = some (.int x)) (k : ev G M_Mo_owns R E 12 lv (.int x :: rest) h cells slots) : ev G M_Mo_owns R E 11 lv rest h cells slots := ev_iload_n d_Mo_owns_11 rfl hl k
theorem d_Mo_owns_12 : decode prog_10_method_36_code 12 = .ok (.invokevirtual 146, 3) := by decide +kernel
theorem s_Mo_owns_12 {mc ms : Nat} {P : Option Value → HP → Prop} {a0 : Int32} {a1 : Int32} {b : Nat} {fs : List Value} {v0 : Value} (hm : mt G M_Mo_has 1 mc ms (.ref b :: [.int a0, .int a1]) h P) (hb : h b = mO 7 fs) (hv0 : fs[0]? = some v0) (hR : 1 + 1 ≤ R.frames ∧ 8 + (3 + 11) + 39 * 1 ≤ R.locals) (hcs : cells + mc ≤ R.cells ∧ slots + ms ≤ R.slots) (hrest : (rest.map fun v => v.category).sum ≤ 8) (k : ∀ (r : Option Value) (h' : HP), P r h' → ev G M_Mo_owns R E 15 lv (r.toList ++ rest) h' (cells + mc) (slots + ms)) : ev G M_Mo_owns R E 12 lv (.int a1 :: .int a0 :: .ref b :: rest) h cells slots := ev_callV (as := [.int a0, .int a1]) (ci := 7) d_Mo_owns_12 hm hb hv0 rfl w_844 w_846 w_49 w_70 w_847 hy_Mo_has hR hcs hrest k
theorem d_Mo_owns_15 : decode prog_10_method_36_code 15 = .ok (.ifCond .eq 28, 3) := by decide +kernel
theorem s_Mo_owns_15 {x : Int32} (kt : x = 0 → ev G M_Mo_owns R E 43 lv rest h cells slots) (kf : ¬ x = 0 → ev G M_Mo_owns R E 18 lv rest h cells slots) : ev G M_Mo_owns R E 15 lv (.int x :: rest) h cells slots := ev_if_eq d_Mo_owns_15 (by decide) kt kf
theorem d_Mo_owns_18 : decode prog_10_method_36_code 18 = .ok (.iload_n 2, 1) := by decide +kernel
theorem s_Mo_owns_18 {x : Int32} (hl : lg lv 2 = some (.int x)) (k : ev G M_Mo_owns R E 19 lv (.int x :: rest) h cells slots) : ev G M_Mo_owns R E 18 lv rest h cells slots := ev_iload_n d_Mo_owns_18 rfl hl k
theorem d_Mo_owns_19 : decode prog_10_method_36_code 19 = .ok (.aload_n 0, 1) := by decide +kernel
theorem s_Mo_owns_19 {x : Nat} (hl : lg lv 0 = some (.ref x)) (k : ev G M_Mo_owns R E 20 lv (.ref x :: rest) h cells slots) : ev G M_Mo_owns R E 19 lv rest h cells slots := ev_aload_n d_Mo_owns_19 rfl hl k
theorem d_Mo_owns_20 : decode prog_10_method_36_code 20 = .ok (.iload_n 1, 1) := by decide +kernel
theorem s_Mo_owns_20 {x : Int32} (hl : lg lv 1 = some (.int x)) (k : ev G M_Mo_owns R E 21 lv (.int x :: rest) h cells slots) : ev G M_Mo_owns R E 20 lv rest h cells slots := ev_iload_n d_Mo_owns_20 rfl hl k
theorem d_Mo_owns_21 : decode prog_10_method_36_code 21 = .ok (.iconst 1, 1) := by decide +kernel
theorem s_Mo_owns_21  (k : ev G M_Mo_owns R E 22 lv (.int 1 :: rest) h cells slots) : ev G M_Mo_owns R E 21 lv rest h cells slots := ev_iconst d_Mo_owns_21 (by decide) k
theorem d_Mo_owns_22 : decode prog_10_method_36_code 22 = .ok (.invokevirtual 66, 3) := by decide +kernel
theorem s_Mo_owns_22 {mc ms : Nat} {P : Option Value → HP → Prop} {a0 : Int32} {a1 : Int32} {b : Nat} {fs : List Value} {v0 : Value} (hm : mt G M_Mo_get 0 mc ms (.ref b :: [.int a0, .int a1]) h P) (hb : h b = mO 7 fs) (hv0 : fs[0]? = some v0) (hR : 0 + 1 ≤ R.frames ∧ 8 + (3 + 11) + 39 * 0 ≤ R.locals) (hcs : cells + mc ≤ R.cells ∧ slots + ms ≤ R.slots) (hrest : (rest.map fun v => v.category).sum ≤ 8) (k : ∀ (r : Option Value) (h' : HP), P r h' → ev G M_Mo_owns R E 25 lv (r.toList ++ rest) h' (cells + mc) (slots + ms)) : ev G M_Mo_owns R E 22 lv (.int a1 :: .int a0 :: .ref b :: rest) h cells slots := ev_callV (as := [.int a0, .int a1]) (ci := 7) d_Mo_owns_22 hm hb hv0 rfl w_816 w_818 w_42 w_70 w_819 hy_Mo_get hR hcs hrest k
theorem d_Mo_owns_25 : decode prog_10_method_36_code 25 = .ok (.aload_n 0, 1) := by decide +kernel
theorem s_Mo_owns_25 {x : Nat} (hl : lg lv 0 = some (.ref x)) (k : ev G M_Mo_owns R E 26 lv (.ref x :: rest) h cells slots) : ev G M_Mo_owns R E 25 lv rest h cells slots := ev_aload_n d_Mo_owns_25 rfl hl k
theorem d_Mo_owns_26 : decode prog_10_method_36_code 26 = .ok (.iload_n 1, 1) := by decide +kernel
theorem s_Mo_owns_26 {x : Int32} (hl : lg lv 1 = some (.int x)) (k : ev G M_Mo_owns R E 27 lv (.int x :: rest) h cells slots) : ev G M_Mo_owns R E 26 lv rest h cells slots := ev_iload_n d_Mo_owns_26 rfl hl k
theorem d_Mo_owns_27 : decode prog_10_method_36_code 27 = .ok (.iconst 2, 1) := by decide +kernel
theorem s_Mo_owns_27  (k : ev G M_Mo_owns R E 28 lv (.int 2 :: rest) h cells slots) : ev G M_Mo_owns R E 27 lv rest h cells slots := ev_iconst d_Mo_owns_27 (by decide) k
theorem d_Mo_owns_28 : decode prog_10_method_36_code 28 = .ok (.invokevirtual 66, 3) := by decide +kernel
theorem s_Mo_owns_28 {mc ms : Nat} {P : Option Value → HP → Prop} {a0 : Int32} {a1 : Int32} {b : Nat} {fs : List Value} {v0 : Value} (hm : mt G M_Mo_get 0 mc ms (.ref b :: [.int a0, .int a1]) h P) (hb : h b = mO 7 fs) (hv0 : fs[0]? = some v0) (hR : 0 + 1 ≤ R.frames ∧ 8 + (3 + 11) + 39 * 0 ≤ R.locals) (hcs : cells + mc ≤ R.cells ∧ slots + ms ≤ R.slots) (hrest : (rest.map fun v => v.category).sum ≤ 8) (k : ∀ (r : Option Value) (h' : HP), P r h' → ev G M_Mo_owns R E 31 lv (r.toList ++ rest) h' (cells + mc) (slots + ms)) : ev G M_Mo_owns R E 28 lv (.int a1 :: .int a0 :: .ref b :: rest) h cells slots := ev_callV (as := [.int a0, .int a1]) (ci := 7) d_Mo_owns_28 hm hb hv0 rfl w_816 w_818 w_42 w_70 w_819 hy_Mo_get hR hcs hrest k
theorem d_Mo_owns_31 : decode prog_10_method_36_code 31 = .ok (.iconst 1, 1) := by decide +kernel
theorem s_Mo_owns_31  (k : ev G M_Mo_owns R E 32 lv (.int 1 :: rest) h cells slots) : ev G M_Mo_owns R E 31 lv rest h cells slots := ev_iconst d_Mo_owns_31 (by decide) k
theorem d_Mo_owns_32 : decode prog_10_method_36_code 32 = .ok (.isub, 1) := by decide +kernel
theorem s_Mo_owns_32 {x y : Int32} (k : ev G M_Mo_owns R E 33 lv (.int (x - y) :: rest) h cells slots) : ev G M_Mo_owns R E 32 lv (.int y :: .int x :: rest) h cells slots := ev_isub d_Mo_owns_32 k
theorem d_Mo_owns_33 : decode prog_10_method_36_code 33 = .ok (.invokestatic 50, 3) := by decide +kernel
theorem s_Mo_owns_33 {mc ms : Nat} {P : Option Value → HP → Prop} {a0 : Int32} {a1 : Int32} {a2 : Int32} (hm : mt G M_Mo_in 0 mc ms [.int a0, .int a1, .int a2] h P) (hR : 0 + 1 ≤ R.frames ∧ 8 + (3 + 11) + 39 * 0 ≤ R.locals) (hcs : cells + mc ≤ R.cells ∧ slots + ms ≤ R.slots) (hrest : (rest.map fun v => v.category).sum ≤ 8) (k : ∀ (r : Option Value) (h' : HP), P r h' → ev G M_Mo_owns R E 36 lv (r.toList ++ rest) h' (cells + mc) (slots + ms)) : ev G M_Mo_owns R E 33 lv (.int a2 :: .int a1 :: .int a0 :: rest) h cells slots := ev_callS (as := [.int a0, .int a1, .int a2]) d_Mo_owns_33 hm w_769 w_770 w_70 w_771 hy_Mo_in hR hcs hrest k
theorem d_Mo_owns_36 : decode prog_10_method_36_code 36 = .ok (.ifCond .eq 7, 3) := by decide +kernel
theorem s_Mo_owns_36 {x : Int32} (kt : x = 0 → ev G M_Mo_owns R E 43 lv rest h cells slots) (kf : ¬ x = 0 → ev G M_Mo_owns R E 39 lv rest h cells slots) : ev G M_Mo_owns R E 36 lv (.int x :: rest) h cells slots := ev_if_eq d_Mo_owns_36 (by decide) kt kf
theorem d_Mo_owns_39 : decode prog_10_method_36_code 39 = .ok (.iconst 1, 1) := by decide +kernel
theorem s_Mo_owns_39  (k : ev G M_Mo_owns R E 40 lv (.int 1 :: rest) h cells slots) : ev G M_Mo_owns R E 39 lv rest h cells slots := ev_iconst d_Mo_owns_39 (by decide) k
theorem d_Mo_owns_40 : decode prog_10_method_36_code 40 = .ok (.goto 4, 3) := by decide +kernel
theorem s_Mo_owns_40  (k : ev G M_Mo_owns R E 44 lv rest h cells slots) : ev G M_Mo_owns R E 40 lv rest h cells slots := ev_goto d_Mo_owns_40 (by decide) k
theorem d_Mo_owns_43 : decode prog_10_method_36_code 43 = .ok (.iconst 0, 1) := by decide +kernel
theorem s_Mo_owns_43  (k : ev G M_Mo_owns R E 44 lv (.int 0 :: rest) h cells slots) : ev G M_Mo_owns R E 43 lv rest h cells slots := ev_iconst d_Mo_owns_43 (by decide) k
theorem d_Mo_owns_44 : decode prog_10_method_36_code 44 = .ok (.ireturn, 1) := by decide +kernel
theorem s_Mo_owns_44 {P : Option Value → HP → Prop} {mc ms : Nat} {v : Int32} (hz : v = 0 ∨ v = 1) (hP : P (some (.int v)) h) (hc : cells ≤ mc ∧ slots ≤ ms) : ev G M_Mo_owns R (Er M_Mo_owns P mc ms) 44 lv [.int v] h cells slots := ev_exit ⟨hc.1, hc.2, Or.inr (Or.inl ⟨v, .boolean, rfl, (nar_z hz), d_Mo_owns_44, rfl, hP⟩)⟩
abbrev M_Mo_cellOwns : MW := (⟨"UseOnceMachineModel", "cellOwns", "(III)Z"⟩, prog_10_method_37_code, 4, (some .boolean))
theorem hy_Mo_cellOwns : M_Mo_cellOwns.1.cls ≠ "java/lang/invoke/MethodHandle" ∧ M_Mo_cellOwns.1.cls ≠ "java/lang/invoke/VarHandle" ∧ (parseMethodDescriptor M_Mo_cellOwns.1.desc).map (fun d => d.parameters.length) = some 3 := by decide +kernel
theorem d_Mo_cellOwns_0 : decode prog_10_method_37_code 0 = .ok (.aload_n 0, 1) := by decide +kernel
theorem s_Mo_cellOwns_0 {x : Nat} (hl : lg lv 0 = some (.ref x)) (k : ev G M_Mo_cellOwns R E 1 lv (.ref x :: rest) h cells slots) : ev G M_Mo_cellOwns R E 0 lv rest h cells slots := ev_aload_n d_Mo_cellOwns_0 rfl hl k
theorem d_Mo_cellOwns_1 : decode prog_10_method_37_code 1 = .ok (.getfield 19, 3) := by decide +kernel
theorem s_Mo_cellOwns_1 {a : Nat} {fs : List Value} {v : Value} (hh : h a = mO 7 fs) (hv : fs[4]? = some v) (k : ev G M_Mo_cellOwns R E 4 lv (v :: rest) h cells slots) : ev G M_Mo_cellOwns R E 1 lv (.ref a :: rest) h cells slots := ev_getfield (ci := 7) (kf := 4) d_Mo_cellOwns_1 rfl ck7 (by decide) w_708 hh hv k
theorem d_Mo_cellOwns_4 : decode prog_10_method_37_code 4 = .ok (.iload_n 1, 1) := by decide +kernel
theorem s_Mo_cellOwns_4 {x : Int32} (hl : lg lv 1 = some (.int x)) (k : ev G M_Mo_cellOwns R E 5 lv (.int x :: rest) h cells slots) : ev G M_Mo_cellOwns R E 4 lv rest h cells slots := ev_iload_n d_Mo_cellOwns_4 rfl hl k
theorem d_Mo_cellOwns_5 : decode prog_10_method_37_code 5 = .ok (.iaload, 1) := by decide +kernel
theorem s_Mo_cellOwns_5 {a n : Nat} {f : Nat → Int32} {i : Int32} (hh : h a = mI 0 n f) (hin : vp_in i n) (k : ev G M_Mo_cellOwns R E 6 lv (.int (f i.toNatClampNeg) :: rest) h cells slots) : ev G M_Mo_cellOwns R E 5 lv (.int i :: .ref a :: rest) h cells slots := ev_iaload d_Mo_cellOwns_5 rfl hh hin k
theorem d_Mo_cellOwns_6 : decode prog_10_method_37_code 6 = .ok (.ifCond .le 33, 3) := by decide +kernel
theorem s_Mo_cellOwns_6 {x : Int32} (kt : x ≤ 0 → ev G M_Mo_cellOwns R E 39 lv rest h cells slots) (kf : ¬ x ≤ 0 → ev G M_Mo_cellOwns R E 9 lv rest h cells slots) : ev G M_Mo_cellOwns R E 6 lv (.int x :: rest) h cells slots := ev_if_le d_Mo_cellOwns_6 (by decide) kt kf
theorem d_Mo_cellOwns_9 : decode prog_10_method_37_code 9 = .ok (.iload_n 3, 1) := by decide +kernel
theorem s_Mo_cellOwns_9 {x : Int32} (hl : lg lv 3 = some (.int x)) (k : ev G M_Mo_cellOwns R E 10 lv (.int x :: rest) h cells slots) : ev G M_Mo_cellOwns R E 9 lv rest h cells slots := ev_iload_n d_Mo_cellOwns_9 rfl hl k
theorem d_Mo_cellOwns_10 : decode prog_10_method_37_code 10 = .ok (.iconst 1, 1) := by decide +kernel
theorem s_Mo_cellOwns_10  (k : ev G M_Mo_cellOwns R E 11 lv (.int 1 :: rest) h cells slots) : ev G M_Mo_cellOwns R E 10 lv rest h cells slots := ev_iconst d_Mo_cellOwns_10 (by decide) k
theorem d_Mo_cellOwns_11 : decode prog_10_method_37_code 11 = .ok (.if_icmp .ne 28, 3) := by decide +kernel
theorem s_Mo_cellOwns_11 {x y : Int32} (kt : ¬ x = y → ev G M_Mo_cellOwns R E 39 lv rest h cells slots) (kf : x = y → ev G M_Mo_cellOwns R E 14 lv rest h cells slots) : ev G M_Mo_cellOwns R E 11 lv (.int y :: .int x :: rest) h cells slots := ev_icmp_ne d_Mo_cellOwns_11 (by decide) kt kf
theorem d_Mo_cellOwns_14 : decode prog_10_method_37_code 14 = .ok (.iload_n 2, 1) := by decide +kernel
theorem s_Mo_cellOwns_14 {x : Int32} (hl : lg lv 2 = some (.int x)) (k : ev G M_Mo_cellOwns R E 15 lv (.int x :: rest) h cells slots) : ev G M_Mo_cellOwns R E 14 lv rest h cells slots := ev_iload_n d_Mo_cellOwns_14 rfl hl k
theorem d_Mo_cellOwns_15 : decode prog_10_method_37_code 15 = .ok (.aload_n 0, 1) := by decide +kernel
theorem s_Mo_cellOwns_15 {x : Nat} (hl : lg lv 0 = some (.ref x)) (k : ev G M_Mo_cellOwns R E 16 lv (.ref x :: rest) h cells slots) : ev G M_Mo_cellOwns R E 15 lv rest h cells slots := ev_aload_n d_Mo_cellOwns_15 rfl hl k
theorem d_Mo_cellOwns_16 : decode prog_10_method_37_code 16 = .ok (.getfield 22, 3) := by decide +kernel
theorem s_Mo_cellOwns_16 {a : Nat} {fs : List Value} {v : Value} (hh : h a = mO 7 fs) (hv : fs[5]? = some v) (k : ev G M_Mo_cellOwns R E 19 lv (v :: rest) h cells slots) : ev G M_Mo_cellOwns R E 16 lv (.ref a :: rest) h cells slots := ev_getfield (ci := 7) (kf := 5) d_Mo_cellOwns_16 rfl ck7 (by decide) w_709 hh hv k
theorem d_Mo_cellOwns_19 : decode prog_10_method_37_code 19 = .ok (.iload_n 1, 1) := by decide +kernel
theorem s_Mo_cellOwns_19 {x : Int32} (hl : lg lv 1 = some (.int x)) (k : ev G M_Mo_cellOwns R E 20 lv (.int x :: rest) h cells slots) : ev G M_Mo_cellOwns R E 19 lv rest h cells slots := ev_iload_n d_Mo_cellOwns_19 rfl hl k
theorem d_Mo_cellOwns_20 : decode prog_10_method_37_code 20 = .ok (.iaload, 1) := by decide +kernel
theorem s_Mo_cellOwns_20 {a n : Nat} {f : Nat → Int32} {i : Int32} (hh : h a = mI 0 n f) (hin : vp_in i n) (k : ev G M_Mo_cellOwns R E 21 lv (.int (f i.toNatClampNeg) :: rest) h cells slots) : ev G M_Mo_cellOwns R E 20 lv (.int i :: .ref a :: rest) h cells slots := ev_iaload d_Mo_cellOwns_20 rfl hh hin k
theorem d_Mo_cellOwns_21 : decode prog_10_method_37_code 21 = .ok (.aload_n 0, 1) := by decide +kernel
theorem s_Mo_cellOwns_21 {x : Nat} (hl : lg lv 0 = some (.ref x)) (k : ev G M_Mo_cellOwns R E 22 lv (.ref x :: rest) h cells slots) : ev G M_Mo_cellOwns R E 21 lv rest h cells slots := ev_aload_n d_Mo_cellOwns_21 rfl hl k
theorem d_Mo_cellOwns_22 : decode prog_10_method_37_code 22 = .ok (.getfield 25, 3) := by decide +kernel
theorem s_Mo_cellOwns_22 {a : Nat} {fs : List Value} {v : Value} (hh : h a = mO 7 fs) (hv : fs[6]? = some v) (k : ev G M_Mo_cellOwns R E 25 lv (v :: rest) h cells slots) : ev G M_Mo_cellOwns R E 22 lv (.ref a :: rest) h cells slots := ev_getfield (ci := 7) (kf := 6) d_Mo_cellOwns_22 rfl ck7 (by decide) w_710 hh hv k
theorem d_Mo_cellOwns_25 : decode prog_10_method_37_code 25 = .ok (.iload_n 1, 1) := by decide +kernel
theorem s_Mo_cellOwns_25 {x : Int32} (hl : lg lv 1 = some (.int x)) (k : ev G M_Mo_cellOwns R E 26 lv (.int x :: rest) h cells slots) : ev G M_Mo_cellOwns R E 25 lv rest h cells slots := ev_iload_n d_Mo_cellOwns_25 rfl hl k
theorem d_Mo_cellOwns_26 : decode prog_10_method_37_code 26 = .ok (.iaload, 1) := by decide +kernel
theorem s_Mo_cellOwns_26 {a n : Nat} {f : Nat → Int32} {i : Int32} (hh : h a = mI 0 n f) (hin : vp_in i n) (k : ev G M_Mo_cellOwns R E 27 lv (.int (f i.toNatClampNeg) :: rest) h cells slots) : ev G M_Mo_cellOwns R E 26 lv (.int i :: .ref a :: rest) h cells slots := ev_iaload d_Mo_cellOwns_26 rfl hh hin k
theorem d_Mo_cellOwns_27 : decode prog_10_method_37_code 27 = .ok (.iconst 1, 1) := by decide +kernel
theorem s_Mo_cellOwns_27  (k : ev G M_Mo_cellOwns R E 28 lv (.int 1 :: rest) h cells slots) : ev G M_Mo_cellOwns R E 27 lv rest h cells slots := ev_iconst d_Mo_cellOwns_27 (by decide) k
theorem d_Mo_cellOwns_28 : decode prog_10_method_37_code 28 = .ok (.isub, 1) := by decide +kernel
theorem s_Mo_cellOwns_28 {x y : Int32} (k : ev G M_Mo_cellOwns R E 29 lv (.int (x - y) :: rest) h cells slots) : ev G M_Mo_cellOwns R E 28 lv (.int y :: .int x :: rest) h cells slots := ev_isub d_Mo_cellOwns_28 k
theorem d_Mo_cellOwns_29 : decode prog_10_method_37_code 29 = .ok (.invokestatic 50, 3) := by decide +kernel
theorem s_Mo_cellOwns_29 {mc ms : Nat} {P : Option Value → HP → Prop} {a0 : Int32} {a1 : Int32} {a2 : Int32} (hm : mt G M_Mo_in 0 mc ms [.int a0, .int a1, .int a2] h P) (hR : 0 + 1 ≤ R.frames ∧ 8 + (3 + 11) + 39 * 0 ≤ R.locals) (hcs : cells + mc ≤ R.cells ∧ slots + ms ≤ R.slots) (hrest : (rest.map fun v => v.category).sum ≤ 8) (k : ∀ (r : Option Value) (h' : HP), P r h' → ev G M_Mo_cellOwns R E 32 lv (r.toList ++ rest) h' (cells + mc) (slots + ms)) : ev G M_Mo_cellOwns R E 29 lv (.int a2 :: .int a1 :: .int a0 :: rest) h cells slots := ev_callS (as := [.int a0, .int a1, .int a2]) d_Mo_cellOwns_29 hm w_769 w_770 w_70 w_771 hy_Mo_in hR hcs hrest k
theorem d_Mo_cellOwns_32 : decode prog_10_method_37_code 32 = .ok (.ifCond .eq 7, 3) := by decide +kernel
theorem s_Mo_cellOwns_32 {x : Int32} (kt : x = 0 → ev G M_Mo_cellOwns R E 39 lv rest h cells slots) (kf : ¬ x = 0 → ev G M_Mo_cellOwns R E 35 lv rest h cells slots) : ev G M_Mo_cellOwns R E 32 lv (.int x :: rest) h cells slots := ev_if_eq d_Mo_cellOwns_32 (by decide) kt kf
theorem d_Mo_cellOwns_35 : decode prog_10_method_37_code 35 = .ok (.iconst 1, 1) := by decide +kernel
theorem s_Mo_cellOwns_35  (k : ev G M_Mo_cellOwns R E 36 lv (.int 1 :: rest) h cells slots) : ev G M_Mo_cellOwns R E 35 lv rest h cells slots := ev_iconst d_Mo_cellOwns_35 (by decide) k
theorem d_Mo_cellOwns_36 : decode prog_10_method_37_code 36 = .ok (.goto 4, 3) := by decide +kernel
theorem s_Mo_cellOwns_36  (k : ev G M_Mo_cellOwns R E 40 lv rest h cells slots) : ev G M_Mo_cellOwns R E 36 lv rest h cells slots := ev_goto d_Mo_cellOwns_36 (by decide) k
theorem d_Mo_cellOwns_39 : decode prog_10_method_37_code 39 = .ok (.iconst 0, 1) := by decide +kernel
theorem s_Mo_cellOwns_39  (k : ev G M_Mo_cellOwns R E 40 lv (.int 0 :: rest) h cells slots) : ev G M_Mo_cellOwns R E 39 lv rest h cells slots := ev_iconst d_Mo_cellOwns_39 (by decide) k
theorem d_Mo_cellOwns_40 : decode prog_10_method_37_code 40 = .ok (.ireturn, 1) := by decide +kernel
theorem s_Mo_cellOwns_40 {P : Option Value → HP → Prop} {mc ms : Nat} {v : Int32} (hz : v = 0 ∨ v = 1) (hP : P (some (.int v)) h) (hc : cells ≤ mc ∧ slots ≤ ms) : ev G M_Mo_cellOwns R (Er M_Mo_cellOwns P mc ms) 40 lv [.int v] h cells slots := ev_exit ⟨hc.1, hc.2, Or.inr (Or.inl ⟨v, .boolean, rfl, (nar_z hz), d_Mo_cellOwns_40, rfl, hP⟩)⟩
abbrev M_Mo_owner : MW := (⟨"UseOnceMachineModel", "owner", "(II)I"⟩, prog_10_method_38_code, 4, (some .int))
theorem hy_Mo_owner : M_Mo_owner.1.cls ≠ "java/lang/invoke/MethodHandle" ∧ M_Mo_owner.1.cls ≠ "java/lang/invoke/VarHandle" ∧ (parseMethodDescriptor M_Mo_owner.1.desc).map (fun d => d.parameters.length) = some 2 := by decide +kernel
theorem d_Mo_owner_0 : decode prog_10_method_38_code 0 = .ok (.iload_n 1, 1) := by decide +kernel
theorem s_Mo_owner_0 {x : Int32} (hl : lg lv 1 = some (.int x)) (k : ev G M_Mo_owner R E 1 lv (.int x :: rest) h cells slots) : ev G M_Mo_owner R E 0 lv rest h cells slots := ev_iload_n d_Mo_owner_0 rfl hl k
theorem d_Mo_owner_1 : decode prog_10_method_38_code 1 = .ok (.iconst 0, 1) := by decide +kernel
theorem s_Mo_owner_1  (k : ev G M_Mo_owner R E 2 lv (.int 0 :: rest) h cells slots) : ev G M_Mo_owner R E 1 lv rest h cells slots := ev_iconst d_Mo_owner_1 (by decide) k
theorem d_Mo_owner_2 : decode prog_10_method_38_code 2 = .ok (.bipush 47, 2) := by decide +kernel
theorem s_Mo_owner_2  (k : ev G M_Mo_owner R E 4 lv (.int 47 :: rest) h cells slots) : ev G M_Mo_owner R E 2 lv rest h cells slots := ev_bipush d_Mo_owner_2 (by decide) k
theorem d_Mo_owner_4 : decode prog_10_method_38_code 4 = .ok (.invokestatic 50, 3) := by decide +kernel
theorem s_Mo_owner_4 {mc ms : Nat} {P : Option Value → HP → Prop} {a0 : Int32} {a1 : Int32} {a2 : Int32} (hm : mt G M_Mo_in 0 mc ms [.int a0, .int a1, .int a2] h P) (hR : 0 + 1 ≤ R.frames ∧ 8 + (3 + 11) + 39 * 0 ≤ R.locals) (hcs : cells + mc ≤ R.cells ∧ slots + ms ≤ R.slots) (hrest : (rest.map fun v => v.category).sum ≤ 8) (k : ∀ (r : Option Value) (h' : HP), P r h' → ev G M_Mo_owner R E 7 lv (r.toList ++ rest) h' (cells + mc) (slots + ms)) : ev G M_Mo_owner R E 4 lv (.int a2 :: .int a1 :: .int a0 :: rest) h cells slots := ev_callS (as := [.int a0, .int a1, .int a2]) d_Mo_owner_4 hm w_769 w_770 w_70 w_771 hy_Mo_in hR hcs hrest k
theorem d_Mo_owner_7 : decode prog_10_method_38_code 7 = .ok (.ifCond .eq 24, 3) := by decide +kernel
theorem s_Mo_owner_7 {x : Int32} (kt : x = 0 → ev G M_Mo_owner R E 31 lv rest h cells slots) (kf : ¬ x = 0 → ev G M_Mo_owner R E 10 lv rest h cells slots) : ev G M_Mo_owner R E 7 lv (.int x :: rest) h cells slots := ev_if_eq d_Mo_owner_7 (by decide) kt kf
theorem d_Mo_owner_10 : decode prog_10_method_38_code 10 = .ok (.iload_n 2, 1) := by decide +kernel
theorem s_Mo_owner_10 {x : Int32} (hl : lg lv 2 = some (.int x)) (k : ev G M_Mo_owner R E 11 lv (.int x :: rest) h cells slots) : ev G M_Mo_owner R E 10 lv rest h cells slots := ev_iload_n d_Mo_owner_10 rfl hl k
theorem d_Mo_owner_11 : decode prog_10_method_38_code 11 = .ok (.iconst 1, 1) := by decide +kernel
theorem s_Mo_owner_11  (k : ev G M_Mo_owner R E 12 lv (.int 1 :: rest) h cells slots) : ev G M_Mo_owner R E 11 lv rest h cells slots := ev_iconst d_Mo_owner_11 (by decide) k
theorem d_Mo_owner_12 : decode prog_10_method_38_code 12 = .ok (.if_icmp .eq 21, 3) := by decide +kernel
theorem s_Mo_owner_12 {x y : Int32} (kt : x = y → ev G M_Mo_owner R E 33 lv rest h cells slots) (kf : ¬ x = y → ev G M_Mo_owner R E 15 lv rest h cells slots) : ev G M_Mo_owner R E 12 lv (.int y :: .int x :: rest) h cells slots := ev_icmp_eq d_Mo_owner_12 (by decide) kt kf
theorem d_Mo_owner_15 : decode prog_10_method_38_code 15 = .ok (.iload_n 2, 1) := by decide +kernel
theorem s_Mo_owner_15 {x : Int32} (hl : lg lv 2 = some (.int x)) (k : ev G M_Mo_owner R E 16 lv (.int x :: rest) h cells slots) : ev G M_Mo_owner R E 15 lv rest h cells slots := ev_iload_n d_Mo_owner_15 rfl hl k
theorem d_Mo_owner_16 : decode prog_10_method_38_code 16 = .ok (.iconst 2, 1) := by decide +kernel
theorem s_Mo_owner_16  (k : ev G M_Mo_owner R E 17 lv (.int 2 :: rest) h cells slots) : ev G M_Mo_owner R E 16 lv rest h cells slots := ev_iconst d_Mo_owner_16 (by decide) k
theorem d_Mo_owner_17 : decode prog_10_method_38_code 17 = .ok (.if_icmp .eq 16, 3) := by decide +kernel
theorem s_Mo_owner_17 {x y : Int32} (kt : x = y → ev G M_Mo_owner R E 33 lv rest h cells slots) (kf : ¬ x = y → ev G M_Mo_owner R E 20 lv rest h cells slots) : ev G M_Mo_owner R E 17 lv (.int y :: .int x :: rest) h cells slots := ev_icmp_eq d_Mo_owner_17 (by decide) kt kf
theorem d_Mo_owner_20 : decode prog_10_method_38_code 20 = .ok (.iload_n 2, 1) := by decide +kernel
theorem s_Mo_owner_20 {x : Int32} (hl : lg lv 2 = some (.int x)) (k : ev G M_Mo_owner R E 21 lv (.int x :: rest) h cells slots) : ev G M_Mo_owner R E 20 lv rest h cells slots := ev_iload_n d_Mo_owner_20 rfl hl k
theorem d_Mo_owner_21 : decode prog_10_method_38_code 21 = .ok (.iconst 4, 1) := by decide +kernel
theorem s_Mo_owner_21  (k : ev G M_Mo_owner R E 22 lv (.int 4 :: rest) h cells slots) : ev G M_Mo_owner R E 21 lv rest h cells slots := ev_iconst d_Mo_owner_21 (by decide) k
theorem d_Mo_owner_22 : decode prog_10_method_38_code 22 = .ok (.if_icmp .eq 11, 3) := by decide +kernel
theorem s_Mo_owner_22 {x y : Int32} (kt : x = y → ev G M_Mo_owner R E 33 lv rest h cells slots) (kf : ¬ x = y → ev G M_Mo_owner R E 25 lv rest h cells slots) : ev G M_Mo_owner R E 22 lv (.int y :: .int x :: rest) h cells slots := ev_icmp_eq d_Mo_owner_22 (by decide) kt kf
theorem d_Mo_owner_25 : decode prog_10_method_38_code 25 = .ok (.iload_n 2, 1) := by decide +kernel
theorem s_Mo_owner_25 {x : Int32} (hl : lg lv 2 = some (.int x)) (k : ev G M_Mo_owner R E 26 lv (.int x :: rest) h cells slots) : ev G M_Mo_owner R E 25 lv rest h cells slots := ev_iload_n d_Mo_owner_25 rfl hl k
theorem d_Mo_owner_26 : decode prog_10_method_38_code 26 = .ok (.bipush 8, 2) := by decide +kernel
theorem s_Mo_owner_26  (k : ev G M_Mo_owner R E 28 lv (.int 8 :: rest) h cells slots) : ev G M_Mo_owner R E 26 lv rest h cells slots := ev_bipush d_Mo_owner_26 (by decide) k
theorem d_Mo_owner_28 : decode prog_10_method_38_code 28 = .ok (.if_icmp .eq 5, 3) := by decide +kernel
theorem s_Mo_owner_28 {x y : Int32} (kt : x = y → ev G M_Mo_owner R E 33 lv rest h cells slots) (kf : ¬ x = y → ev G M_Mo_owner R E 31 lv rest h cells slots) : ev G M_Mo_owner R E 28 lv (.int y :: .int x :: rest) h cells slots := ev_icmp_eq d_Mo_owner_28 (by decide) kt kf
theorem d_Mo_owner_31 : decode prog_10_method_38_code 31 = .ok (.iconst (-1), 1) := by decide +kernel
theorem s_Mo_owner_31  (k : ev G M_Mo_owner R E 32 lv (.int (-1) :: rest) h cells slots) : ev G M_Mo_owner R E 31 lv rest h cells slots := ev_iconst d_Mo_owner_31 (by decide) k
theorem d_Mo_owner_32 : decode prog_10_method_38_code 32 = .ok (.ireturn, 1) := by decide +kernel
theorem s_Mo_owner_32 {P : Option Value → HP → Prop} {mc ms : Nat} {v : Int32} (hP : P (some (.int v)) h) (hc : cells ≤ mc ∧ slots ≤ ms) : ev G M_Mo_owner R (Er M_Mo_owner P mc ms) 32 lv [.int v] h cells slots := ev_exit ⟨hc.1, hc.2, Or.inr (Or.inl ⟨v, .int, rfl, rfl, d_Mo_owner_32, rfl, hP⟩)⟩
theorem d_Mo_owner_33 : decode prog_10_method_38_code 33 = .ok (.iconst 0, 1) := by decide +kernel
theorem s_Mo_owner_33  (k : ev G M_Mo_owner R E 34 lv (.int 0 :: rest) h cells slots) : ev G M_Mo_owner R E 33 lv rest h cells slots := ev_iconst d_Mo_owner_33 (by decide) k
theorem d_Mo_owner_34 : decode prog_10_method_38_code 34 = .ok (.istore_n 3, 1) := by decide +kernel
theorem s_Mo_owner_34 {x : Int32} (k : ev G M_Mo_owner R E 35 (ls1 lv 3 (.int x)) rest h cells slots) : ev G M_Mo_owner R E 34 lv (.int x :: rest) h cells slots := ev_istore_n d_Mo_owner_34 rfl (by decide) k
theorem d_Mo_owner_35 : decode prog_10_method_38_code 35 = .ok (.iload_n 3, 1) := by decide +kernel
theorem s_Mo_owner_35 {x : Int32} (hl : lg lv 3 = some (.int x)) (k : ev G M_Mo_owner R E 36 lv (.int x :: rest) h cells slots) : ev G M_Mo_owner R E 35 lv rest h cells slots := ev_iload_n d_Mo_owner_35 rfl hl k
theorem d_Mo_owner_36 : decode prog_10_method_38_code 36 = .ok (.bipush 102, 2) := by decide +kernel
theorem s_Mo_owner_36  (k : ev G M_Mo_owner R E 38 lv (.int 102 :: rest) h cells slots) : ev G M_Mo_owner R E 36 lv rest h cells slots := ev_bipush d_Mo_owner_36 (by decide) k
theorem d_Mo_owner_38 : decode prog_10_method_38_code 38 = .ok (.if_icmp .ge 85, 3) := by decide +kernel
theorem s_Mo_owner_38 {x y : Int32} (kt : y ≤ x → ev G M_Mo_owner R E 123 lv rest h cells slots) (kf : ¬ y ≤ x → ev G M_Mo_owner R E 41 lv rest h cells slots) : ev G M_Mo_owner R E 38 lv (.int y :: .int x :: rest) h cells slots := ev_icmp_ge d_Mo_owner_38 (by decide) kt kf
theorem d_Mo_owner_41 : decode prog_10_method_38_code 41 = .ok (.aload_n 0, 1) := by decide +kernel
theorem s_Mo_owner_41 {x : Nat} (hl : lg lv 0 = some (.ref x)) (k : ev G M_Mo_owner R E 42 lv (.ref x :: rest) h cells slots) : ev G M_Mo_owner R E 41 lv rest h cells slots := ev_aload_n d_Mo_owner_41 rfl hl k
theorem d_Mo_owner_42 : decode prog_10_method_38_code 42 = .ok (.iload_n 3, 1) := by decide +kernel
theorem s_Mo_owner_42 {x : Int32} (hl : lg lv 3 = some (.int x)) (k : ev G M_Mo_owner R E 43 lv (.int x :: rest) h cells slots) : ev G M_Mo_owner R E 42 lv rest h cells slots := ev_iload_n d_Mo_owner_42 rfl hl k
theorem d_Mo_owner_43 : decode prog_10_method_38_code 43 = .ok (.iload_n 1, 1) := by decide +kernel
theorem s_Mo_owner_43 {x : Int32} (hl : lg lv 1 = some (.int x)) (k : ev G M_Mo_owner R E 44 lv (.int x :: rest) h cells slots) : ev G M_Mo_owner R E 43 lv rest h cells slots := ev_iload_n d_Mo_owner_43 rfl hl k
theorem d_Mo_owner_44 : decode prog_10_method_38_code 44 = .ok (.iload_n 2, 1) := by decide +kernel
theorem s_Mo_owner_44 {x : Int32} (hl : lg lv 2 = some (.int x)) (k : ev G M_Mo_owner R E 45 lv (.int x :: rest) h cells slots) : ev G M_Mo_owner R E 44 lv rest h cells slots := ev_iload_n d_Mo_owner_44 rfl hl k
theorem d_Mo_owner_45 : decode prog_10_method_38_code 45 = .ok (.invokevirtual 166, 3) := by decide +kernel
theorem s_Mo_owner_45 {mc ms : Nat} {P : Option Value → HP → Prop} {a0 : Int32} {a1 : Int32} {a2 : Int32} {b : Nat} {fs : List Value} {v0 : Value} (hm : mt G M_Mo_owns 2 mc ms (.ref b :: [.int a0, .int a1, .int a2]) h P) (hb : h b = mO 7 fs) (hv0 : fs[0]? = some v0) (hR : 2 + 1 ≤ R.frames ∧ 8 + (4 + 11) + 39 * 2 ≤ R.locals) (hcs : cells + mc ≤ R.cells ∧ slots + ms ≤ R.slots) (hrest : (rest.map fun v => v.category).sum ≤ 8) (k : ∀ (r : Option Value) (h' : HP), P r h' → ev G M_Mo_owner R E 48 lv (r.toList ++ rest) h' (cells + mc) (slots + ms)) : ev G M_Mo_owner R E 45 lv (.int a2 :: .int a1 :: .int a0 :: .ref b :: rest) h cells slots := ev_callV (as := [.int a0, .int a1, .int a2]) (ci := 7) d_Mo_owner_45 hm hb hv0 rfl w_904 w_906 w_59 w_70 w_907 hy_Mo_owns hR hcs hrest k
theorem d_Mo_owner_48 : decode prog_10_method_38_code 48 = .ok (.ifCond .eq 69, 3) := by decide +kernel
theorem s_Mo_owner_48 {x : Int32} (kt : x = 0 → ev G M_Mo_owner R E 117 lv rest h cells slots) (kf : ¬ x = 0 → ev G M_Mo_owner R E 51 lv rest h cells slots) : ev G M_Mo_owner R E 48 lv (.int x :: rest) h cells slots := ev_if_eq d_Mo_owner_48 (by decide) kt kf
theorem d_Mo_owner_51 : decode prog_10_method_38_code 51 = .ok (.iload_n 3, 1) := by decide +kernel
theorem s_Mo_owner_51 {x : Int32} (hl : lg lv 3 = some (.int x)) (k : ev G M_Mo_owner R E 52 lv (.int x :: rest) h cells slots) : ev G M_Mo_owner R E 51 lv rest h cells slots := ev_iload_n d_Mo_owner_51 rfl hl k
theorem d_Mo_owner_52 : decode prog_10_method_38_code 52 = .ok (.bipush 8, 2) := by decide +kernel
theorem s_Mo_owner_52  (k : ev G M_Mo_owner R E 54 lv (.int 8 :: rest) h cells slots) : ev G M_Mo_owner R E 52 lv rest h cells slots := ev_bipush d_Mo_owner_52 (by decide) k
theorem d_Mo_owner_54 : decode prog_10_method_38_code 54 = .ok (.if_icmp .ge 7, 3) := by decide +kernel
theorem s_Mo_owner_54 {x y : Int32} (kt : y ≤ x → ev G M_Mo_owner R E 61 lv rest h cells slots) (kf : ¬ y ≤ x → ev G M_Mo_owner R E 57 lv rest h cells slots) : ev G M_Mo_owner R E 54 lv (.int y :: .int x :: rest) h cells slots := ev_icmp_ge d_Mo_owner_54 (by decide) kt kf
theorem d_Mo_owner_57 : decode prog_10_method_38_code 57 = .ok (.iload_n 3, 1) := by decide +kernel
theorem s_Mo_owner_57 {x : Int32} (hl : lg lv 3 = some (.int x)) (k : ev G M_Mo_owner R E 58 lv (.int x :: rest) h cells slots) : ev G M_Mo_owner R E 57 lv rest h cells slots := ev_iload_n d_Mo_owner_57 rfl hl k
theorem d_Mo_owner_58 : decode prog_10_method_38_code 58 = .ok (.goto 58, 3) := by decide +kernel
theorem s_Mo_owner_58  (k : ev G M_Mo_owner R E 116 lv rest h cells slots) : ev G M_Mo_owner R E 58 lv rest h cells slots := ev_goto d_Mo_owner_58 (by decide) k
theorem d_Mo_owner_61 : decode prog_10_method_38_code 61 = .ok (.iload_n 3, 1) := by decide +kernel
theorem s_Mo_owner_61 {x : Int32} (hl : lg lv 3 = some (.int x)) (k : ev G M_Mo_owner R E 62 lv (.int x :: rest) h cells slots) : ev G M_Mo_owner R E 61 lv rest h cells slots := ev_iload_n d_Mo_owner_61 rfl hl k
theorem d_Mo_owner_62 : decode prog_10_method_38_code 62 = .ok (.bipush 56, 2) := by decide +kernel
theorem s_Mo_owner_62  (k : ev G M_Mo_owner R E 64 lv (.int 56 :: rest) h cells slots) : ev G M_Mo_owner R E 62 lv rest h cells slots := ev_bipush d_Mo_owner_62 (by decide) k
theorem d_Mo_owner_64 : decode prog_10_method_38_code 64 = .ok (.if_icmp .ge 13, 3) := by decide +kernel
theorem s_Mo_owner_64 {x y : Int32} (kt : y ≤ x → ev G M_Mo_owner R E 77 lv rest h cells slots) (kf : ¬ y ≤ x → ev G M_Mo_owner R E 67 lv rest h cells slots) : ev G M_Mo_owner R E 64 lv (.int y :: .int x :: rest) h cells slots := ev_icmp_ge d_Mo_owner_64 (by decide) kt kf
theorem d_Mo_owner_67 : decode prog_10_method_38_code 67 = .ok (.bipush 100, 2) := by decide +kernel
theorem s_Mo_owner_67  (k : ev G M_Mo_owner R E 69 lv (.int 100 :: rest) h cells slots) : ev G M_Mo_owner R E 67 lv rest h cells slots := ev_bipush d_Mo_owner_67 (by decide) k
theorem d_Mo_owner_69 : decode prog_10_method_38_code 69 = .ok (.iload_n 3, 1) := by decide +kernel
theorem s_Mo_owner_69 {x : Int32} (hl : lg lv 3 = some (.int x)) (k : ev G M_Mo_owner R E 70 lv (.int x :: rest) h cells slots) : ev G M_Mo_owner R E 69 lv rest h cells slots := ev_iload_n d_Mo_owner_69 rfl hl k
theorem d_Mo_owner_70 : decode prog_10_method_38_code 70 = .ok (.iadd, 1) := by decide +kernel
theorem s_Mo_owner_70 {x y : Int32} (k : ev G M_Mo_owner R E 71 lv (.int (x + y) :: rest) h cells slots) : ev G M_Mo_owner R E 70 lv (.int y :: .int x :: rest) h cells slots := ev_iadd d_Mo_owner_70 k
theorem d_Mo_owner_71 : decode prog_10_method_38_code 71 = .ok (.bipush 8, 2) := by decide +kernel
theorem s_Mo_owner_71  (k : ev G M_Mo_owner R E 73 lv (.int 8 :: rest) h cells slots) : ev G M_Mo_owner R E 71 lv rest h cells slots := ev_bipush d_Mo_owner_71 (by decide) k
theorem d_Mo_owner_73 : decode prog_10_method_38_code 73 = .ok (.isub, 1) := by decide +kernel
theorem s_Mo_owner_73 {x y : Int32} (k : ev G M_Mo_owner R E 74 lv (.int (x - y) :: rest) h cells slots) : ev G M_Mo_owner R E 73 lv (.int y :: .int x :: rest) h cells slots := ev_isub d_Mo_owner_73 k
theorem d_Mo_owner_74 : decode prog_10_method_38_code 74 = .ok (.goto 42, 3) := by decide +kernel
theorem s_Mo_owner_74  (k : ev G M_Mo_owner R E 116 lv rest h cells slots) : ev G M_Mo_owner R E 74 lv rest h cells slots := ev_goto d_Mo_owner_74 (by decide) k
theorem d_Mo_owner_77 : decode prog_10_method_38_code 77 = .ok (.iload_n 3, 1) := by decide +kernel
theorem s_Mo_owner_77 {x : Int32} (hl : lg lv 3 = some (.int x)) (k : ev G M_Mo_owner R E 78 lv (.int x :: rest) h cells slots) : ev G M_Mo_owner R E 77 lv rest h cells slots := ev_iload_n d_Mo_owner_77 rfl hl k
theorem d_Mo_owner_78 : decode prog_10_method_38_code 78 = .ok (.bipush 96, 2) := by decide +kernel
theorem s_Mo_owner_78  (k : ev G M_Mo_owner R E 80 lv (.int 96 :: rest) h cells slots) : ev G M_Mo_owner R E 78 lv rest h cells slots := ev_bipush d_Mo_owner_78 (by decide) k
theorem d_Mo_owner_80 : decode prog_10_method_38_code 80 = .ok (.if_icmp .ge 28, 3) := by decide +kernel
theorem s_Mo_owner_80 {x y : Int32} (kt : y ≤ x → ev G M_Mo_owner R E 108 lv rest h cells slots) (kf : ¬ y ≤ x → ev G M_Mo_owner R E 83 lv rest h cells slots) : ev G M_Mo_owner R E 80 lv (.int y :: .int x :: rest) h cells slots := ev_icmp_ge d_Mo_owner_80 (by decide) kt kf
theorem d_Mo_owner_83 : decode prog_10_method_38_code 83 = .ok (.sipush 200, 3) := by decide +kernel
theorem s_Mo_owner_83  (k : ev G M_Mo_owner R E 86 lv (.int 200 :: rest) h cells slots) : ev G M_Mo_owner R E 83 lv rest h cells slots := ev_sipush d_Mo_owner_83 (by decide) k
theorem d_Mo_owner_86 : decode prog_10_method_38_code 86 = .ok (.iload_n 3, 1) := by decide +kernel
theorem s_Mo_owner_86 {x : Int32} (hl : lg lv 3 = some (.int x)) (k : ev G M_Mo_owner R E 87 lv (.int x :: rest) h cells slots) : ev G M_Mo_owner R E 86 lv rest h cells slots := ev_iload_n d_Mo_owner_86 rfl hl k
theorem d_Mo_owner_87 : decode prog_10_method_38_code 87 = .ok (.bipush 56, 2) := by decide +kernel
theorem s_Mo_owner_87  (k : ev G M_Mo_owner R E 89 lv (.int 56 :: rest) h cells slots) : ev G M_Mo_owner R E 87 lv rest h cells slots := ev_bipush d_Mo_owner_87 (by decide) k
theorem d_Mo_owner_89 : decode prog_10_method_38_code 89 = .ok (.isub, 1) := by decide +kernel
theorem s_Mo_owner_89 {x y : Int32} (k : ev G M_Mo_owner R E 90 lv (.int (x - y) :: rest) h cells slots) : ev G M_Mo_owner R E 89 lv (.int y :: .int x :: rest) h cells slots := ev_isub d_Mo_owner_89 k
theorem d_Mo_owner_90 : decode prog_10_method_38_code 90 = .ok (.bipush 8, 2) := by decide +kernel
theorem s_Mo_owner_90  (k : ev G M_Mo_owner R E 92 lv (.int 8 :: rest) h cells slots) : ev G M_Mo_owner R E 90 lv rest h cells slots := ev_bipush d_Mo_owner_90 (by decide) k
theorem d_Mo_owner_92 : decode prog_10_method_38_code 92 = .ok (.idiv, 1) := by decide +kernel
theorem s_Mo_owner_92 {x y : Int32} (hne : ¬ y = 0) (k : ev G M_Mo_owner R E 93 lv (.int (x / y) :: rest) h cells slots) : ev G M_Mo_owner R E 92 lv (.int y :: .int x :: rest) h cells slots := ev_idiv d_Mo_owner_92 hne k
theorem d_Mo_owner_93 : decode prog_10_method_38_code 93 = .ok (.bipush 10, 2) := by decide +kernel
theorem s_Mo_owner_93  (k : ev G M_Mo_owner R E 95 lv (.int 10 :: rest) h cells slots) : ev G M_Mo_owner R E 93 lv rest h cells slots := ev_bipush d_Mo_owner_93 (by decide) k
theorem d_Mo_owner_95 : decode prog_10_method_38_code 95 = .ok (.imul, 1) := by decide +kernel
theorem s_Mo_owner_95 {x y : Int32} (k : ev G M_Mo_owner R E 96 lv (.int (x * y) :: rest) h cells slots) : ev G M_Mo_owner R E 95 lv (.int y :: .int x :: rest) h cells slots := ev_imul d_Mo_owner_95 k
theorem d_Mo_owner_96 : decode prog_10_method_38_code 96 = .ok (.iadd, 1) := by decide +kernel
theorem s_Mo_owner_96 {x y : Int32} (k : ev G M_Mo_owner R E 97 lv (.int (x + y) :: rest) h cells slots) : ev G M_Mo_owner R E 96 lv (.int y :: .int x :: rest) h cells slots := ev_iadd d_Mo_owner_96 k
theorem d_Mo_owner_97 : decode prog_10_method_38_code 97 = .ok (.iload_n 3, 1) := by decide +kernel
theorem s_Mo_owner_97 {x : Int32} (hl : lg lv 3 = some (.int x)) (k : ev G M_Mo_owner R E 98 lv (.int x :: rest) h cells slots) : ev G M_Mo_owner R E 97 lv rest h cells slots := ev_iload_n d_Mo_owner_97 rfl hl k
theorem d_Mo_owner_98 : decode prog_10_method_38_code 98 = .ok (.bipush 56, 2) := by decide +kernel
theorem s_Mo_owner_98  (k : ev G M_Mo_owner R E 100 lv (.int 56 :: rest) h cells slots) : ev G M_Mo_owner R E 98 lv rest h cells slots := ev_bipush d_Mo_owner_98 (by decide) k
theorem d_Mo_owner_100 : decode prog_10_method_38_code 100 = .ok (.isub, 1) := by decide +kernel
theorem s_Mo_owner_100 {x y : Int32} (k : ev G M_Mo_owner R E 101 lv (.int (x - y) :: rest) h cells slots) : ev G M_Mo_owner R E 100 lv (.int y :: .int x :: rest) h cells slots := ev_isub d_Mo_owner_100 k
theorem d_Mo_owner_101 : decode prog_10_method_38_code 101 = .ok (.bipush 8, 2) := by decide +kernel
theorem s_Mo_owner_101  (k : ev G M_Mo_owner R E 103 lv (.int 8 :: rest) h cells slots) : ev G M_Mo_owner R E 101 lv rest h cells slots := ev_bipush d_Mo_owner_101 (by decide) k
theorem d_Mo_owner_103 : decode prog_10_method_38_code 103 = .ok (.irem, 1) := by decide +kernel
theorem s_Mo_owner_103 {x y : Int32} (hne : ¬ y = 0) (k : ev G M_Mo_owner R E 104 lv (.int (x - x / y * y) :: rest) h cells slots) : ev G M_Mo_owner R E 103 lv (.int y :: .int x :: rest) h cells slots := ev_irem d_Mo_owner_103 hne k
theorem d_Mo_owner_104 : decode prog_10_method_38_code 104 = .ok (.iadd, 1) := by decide +kernel
theorem s_Mo_owner_104 {x y : Int32} (k : ev G M_Mo_owner R E 105 lv (.int (x + y) :: rest) h cells slots) : ev G M_Mo_owner R E 104 lv (.int y :: .int x :: rest) h cells slots := ev_iadd d_Mo_owner_104 k
theorem d_Mo_owner_105 : decode prog_10_method_38_code 105 = .ok (.goto 11, 3) := by decide +kernel
theorem s_Mo_owner_105  (k : ev G M_Mo_owner R E 116 lv rest h cells slots) : ev G M_Mo_owner R E 105 lv rest h cells slots := ev_goto d_Mo_owner_105 (by decide) k
theorem d_Mo_owner_108 : decode prog_10_method_38_code 108 = .ok (.sipush 300, 3) := by decide +kernel
theorem s_Mo_owner_108  (k : ev G M_Mo_owner R E 111 lv (.int 300 :: rest) h cells slots) : ev G M_Mo_owner R E 108 lv rest h cells slots := ev_sipush d_Mo_owner_108 (by decide) k
theorem d_Mo_owner_111 : decode prog_10_method_38_code 111 = .ok (.iload_n 3, 1) := by decide +kernel
theorem s_Mo_owner_111 {x : Int32} (hl : lg lv 3 = some (.int x)) (k : ev G M_Mo_owner R E 112 lv (.int x :: rest) h cells slots) : ev G M_Mo_owner R E 111 lv rest h cells slots := ev_iload_n d_Mo_owner_111 rfl hl k
theorem d_Mo_owner_112 : decode prog_10_method_38_code 112 = .ok (.iadd, 1) := by decide +kernel
theorem s_Mo_owner_112 {x y : Int32} (k : ev G M_Mo_owner R E 113 lv (.int (x + y) :: rest) h cells slots) : ev G M_Mo_owner R E 112 lv (.int y :: .int x :: rest) h cells slots := ev_iadd d_Mo_owner_112 k
theorem d_Mo_owner_113 : decode prog_10_method_38_code 113 = .ok (.bipush 96, 2) := by decide +kernel
theorem s_Mo_owner_113  (k : ev G M_Mo_owner R E 115 lv (.int 96 :: rest) h cells slots) : ev G M_Mo_owner R E 113 lv rest h cells slots := ev_bipush d_Mo_owner_113 (by decide) k
theorem d_Mo_owner_115 : decode prog_10_method_38_code 115 = .ok (.isub, 1) := by decide +kernel
theorem s_Mo_owner_115 {x y : Int32} (k : ev G M_Mo_owner R E 116 lv (.int (x - y) :: rest) h cells slots) : ev G M_Mo_owner R E 115 lv (.int y :: .int x :: rest) h cells slots := ev_isub d_Mo_owner_115 k
theorem d_Mo_owner_116 : decode prog_10_method_38_code 116 = .ok (.ireturn, 1) := by decide +kernel
theorem s_Mo_owner_116 {P : Option Value → HP → Prop} {mc ms : Nat} {v : Int32} (hP : P (some (.int v)) h) (hc : cells ≤ mc ∧ slots ≤ ms) : ev G M_Mo_owner R (Er M_Mo_owner P mc ms) 116 lv [.int v] h cells slots := ev_exit ⟨hc.1, hc.2, Or.inr (Or.inl ⟨v, .int, rfl, rfl, d_Mo_owner_116, rfl, hP⟩)⟩
theorem d_Mo_owner_117 : decode prog_10_method_38_code 117 = .ok (.iinc 3 1, 3) := by decide +kernel
theorem s_Mo_owner_117 {x : Int32} (hl : lg lv 3 = some (.int x)) (k : ev G M_Mo_owner R E 120 (ls1 lv 3 (.int (x + 1))) rest h cells slots) : ev G M_Mo_owner R E 117 lv rest h cells slots := ev_iinc d_Mo_owner_117 (by decide) hl (by decide) k
theorem d_Mo_owner_120 : decode prog_10_method_38_code 120 = .ok (.goto (-85), 3) := by decide +kernel
theorem s_Mo_owner_120  (k : ev G M_Mo_owner R E 35 lv rest h cells slots) : ev G M_Mo_owner R E 120 lv rest h cells slots := ev_goto d_Mo_owner_120 (by decide) k
theorem d_Mo_owner_123 : decode prog_10_method_38_code 123 = .ok (.iconst 0, 1) := by decide +kernel
theorem s_Mo_owner_123  (k : ev G M_Mo_owner R E 124 lv (.int 0 :: rest) h cells slots) : ev G M_Mo_owner R E 123 lv rest h cells slots := ev_iconst d_Mo_owner_123 (by decide) k
theorem d_Mo_owner_124 : decode prog_10_method_38_code 124 = .ok (.istore_n 3, 1) := by decide +kernel
theorem s_Mo_owner_124 {x : Int32} (k : ev G M_Mo_owner R E 125 (ls1 lv 3 (.int x)) rest h cells slots) : ev G M_Mo_owner R E 124 lv (.int x :: rest) h cells slots := ev_istore_n d_Mo_owner_124 rfl (by decide) k
theorem d_Mo_owner_125 : decode prog_10_method_38_code 125 = .ok (.iload_n 3, 1) := by decide +kernel
theorem s_Mo_owner_125 {x : Int32} (hl : lg lv 3 = some (.int x)) (k : ev G M_Mo_owner R E 126 lv (.int x :: rest) h cells slots) : ev G M_Mo_owner R E 125 lv rest h cells slots := ev_iload_n d_Mo_owner_125 rfl hl k
theorem d_Mo_owner_126 : decode prog_10_method_38_code 126 = .ok (.bipush 6, 2) := by decide +kernel
theorem s_Mo_owner_126  (k : ev G M_Mo_owner R E 128 lv (.int 6 :: rest) h cells slots) : ev G M_Mo_owner R E 126 lv rest h cells slots := ev_bipush d_Mo_owner_126 (by decide) k
theorem d_Mo_owner_128 : decode prog_10_method_38_code 128 = .ok (.if_icmp .ge 25, 3) := by decide +kernel
theorem s_Mo_owner_128 {x y : Int32} (kt : y ≤ x → ev G M_Mo_owner R E 153 lv rest h cells slots) (kf : ¬ y ≤ x → ev G M_Mo_owner R E 131 lv rest h cells slots) : ev G M_Mo_owner R E 128 lv (.int y :: .int x :: rest) h cells slots := ev_icmp_ge d_Mo_owner_128 (by decide) kt kf
theorem d_Mo_owner_131 : decode prog_10_method_38_code 131 = .ok (.aload_n 0, 1) := by decide +kernel
theorem s_Mo_owner_131 {x : Nat} (hl : lg lv 0 = some (.ref x)) (k : ev G M_Mo_owner R E 132 lv (.ref x :: rest) h cells slots) : ev G M_Mo_owner R E 131 lv rest h cells slots := ev_aload_n d_Mo_owner_131 rfl hl k
theorem d_Mo_owner_132 : decode prog_10_method_38_code 132 = .ok (.iload_n 3, 1) := by decide +kernel
theorem s_Mo_owner_132 {x : Int32} (hl : lg lv 3 = some (.int x)) (k : ev G M_Mo_owner R E 133 lv (.int x :: rest) h cells slots) : ev G M_Mo_owner R E 132 lv rest h cells slots := ev_iload_n d_Mo_owner_132 rfl hl k
theorem d_Mo_owner_133 : decode prog_10_method_38_code 133 = .ok (.iload_n 1, 1) := by decide +kernel
theorem s_Mo_owner_133 {x : Int32} (hl : lg lv 1 = some (.int x)) (k : ev G M_Mo_owner R E 134 lv (.int x :: rest) h cells slots) : ev G M_Mo_owner R E 133 lv rest h cells slots := ev_iload_n d_Mo_owner_133 rfl hl k
theorem d_Mo_owner_134 : decode prog_10_method_38_code 134 = .ok (.iload_n 2, 1) := by decide +kernel
theorem s_Mo_owner_134 {x : Int32} (hl : lg lv 2 = some (.int x)) (k : ev G M_Mo_owner R E 135 lv (.int x :: rest) h cells slots) : ev G M_Mo_owner R E 134 lv rest h cells slots := ev_iload_n d_Mo_owner_134 rfl hl k
theorem d_Mo_owner_135 : decode prog_10_method_38_code 135 = .ok (.invokevirtual 169, 3) := by decide +kernel
theorem s_Mo_owner_135 {mc ms : Nat} {P : Option Value → HP → Prop} {a0 : Int32} {a1 : Int32} {a2 : Int32} {b : Nat} {fs : List Value} {v0 : Value} (hm : mt G M_Mo_cellOwns 1 mc ms (.ref b :: [.int a0, .int a1, .int a2]) h P) (hb : h b = mO 7 fs) (hv0 : fs[0]? = some v0) (hR : 1 + 1 ≤ R.frames ∧ 8 + (4 + 11) + 39 * 1 ≤ R.locals) (hcs : cells + mc ≤ R.cells ∧ slots + ms ≤ R.slots) (hrest : (rest.map fun v => v.category).sum ≤ 8) (k : ∀ (r : Option Value) (h' : HP), P r h' → ev G M_Mo_owner R E 138 lv (r.toList ++ rest) h' (cells + mc) (slots + ms)) : ev G M_Mo_owner R E 135 lv (.int a2 :: .int a1 :: .int a0 :: .ref b :: rest) h cells slots := ev_callV (as := [.int a0, .int a1, .int a2]) (ci := 7) d_Mo_owner_135 hm hb hv0 rfl w_908 w_910 w_60 w_70 w_911 hy_Mo_cellOwns hR hcs hrest k
theorem d_Mo_owner_138 : decode prog_10_method_38_code 138 = .ok (.ifCond .eq 9, 3) := by decide +kernel
theorem s_Mo_owner_138 {x : Int32} (kt : x = 0 → ev G M_Mo_owner R E 147 lv rest h cells slots) (kf : ¬ x = 0 → ev G M_Mo_owner R E 141 lv rest h cells slots) : ev G M_Mo_owner R E 138 lv (.int x :: rest) h cells slots := ev_if_eq d_Mo_owner_138 (by decide) kt kf
theorem d_Mo_owner_141 : decode prog_10_method_38_code 141 = .ok (.sipush 400, 3) := by decide +kernel
theorem s_Mo_owner_141  (k : ev G M_Mo_owner R E 144 lv (.int 400 :: rest) h cells slots) : ev G M_Mo_owner R E 141 lv rest h cells slots := ev_sipush d_Mo_owner_141 (by decide) k
theorem d_Mo_owner_144 : decode prog_10_method_38_code 144 = .ok (.iload_n 3, 1) := by decide +kernel
theorem s_Mo_owner_144 {x : Int32} (hl : lg lv 3 = some (.int x)) (k : ev G M_Mo_owner R E 145 lv (.int x :: rest) h cells slots) : ev G M_Mo_owner R E 144 lv rest h cells slots := ev_iload_n d_Mo_owner_144 rfl hl k
theorem d_Mo_owner_145 : decode prog_10_method_38_code 145 = .ok (.iadd, 1) := by decide +kernel
theorem s_Mo_owner_145 {x y : Int32} (k : ev G M_Mo_owner R E 146 lv (.int (x + y) :: rest) h cells slots) : ev G M_Mo_owner R E 145 lv (.int y :: .int x :: rest) h cells slots := ev_iadd d_Mo_owner_145 k
theorem d_Mo_owner_146 : decode prog_10_method_38_code 146 = .ok (.ireturn, 1) := by decide +kernel
theorem s_Mo_owner_146 {P : Option Value → HP → Prop} {mc ms : Nat} {v : Int32} (hP : P (some (.int v)) h) (hc : cells ≤ mc ∧ slots ≤ ms) : ev G M_Mo_owner R (Er M_Mo_owner P mc ms) 146 lv [.int v] h cells slots := ev_exit ⟨hc.1, hc.2, Or.inr (Or.inl ⟨v, .int, rfl, rfl, d_Mo_owner_146, rfl, hP⟩)⟩
theorem d_Mo_owner_147 : decode prog_10_method_38_code 147 = .ok (.iinc 3 1, 3) := by decide +kernel
theorem s_Mo_owner_147 {x : Int32} (hl : lg lv 3 = some (.int x)) (k : ev G M_Mo_owner R E 150 (ls1 lv 3 (.int (x + 1))) rest h cells slots) : ev G M_Mo_owner R E 147 lv rest h cells slots := ev_iinc d_Mo_owner_147 (by decide) hl (by decide) k
theorem d_Mo_owner_150 : decode prog_10_method_38_code 150 = .ok (.goto (-25), 3) := by decide +kernel
theorem s_Mo_owner_150  (k : ev G M_Mo_owner R E 125 lv rest h cells slots) : ev G M_Mo_owner R E 150 lv rest h cells slots := ev_goto d_Mo_owner_150 (by decide) k
theorem d_Mo_owner_153 : decode prog_10_method_38_code 153 = .ok (.iconst (-1), 1) := by decide +kernel
theorem s_Mo_owner_153  (k : ev G M_Mo_owner R E 154 lv (.int (-1) :: rest) h cells slots) : ev G M_Mo_owner R E 153 lv rest h cells slots := ev_iconst d_Mo_owner_153 (by decide) k
theorem d_Mo_owner_154 : decode prog_10_method_38_code 154 = .ok (.ireturn, 1) := by decide +kernel
theorem s_Mo_owner_154 {P : Option Value → HP → Prop} {mc ms : Nat} {v : Int32} (hP : P (some (.int v)) h) (hc : cells ≤ mc ∧ slots ≤ ms) : ev G M_Mo_owner R (Er M_Mo_owner P mc ms) 154 lv [.int v] h cells slots := ev_exit ⟨hc.1, hc.2, Or.inr (Or.inl ⟨v, .int, rfl, rfl, d_Mo_owner_154, rfl, hP⟩)⟩
abbrev M_Mo_count : MW := (⟨"UseOnceMachineModel", "count", "(I)I"⟩, prog_10_method_39_code, 2, (some .int))
theorem hy_Mo_count : M_Mo_count.1.cls ≠ "java/lang/invoke/MethodHandle" ∧ M_Mo_count.1.cls ≠ "java/lang/invoke/VarHandle" ∧ (parseMethodDescriptor M_Mo_count.1.desc).map (fun d => d.parameters.length) = some 1 := by decide +kernel
theorem d_Mo_count_0 : decode prog_10_method_39_code 0 = .ok (.iload_n 1, 1) := by decide +kernel
theorem s_Mo_count_0 {x : Int32} (hl : lg lv 1 = some (.int x)) (k : ev G M_Mo_count R E 1 lv (.int x :: rest) h cells slots) : ev G M_Mo_count R E 0 lv rest h cells slots := ev_iload_n d_Mo_count_0 rfl hl k
theorem d_Mo_count_1 : decode prog_10_method_39_code 1 = .ok (.iconst 0, 1) := by decide +kernel
theorem s_Mo_count_1  (k : ev G M_Mo_count R E 2 lv (.int 0 :: rest) h cells slots) : ev G M_Mo_count R E 1 lv rest h cells slots := ev_iconst d_Mo_count_1 (by decide) k
theorem d_Mo_count_2 : decode prog_10_method_39_code 2 = .ok (.iconst 5, 1) := by decide +kernel
theorem s_Mo_count_2  (k : ev G M_Mo_count R E 3 lv (.int 5 :: rest) h cells slots) : ev G M_Mo_count R E 2 lv rest h cells slots := ev_iconst d_Mo_count_2 (by decide) k
theorem d_Mo_count_3 : decode prog_10_method_39_code 3 = .ok (.invokestatic 50, 3) := by decide +kernel
theorem s_Mo_count_3 {mc ms : Nat} {P : Option Value → HP → Prop} {a0 : Int32} {a1 : Int32} {a2 : Int32} (hm : mt G M_Mo_in 0 mc ms [.int a0, .int a1, .int a2] h P) (hR : 0 + 1 ≤ R.frames ∧ 8 + (3 + 11) + 39 * 0 ≤ R.locals) (hcs : cells + mc ≤ R.cells ∧ slots + ms ≤ R.slots) (hrest : (rest.map fun v => v.category).sum ≤ 8) (k : ∀ (r : Option Value) (h' : HP), P r h' → ev G M_Mo_count R E 6 lv (r.toList ++ rest) h' (cells + mc) (slots + ms)) : ev G M_Mo_count R E 3 lv (.int a2 :: .int a1 :: .int a0 :: rest) h cells slots := ev_callS (as := [.int a0, .int a1, .int a2]) d_Mo_count_3 hm w_769 w_770 w_70 w_771 hy_Mo_in hR hcs hrest k
theorem d_Mo_count_6 : decode prog_10_method_39_code 6 = .ok (.ifCond .eq 12, 3) := by decide +kernel
theorem s_Mo_count_6 {x : Int32} (kt : x = 0 → ev G M_Mo_count R E 18 lv rest h cells slots) (kf : ¬ x = 0 → ev G M_Mo_count R E 9 lv rest h cells slots) : ev G M_Mo_count R E 6 lv (.int x :: rest) h cells slots := ev_if_eq d_Mo_count_6 (by decide) kt kf
theorem d_Mo_count_9 : decode prog_10_method_39_code 9 = .ok (.aload_n 0, 1) := by decide +kernel
theorem s_Mo_count_9 {x : Nat} (hl : lg lv 0 = some (.ref x)) (k : ev G M_Mo_count R E 10 lv (.ref x :: rest) h cells slots) : ev G M_Mo_count R E 9 lv rest h cells slots := ev_aload_n d_Mo_count_9 rfl hl k
theorem d_Mo_count_10 : decode prog_10_method_39_code 10 = .ok (.getfield 19, 3) := by decide +kernel
theorem s_Mo_count_10 {a : Nat} {fs : List Value} {v : Value} (hh : h a = mO 7 fs) (hv : fs[4]? = some v) (k : ev G M_Mo_count R E 13 lv (v :: rest) h cells slots) : ev G M_Mo_count R E 10 lv (.ref a :: rest) h cells slots := ev_getfield (ci := 7) (kf := 4) d_Mo_count_10 rfl ck7 (by decide) w_708 hh hv k
theorem d_Mo_count_13 : decode prog_10_method_39_code 13 = .ok (.iload_n 1, 1) := by decide +kernel
theorem s_Mo_count_13 {x : Int32} (hl : lg lv 1 = some (.int x)) (k : ev G M_Mo_count R E 14 lv (.int x :: rest) h cells slots) : ev G M_Mo_count R E 13 lv rest h cells slots := ev_iload_n d_Mo_count_13 rfl hl k
theorem d_Mo_count_14 : decode prog_10_method_39_code 14 = .ok (.iaload, 1) := by decide +kernel
theorem s_Mo_count_14 {a n : Nat} {f : Nat → Int32} {i : Int32} (hh : h a = mI 0 n f) (hin : vp_in i n) (k : ev G M_Mo_count R E 15 lv (.int (f i.toNatClampNeg) :: rest) h cells slots) : ev G M_Mo_count R E 14 lv (.int i :: .ref a :: rest) h cells slots := ev_iaload d_Mo_count_14 rfl hh hin k
theorem d_Mo_count_15 : decode prog_10_method_39_code 15 = .ok (.goto 4, 3) := by decide +kernel
theorem s_Mo_count_15  (k : ev G M_Mo_count R E 19 lv rest h cells slots) : ev G M_Mo_count R E 15 lv rest h cells slots := ev_goto d_Mo_count_15 (by decide) k
theorem d_Mo_count_18 : decode prog_10_method_39_code 18 = .ok (.iconst (-1), 1) := by decide +kernel
theorem s_Mo_count_18  (k : ev G M_Mo_count R E 19 lv (.int (-1) :: rest) h cells slots) : ev G M_Mo_count R E 18 lv rest h cells slots := ev_iconst d_Mo_count_18 (by decide) k
theorem d_Mo_count_19 : decode prog_10_method_39_code 19 = .ok (.ireturn, 1) := by decide +kernel
theorem s_Mo_count_19 {P : Option Value → HP → Prop} {mc ms : Nat} {v : Int32} (hP : P (some (.int v)) h) (hc : cells ≤ mc ∧ slots ≤ ms) : ev G M_Mo_count R (Er M_Mo_count P mc ms) 19 lv [.int v] h cells slots := ev_exit ⟨hc.1, hc.2, Or.inr (Or.inl ⟨v, .int, rfl, rfl, d_Mo_count_19, rfl, hP⟩)⟩
abbrev M_Mo_gate : MW := (⟨"UseOnceMachineModel", "gate", "(II)I"⟩, prog_10_method_40_code, 4, (some .int))
theorem hy_Mo_gate : M_Mo_gate.1.cls ≠ "java/lang/invoke/MethodHandle" ∧ M_Mo_gate.1.cls ≠ "java/lang/invoke/VarHandle" ∧ (parseMethodDescriptor M_Mo_gate.1.desc).map (fun d => d.parameters.length) = some 2 := by decide +kernel
theorem d_Mo_gate_0 : decode prog_10_method_40_code 0 = .ok (.iload_n 1, 1) := by decide +kernel
theorem s_Mo_gate_0 {x : Int32} (hl : lg lv 1 = some (.int x)) (k : ev G M_Mo_gate R E 1 lv (.int x :: rest) h cells slots) : ev G M_Mo_gate R E 0 lv rest h cells slots := ev_iload_n d_Mo_gate_0 rfl hl k
theorem d_Mo_gate_1 : decode prog_10_method_40_code 1 = .ok (.iconst 0, 1) := by decide +kernel
theorem s_Mo_gate_1  (k : ev G M_Mo_gate R E 2 lv (.int 0 :: rest) h cells slots) : ev G M_Mo_gate R E 1 lv rest h cells slots := ev_iconst d_Mo_gate_1 (by decide) k
theorem d_Mo_gate_2 : decode prog_10_method_40_code 2 = .ok (.iconst 5, 1) := by decide +kernel
theorem s_Mo_gate_2  (k : ev G M_Mo_gate R E 3 lv (.int 5 :: rest) h cells slots) : ev G M_Mo_gate R E 2 lv rest h cells slots := ev_iconst d_Mo_gate_2 (by decide) k
theorem d_Mo_gate_3 : decode prog_10_method_40_code 3 = .ok (.invokestatic 50, 3) := by decide +kernel
theorem s_Mo_gate_3 {mc ms : Nat} {P : Option Value → HP → Prop} {a0 : Int32} {a1 : Int32} {a2 : Int32} (hm : mt G M_Mo_in 0 mc ms [.int a0, .int a1, .int a2] h P) (hR : 0 + 1 ≤ R.frames ∧ 8 + (3 + 11) + 39 * 0 ≤ R.locals) (hcs : cells + mc ≤ R.cells ∧ slots + ms ≤ R.slots) (hrest : (rest.map fun v => v.category).sum ≤ 8) (k : ∀ (r : Option Value) (h' : HP), P r h' → ev G M_Mo_gate R E 6 lv (r.toList ++ rest) h' (cells + mc) (slots + ms)) : ev G M_Mo_gate R E 3 lv (.int a2 :: .int a1 :: .int a0 :: rest) h cells slots := ev_callS (as := [.int a0, .int a1, .int a2]) d_Mo_gate_3 hm w_769 w_770 w_70 w_771 hy_Mo_in hR hcs hrest k
theorem d_Mo_gate_6 : decode prog_10_method_40_code 6 = .ok (.ifCond .eq 12, 3) := by decide +kernel
theorem s_Mo_gate_6 {x : Int32} (kt : x = 0 → ev G M_Mo_gate R E 18 lv rest h cells slots) (kf : ¬ x = 0 → ev G M_Mo_gate R E 9 lv rest h cells slots) : ev G M_Mo_gate R E 6 lv (.int x :: rest) h cells slots := ev_if_eq d_Mo_gate_6 (by decide) kt kf
theorem d_Mo_gate_9 : decode prog_10_method_40_code 9 = .ok (.iload_n 2, 1) := by decide +kernel
theorem s_Mo_gate_9 {x : Int32} (hl : lg lv 2 = some (.int x)) (k : ev G M_Mo_gate R E 10 lv (.int x :: rest) h cells slots) : ev G M_Mo_gate R E 9 lv rest h cells slots := ev_iload_n d_Mo_gate_9 rfl hl k
theorem d_Mo_gate_10 : decode prog_10_method_40_code 10 = .ok (.iconst 0, 1) := by decide +kernel
theorem s_Mo_gate_10  (k : ev G M_Mo_gate R E 11 lv (.int 0 :: rest) h cells slots) : ev G M_Mo_gate R E 10 lv rest h cells slots := ev_iconst d_Mo_gate_10 (by decide) k
theorem d_Mo_gate_11 : decode prog_10_method_40_code 11 = .ok (.iconst 2, 1) := by decide +kernel
theorem s_Mo_gate_11  (k : ev G M_Mo_gate R E 12 lv (.int 2 :: rest) h cells slots) : ev G M_Mo_gate R E 11 lv rest h cells slots := ev_iconst d_Mo_gate_11 (by decide) k
theorem d_Mo_gate_12 : decode prog_10_method_40_code 12 = .ok (.invokestatic 50, 3) := by decide +kernel
theorem s_Mo_gate_12 {mc ms : Nat} {P : Option Value → HP → Prop} {a0 : Int32} {a1 : Int32} {a2 : Int32} (hm : mt G M_Mo_in 0 mc ms [.int a0, .int a1, .int a2] h P) (hR : 0 + 1 ≤ R.frames ∧ 8 + (3 + 11) + 39 * 0 ≤ R.locals) (hcs : cells + mc ≤ R.cells ∧ slots + ms ≤ R.slots) (hrest : (rest.map fun v => v.category).sum ≤ 8) (k : ∀ (r : Option Value) (h' : HP), P r h' → ev G M_Mo_gate R E 15 lv (r.toList ++ rest) h' (cells + mc) (slots + ms)) : ev G M_Mo_gate R E 12 lv (.int a2 :: .int a1 :: .int a0 :: rest) h cells slots := ev_callS (as := [.int a0, .int a1, .int a2]) d_Mo_gate_12 hm w_769 w_770 w_70 w_771 hy_Mo_in hR hcs hrest k
theorem d_Mo_gate_15 : decode prog_10_method_40_code 15 = .ok (.ifCond .ne 5, 3) := by decide +kernel
theorem s_Mo_gate_15 {x : Int32} (kt : ¬ x = 0 → ev G M_Mo_gate R E 20 lv rest h cells slots) (kf : x = 0 → ev G M_Mo_gate R E 18 lv rest h cells slots) : ev G M_Mo_gate R E 15 lv (.int x :: rest) h cells slots := ev_if_ne d_Mo_gate_15 (by decide) kt kf
theorem d_Mo_gate_18 : decode prog_10_method_40_code 18 = .ok (.iconst (-1), 1) := by decide +kernel
theorem s_Mo_gate_18  (k : ev G M_Mo_gate R E 19 lv (.int (-1) :: rest) h cells slots) : ev G M_Mo_gate R E 18 lv rest h cells slots := ev_iconst d_Mo_gate_18 (by decide) k
theorem d_Mo_gate_19 : decode prog_10_method_40_code 19 = .ok (.ireturn, 1) := by decide +kernel
theorem s_Mo_gate_19 {P : Option Value → HP → Prop} {mc ms : Nat} {v : Int32} (hP : P (some (.int v)) h) (hc : cells ≤ mc ∧ slots ≤ ms) : ev G M_Mo_gate R (Er M_Mo_gate P mc ms) 19 lv [.int v] h cells slots := ev_exit ⟨hc.1, hc.2, Or.inr (Or.inl ⟨v, .int, rfl, rfl, d_Mo_gate_19, rfl, hP⟩)⟩
theorem d_Mo_gate_20 : decode prog_10_method_40_code 20 = .ok (.aload_n 0, 1) := by decide +kernel
theorem s_Mo_gate_20 {x : Nat} (hl : lg lv 0 = some (.ref x)) (k : ev G M_Mo_gate R E 21 lv (.ref x :: rest) h cells slots) : ev G M_Mo_gate R E 20 lv rest h cells slots := ev_aload_n d_Mo_gate_20 rfl hl k
theorem d_Mo_gate_21 : decode prog_10_method_40_code 21 = .ok (.getfield 28, 3) := by decide +kernel
theorem s_Mo_gate_21 {a : Nat} {fs : List Value} {v : Value} (hh : h a = mO 7 fs) (hv : fs[7]? = some v) (k : ev G M_Mo_gate R E 24 lv (v :: rest) h cells slots) : ev G M_Mo_gate R E 21 lv (.ref a :: rest) h cells slots := ev_getfield (ci := 7) (kf := 7) d_Mo_gate_21 rfl ck7 (by decide) w_711 hh hv k
theorem d_Mo_gate_24 : decode prog_10_method_40_code 24 = .ok (.iload_n 1, 1) := by decide +kernel
theorem s_Mo_gate_24 {x : Int32} (hl : lg lv 1 = some (.int x)) (k : ev G M_Mo_gate R E 25 lv (.int x :: rest) h cells slots) : ev G M_Mo_gate R E 24 lv rest h cells slots := ev_iload_n d_Mo_gate_24 rfl hl k
theorem d_Mo_gate_25 : decode prog_10_method_40_code 25 = .ok (.iaload, 1) := by decide +kernel
theorem s_Mo_gate_25 {a n : Nat} {f : Nat → Int32} {i : Int32} (hh : h a = mI 0 n f) (hin : vp_in i n) (k : ev G M_Mo_gate R E 26 lv (.int (f i.toNatClampNeg) :: rest) h cells slots) : ev G M_Mo_gate R E 25 lv (.int i :: .ref a :: rest) h cells slots := ev_iaload d_Mo_gate_25 rfl hh hin k
theorem d_Mo_gate_26 : decode prog_10_method_40_code 26 = .ok (.ifCond .le 7, 3) := by decide +kernel
theorem s_Mo_gate_26 {x : Int32} (kt : x ≤ 0 → ev G M_Mo_gate R E 33 lv rest h cells slots) (kf : ¬ x ≤ 0 → ev G M_Mo_gate R E 29 lv rest h cells slots) : ev G M_Mo_gate R E 26 lv (.int x :: rest) h cells slots := ev_if_le d_Mo_gate_26 (by decide) kt kf
theorem d_Mo_gate_29 : decode prog_10_method_40_code 29 = .ok (.iconst 1, 1) := by decide +kernel
theorem s_Mo_gate_29  (k : ev G M_Mo_gate R E 30 lv (.int 1 :: rest) h cells slots) : ev G M_Mo_gate R E 29 lv rest h cells slots := ev_iconst d_Mo_gate_29 (by decide) k
theorem d_Mo_gate_30 : decode prog_10_method_40_code 30 = .ok (.goto 4, 3) := by decide +kernel
theorem s_Mo_gate_30  (k : ev G M_Mo_gate R E 34 lv rest h cells slots) : ev G M_Mo_gate R E 30 lv rest h cells slots := ev_goto d_Mo_gate_30 (by decide) k
theorem d_Mo_gate_33 : decode prog_10_method_40_code 33 = .ok (.iconst 0, 1) := by decide +kernel
theorem s_Mo_gate_33  (k : ev G M_Mo_gate R E 34 lv (.int 0 :: rest) h cells slots) : ev G M_Mo_gate R E 33 lv rest h cells slots := ev_iconst d_Mo_gate_33 (by decide) k
theorem d_Mo_gate_34 : decode prog_10_method_40_code 34 = .ok (.istore_n 3, 1) := by decide +kernel
theorem s_Mo_gate_34 {x : Int32} (k : ev G M_Mo_gate R E 35 (ls1 lv 3 (.int x)) rest h cells slots) : ev G M_Mo_gate R E 34 lv (.int x :: rest) h cells slots := ev_istore_n d_Mo_gate_34 rfl (by decide) k
theorem d_Mo_gate_35 : decode prog_10_method_40_code 35 = .ok (.iload_n 2, 1) := by decide +kernel
theorem s_Mo_gate_35 {x : Int32} (hl : lg lv 2 = some (.int x)) (k : ev G M_Mo_gate R E 36 lv (.int x :: rest) h cells slots) : ev G M_Mo_gate R E 35 lv rest h cells slots := ev_iload_n d_Mo_gate_35 rfl hl k
theorem d_Mo_gate_36 : decode prog_10_method_40_code 36 = .ok (.ifCond .ne 12, 3) := by decide +kernel
theorem s_Mo_gate_36 {x : Int32} (kt : ¬ x = 0 → ev G M_Mo_gate R E 48 lv rest h cells slots) (kf : x = 0 → ev G M_Mo_gate R E 39 lv rest h cells slots) : ev G M_Mo_gate R E 36 lv (.int x :: rest) h cells slots := ev_if_ne d_Mo_gate_36 (by decide) kt kf
theorem d_Mo_gate_39 : decode prog_10_method_40_code 39 = .ok (.aload_n 0, 1) := by decide +kernel
theorem s_Mo_gate_39 {x : Nat} (hl : lg lv 0 = some (.ref x)) (k : ev G M_Mo_gate R E 40 lv (.ref x :: rest) h cells slots) : ev G M_Mo_gate R E 39 lv rest h cells slots := ev_aload_n d_Mo_gate_39 rfl hl k
theorem d_Mo_gate_40 : decode prog_10_method_40_code 40 = .ok (.getfield 28, 3) := by decide +kernel
theorem s_Mo_gate_40 {a : Nat} {fs : List Value} {v : Value} (hh : h a = mO 7 fs) (hv : fs[7]? = some v) (k : ev G M_Mo_gate R E 43 lv (v :: rest) h cells slots) : ev G M_Mo_gate R E 40 lv (.ref a :: rest) h cells slots := ev_getfield (ci := 7) (kf := 7) d_Mo_gate_40 rfl ck7 (by decide) w_711 hh hv k
theorem d_Mo_gate_43 : decode prog_10_method_40_code 43 = .ok (.iload_n 1, 1) := by decide +kernel
theorem s_Mo_gate_43 {x : Int32} (hl : lg lv 1 = some (.int x)) (k : ev G M_Mo_gate R E 44 lv (.int x :: rest) h cells slots) : ev G M_Mo_gate R E 43 lv rest h cells slots := ev_iload_n d_Mo_gate_43 rfl hl k
theorem d_Mo_gate_44 : decode prog_10_method_40_code 44 = .ok (.iaload, 1) := by decide +kernel
theorem s_Mo_gate_44 {a n : Nat} {f : Nat → Int32} {i : Int32} (hh : h a = mI 0 n f) (hin : vp_in i n) (k : ev G M_Mo_gate R E 45 lv (.int (f i.toNatClampNeg) :: rest) h cells slots) : ev G M_Mo_gate R E 44 lv (.int i :: .ref a :: rest) h cells slots := ev_iaload d_Mo_gate_44 rfl hh hin k
theorem d_Mo_gate_45 : decode prog_10_method_40_code 45 = .ok (.goto 31, 3) := by decide +kernel
theorem s_Mo_gate_45  (k : ev G M_Mo_gate R E 76 lv rest h cells slots) : ev G M_Mo_gate R E 45 lv rest h cells slots := ev_goto d_Mo_gate_45 (by decide) k
theorem d_Mo_gate_48 : decode prog_10_method_40_code 48 = .ok (.iload_n 3, 1) := by decide +kernel
theorem s_Mo_gate_48 {x : Int32} (hl : lg lv 3 = some (.int x)) (k : ev G M_Mo_gate R E 49 lv (.int x :: rest) h cells slots) : ev G M_Mo_gate R E 48 lv rest h cells slots := ev_iload_n d_Mo_gate_48 rfl hl k
theorem d_Mo_gate_49 : decode prog_10_method_40_code 49 = .ok (.ifCond .ne 7, 3) := by decide +kernel
theorem s_Mo_gate_49 {x : Int32} (kt : ¬ x = 0 → ev G M_Mo_gate R E 56 lv rest h cells slots) (kf : x = 0 → ev G M_Mo_gate R E 52 lv rest h cells slots) : ev G M_Mo_gate R E 49 lv (.int x :: rest) h cells slots := ev_if_ne d_Mo_gate_49 (by decide) kt kf
theorem d_Mo_gate_52 : decode prog_10_method_40_code 52 = .ok (.iconst 0, 1) := by decide +kernel
theorem s_Mo_gate_52  (k : ev G M_Mo_gate R E 53 lv (.int 0 :: rest) h cells slots) : ev G M_Mo_gate R E 52 lv rest h cells slots := ev_iconst d_Mo_gate_52 (by decide) k
theorem d_Mo_gate_53 : decode prog_10_method_40_code 53 = .ok (.goto 23, 3) := by decide +kernel
theorem s_Mo_gate_53  (k : ev G M_Mo_gate R E 76 lv rest h cells slots) : ev G M_Mo_gate R E 53 lv rest h cells slots := ev_goto d_Mo_gate_53 (by decide) k
theorem d_Mo_gate_56 : decode prog_10_method_40_code 56 = .ok (.iload_n 2, 1) := by decide +kernel
theorem s_Mo_gate_56 {x : Int32} (hl : lg lv 2 = some (.int x)) (k : ev G M_Mo_gate R E 57 lv (.int x :: rest) h cells slots) : ev G M_Mo_gate R E 56 lv rest h cells slots := ev_iload_n d_Mo_gate_56 rfl hl k
theorem d_Mo_gate_57 : decode prog_10_method_40_code 57 = .ok (.iconst 1, 1) := by decide +kernel
theorem s_Mo_gate_57  (k : ev G M_Mo_gate R E 58 lv (.int 1 :: rest) h cells slots) : ev G M_Mo_gate R E 57 lv rest h cells slots := ev_iconst d_Mo_gate_57 (by decide) k
theorem d_Mo_gate_58 : decode prog_10_method_40_code 58 = .ok (.if_icmp .ne 12, 3) := by decide +kernel
theorem s_Mo_gate_58 {x y : Int32} (kt : ¬ x = y → ev G M_Mo_gate R E 70 lv rest h cells slots) (kf : x = y → ev G M_Mo_gate R E 61 lv rest h cells slots) : ev G M_Mo_gate R E 58 lv (.int y :: .int x :: rest) h cells slots := ev_icmp_ne d_Mo_gate_58 (by decide) kt kf
theorem d_Mo_gate_61 : decode prog_10_method_40_code 61 = .ok (.aload_n 0, 1) := by decide +kernel
theorem s_Mo_gate_61 {x : Nat} (hl : lg lv 0 = some (.ref x)) (k : ev G M_Mo_gate R E 62 lv (.ref x :: rest) h cells slots) : ev G M_Mo_gate R E 61 lv rest h cells slots := ev_aload_n d_Mo_gate_61 rfl hl k
theorem d_Mo_gate_62 : decode prog_10_method_40_code 62 = .ok (.getfield 31, 3) := by decide +kernel
theorem s_Mo_gate_62 {a : Nat} {fs : List Value} {v : Value} (hh : h a = mO 7 fs) (hv : fs[8]? = some v) (k : ev G M_Mo_gate R E 65 lv (v :: rest) h cells slots) : ev G M_Mo_gate R E 62 lv (.ref a :: rest) h cells slots := ev_getfield (ci := 7) (kf := 8) d_Mo_gate_62 rfl ck7 (by decide) w_712 hh hv k
theorem d_Mo_gate_65 : decode prog_10_method_40_code 65 = .ok (.iload_n 1, 1) := by decide +kernel
theorem s_Mo_gate_65 {x : Int32} (hl : lg lv 1 = some (.int x)) (k : ev G M_Mo_gate R E 66 lv (.int x :: rest) h cells slots) : ev G M_Mo_gate R E 65 lv rest h cells slots := ev_iload_n d_Mo_gate_65 rfl hl k
theorem d_Mo_gate_66 : decode prog_10_method_40_code 66 = .ok (.iaload, 1) := by decide +kernel
theorem s_Mo_gate_66 {a n : Nat} {f : Nat → Int32} {i : Int32} (hh : h a = mI 0 n f) (hin : vp_in i n) (k : ev G M_Mo_gate R E 67 lv (.int (f i.toNatClampNeg) :: rest) h cells slots) : ev G M_Mo_gate R E 66 lv (.int i :: .ref a :: rest) h cells slots := ev_iaload d_Mo_gate_66 rfl hh hin k
theorem d_Mo_gate_67 : decode prog_10_method_40_code 67 = .ok (.goto 9, 3) := by decide +kernel
theorem s_Mo_gate_67  (k : ev G M_Mo_gate R E 76 lv rest h cells slots) : ev G M_Mo_gate R E 67 lv rest h cells slots := ev_goto d_Mo_gate_67 (by decide) k
theorem d_Mo_gate_70 : decode prog_10_method_40_code 70 = .ok (.aload_n 0, 1) := by decide +kernel
theorem s_Mo_gate_70 {x : Nat} (hl : lg lv 0 = some (.ref x)) (k : ev G M_Mo_gate R E 71 lv (.ref x :: rest) h cells slots) : ev G M_Mo_gate R E 70 lv rest h cells slots := ev_aload_n d_Mo_gate_70 rfl hl k
theorem d_Mo_gate_71 : decode prog_10_method_40_code 71 = .ok (.getfield 34, 3) := by decide +kernel
theorem s_Mo_gate_71 {a : Nat} {fs : List Value} {v : Value} (hh : h a = mO 7 fs) (hv : fs[9]? = some v) (k : ev G M_Mo_gate R E 74 lv (v :: rest) h cells slots) : ev G M_Mo_gate R E 71 lv (.ref a :: rest) h cells slots := ev_getfield (ci := 7) (kf := 9) d_Mo_gate_71 rfl ck7 (by decide) w_713 hh hv k
theorem d_Mo_gate_74 : decode prog_10_method_40_code 74 = .ok (.iload_n 1, 1) := by decide +kernel
theorem s_Mo_gate_74 {x : Int32} (hl : lg lv 1 = some (.int x)) (k : ev G M_Mo_gate R E 75 lv (.int x :: rest) h cells slots) : ev G M_Mo_gate R E 74 lv rest h cells slots := ev_iload_n d_Mo_gate_74 rfl hl k
theorem d_Mo_gate_75 : decode prog_10_method_40_code 75 = .ok (.iaload, 1) := by decide +kernel
theorem s_Mo_gate_75 {a n : Nat} {f : Nat → Int32} {i : Int32} (hh : h a = mI 0 n f) (hin : vp_in i n) (k : ev G M_Mo_gate R E 76 lv (.int (f i.toNatClampNeg) :: rest) h cells slots) : ev G M_Mo_gate R E 75 lv (.int i :: .ref a :: rest) h cells slots := ev_iaload d_Mo_gate_75 rfl hh hin k
theorem d_Mo_gate_76 : decode prog_10_method_40_code 76 = .ok (.ireturn, 1) := by decide +kernel
theorem s_Mo_gate_76 {P : Option Value → HP → Prop} {mc ms : Nat} {v : Int32} (hP : P (some (.int v)) h) (hc : cells ≤ mc ∧ slots ≤ ms) : ev G M_Mo_gate R (Er M_Mo_gate P mc ms) 76 lv [.int v] h cells slots := ev_exit ⟨hc.1, hc.2, Or.inr (Or.inl ⟨v, .int, rfl, rfl, d_Mo_gate_76, rfl, hP⟩)⟩
abbrev M_Mo_spread : MW := (⟨"UseOnceMachineModel", "spread", "()I"⟩, prog_10_method_41_code, 8, (some .int))
theorem hy_Mo_spread : M_Mo_spread.1.cls ≠ "java/lang/invoke/MethodHandle" ∧ M_Mo_spread.1.cls ≠ "java/lang/invoke/VarHandle" ∧ (parseMethodDescriptor M_Mo_spread.1.desc).map (fun d => d.parameters.length) = some 0 := by decide +kernel
theorem d_Mo_spread_0 : decode prog_10_method_41_code 0 = .ok (.iconst 0, 1) := by decide +kernel
theorem s_Mo_spread_0  (k : ev G M_Mo_spread R E 1 lv (.int 0 :: rest) h cells slots) : ev G M_Mo_spread R E 0 lv rest h cells slots := ev_iconst d_Mo_spread_0 (by decide) k
theorem d_Mo_spread_1 : decode prog_10_method_41_code 1 = .ok (.istore_n 1, 1) := by decide +kernel
theorem s_Mo_spread_1 {x : Int32} (k : ev G M_Mo_spread R E 2 (ls1 lv 1 (.int x)) rest h cells slots) : ev G M_Mo_spread R E 1 lv (.int x :: rest) h cells slots := ev_istore_n d_Mo_spread_1 rfl (by decide) k
theorem d_Mo_spread_2 : decode prog_10_method_41_code 2 = .ok (.iload_n 1, 1) := by decide +kernel
theorem s_Mo_spread_2 {x : Int32} (hl : lg lv 1 = some (.int x)) (k : ev G M_Mo_spread R E 3 lv (.int x :: rest) h cells slots) : ev G M_Mo_spread R E 2 lv rest h cells slots := ev_iload_n d_Mo_spread_2 rfl hl k
theorem d_Mo_spread_3 : decode prog_10_method_41_code 3 = .ok (.bipush 48, 2) := by decide +kernel
theorem s_Mo_spread_3  (k : ev G M_Mo_spread R E 5 lv (.int 48 :: rest) h cells slots) : ev G M_Mo_spread R E 3 lv rest h cells slots := ev_bipush d_Mo_spread_3 (by decide) k
theorem d_Mo_spread_5 : decode prog_10_method_41_code 5 = .ok (.if_icmp .ge 23, 3) := by decide +kernel
theorem s_Mo_spread_5 {x y : Int32} (kt : y ≤ x → ev G M_Mo_spread R E 28 lv rest h cells slots) (kf : ¬ y ≤ x → ev G M_Mo_spread R E 8 lv rest h cells slots) : ev G M_Mo_spread R E 5 lv (.int y :: .int x :: rest) h cells slots := ev_icmp_ge d_Mo_spread_5 (by decide) kt kf
theorem d_Mo_spread_8 : decode prog_10_method_41_code 8 = .ok (.aload_n 0, 1) := by decide +kernel
theorem s_Mo_spread_8 {x : Nat} (hl : lg lv 0 = some (.ref x)) (k : ev G M_Mo_spread R E 9 lv (.ref x :: rest) h cells slots) : ev G M_Mo_spread R E 8 lv rest h cells slots := ev_aload_n d_Mo_spread_8 rfl hl k
theorem d_Mo_spread_9 : decode prog_10_method_41_code 9 = .ok (.getfield 43, 3) := by decide +kernel
theorem s_Mo_spread_9 {a : Nat} {fs : List Value} {v : Value} (hh : h a = mO 7 fs) (hv : fs[18]? = some v) (k : ev G M_Mo_spread R E 12 lv (v :: rest) h cells slots) : ev G M_Mo_spread R E 9 lv (.ref a :: rest) h cells slots := ev_getfield (ci := 7) (kf := 18) d_Mo_spread_9 rfl ck7 (by decide) w_722 hh hv k
theorem d_Mo_spread_12 : decode prog_10_method_41_code 12 = .ok (.iload_n 1, 1) := by decide +kernel
theorem s_Mo_spread_12 {x : Int32} (hl : lg lv 1 = some (.int x)) (k : ev G M_Mo_spread R E 13 lv (.int x :: rest) h cells slots) : ev G M_Mo_spread R E 12 lv rest h cells slots := ev_iload_n d_Mo_spread_12 rfl hl k
theorem d_Mo_spread_13 : decode prog_10_method_41_code 13 = .ok (.iconst 0, 1) := by decide +kernel
theorem s_Mo_spread_13  (k : ev G M_Mo_spread R E 14 lv (.int 0 :: rest) h cells slots) : ev G M_Mo_spread R E 13 lv rest h cells slots := ev_iconst d_Mo_spread_13 (by decide) k
theorem d_Mo_spread_14 : decode prog_10_method_41_code 14 = .ok (.bastore, 1) := by decide +kernel
theorem s_Mo_spread_14 {a n : Nat} {f : Nat → Int32} {i : Int32} {x : Int32} (hh : h a = mI 2 n f) (hin : vp_in i n) (k : ev G M_Mo_spread R E 15 lv rest (va_up h a (mI 2 n (upd f i.toNatClampNeg (vp_nar .boolean x)))) cells slots) : ev G M_Mo_spread R E 14 lv (.int x :: .int i :: .ref a :: rest) h cells slots := ev_zastore d_Mo_spread_14 rfl hh hin k
theorem d_Mo_spread_15 : decode prog_10_method_41_code 15 = .ok (.aload_n 0, 1) := by decide +kernel
theorem s_Mo_spread_15 {x : Nat} (hl : lg lv 0 = some (.ref x)) (k : ev G M_Mo_spread R E 16 lv (.ref x :: rest) h cells slots) : ev G M_Mo_spread R E 15 lv rest h cells slots := ev_aload_n d_Mo_spread_15 rfl hl k
theorem d_Mo_spread_16 : decode prog_10_method_41_code 16 = .ok (.getfield 47, 3) := by decide +kernel
theorem s_Mo_spread_16 {a : Nat} {fs : List Value} {v : Value} (hh : h a = mO 7 fs) (hv : fs[19]? = some v) (k : ev G M_Mo_spread R E 19 lv (v :: rest) h cells slots) : ev G M_Mo_spread R E 16 lv (.ref a :: rest) h cells slots := ev_getfield (ci := 7) (kf := 19) d_Mo_spread_16 rfl ck7 (by decide) w_723 hh hv k
theorem d_Mo_spread_19 : decode prog_10_method_41_code 19 = .ok (.iload_n 1, 1) := by decide +kernel
theorem s_Mo_spread_19 {x : Int32} (hl : lg lv 1 = some (.int x)) (k : ev G M_Mo_spread R E 20 lv (.int x :: rest) h cells slots) : ev G M_Mo_spread R E 19 lv rest h cells slots := ev_iload_n d_Mo_spread_19 rfl hl k
theorem d_Mo_spread_20 : decode prog_10_method_41_code 20 = .ok (.iconst 0, 1) := by decide +kernel
theorem s_Mo_spread_20  (k : ev G M_Mo_spread R E 21 lv (.int 0 :: rest) h cells slots) : ev G M_Mo_spread R E 20 lv rest h cells slots := ev_iconst d_Mo_spread_20 (by decide) k
theorem d_Mo_spread_21 : decode prog_10_method_41_code 21 = .ok (.bastore, 1) := by decide +kernel
theorem s_Mo_spread_21 {a n : Nat} {f : Nat → Int32} {i : Int32} {x : Int32} (hh : h a = mI 2 n f) (hin : vp_in i n) (k : ev G M_Mo_spread R E 22 lv rest (va_up h a (mI 2 n (upd f i.toNatClampNeg (vp_nar .boolean x)))) cells slots) : ev G M_Mo_spread R E 21 lv (.int x :: .int i :: .ref a :: rest) h cells slots := ev_zastore d_Mo_spread_21 rfl hh hin k
theorem d_Mo_spread_22 : decode prog_10_method_41_code 22 = .ok (.iinc 1 1, 3) := by decide +kernel
theorem s_Mo_spread_22 {x : Int32} (hl : lg lv 1 = some (.int x)) (k : ev G M_Mo_spread R E 25 (ls1 lv 1 (.int (x + 1))) rest h cells slots) : ev G M_Mo_spread R E 22 lv rest h cells slots := ev_iinc d_Mo_spread_22 (by decide) hl (by decide) k
theorem d_Mo_spread_25 : decode prog_10_method_41_code 25 = .ok (.goto (-23), 3) := by decide +kernel
theorem s_Mo_spread_25  (k : ev G M_Mo_spread R E 2 lv rest h cells slots) : ev G M_Mo_spread R E 25 lv rest h cells slots := ev_goto d_Mo_spread_25 (by decide) k
theorem d_Mo_spread_28 : decode prog_10_method_41_code 28 = .ok (.iconst (-1), 1) := by decide +kernel
theorem s_Mo_spread_28  (k : ev G M_Mo_spread R E 29 lv (.int (-1) :: rest) h cells slots) : ev G M_Mo_spread R E 28 lv rest h cells slots := ev_iconst d_Mo_spread_28 (by decide) k
theorem d_Mo_spread_29 : decode prog_10_method_41_code 29 = .ok (.istore_n 1, 1) := by decide +kernel
theorem s_Mo_spread_29 {x : Int32} (k : ev G M_Mo_spread R E 30 (ls1 lv 1 (.int x)) rest h cells slots) : ev G M_Mo_spread R E 29 lv (.int x :: rest) h cells slots := ev_istore_n d_Mo_spread_29 rfl (by decide) k
theorem d_Mo_spread_30 : decode prog_10_method_41_code 30 = .ok (.iconst 0, 1) := by decide +kernel
theorem s_Mo_spread_30  (k : ev G M_Mo_spread R E 31 lv (.int 0 :: rest) h cells slots) : ev G M_Mo_spread R E 30 lv rest h cells slots := ev_iconst d_Mo_spread_30 (by decide) k
theorem d_Mo_spread_31 : decode prog_10_method_41_code 31 = .ok (.istore_n 2, 1) := by decide +kernel
theorem s_Mo_spread_31 {x : Int32} (k : ev G M_Mo_spread R E 32 (ls1 lv 2 (.int x)) rest h cells slots) : ev G M_Mo_spread R E 31 lv (.int x :: rest) h cells slots := ev_istore_n d_Mo_spread_31 rfl (by decide) k
theorem d_Mo_spread_32 : decode prog_10_method_41_code 32 = .ok (.iconst 0, 1) := by decide +kernel
theorem s_Mo_spread_32  (k : ev G M_Mo_spread R E 33 lv (.int 0 :: rest) h cells slots) : ev G M_Mo_spread R E 32 lv rest h cells slots := ev_iconst d_Mo_spread_32 (by decide) k
theorem d_Mo_spread_33 : decode prog_10_method_41_code 33 = .ok (.istore_n 3, 1) := by decide +kernel
theorem s_Mo_spread_33 {x : Int32} (k : ev G M_Mo_spread R E 34 (ls1 lv 3 (.int x)) rest h cells slots) : ev G M_Mo_spread R E 33 lv (.int x :: rest) h cells slots := ev_istore_n d_Mo_spread_33 rfl (by decide) k
theorem d_Mo_spread_34 : decode prog_10_method_41_code 34 = .ok (.iload_n 3, 1) := by decide +kernel
theorem s_Mo_spread_34 {x : Int32} (hl : lg lv 3 = some (.int x)) (k : ev G M_Mo_spread R E 35 lv (.int x :: rest) h cells slots) : ev G M_Mo_spread R E 34 lv rest h cells slots := ev_iload_n d_Mo_spread_34 rfl hl k
theorem d_Mo_spread_35 : decode prog_10_method_41_code 35 = .ok (.bipush 50, 2) := by decide +kernel
theorem s_Mo_spread_35  (k : ev G M_Mo_spread R E 37 lv (.int 50 :: rest) h cells slots) : ev G M_Mo_spread R E 35 lv rest h cells slots := ev_bipush d_Mo_spread_35 (by decide) k
theorem d_Mo_spread_37 : decode prog_10_method_41_code 37 = .ok (.if_icmp .ge 216, 3) := by decide +kernel
theorem s_Mo_spread_37 {x y : Int32} (kt : y ≤ x → ev G M_Mo_spread R E 253 lv rest h cells slots) (kf : ¬ y ≤ x → ev G M_Mo_spread R E 40 lv rest h cells slots) : ev G M_Mo_spread R E 37 lv (.int y :: .int x :: rest) h cells slots := ev_icmp_ge d_Mo_spread_37 (by decide) kt kf
theorem d_Mo_spread_40 : decode prog_10_method_41_code 40 = .ok (.iload_n 2, 1) := by decide +kernel
theorem s_Mo_spread_40 {x : Int32} (hl : lg lv 2 = some (.int x)) (k : ev G M_Mo_spread R E 41 lv (.int x :: rest) h cells slots) : ev G M_Mo_spread R E 40 lv rest h cells slots := ev_iload_n d_Mo_spread_40 rfl hl k
theorem d_Mo_spread_41 : decode prog_10_method_41_code 41 = .ok (.iload_n 1, 1) := by decide +kernel
theorem s_Mo_spread_41 {x : Int32} (hl : lg lv 1 = some (.int x)) (k : ev G M_Mo_spread R E 42 lv (.int x :: rest) h cells slots) : ev G M_Mo_spread R E 41 lv rest h cells slots := ev_iload_n d_Mo_spread_41 rfl hl k
theorem d_Mo_spread_42 : decode prog_10_method_41_code 42 = .ok (.if_icmp .eq 211, 3) := by decide +kernel
theorem s_Mo_spread_42 {x y : Int32} (kt : x = y → ev G M_Mo_spread R E 253 lv rest h cells slots) (kf : ¬ x = y → ev G M_Mo_spread R E 45 lv rest h cells slots) : ev G M_Mo_spread R E 42 lv (.int y :: .int x :: rest) h cells slots := ev_icmp_eq d_Mo_spread_42 (by decide) kt kf
theorem d_Mo_spread_45 : decode prog_10_method_41_code 45 = .ok (.iload_n 2, 1) := by decide +kernel
theorem s_Mo_spread_45 {x : Int32} (hl : lg lv 2 = some (.int x)) (k : ev G M_Mo_spread R E 46 lv (.int x :: rest) h cells slots) : ev G M_Mo_spread R E 45 lv rest h cells slots := ev_iload_n d_Mo_spread_45 rfl hl k
theorem d_Mo_spread_46 : decode prog_10_method_41_code 46 = .ok (.istore_n 1, 1) := by decide +kernel
theorem s_Mo_spread_46 {x : Int32} (k : ev G M_Mo_spread R E 47 (ls1 lv 1 (.int x)) rest h cells slots) : ev G M_Mo_spread R E 46 lv (.int x :: rest) h cells slots := ev_istore_n d_Mo_spread_46 rfl (by decide) k
theorem d_Mo_spread_47 : decode prog_10_method_41_code 47 = .ok (.iconst 0, 1) := by decide +kernel
theorem s_Mo_spread_47  (k : ev G M_Mo_spread R E 48 lv (.int 0 :: rest) h cells slots) : ev G M_Mo_spread R E 47 lv rest h cells slots := ev_iconst d_Mo_spread_47 (by decide) k
theorem d_Mo_spread_48 : decode prog_10_method_41_code 48 = .ok (.istore 4, 2) := by decide +kernel
theorem s_Mo_spread_48 {x : Int32} (k : ev G M_Mo_spread R E 50 (ls1 lv 4 (.int x)) rest h cells slots) : ev G M_Mo_spread R E 48 lv (.int x :: rest) h cells slots := ev_istore d_Mo_spread_48 (by decide) k
theorem d_Mo_spread_50 : decode prog_10_method_41_code 50 = .ok (.iload 4, 2) := by decide +kernel
theorem s_Mo_spread_50 {x : Int32} (hl : lg lv 4 = some (.int x)) (k : ev G M_Mo_spread R E 52 lv (.int x :: rest) h cells slots) : ev G M_Mo_spread R E 50 lv rest h cells slots := ev_iload d_Mo_spread_50 hl k
theorem d_Mo_spread_52 : decode prog_10_method_41_code 52 = .ok (.bipush 56, 2) := by decide +kernel
theorem s_Mo_spread_52  (k : ev G M_Mo_spread R E 54 lv (.int 56 :: rest) h cells slots) : ev G M_Mo_spread R E 52 lv rest h cells slots := ev_bipush d_Mo_spread_52 (by decide) k
theorem d_Mo_spread_54 : decode prog_10_method_41_code 54 = .ok (.if_icmp .ge 140, 3) := by decide +kernel
theorem s_Mo_spread_54 {x y : Int32} (kt : y ≤ x → ev G M_Mo_spread R E 194 lv rest h cells slots) (kf : ¬ y ≤ x → ev G M_Mo_spread R E 57 lv rest h cells slots) : ev G M_Mo_spread R E 54 lv (.int y :: .int x :: rest) h cells slots := ev_icmp_ge d_Mo_spread_54 (by decide) kt kf
theorem d_Mo_spread_57 : decode prog_10_method_41_code 57 = .ok (.iload 4, 2) := by decide +kernel
theorem s_Mo_spread_57 {x : Int32} (hl : lg lv 4 = some (.int x)) (k : ev G M_Mo_spread R E 59 lv (.int x :: rest) h cells slots) : ev G M_Mo_spread R E 57 lv rest h cells slots := ev_iload d_Mo_spread_57 hl k
theorem d_Mo_spread_59 : decode prog_10_method_41_code 59 = .ok (.bipush 8, 2) := by decide +kernel
theorem s_Mo_spread_59  (k : ev G M_Mo_spread R E 61 lv (.int 8 :: rest) h cells slots) : ev G M_Mo_spread R E 59 lv rest h cells slots := ev_bipush d_Mo_spread_59 (by decide) k
theorem d_Mo_spread_61 : decode prog_10_method_41_code 61 = .ok (.if_icmp .lt 16, 3) := by decide +kernel
theorem s_Mo_spread_61 {x y : Int32} (kt : x < y → ev G M_Mo_spread R E 77 lv rest h cells slots) (kf : ¬ x < y → ev G M_Mo_spread R E 64 lv rest h cells slots) : ev G M_Mo_spread R E 61 lv (.int y :: .int x :: rest) h cells slots := ev_icmp_lt d_Mo_spread_61 (by decide) kt kf
theorem d_Mo_spread_64 : decode prog_10_method_41_code 64 = .ok (.aload_n 0, 1) := by decide +kernel
theorem s_Mo_spread_64 {x : Nat} (hl : lg lv 0 = some (.ref x)) (k : ev G M_Mo_spread R E 65 lv (.ref x :: rest) h cells slots) : ev G M_Mo_spread R E 64 lv rest h cells slots := ev_aload_n d_Mo_spread_64 rfl hl k
theorem d_Mo_spread_65 : decode prog_10_method_41_code 65 = .ok (.getfield 47, 3) := by decide +kernel
theorem s_Mo_spread_65 {a : Nat} {fs : List Value} {v : Value} (hh : h a = mO 7 fs) (hv : fs[19]? = some v) (k : ev G M_Mo_spread R E 68 lv (v :: rest) h cells slots) : ev G M_Mo_spread R E 65 lv (.ref a :: rest) h cells slots := ev_getfield (ci := 7) (kf := 19) d_Mo_spread_65 rfl ck7 (by decide) w_723 hh hv k
theorem d_Mo_spread_68 : decode prog_10_method_41_code 68 = .ok (.iload 4, 2) := by decide +kernel
theorem s_Mo_spread_68 {x : Int32} (hl : lg lv 4 = some (.int x)) (k : ev G M_Mo_spread R E 70 lv (.int x :: rest) h cells slots) : ev G M_Mo_spread R E 68 lv rest h cells slots := ev_iload d_Mo_spread_68 hl k
theorem d_Mo_spread_70 : decode prog_10_method_41_code 70 = .ok (.bipush 8, 2) := by decide +kernel
theorem s_Mo_spread_70  (k : ev G M_Mo_spread R E 72 lv (.int 8 :: rest) h cells slots) : ev G M_Mo_spread R E 70 lv rest h cells slots := ev_bipush d_Mo_spread_70 (by decide) k
theorem d_Mo_spread_72 : decode prog_10_method_41_code 72 = .ok (.isub, 1) := by decide +kernel
theorem s_Mo_spread_72 {x y : Int32} (k : ev G M_Mo_spread R E 73 lv (.int (x - y) :: rest) h cells slots) : ev G M_Mo_spread R E 72 lv (.int y :: .int x :: rest) h cells slots := ev_isub d_Mo_spread_72 k
theorem d_Mo_spread_73 : decode prog_10_method_41_code 73 = .ok (.baload, 1) := by decide +kernel
theorem s_Mo_spread_73 {a n : Nat} {f : Nat → Int32} {i : Int32} (hh : h a = mI 2 n f) (hin : vp_in i n) (k : ev G M_Mo_spread R E 74 lv (.int (f i.toNatClampNeg) :: rest) h cells slots) : ev G M_Mo_spread R E 73 lv (.int i :: .ref a :: rest) h cells slots := ev_zaload d_Mo_spread_73 rfl hh hin k
theorem d_Mo_spread_74 : decode prog_10_method_41_code 74 = .ok (.ifCond .eq 7, 3) := by decide +kernel
theorem s_Mo_spread_74 {x : Int32} (kt : x = 0 → ev G M_Mo_spread R E 81 lv rest h cells slots) (kf : ¬ x = 0 → ev G M_Mo_spread R E 77 lv rest h cells slots) : ev G M_Mo_spread R E 74 lv (.int x :: rest) h cells slots := ev_if_eq d_Mo_spread_74 (by decide) kt kf
theorem d_Mo_spread_77 : decode prog_10_method_41_code 77 = .ok (.iconst 1, 1) := by decide +kernel
theorem s_Mo_spread_77  (k : ev G M_Mo_spread R E 78 lv (.int 1 :: rest) h cells slots) : ev G M_Mo_spread R E 77 lv rest h cells slots := ev_iconst d_Mo_spread_77 (by decide) k
theorem d_Mo_spread_78 : decode prog_10_method_41_code 78 = .ok (.goto 4, 3) := by decide +kernel
theorem s_Mo_spread_78  (k : ev G M_Mo_spread R E 82 lv rest h cells slots) : ev G M_Mo_spread R E 78 lv rest h cells slots := ev_goto d_Mo_spread_78 (by decide) k
theorem d_Mo_spread_81 : decode prog_10_method_41_code 81 = .ok (.iconst 0, 1) := by decide +kernel
theorem s_Mo_spread_81  (k : ev G M_Mo_spread R E 82 lv (.int 0 :: rest) h cells slots) : ev G M_Mo_spread R E 81 lv rest h cells slots := ev_iconst d_Mo_spread_81 (by decide) k
theorem d_Mo_spread_82 : decode prog_10_method_41_code 82 = .ok (.istore 5, 2) := by decide +kernel
theorem s_Mo_spread_82 {x : Int32} (k : ev G M_Mo_spread R E 84 (ls1 lv 5 (.int x)) rest h cells slots) : ev G M_Mo_spread R E 82 lv (.int x :: rest) h cells slots := ev_istore d_Mo_spread_82 (by decide) k
theorem d_Mo_spread_84 : decode prog_10_method_41_code 84 = .ok (.iload 5, 2) := by decide +kernel
theorem s_Mo_spread_84 {x : Int32} (hl : lg lv 5 = some (.int x)) (k : ev G M_Mo_spread R E 86 lv (.int x :: rest) h cells slots) : ev G M_Mo_spread R E 84 lv rest h cells slots := ev_iload d_Mo_spread_84 hl k
theorem d_Mo_spread_86 : decode prog_10_method_41_code 86 = .ok (.ifCond .eq 27, 3) := by decide +kernel
theorem s_Mo_spread_86 {x : Int32} (kt : x = 0 → ev G M_Mo_spread R E 113 lv rest h cells slots) (kf : ¬ x = 0 → ev G M_Mo_spread R E 89 lv rest h cells slots) : ev G M_Mo_spread R E 86 lv (.int x :: rest) h cells slots := ev_if_eq d_Mo_spread_86 (by decide) kt kf
theorem d_Mo_spread_89 : decode prog_10_method_41_code 89 = .ok (.aload_n 0, 1) := by decide +kernel
theorem s_Mo_spread_89 {x : Nat} (hl : lg lv 0 = some (.ref x)) (k : ev G M_Mo_spread R E 90 lv (.ref x :: rest) h cells slots) : ev G M_Mo_spread R E 89 lv rest h cells slots := ev_aload_n d_Mo_spread_89 rfl hl k
theorem d_Mo_spread_90 : decode prog_10_method_41_code 90 = .ok (.iload 4, 2) := by decide +kernel
theorem s_Mo_spread_90 {x : Int32} (hl : lg lv 4 = some (.int x)) (k : ev G M_Mo_spread R E 92 lv (.int x :: rest) h cells slots) : ev G M_Mo_spread R E 90 lv rest h cells slots := ev_iload d_Mo_spread_90 hl k
theorem d_Mo_spread_92 : decode prog_10_method_41_code 92 = .ok (.invokevirtual 62, 3) := by decide +kernel
theorem s_Mo_spread_92 {mc ms : Nat} {P : Option Value → HP → Prop} {a0 : Int32} {b : Nat} {fs : List Value} {v0 : Value} (hm : mt G M_Mo_what 0 mc ms (.ref b :: [.int a0]) h P) (hb : h b = mO 7 fs) (hv0 : fs[0]? = some v0) (hR : 0 + 1 ≤ R.frames ∧ 8 + (2 + 11) + 39 * 0 ≤ R.locals) (hcs : cells + mc ≤ R.cells ∧ slots + ms ≤ R.slots) (hrest : (rest.map fun v => v.category).sum ≤ 8) (k : ∀ (r : Option Value) (h' : HP), P r h' → ev G M_Mo_spread R E 95 lv (r.toList ++ rest) h' (cells + mc) (slots + ms)) : ev G M_Mo_spread R E 92 lv (.int a0 :: .ref b :: rest) h cells slots := ev_callV (as := [.int a0]) (ci := 7) d_Mo_spread_92 hm hb hv0 rfl w_804 w_806 w_39 w_70 w_807 hy_Mo_what hR hcs hrest k
theorem d_Mo_spread_95 : decode prog_10_method_41_code 95 = .ok (.iconst 1, 1) := by decide +kernel
theorem s_Mo_spread_95  (k : ev G M_Mo_spread R E 96 lv (.int 1 :: rest) h cells slots) : ev G M_Mo_spread R E 95 lv rest h cells slots := ev_iconst d_Mo_spread_95 (by decide) k
theorem d_Mo_spread_96 : decode prog_10_method_41_code 96 = .ok (.if_icmp .eq 13, 3) := by decide +kernel
theorem s_Mo_spread_96 {x y : Int32} (kt : x = y → ev G M_Mo_spread R E 109 lv rest h cells slots) (kf : ¬ x = y → ev G M_Mo_spread R E 99 lv rest h cells slots) : ev G M_Mo_spread R E 96 lv (.int y :: .int x :: rest) h cells slots := ev_icmp_eq d_Mo_spread_96 (by decide) kt kf
theorem d_Mo_spread_99 : decode prog_10_method_41_code 99 = .ok (.aload_n 0, 1) := by decide +kernel
theorem s_Mo_spread_99 {x : Nat} (hl : lg lv 0 = some (.ref x)) (k : ev G M_Mo_spread R E 100 lv (.ref x :: rest) h cells slots) : ev G M_Mo_spread R E 99 lv rest h cells slots := ev_aload_n d_Mo_spread_99 rfl hl k
theorem d_Mo_spread_100 : decode prog_10_method_41_code 100 = .ok (.iload 4, 2) := by decide +kernel
theorem s_Mo_spread_100 {x : Int32} (hl : lg lv 4 = some (.int x)) (k : ev G M_Mo_spread R E 102 lv (.int x :: rest) h cells slots) : ev G M_Mo_spread R E 100 lv rest h cells slots := ev_iload d_Mo_spread_100 hl k
theorem d_Mo_spread_102 : decode prog_10_method_41_code 102 = .ok (.invokevirtual 62, 3) := by decide +kernel
theorem s_Mo_spread_102 {mc ms : Nat} {P : Option Value → HP → Prop} {a0 : Int32} {b : Nat} {fs : List Value} {v0 : Value} (hm : mt G M_Mo_what 0 mc ms (.ref b :: [.int a0]) h P) (hb : h b = mO 7 fs) (hv0 : fs[0]? = some v0) (hR : 0 + 1 ≤ R.frames ∧ 8 + (2 + 11) + 39 * 0 ≤ R.locals) (hcs : cells + mc ≤ R.cells ∧ slots + ms ≤ R.slots) (hrest : (rest.map fun v => v.category).sum ≤ 8) (k : ∀ (r : Option Value) (h' : HP), P r h' → ev G M_Mo_spread R E 105 lv (r.toList ++ rest) h' (cells + mc) (slots + ms)) : ev G M_Mo_spread R E 102 lv (.int a0 :: .ref b :: rest) h cells slots := ev_callV (as := [.int a0]) (ci := 7) d_Mo_spread_102 hm hb hv0 rfl w_804 w_806 w_39 w_70 w_807 hy_Mo_what hR hcs hrest k
theorem d_Mo_spread_105 : decode prog_10_method_41_code 105 = .ok (.iconst 2, 1) := by decide +kernel
theorem s_Mo_spread_105  (k : ev G M_Mo_spread R E 106 lv (.int 2 :: rest) h cells slots) : ev G M_Mo_spread R E 105 lv rest h cells slots := ev_iconst d_Mo_spread_105 (by decide) k
theorem d_Mo_spread_106 : decode prog_10_method_41_code 106 = .ok (.if_icmp .ne 7, 3) := by decide +kernel
theorem s_Mo_spread_106 {x y : Int32} (kt : ¬ x = y → ev G M_Mo_spread R E 113 lv rest h cells slots) (kf : x = y → ev G M_Mo_spread R E 109 lv rest h cells slots) : ev G M_Mo_spread R E 106 lv (.int y :: .int x :: rest) h cells slots := ev_icmp_ne d_Mo_spread_106 (by decide) kt kf
theorem d_Mo_spread_109 : decode prog_10_method_41_code 109 = .ok (.iconst 1, 1) := by decide +kernel
theorem s_Mo_spread_109  (k : ev G M_Mo_spread R E 110 lv (.int 1 :: rest) h cells slots) : ev G M_Mo_spread R E 109 lv rest h cells slots := ev_iconst d_Mo_spread_109 (by decide) k
theorem d_Mo_spread_110 : decode prog_10_method_41_code 110 = .ok (.goto 4, 3) := by decide +kernel
theorem s_Mo_spread_110  (k : ev G M_Mo_spread R E 114 lv rest h cells slots) : ev G M_Mo_spread R E 110 lv rest h cells slots := ev_goto d_Mo_spread_110 (by decide) k
theorem d_Mo_spread_113 : decode prog_10_method_41_code 113 = .ok (.iconst 0, 1) := by decide +kernel
theorem s_Mo_spread_113  (k : ev G M_Mo_spread R E 114 lv (.int 0 :: rest) h cells slots) : ev G M_Mo_spread R E 113 lv rest h cells slots := ev_iconst d_Mo_spread_113 (by decide) k
theorem d_Mo_spread_114 : decode prog_10_method_41_code 114 = .ok (.istore 6, 2) := by decide +kernel
theorem s_Mo_spread_114 {x : Int32} (k : ev G M_Mo_spread R E 116 (ls1 lv 6 (.int x)) rest h cells slots) : ev G M_Mo_spread R E 114 lv (.int x :: rest) h cells slots := ev_istore d_Mo_spread_114 (by decide) k
theorem d_Mo_spread_116 : decode prog_10_method_41_code 116 = .ok (.aload_n 0, 1) := by decide +kernel
theorem s_Mo_spread_116 {x : Nat} (hl : lg lv 0 = some (.ref x)) (k : ev G M_Mo_spread R E 117 lv (.ref x :: rest) h cells slots) : ev G M_Mo_spread R E 116 lv rest h cells slots := ev_aload_n d_Mo_spread_116 rfl hl k
theorem d_Mo_spread_117 : decode prog_10_method_41_code 117 = .ok (.iload 4, 2) := by decide +kernel
theorem s_Mo_spread_117 {x : Int32} (hl : lg lv 4 = some (.int x)) (k : ev G M_Mo_spread R E 119 lv (.int x :: rest) h cells slots) : ev G M_Mo_spread R E 117 lv rest h cells slots := ev_iload d_Mo_spread_117 hl k
theorem d_Mo_spread_119 : decode prog_10_method_41_code 119 = .ok (.iconst 1, 1) := by decide +kernel
theorem s_Mo_spread_119  (k : ev G M_Mo_spread R E 120 lv (.int 1 :: rest) h cells slots) : ev G M_Mo_spread R E 119 lv rest h cells slots := ev_iconst d_Mo_spread_119 (by decide) k
theorem d_Mo_spread_120 : decode prog_10_method_41_code 120 = .ok (.invokevirtual 66, 3) := by decide +kernel
theorem s_Mo_spread_120 {mc ms : Nat} {P : Option Value → HP → Prop} {a0 : Int32} {a1 : Int32} {b : Nat} {fs : List Value} {v0 : Value} (hm : mt G M_Mo_get 0 mc ms (.ref b :: [.int a0, .int a1]) h P) (hb : h b = mO 7 fs) (hv0 : fs[0]? = some v0) (hR : 0 + 1 ≤ R.frames ∧ 8 + (3 + 11) + 39 * 0 ≤ R.locals) (hcs : cells + mc ≤ R.cells ∧ slots + ms ≤ R.slots) (hrest : (rest.map fun v => v.category).sum ≤ 8) (k : ∀ (r : Option Value) (h' : HP), P r h' → ev G M_Mo_spread R E 123 lv (r.toList ++ rest) h' (cells + mc) (slots + ms)) : ev G M_Mo_spread R E 120 lv (.int a1 :: .int a0 :: .ref b :: rest) h cells slots := ev_callV (as := [.int a0, .int a1]) (ci := 7) d_Mo_spread_120 hm hb hv0 rfl w_816 w_818 w_42 w_70 w_819 hy_Mo_get hR hcs hrest k
theorem d_Mo_spread_123 : decode prog_10_method_41_code 123 = .ok (.istore 7, 2) := by decide +kernel
theorem s_Mo_spread_123 {x : Int32} (k : ev G M_Mo_spread R E 125 (ls1 lv 7 (.int x)) rest h cells slots) : ev G M_Mo_spread R E 123 lv (.int x :: rest) h cells slots := ev_istore d_Mo_spread_123 (by decide) k
theorem d_Mo_spread_125 : decode prog_10_method_41_code 125 = .ok (.iload 6, 2) := by decide +kernel
theorem s_Mo_spread_125 {x : Int32} (hl : lg lv 6 = some (.int x)) (k : ev G M_Mo_spread R E 127 lv (.int x :: rest) h cells slots) : ev G M_Mo_spread R E 125 lv rest h cells slots := ev_iload d_Mo_spread_125 hl k
theorem d_Mo_spread_127 : decode prog_10_method_41_code 127 = .ok (.ifCond .eq 61, 3) := by decide +kernel
theorem s_Mo_spread_127 {x : Int32} (kt : x = 0 → ev G M_Mo_spread R E 188 lv rest h cells slots) (kf : ¬ x = 0 → ev G M_Mo_spread R E 130 lv rest h cells slots) : ev G M_Mo_spread R E 127 lv (.int x :: rest) h cells slots := ev_if_eq d_Mo_spread_127 (by decide) kt kf
theorem d_Mo_spread_130 : decode prog_10_method_41_code 130 = .ok (.iload 7, 2) := by decide +kernel
theorem s_Mo_spread_130 {x : Int32} (hl : lg lv 7 = some (.int x)) (k : ev G M_Mo_spread R E 132 lv (.int x :: rest) h cells slots) : ev G M_Mo_spread R E 130 lv rest h cells slots := ev_iload d_Mo_spread_130 hl k
theorem d_Mo_spread_132 : decode prog_10_method_41_code 132 = .ok (.aload_n 0, 1) := by decide +kernel
theorem s_Mo_spread_132 {x : Nat} (hl : lg lv 0 = some (.ref x)) (k : ev G M_Mo_spread R E 133 lv (.ref x :: rest) h cells slots) : ev G M_Mo_spread R E 132 lv rest h cells slots := ev_aload_n d_Mo_spread_132 rfl hl k
theorem d_Mo_spread_133 : decode prog_10_method_41_code 133 = .ok (.iload 4, 2) := by decide +kernel
theorem s_Mo_spread_133 {x : Int32} (hl : lg lv 4 = some (.int x)) (k : ev G M_Mo_spread R E 135 lv (.int x :: rest) h cells slots) : ev G M_Mo_spread R E 133 lv rest h cells slots := ev_iload d_Mo_spread_133 hl k
theorem d_Mo_spread_135 : decode prog_10_method_41_code 135 = .ok (.iconst 2, 1) := by decide +kernel
theorem s_Mo_spread_135  (k : ev G M_Mo_spread R E 136 lv (.int 2 :: rest) h cells slots) : ev G M_Mo_spread R E 135 lv rest h cells slots := ev_iconst d_Mo_spread_135 (by decide) k
theorem d_Mo_spread_136 : decode prog_10_method_41_code 136 = .ok (.invokevirtual 66, 3) := by decide +kernel
theorem s_Mo_spread_136 {mc ms : Nat} {P : Option Value → HP → Prop} {a0 : Int32} {a1 : Int32} {b : Nat} {fs : List Value} {v0 : Value} (hm : mt G M_Mo_get 0 mc ms (.ref b :: [.int a0, .int a1]) h P) (hb : h b = mO 7 fs) (hv0 : fs[0]? = some v0) (hR : 0 + 1 ≤ R.frames ∧ 8 + (3 + 11) + 39 * 0 ≤ R.locals) (hcs : cells + mc ≤ R.cells ∧ slots + ms ≤ R.slots) (hrest : (rest.map fun v => v.category).sum ≤ 8) (k : ∀ (r : Option Value) (h' : HP), P r h' → ev G M_Mo_spread R E 139 lv (r.toList ++ rest) h' (cells + mc) (slots + ms)) : ev G M_Mo_spread R E 136 lv (.int a1 :: .int a0 :: .ref b :: rest) h cells slots := ev_callV (as := [.int a0, .int a1]) (ci := 7) d_Mo_spread_136 hm hb hv0 rfl w_816 w_818 w_42 w_70 w_819 hy_Mo_get hR hcs hrest k
theorem d_Mo_spread_139 : decode prog_10_method_41_code 139 = .ok (.if_icmp .ge 49, 3) := by decide +kernel
theorem s_Mo_spread_139 {x y : Int32} (kt : y ≤ x → ev G M_Mo_spread R E 188 lv rest h cells slots) (kf : ¬ y ≤ x → ev G M_Mo_spread R E 142 lv rest h cells slots) : ev G M_Mo_spread R E 139 lv (.int y :: .int x :: rest) h cells slots := ev_icmp_ge d_Mo_spread_139 (by decide) kt kf
theorem d_Mo_spread_142 : decode prog_10_method_41_code 142 = .ok (.aload_n 0, 1) := by decide +kernel
theorem s_Mo_spread_142 {x : Nat} (hl : lg lv 0 = some (.ref x)) (k : ev G M_Mo_spread R E 143 lv (.ref x :: rest) h cells slots) : ev G M_Mo_spread R E 142 lv rest h cells slots := ev_aload_n d_Mo_spread_142 rfl hl k
theorem d_Mo_spread_143 : decode prog_10_method_41_code 143 = .ok (.getfield 43, 3) := by decide +kernel
theorem s_Mo_spread_143 {a : Nat} {fs : List Value} {v : Value} (hh : h a = mO 7 fs) (hv : fs[18]? = some v) (k : ev G M_Mo_spread R E 146 lv (v :: rest) h cells slots) : ev G M_Mo_spread R E 143 lv (.ref a :: rest) h cells slots := ev_getfield (ci := 7) (kf := 18) d_Mo_spread_143 rfl ck7 (by decide) w_722 hh hv k
theorem d_Mo_spread_146 : decode prog_10_method_41_code 146 = .ok (.iload 7, 2) := by decide +kernel
theorem s_Mo_spread_146 {x : Int32} (hl : lg lv 7 = some (.int x)) (k : ev G M_Mo_spread R E 148 lv (.int x :: rest) h cells slots) : ev G M_Mo_spread R E 146 lv rest h cells slots := ev_iload d_Mo_spread_146 hl k
theorem d_Mo_spread_148 : decode prog_10_method_41_code 148 = .ok (.iconst 1, 1) := by decide +kernel
theorem s_Mo_spread_148  (k : ev G M_Mo_spread R E 149 lv (.int 1 :: rest) h cells slots) : ev G M_Mo_spread R E 148 lv rest h cells slots := ev_iconst d_Mo_spread_148 (by decide) k
theorem d_Mo_spread_149 : decode prog_10_method_41_code 149 = .ok (.bastore, 1) := by decide +kernel
theorem s_Mo_spread_149 {a n : Nat} {f : Nat → Int32} {i : Int32} {x : Int32} (hh : h a = mI 2 n f) (hin : vp_in i n) (k : ev G M_Mo_spread R E 150 lv rest (va_up h a (mI 2 n (upd f i.toNatClampNeg (vp_nar .boolean x)))) cells slots) : ev G M_Mo_spread R E 149 lv (.int x :: .int i :: .ref a :: rest) h cells slots := ev_zastore d_Mo_spread_149 rfl hh hin k
theorem d_Mo_spread_150 : decode prog_10_method_41_code 150 = .ok (.aload_n 0, 1) := by decide +kernel
theorem s_Mo_spread_150 {x : Nat} (hl : lg lv 0 = some (.ref x)) (k : ev G M_Mo_spread R E 151 lv (.ref x :: rest) h cells slots) : ev G M_Mo_spread R E 150 lv rest h cells slots := ev_aload_n d_Mo_spread_150 rfl hl k
theorem d_Mo_spread_151 : decode prog_10_method_41_code 151 = .ok (.getfield 47, 3) := by decide +kernel
theorem s_Mo_spread_151 {a : Nat} {fs : List Value} {v : Value} (hh : h a = mO 7 fs) (hv : fs[19]? = some v) (k : ev G M_Mo_spread R E 154 lv (v :: rest) h cells slots) : ev G M_Mo_spread R E 151 lv (.ref a :: rest) h cells slots := ev_getfield (ci := 7) (kf := 19) d_Mo_spread_151 rfl ck7 (by decide) w_723 hh hv k
theorem d_Mo_spread_154 : decode prog_10_method_41_code 154 = .ok (.iload 7, 2) := by decide +kernel
theorem s_Mo_spread_154 {x : Int32} (hl : lg lv 7 = some (.int x)) (k : ev G M_Mo_spread R E 156 lv (.int x :: rest) h cells slots) : ev G M_Mo_spread R E 154 lv rest h cells slots := ev_iload d_Mo_spread_154 hl k
theorem d_Mo_spread_156 : decode prog_10_method_41_code 156 = .ok (.aload_n 0, 1) := by decide +kernel
theorem s_Mo_spread_156 {x : Nat} (hl : lg lv 0 = some (.ref x)) (k : ev G M_Mo_spread R E 157 lv (.ref x :: rest) h cells slots) : ev G M_Mo_spread R E 156 lv rest h cells slots := ev_aload_n d_Mo_spread_156 rfl hl k
theorem d_Mo_spread_157 : decode prog_10_method_41_code 157 = .ok (.getfield 47, 3) := by decide +kernel
theorem s_Mo_spread_157 {a : Nat} {fs : List Value} {v : Value} (hh : h a = mO 7 fs) (hv : fs[19]? = some v) (k : ev G M_Mo_spread R E 160 lv (v :: rest) h cells slots) : ev G M_Mo_spread R E 157 lv (.ref a :: rest) h cells slots := ev_getfield (ci := 7) (kf := 19) d_Mo_spread_157 rfl ck7 (by decide) w_723 hh hv k
theorem d_Mo_spread_160 : decode prog_10_method_41_code 160 = .ok (.iload 7, 2) := by decide +kernel
theorem s_Mo_spread_160 {x : Int32} (hl : lg lv 7 = some (.int x)) (k : ev G M_Mo_spread R E 162 lv (.int x :: rest) h cells slots) : ev G M_Mo_spread R E 160 lv rest h cells slots := ev_iload d_Mo_spread_160 hl k
theorem d_Mo_spread_162 : decode prog_10_method_41_code 162 = .ok (.baload, 1) := by decide +kernel
theorem s_Mo_spread_162 {a n : Nat} {f : Nat → Int32} {i : Int32} (hh : h a = mI 2 n f) (hin : vp_in i n) (k : ev G M_Mo_spread R E 163 lv (.int (f i.toNatClampNeg) :: rest) h cells slots) : ev G M_Mo_spread R E 162 lv (.int i :: .ref a :: rest) h cells slots := ev_zaload d_Mo_spread_162 rfl hh hin k
theorem d_Mo_spread_163 : decode prog_10_method_41_code 163 = .ok (.ifCond .ne 13, 3) := by decide +kernel
theorem s_Mo_spread_163 {x : Int32} (kt : ¬ x = 0 → ev G M_Mo_spread R E 176 lv rest h cells slots) (kf : x = 0 → ev G M_Mo_spread R E 166 lv rest h cells slots) : ev G M_Mo_spread R E 163 lv (.int x :: rest) h cells slots := ev_if_ne d_Mo_spread_163 (by decide) kt kf
theorem d_Mo_spread_166 : decode prog_10_method_41_code 166 = .ok (.aload_n 0, 1) := by decide +kernel
theorem s_Mo_spread_166 {x : Nat} (hl : lg lv 0 = some (.ref x)) (k : ev G M_Mo_spread R E 167 lv (.ref x :: rest) h cells slots) : ev G M_Mo_spread R E 166 lv rest h cells slots := ev_aload_n d_Mo_spread_166 rfl hl k
theorem d_Mo_spread_167 : decode prog_10_method_41_code 167 = .ok (.iload 4, 2) := by decide +kernel
theorem s_Mo_spread_167 {x : Int32} (hl : lg lv 4 = some (.int x)) (k : ev G M_Mo_spread R E 169 lv (.int x :: rest) h cells slots) : ev G M_Mo_spread R E 167 lv rest h cells slots := ev_iload d_Mo_spread_167 hl k
theorem d_Mo_spread_169 : decode prog_10_method_41_code 169 = .ok (.iconst 1, 1) := by decide +kernel
theorem s_Mo_spread_169  (k : ev G M_Mo_spread R E 170 lv (.int 1 :: rest) h cells slots) : ev G M_Mo_spread R E 169 lv rest h cells slots := ev_iconst d_Mo_spread_169 (by decide) k
theorem d_Mo_spread_170 : decode prog_10_method_41_code 170 = .ok (.invokevirtual 146, 3) := by decide +kernel
theorem s_Mo_spread_170 {mc ms : Nat} {P : Option Value → HP → Prop} {a0 : Int32} {a1 : Int32} {b : Nat} {fs : List Value} {v0 : Value} (hm : mt G M_Mo_has 1 mc ms (.ref b :: [.int a0, .int a1]) h P) (hb : h b = mO 7 fs) (hv0 : fs[0]? = some v0) (hR : 1 + 1 ≤ R.frames ∧ 8 + (3 + 11) + 39 * 1 ≤ R.locals) (hcs : cells + mc ≤ R.cells ∧ slots + ms ≤ R.slots) (hrest : (rest.map fun v => v.category).sum ≤ 8) (k : ∀ (r : Option Value) (h' : HP), P r h' → ev G M_Mo_spread R E 173 lv (r.toList ++ rest) h' (cells + mc) (slots + ms)) : ev G M_Mo_spread R E 170 lv (.int a1 :: .int a0 :: .ref b :: rest) h cells slots := ev_callV (as := [.int a0, .int a1]) (ci := 7) d_Mo_spread_170 hm hb hv0 rfl w_844 w_846 w_49 w_70 w_847 hy_Mo_has hR hcs hrest k
theorem d_Mo_spread_173 : decode prog_10_method_41_code 173 = .ok (.ifCond .eq 7, 3) := by decide +kernel
theorem s_Mo_spread_173 {x : Int32} (kt : x = 0 → ev G M_Mo_spread R E 180 lv rest h cells slots) (kf : ¬ x = 0 → ev G M_Mo_spread R E 176 lv rest h cells slots) : ev G M_Mo_spread R E 173 lv (.int x :: rest) h cells slots := ev_if_eq d_Mo_spread_173 (by decide) kt kf
theorem d_Mo_spread_176 : decode prog_10_method_41_code 176 = .ok (.iconst 1, 1) := by decide +kernel
theorem s_Mo_spread_176  (k : ev G M_Mo_spread R E 177 lv (.int 1 :: rest) h cells slots) : ev G M_Mo_spread R E 176 lv rest h cells slots := ev_iconst d_Mo_spread_176 (by decide) k
theorem d_Mo_spread_177 : decode prog_10_method_41_code 177 = .ok (.goto 4, 3) := by decide +kernel
theorem s_Mo_spread_177  (k : ev G M_Mo_spread R E 181 lv rest h cells slots) : ev G M_Mo_spread R E 177 lv rest h cells slots := ev_goto d_Mo_spread_177 (by decide) k
theorem d_Mo_spread_180 : decode prog_10_method_41_code 180 = .ok (.iconst 0, 1) := by decide +kernel
theorem s_Mo_spread_180  (k : ev G M_Mo_spread R E 181 lv (.int 0 :: rest) h cells slots) : ev G M_Mo_spread R E 180 lv rest h cells slots := ev_iconst d_Mo_spread_180 (by decide) k
theorem d_Mo_spread_181 : decode prog_10_method_41_code 181 = .ok (.bastore, 1) := by decide +kernel
theorem s_Mo_spread_181 {a n : Nat} {f : Nat → Int32} {i : Int32} {x : Int32} (hh : h a = mI 2 n f) (hin : vp_in i n) (k : ev G M_Mo_spread R E 182 lv rest (va_up h a (mI 2 n (upd f i.toNatClampNeg (vp_nar .boolean x)))) cells slots) : ev G M_Mo_spread R E 181 lv (.int x :: .int i :: .ref a :: rest) h cells slots := ev_zastore d_Mo_spread_181 rfl hh hin k
theorem d_Mo_spread_182 : decode prog_10_method_41_code 182 = .ok (.iinc 7 1, 3) := by decide +kernel
theorem s_Mo_spread_182 {x : Int32} (hl : lg lv 7 = some (.int x)) (k : ev G M_Mo_spread R E 185 (ls1 lv 7 (.int (x + 1))) rest h cells slots) : ev G M_Mo_spread R E 182 lv rest h cells slots := ev_iinc d_Mo_spread_182 (by decide) hl (by decide) k
theorem d_Mo_spread_185 : decode prog_10_method_41_code 185 = .ok (.goto (-60), 3) := by decide +kernel
theorem s_Mo_spread_185  (k : ev G M_Mo_spread R E 125 lv rest h cells slots) : ev G M_Mo_spread R E 185 lv rest h cells slots := ev_goto d_Mo_spread_185 (by decide) k
theorem d_Mo_spread_188 : decode prog_10_method_41_code 188 = .ok (.iinc 4 1, 3) := by decide +kernel
theorem s_Mo_spread_188 {x : Int32} (hl : lg lv 4 = some (.int x)) (k : ev G M_Mo_spread R E 191 (ls1 lv 4 (.int (x + 1))) rest h cells slots) : ev G M_Mo_spread R E 188 lv rest h cells slots := ev_iinc d_Mo_spread_188 (by decide) hl (by decide) k
theorem d_Mo_spread_191 : decode prog_10_method_41_code 191 = .ok (.goto (-141), 3) := by decide +kernel
theorem s_Mo_spread_191  (k : ev G M_Mo_spread R E 50 lv rest h cells slots) : ev G M_Mo_spread R E 191 lv rest h cells slots := ev_goto d_Mo_spread_191 (by decide) k
theorem d_Mo_spread_194 : decode prog_10_method_41_code 194 = .ok (.iconst 0, 1) := by decide +kernel
theorem s_Mo_spread_194  (k : ev G M_Mo_spread R E 195 lv (.int 0 :: rest) h cells slots) : ev G M_Mo_spread R E 194 lv rest h cells slots := ev_iconst d_Mo_spread_194 (by decide) k
theorem d_Mo_spread_195 : decode prog_10_method_41_code 195 = .ok (.istore_n 2, 1) := by decide +kernel
theorem s_Mo_spread_195 {x : Int32} (k : ev G M_Mo_spread R E 196 (ls1 lv 2 (.int x)) rest h cells slots) : ev G M_Mo_spread R E 195 lv (.int x :: rest) h cells slots := ev_istore_n d_Mo_spread_195 rfl (by decide) k
theorem d_Mo_spread_196 : decode prog_10_method_41_code 196 = .ok (.iconst 0, 1) := by decide +kernel
theorem s_Mo_spread_196  (k : ev G M_Mo_spread R E 197 lv (.int 0 :: rest) h cells slots) : ev G M_Mo_spread R E 196 lv rest h cells slots := ev_iconst d_Mo_spread_196 (by decide) k
theorem d_Mo_spread_197 : decode prog_10_method_41_code 197 = .ok (.istore 4, 2) := by decide +kernel
theorem s_Mo_spread_197 {x : Int32} (k : ev G M_Mo_spread R E 199 (ls1 lv 4 (.int x)) rest h cells slots) : ev G M_Mo_spread R E 197 lv (.int x :: rest) h cells slots := ev_istore d_Mo_spread_197 (by decide) k
theorem d_Mo_spread_199 : decode prog_10_method_41_code 199 = .ok (.iload 4, 2) := by decide +kernel
theorem s_Mo_spread_199 {x : Int32} (hl : lg lv 4 = some (.int x)) (k : ev G M_Mo_spread R E 201 lv (.int x :: rest) h cells slots) : ev G M_Mo_spread R E 199 lv rest h cells slots := ev_iload d_Mo_spread_199 hl k
theorem d_Mo_spread_201 : decode prog_10_method_41_code 201 = .ok (.bipush 48, 2) := by decide +kernel
theorem s_Mo_spread_201  (k : ev G M_Mo_spread R E 203 lv (.int 48 :: rest) h cells slots) : ev G M_Mo_spread R E 201 lv rest h cells slots := ev_bipush d_Mo_spread_201 (by decide) k
theorem d_Mo_spread_203 : decode prog_10_method_41_code 203 = .ok (.if_icmp .ge 44, 3) := by decide +kernel
theorem s_Mo_spread_203 {x y : Int32} (kt : y ≤ x → ev G M_Mo_spread R E 247 lv rest h cells slots) (kf : ¬ y ≤ x → ev G M_Mo_spread R E 206 lv rest h cells slots) : ev G M_Mo_spread R E 203 lv (.int y :: .int x :: rest) h cells slots := ev_icmp_ge d_Mo_spread_203 (by decide) kt kf
theorem d_Mo_spread_206 : decode prog_10_method_41_code 206 = .ok (.aload_n 0, 1) := by decide +kernel
theorem s_Mo_spread_206 {x : Nat} (hl : lg lv 0 = some (.ref x)) (k : ev G M_Mo_spread R E 207 lv (.ref x :: rest) h cells slots) : ev G M_Mo_spread R E 206 lv rest h cells slots := ev_aload_n d_Mo_spread_206 rfl hl k
theorem d_Mo_spread_207 : decode prog_10_method_41_code 207 = .ok (.getfield 43, 3) := by decide +kernel
theorem s_Mo_spread_207 {a : Nat} {fs : List Value} {v : Value} (hh : h a = mO 7 fs) (hv : fs[18]? = some v) (k : ev G M_Mo_spread R E 210 lv (v :: rest) h cells slots) : ev G M_Mo_spread R E 207 lv (.ref a :: rest) h cells slots := ev_getfield (ci := 7) (kf := 18) d_Mo_spread_207 rfl ck7 (by decide) w_722 hh hv k
theorem d_Mo_spread_210 : decode prog_10_method_41_code 210 = .ok (.iload 4, 2) := by decide +kernel
theorem s_Mo_spread_210 {x : Int32} (hl : lg lv 4 = some (.int x)) (k : ev G M_Mo_spread R E 212 lv (.int x :: rest) h cells slots) : ev G M_Mo_spread R E 210 lv rest h cells slots := ev_iload d_Mo_spread_210 hl k
theorem d_Mo_spread_212 : decode prog_10_method_41_code 212 = .ok (.baload, 1) := by decide +kernel
theorem s_Mo_spread_212 {a n : Nat} {f : Nat → Int32} {i : Int32} (hh : h a = mI 2 n f) (hin : vp_in i n) (k : ev G M_Mo_spread R E 213 lv (.int (f i.toNatClampNeg) :: rest) h cells slots) : ev G M_Mo_spread R E 212 lv (.int i :: .ref a :: rest) h cells slots := ev_zaload d_Mo_spread_212 rfl hh hin k
theorem d_Mo_spread_213 : decode prog_10_method_41_code 213 = .ok (.ifCond .eq 9, 3) := by decide +kernel
theorem s_Mo_spread_213 {x : Int32} (kt : x = 0 → ev G M_Mo_spread R E 222 lv rest h cells slots) (kf : ¬ x = 0 → ev G M_Mo_spread R E 216 lv rest h cells slots) : ev G M_Mo_spread R E 213 lv (.int x :: rest) h cells slots := ev_if_eq d_Mo_spread_213 (by decide) kt kf
theorem d_Mo_spread_216 : decode prog_10_method_41_code 216 = .ok (.iload_n 2, 1) := by decide +kernel
theorem s_Mo_spread_216 {x : Int32} (hl : lg lv 2 = some (.int x)) (k : ev G M_Mo_spread R E 217 lv (.int x :: rest) h cells slots) : ev G M_Mo_spread R E 216 lv rest h cells slots := ev_iload_n d_Mo_spread_216 rfl hl k
theorem d_Mo_spread_217 : decode prog_10_method_41_code 217 = .ok (.iconst 1, 1) := by decide +kernel
theorem s_Mo_spread_217  (k : ev G M_Mo_spread R E 218 lv (.int 1 :: rest) h cells slots) : ev G M_Mo_spread R E 217 lv rest h cells slots := ev_iconst d_Mo_spread_217 (by decide) k
theorem d_Mo_spread_218 : decode prog_10_method_41_code 218 = .ok (.iadd, 1) := by decide +kernel
theorem s_Mo_spread_218 {x y : Int32} (k : ev G M_Mo_spread R E 219 lv (.int (x + y) :: rest) h cells slots) : ev G M_Mo_spread R E 218 lv (.int y :: .int x :: rest) h cells slots := ev_iadd d_Mo_spread_218 k
theorem d_Mo_spread_219 : decode prog_10_method_41_code 219 = .ok (.goto 4, 3) := by decide +kernel
theorem s_Mo_spread_219  (k : ev G M_Mo_spread R E 223 lv rest h cells slots) : ev G M_Mo_spread R E 219 lv rest h cells slots := ev_goto d_Mo_spread_219 (by decide) k
theorem d_Mo_spread_222 : decode prog_10_method_41_code 222 = .ok (.iload_n 2, 1) := by decide +kernel
theorem s_Mo_spread_222 {x : Int32} (hl : lg lv 2 = some (.int x)) (k : ev G M_Mo_spread R E 223 lv (.int x :: rest) h cells slots) : ev G M_Mo_spread R E 222 lv rest h cells slots := ev_iload_n d_Mo_spread_222 rfl hl k
theorem d_Mo_spread_223 : decode prog_10_method_41_code 223 = .ok (.aload_n 0, 1) := by decide +kernel
theorem s_Mo_spread_223 {x : Nat} (hl : lg lv 0 = some (.ref x)) (k : ev G M_Mo_spread R E 224 lv (.ref x :: rest) h cells slots) : ev G M_Mo_spread R E 223 lv rest h cells slots := ev_aload_n d_Mo_spread_223 rfl hl k
theorem d_Mo_spread_224 : decode prog_10_method_41_code 224 = .ok (.getfield 47, 3) := by decide +kernel
theorem s_Mo_spread_224 {a : Nat} {fs : List Value} {v : Value} (hh : h a = mO 7 fs) (hv : fs[19]? = some v) (k : ev G M_Mo_spread R E 227 lv (v :: rest) h cells slots) : ev G M_Mo_spread R E 224 lv (.ref a :: rest) h cells slots := ev_getfield (ci := 7) (kf := 19) d_Mo_spread_224 rfl ck7 (by decide) w_723 hh hv k
theorem d_Mo_spread_227 : decode prog_10_method_41_code 227 = .ok (.iload 4, 2) := by decide +kernel
theorem s_Mo_spread_227 {x : Int32} (hl : lg lv 4 = some (.int x)) (k : ev G M_Mo_spread R E 229 lv (.int x :: rest) h cells slots) : ev G M_Mo_spread R E 227 lv rest h cells slots := ev_iload d_Mo_spread_227 hl k
theorem d_Mo_spread_229 : decode prog_10_method_41_code 229 = .ok (.baload, 1) := by decide +kernel
theorem s_Mo_spread_229 {a n : Nat} {f : Nat → Int32} {i : Int32} (hh : h a = mI 2 n f) (hin : vp_in i n) (k : ev G M_Mo_spread R E 230 lv (.int (f i.toNatClampNeg) :: rest) h cells slots) : ev G M_Mo_spread R E 229 lv (.int i :: .ref a :: rest) h cells slots := ev_zaload d_Mo_spread_229 rfl hh hin k
theorem d_Mo_spread_230 : decode prog_10_method_41_code 230 = .ok (.ifCond .eq 8, 3) := by decide +kernel
theorem s_Mo_spread_230 {x : Int32} (kt : x = 0 → ev G M_Mo_spread R E 238 lv rest h cells slots) (kf : ¬ x = 0 → ev G M_Mo_spread R E 233 lv rest h cells slots) : ev G M_Mo_spread R E 230 lv (.int x :: rest) h cells slots := ev_if_eq d_Mo_spread_230 (by decide) kt kf
theorem d_Mo_spread_233 : decode prog_10_method_41_code 233 = .ok (.bipush 100, 2) := by decide +kernel
theorem s_Mo_spread_233  (k : ev G M_Mo_spread R E 235 lv (.int 100 :: rest) h cells slots) : ev G M_Mo_spread R E 233 lv rest h cells slots := ev_bipush d_Mo_spread_233 (by decide) k
theorem d_Mo_spread_235 : decode prog_10_method_41_code 235 = .ok (.goto 4, 3) := by decide +kernel
theorem s_Mo_spread_235  (k : ev G M_Mo_spread R E 239 lv rest h cells slots) : ev G M_Mo_spread R E 235 lv rest h cells slots := ev_goto d_Mo_spread_235 (by decide) k
theorem d_Mo_spread_238 : decode prog_10_method_41_code 238 = .ok (.iconst 0, 1) := by decide +kernel
theorem s_Mo_spread_238  (k : ev G M_Mo_spread R E 239 lv (.int 0 :: rest) h cells slots) : ev G M_Mo_spread R E 238 lv rest h cells slots := ev_iconst d_Mo_spread_238 (by decide) k
theorem d_Mo_spread_239 : decode prog_10_method_41_code 239 = .ok (.iadd, 1) := by decide +kernel
theorem s_Mo_spread_239 {x y : Int32} (k : ev G M_Mo_spread R E 240 lv (.int (x + y) :: rest) h cells slots) : ev G M_Mo_spread R E 239 lv (.int y :: .int x :: rest) h cells slots := ev_iadd d_Mo_spread_239 k
theorem d_Mo_spread_240 : decode prog_10_method_41_code 240 = .ok (.istore_n 2, 1) := by decide +kernel
theorem s_Mo_spread_240 {x : Int32} (k : ev G M_Mo_spread R E 241 (ls1 lv 2 (.int x)) rest h cells slots) : ev G M_Mo_spread R E 240 lv (.int x :: rest) h cells slots := ev_istore_n d_Mo_spread_240 rfl (by decide) k
theorem d_Mo_spread_241 : decode prog_10_method_41_code 241 = .ok (.iinc 4 1, 3) := by decide +kernel
theorem s_Mo_spread_241 {x : Int32} (hl : lg lv 4 = some (.int x)) (k : ev G M_Mo_spread R E 244 (ls1 lv 4 (.int (x + 1))) rest h cells slots) : ev G M_Mo_spread R E 241 lv rest h cells slots := ev_iinc d_Mo_spread_241 (by decide) hl (by decide) k
theorem d_Mo_spread_244 : decode prog_10_method_41_code 244 = .ok (.goto (-45), 3) := by decide +kernel
theorem s_Mo_spread_244  (k : ev G M_Mo_spread R E 199 lv rest h cells slots) : ev G M_Mo_spread R E 244 lv rest h cells slots := ev_goto d_Mo_spread_244 (by decide) k
theorem d_Mo_spread_247 : decode prog_10_method_41_code 247 = .ok (.iinc 3 1, 3) := by decide +kernel
theorem s_Mo_spread_247 {x : Int32} (hl : lg lv 3 = some (.int x)) (k : ev G M_Mo_spread R E 250 (ls1 lv 3 (.int (x + 1))) rest h cells slots) : ev G M_Mo_spread R E 247 lv rest h cells slots := ev_iinc d_Mo_spread_247 (by decide) hl (by decide) k
theorem d_Mo_spread_250 : decode prog_10_method_41_code 250 = .ok (.goto (-216), 3) := by decide +kernel
theorem s_Mo_spread_250  (k : ev G M_Mo_spread R E 34 lv rest h cells slots) : ev G M_Mo_spread R E 250 lv rest h cells slots := ev_goto d_Mo_spread_250 (by decide) k
theorem d_Mo_spread_253 : decode prog_10_method_41_code 253 = .ok (.iload_n 2, 1) := by decide +kernel
theorem s_Mo_spread_253 {x : Int32} (hl : lg lv 2 = some (.int x)) (k : ev G M_Mo_spread R E 254 lv (.int x :: rest) h cells slots) : ev G M_Mo_spread R E 253 lv rest h cells slots := ev_iload_n d_Mo_spread_253 rfl hl k
theorem d_Mo_spread_254 : decode prog_10_method_41_code 254 = .ok (.bipush 100, 2) := by decide +kernel
theorem s_Mo_spread_254  (k : ev G M_Mo_spread R E 256 lv (.int 100 :: rest) h cells slots) : ev G M_Mo_spread R E 254 lv rest h cells slots := ev_bipush d_Mo_spread_254 (by decide) k
theorem d_Mo_spread_256 : decode prog_10_method_41_code 256 = .ok (.irem, 1) := by decide +kernel
theorem s_Mo_spread_256 {x y : Int32} (hne : ¬ y = 0) (k : ev G M_Mo_spread R E 257 lv (.int (x - x / y * y) :: rest) h cells slots) : ev G M_Mo_spread R E 256 lv (.int y :: .int x :: rest) h cells slots := ev_irem d_Mo_spread_256 hne k
theorem d_Mo_spread_257 : decode prog_10_method_41_code 257 = .ok (.ireturn, 1) := by decide +kernel
theorem s_Mo_spread_257 {P : Option Value → HP → Prop} {mc ms : Nat} {v : Int32} (hP : P (some (.int v)) h) (hc : cells ≤ mc ∧ slots ≤ ms) : ev G M_Mo_spread R (Er M_Mo_spread P mc ms) 257 lv [.int v] h cells slots := ev_exit ⟨hc.1, hc.2, Or.inr (Or.inl ⟨v, .int, rfl, rfl, d_Mo_spread_257, rfl, hP⟩)⟩
abbrev M_Mo_reach : MW := (⟨"UseOnceMachineModel", "reach", "()I"⟩, prog_10_method_42_code, 1, (some .int))
theorem hy_Mo_reach : M_Mo_reach.1.cls ≠ "java/lang/invoke/MethodHandle" ∧ M_Mo_reach.1.cls ≠ "java/lang/invoke/VarHandle" ∧ (parseMethodDescriptor M_Mo_reach.1.desc).map (fun d => d.parameters.length) = some 0 := by decide +kernel
theorem d_Mo_reach_0 : decode prog_10_method_42_code 0 = .ok (.aload_n 0, 1) := by decide +kernel
theorem s_Mo_reach_0 {x : Nat} (hl : lg lv 0 = some (.ref x)) (k : ev G M_Mo_reach R E 1 lv (.ref x :: rest) h cells slots) : ev G M_Mo_reach R E 0 lv rest h cells slots := ev_aload_n d_Mo_reach_0 rfl hl k
theorem d_Mo_reach_1 : decode prog_10_method_42_code 1 = .ok (.invokevirtual 172, 3) := by decide +kernel
theorem s_Mo_reach_1 {mc ms : Nat} {P : Option Value → HP → Prop}  {b : Nat} {fs : List Value} {v0 : Value} (hm : mt G M_Mo_spread 2 mc ms (.ref b :: []) h P) (hb : h b = mO 7 fs) (hv0 : fs[0]? = some v0) (hR : 2 + 1 ≤ R.frames ∧ 8 + (8 + 11) + 39 * 2 ≤ R.locals) (hcs : cells + mc ≤ R.cells ∧ slots + ms ≤ R.slots) (hrest : (rest.map fun v => v.category).sum ≤ 8) (k : ∀ (r : Option Value) (h' : HP), P r h' → ev G M_Mo_reach R E 4 lv (r.toList ++ rest) h' (cells + mc) (slots + ms)) : ev G M_Mo_reach R E 1 lv (.ref b :: rest) h cells slots := ev_callV (as := []) (ci := 7) d_Mo_reach_1 hm hb hv0 rfl w_924 w_926 w_61 w_70 w_927 hy_Mo_spread hR hcs hrest k
theorem d_Mo_reach_4 : decode prog_10_method_42_code 4 = .ok (.ireturn, 1) := by decide +kernel
theorem s_Mo_reach_4 {P : Option Value → HP → Prop} {mc ms : Nat} {v : Int32} (hP : P (some (.int v)) h) (hc : cells ≤ mc ∧ slots ≤ ms) : ev G M_Mo_reach R (Er M_Mo_reach P mc ms) 4 lv [.int v] h cells slots := ev_exit ⟨hc.1, hc.2, Or.inr (Or.inl ⟨v, .int, rfl, rfl, d_Mo_reach_4, rfl, hP⟩)⟩
abbrev M_Mo_reaches : MW := (⟨"UseOnceMachineModel", "reaches", "(I)Z"⟩, prog_10_method_43_code, 2, (some .boolean))
theorem hy_Mo_reaches : M_Mo_reaches.1.cls ≠ "java/lang/invoke/MethodHandle" ∧ M_Mo_reaches.1.cls ≠ "java/lang/invoke/VarHandle" ∧ (parseMethodDescriptor M_Mo_reaches.1.desc).map (fun d => d.parameters.length) = some 1 := by decide +kernel
theorem d_Mo_reaches_0 : decode prog_10_method_43_code 0 = .ok (.iload_n 1, 1) := by decide +kernel
theorem s_Mo_reaches_0 {x : Int32} (hl : lg lv 1 = some (.int x)) (k : ev G M_Mo_reaches R E 1 lv (.int x :: rest) h cells slots) : ev G M_Mo_reaches R E 0 lv rest h cells slots := ev_iload_n d_Mo_reaches_0 rfl hl k
theorem d_Mo_reaches_1 : decode prog_10_method_43_code 1 = .ok (.iconst 0, 1) := by decide +kernel
theorem s_Mo_reaches_1  (k : ev G M_Mo_reaches R E 2 lv (.int 0 :: rest) h cells slots) : ev G M_Mo_reaches R E 1 lv rest h cells slots := ev_iconst d_Mo_reaches_1 (by decide) k
theorem d_Mo_reaches_2 : decode prog_10_method_43_code 2 = .ok (.bipush 47, 2) := by decide +kernel
theorem s_Mo_reaches_2  (k : ev G M_Mo_reaches R E 4 lv (.int 47 :: rest) h cells slots) : ev G M_Mo_reaches R E 2 lv rest h cells slots := ev_bipush d_Mo_reaches_2 (by decide) k
theorem d_Mo_reaches_4 : decode prog_10_method_43_code 4 = .ok (.invokestatic 50, 3) := by decide +kernel
theorem s_Mo_reaches_4 {mc ms : Nat} {P : Option Value → HP → Prop} {a0 : Int32} {a1 : Int32} {a2 : Int32} (hm : mt G M_Mo_in 0 mc ms [.int a0, .int a1, .int a2] h P) (hR : 0 + 1 ≤ R.frames ∧ 8 + (3 + 11) + 39 * 0 ≤ R.locals) (hcs : cells + mc ≤ R.cells ∧ slots + ms ≤ R.slots) (hrest : (rest.map fun v => v.category).sum ≤ 8) (k : ∀ (r : Option Value) (h' : HP), P r h' → ev G M_Mo_reaches R E 7 lv (r.toList ++ rest) h' (cells + mc) (slots + ms)) : ev G M_Mo_reaches R E 4 lv (.int a2 :: .int a1 :: .int a0 :: rest) h cells slots := ev_callS (as := [.int a0, .int a1, .int a2]) d_Mo_reaches_4 hm w_769 w_770 w_70 w_771 hy_Mo_in hR hcs hrest k
theorem d_Mo_reaches_7 : decode prog_10_method_43_code 7 = .ok (.ifCond .eq 23, 3) := by decide +kernel
theorem s_Mo_reaches_7 {x : Int32} (kt : x = 0 → ev G M_Mo_reaches R E 30 lv rest h cells slots) (kf : ¬ x = 0 → ev G M_Mo_reaches R E 10 lv rest h cells slots) : ev G M_Mo_reaches R E 7 lv (.int x :: rest) h cells slots := ev_if_eq d_Mo_reaches_7 (by decide) kt kf
theorem d_Mo_reaches_10 : decode prog_10_method_43_code 10 = .ok (.aload_n 0, 1) := by decide +kernel
theorem s_Mo_reaches_10 {x : Nat} (hl : lg lv 0 = some (.ref x)) (k : ev G M_Mo_reaches R E 11 lv (.ref x :: rest) h cells slots) : ev G M_Mo_reaches R E 10 lv rest h cells slots := ev_aload_n d_Mo_reaches_10 rfl hl k
theorem d_Mo_reaches_11 : decode prog_10_method_43_code 11 = .ok (.invokevirtual 172, 3) := by decide +kernel
theorem s_Mo_reaches_11 {mc ms : Nat} {P : Option Value → HP → Prop}  {b : Nat} {fs : List Value} {v0 : Value} (hm : mt G M_Mo_spread 2 mc ms (.ref b :: []) h P) (hb : h b = mO 7 fs) (hv0 : fs[0]? = some v0) (hR : 2 + 1 ≤ R.frames ∧ 8 + (8 + 11) + 39 * 2 ≤ R.locals) (hcs : cells + mc ≤ R.cells ∧ slots + ms ≤ R.slots) (hrest : (rest.map fun v => v.category).sum ≤ 8) (k : ∀ (r : Option Value) (h' : HP), P r h' → ev G M_Mo_reaches R E 14 lv (r.toList ++ rest) h' (cells + mc) (slots + ms)) : ev G M_Mo_reaches R E 11 lv (.ref b :: rest) h cells slots := ev_callV (as := []) (ci := 7) d_Mo_reaches_11 hm hb hv0 rfl w_924 w_926 w_61 w_70 w_927 hy_Mo_spread hR hcs hrest k
theorem d_Mo_reaches_14 : decode prog_10_method_43_code 14 = .ok (.ifCond .lt 16, 3) := by decide +kernel
theorem s_Mo_reaches_14 {x : Int32} (kt : x < 0 → ev G M_Mo_reaches R E 30 lv rest h cells slots) (kf : ¬ x < 0 → ev G M_Mo_reaches R E 17 lv rest h cells slots) : ev G M_Mo_reaches R E 14 lv (.int x :: rest) h cells slots := ev_if_lt d_Mo_reaches_14 (by decide) kt kf
theorem d_Mo_reaches_17 : decode prog_10_method_43_code 17 = .ok (.aload_n 0, 1) := by decide +kernel
theorem s_Mo_reaches_17 {x : Nat} (hl : lg lv 0 = some (.ref x)) (k : ev G M_Mo_reaches R E 18 lv (.ref x :: rest) h cells slots) : ev G M_Mo_reaches R E 17 lv rest h cells slots := ev_aload_n d_Mo_reaches_17 rfl hl k
theorem d_Mo_reaches_18 : decode prog_10_method_43_code 18 = .ok (.getfield 43, 3) := by decide +kernel
theorem s_Mo_reaches_18 {a : Nat} {fs : List Value} {v : Value} (hh : h a = mO 7 fs) (hv : fs[18]? = some v) (k : ev G M_Mo_reaches R E 21 lv (v :: rest) h cells slots) : ev G M_Mo_reaches R E 18 lv (.ref a :: rest) h cells slots := ev_getfield (ci := 7) (kf := 18) d_Mo_reaches_18 rfl ck7 (by decide) w_722 hh hv k
theorem d_Mo_reaches_21 : decode prog_10_method_43_code 21 = .ok (.iload_n 1, 1) := by decide +kernel
theorem s_Mo_reaches_21 {x : Int32} (hl : lg lv 1 = some (.int x)) (k : ev G M_Mo_reaches R E 22 lv (.int x :: rest) h cells slots) : ev G M_Mo_reaches R E 21 lv rest h cells slots := ev_iload_n d_Mo_reaches_21 rfl hl k
theorem d_Mo_reaches_22 : decode prog_10_method_43_code 22 = .ok (.baload, 1) := by decide +kernel
theorem s_Mo_reaches_22 {a n : Nat} {f : Nat → Int32} {i : Int32} (hh : h a = mI 2 n f) (hin : vp_in i n) (k : ev G M_Mo_reaches R E 23 lv (.int (f i.toNatClampNeg) :: rest) h cells slots) : ev G M_Mo_reaches R E 22 lv (.int i :: .ref a :: rest) h cells slots := ev_zaload d_Mo_reaches_22 rfl hh hin k
theorem d_Mo_reaches_23 : decode prog_10_method_43_code 23 = .ok (.ifCond .eq 7, 3) := by decide +kernel
theorem s_Mo_reaches_23 {x : Int32} (kt : x = 0 → ev G M_Mo_reaches R E 30 lv rest h cells slots) (kf : ¬ x = 0 → ev G M_Mo_reaches R E 26 lv rest h cells slots) : ev G M_Mo_reaches R E 23 lv (.int x :: rest) h cells slots := ev_if_eq d_Mo_reaches_23 (by decide) kt kf
theorem d_Mo_reaches_26 : decode prog_10_method_43_code 26 = .ok (.iconst 1, 1) := by decide +kernel
theorem s_Mo_reaches_26  (k : ev G M_Mo_reaches R E 27 lv (.int 1 :: rest) h cells slots) : ev G M_Mo_reaches R E 26 lv rest h cells slots := ev_iconst d_Mo_reaches_26 (by decide) k
theorem d_Mo_reaches_27 : decode prog_10_method_43_code 27 = .ok (.goto 4, 3) := by decide +kernel
theorem s_Mo_reaches_27  (k : ev G M_Mo_reaches R E 31 lv rest h cells slots) : ev G M_Mo_reaches R E 27 lv rest h cells slots := ev_goto d_Mo_reaches_27 (by decide) k
theorem d_Mo_reaches_30 : decode prog_10_method_43_code 30 = .ok (.iconst 0, 1) := by decide +kernel
theorem s_Mo_reaches_30  (k : ev G M_Mo_reaches R E 31 lv (.int 0 :: rest) h cells slots) : ev G M_Mo_reaches R E 30 lv rest h cells slots := ev_iconst d_Mo_reaches_30 (by decide) k
theorem d_Mo_reaches_31 : decode prog_10_method_43_code 31 = .ok (.ireturn, 1) := by decide +kernel
theorem s_Mo_reaches_31 {P : Option Value → HP → Prop} {mc ms : Nat} {v : Int32} (hz : v = 0 ∨ v = 1) (hP : P (some (.int v)) h) (hc : cells ≤ mc ∧ slots ≤ ms) : ev G M_Mo_reaches R (Er M_Mo_reaches P mc ms) 31 lv [.int v] h cells slots := ev_exit ⟨hc.1, hc.2, Or.inr (Or.inl ⟨v, .boolean, rfl, (nar_z hz), d_Mo_reaches_31, rfl, hP⟩)⟩
abbrev M_Mo_conserve : MW := (⟨"UseOnceMachineModel", "conserve", "()I"⟩, prog_10_method_44_code, 5, (some .int))
theorem hy_Mo_conserve : M_Mo_conserve.1.cls ≠ "java/lang/invoke/MethodHandle" ∧ M_Mo_conserve.1.cls ≠ "java/lang/invoke/VarHandle" ∧ (parseMethodDescriptor M_Mo_conserve.1.desc).map (fun d => d.parameters.length) = some 0 := by decide +kernel
theorem d_Mo_conserve_0 : decode prog_10_method_44_code 0 = .ok (.iconst 0, 1) := by decide +kernel
theorem s_Mo_conserve_0  (k : ev G M_Mo_conserve R E 1 lv (.int 0 :: rest) h cells slots) : ev G M_Mo_conserve R E 0 lv rest h cells slots := ev_iconst d_Mo_conserve_0 (by decide) k
theorem d_Mo_conserve_1 : decode prog_10_method_44_code 1 = .ok (.istore_n 1, 1) := by decide +kernel
theorem s_Mo_conserve_1 {x : Int32} (k : ev G M_Mo_conserve R E 2 (ls1 lv 1 (.int x)) rest h cells slots) : ev G M_Mo_conserve R E 1 lv (.int x :: rest) h cells slots := ev_istore_n d_Mo_conserve_1 rfl (by decide) k
theorem d_Mo_conserve_2 : decode prog_10_method_44_code 2 = .ok (.iload_n 1, 1) := by decide +kernel
theorem s_Mo_conserve_2 {x : Int32} (hl : lg lv 1 = some (.int x)) (k : ev G M_Mo_conserve R E 3 lv (.int x :: rest) h cells slots) : ev G M_Mo_conserve R E 2 lv rest h cells slots := ev_iload_n d_Mo_conserve_2 rfl hl k
theorem d_Mo_conserve_3 : decode prog_10_method_44_code 3 = .ok (.bipush 48, 2) := by decide +kernel
theorem s_Mo_conserve_3  (k : ev G M_Mo_conserve R E 5 lv (.int 48 :: rest) h cells slots) : ev G M_Mo_conserve R E 3 lv rest h cells slots := ev_bipush d_Mo_conserve_3 (by decide) k
theorem d_Mo_conserve_5 : decode prog_10_method_44_code 5 = .ok (.if_icmp .ge 112, 3) := by decide +kernel
theorem s_Mo_conserve_5 {x y : Int32} (kt : y ≤ x → ev G M_Mo_conserve R E 117 lv rest h cells slots) (kf : ¬ y ≤ x → ev G M_Mo_conserve R E 8 lv rest h cells slots) : ev G M_Mo_conserve R E 5 lv (.int y :: .int x :: rest) h cells slots := ev_icmp_ge d_Mo_conserve_5 (by decide) kt kf
theorem d_Mo_conserve_8 : decode prog_10_method_44_code 8 = .ok (.aload_n 0, 1) := by decide +kernel
theorem s_Mo_conserve_8 {x : Nat} (hl : lg lv 0 = some (.ref x)) (k : ev G M_Mo_conserve R E 9 lv (.ref x :: rest) h cells slots) : ev G M_Mo_conserve R E 8 lv rest h cells slots := ev_aload_n d_Mo_conserve_8 rfl hl k
theorem d_Mo_conserve_9 : decode prog_10_method_44_code 9 = .ok (.getfield 54, 3) := by decide +kernel
theorem s_Mo_conserve_9 {a : Nat} {fs : List Value} {v : Value} (hh : h a = mO 7 fs) (hv : fs[0]? = some v) (k : ev G M_Mo_conserve R E 12 lv (v :: rest) h cells slots) : ev G M_Mo_conserve R E 9 lv (.ref a :: rest) h cells slots := ev_getfield (ci := 7) (kf := 0) d_Mo_conserve_9 rfl ck7 (by decide) w_704 hh hv k
theorem d_Mo_conserve_12 : decode prog_10_method_44_code 12 = .ok (.ifCond .eq 105, 3) := by decide +kernel
theorem s_Mo_conserve_12 {x : Int32} (kt : x = 0 → ev G M_Mo_conserve R E 117 lv rest h cells slots) (kf : ¬ x = 0 → ev G M_Mo_conserve R E 15 lv rest h cells slots) : ev G M_Mo_conserve R E 12 lv (.int x :: rest) h cells slots := ev_if_eq d_Mo_conserve_12 (by decide) kt kf
theorem d_Mo_conserve_15 : decode prog_10_method_44_code 15 = .ok (.iconst 1, 1) := by decide +kernel
theorem s_Mo_conserve_15  (k : ev G M_Mo_conserve R E 16 lv (.int 1 :: rest) h cells slots) : ev G M_Mo_conserve R E 15 lv rest h cells slots := ev_iconst d_Mo_conserve_15 (by decide) k
theorem d_Mo_conserve_16 : decode prog_10_method_44_code 16 = .ok (.istore_n 2, 1) := by decide +kernel
theorem s_Mo_conserve_16 {x : Int32} (k : ev G M_Mo_conserve R E 17 (ls1 lv 2 (.int x)) rest h cells slots) : ev G M_Mo_conserve R E 16 lv (.int x :: rest) h cells slots := ev_istore_n d_Mo_conserve_16 rfl (by decide) k
theorem d_Mo_conserve_17 : decode prog_10_method_44_code 17 = .ok (.iload_n 2, 1) := by decide +kernel
theorem s_Mo_conserve_17 {x : Int32} (hl : lg lv 2 = some (.int x)) (k : ev G M_Mo_conserve R E 18 lv (.int x :: rest) h cells slots) : ev G M_Mo_conserve R E 17 lv rest h cells slots := ev_iload_n d_Mo_conserve_17 rfl hl k
theorem d_Mo_conserve_18 : decode prog_10_method_44_code 18 = .ok (.bipush 16, 2) := by decide +kernel
theorem s_Mo_conserve_18  (k : ev G M_Mo_conserve R E 20 lv (.int 16 :: rest) h cells slots) : ev G M_Mo_conserve R E 18 lv rest h cells slots := ev_bipush d_Mo_conserve_18 (by decide) k
theorem d_Mo_conserve_20 : decode prog_10_method_44_code 20 = .ok (.if_icmp .ge 91, 3) := by decide +kernel
theorem s_Mo_conserve_20 {x y : Int32} (kt : y ≤ x → ev G M_Mo_conserve R E 111 lv rest h cells slots) (kf : ¬ y ≤ x → ev G M_Mo_conserve R E 23 lv rest h cells slots) : ev G M_Mo_conserve R E 20 lv (.int y :: .int x :: rest) h cells slots := ev_icmp_ge d_Mo_conserve_20 (by decide) kt kf
theorem d_Mo_conserve_23 : decode prog_10_method_44_code 23 = .ok (.iconst 0, 1) := by decide +kernel
theorem s_Mo_conserve_23  (k : ev G M_Mo_conserve R E 24 lv (.int 0 :: rest) h cells slots) : ev G M_Mo_conserve R E 23 lv rest h cells slots := ev_iconst d_Mo_conserve_23 (by decide) k
theorem d_Mo_conserve_24 : decode prog_10_method_44_code 24 = .ok (.istore_n 3, 1) := by decide +kernel
theorem s_Mo_conserve_24 {x : Int32} (k : ev G M_Mo_conserve R E 25 (ls1 lv 3 (.int x)) rest h cells slots) : ev G M_Mo_conserve R E 24 lv (.int x :: rest) h cells slots := ev_istore_n d_Mo_conserve_24 rfl (by decide) k
theorem d_Mo_conserve_25 : decode prog_10_method_44_code 25 = .ok (.iconst 0, 1) := by decide +kernel
theorem s_Mo_conserve_25  (k : ev G M_Mo_conserve R E 26 lv (.int 0 :: rest) h cells slots) : ev G M_Mo_conserve R E 25 lv rest h cells slots := ev_iconst d_Mo_conserve_25 (by decide) k
theorem d_Mo_conserve_26 : decode prog_10_method_44_code 26 = .ok (.istore 4, 2) := by decide +kernel
theorem s_Mo_conserve_26 {x : Int32} (k : ev G M_Mo_conserve R E 28 (ls1 lv 4 (.int x)) rest h cells slots) : ev G M_Mo_conserve R E 26 lv (.int x :: rest) h cells slots := ev_istore d_Mo_conserve_26 (by decide) k
theorem d_Mo_conserve_28 : decode prog_10_method_44_code 28 = .ok (.iload 4, 2) := by decide +kernel
theorem s_Mo_conserve_28 {x : Int32} (hl : lg lv 4 = some (.int x)) (k : ev G M_Mo_conserve R E 30 lv (.int x :: rest) h cells slots) : ev G M_Mo_conserve R E 28 lv rest h cells slots := ev_iload d_Mo_conserve_28 hl k
theorem d_Mo_conserve_30 : decode prog_10_method_44_code 30 = .ok (.bipush 102, 2) := by decide +kernel
theorem s_Mo_conserve_30  (k : ev G M_Mo_conserve R E 32 lv (.int 102 :: rest) h cells slots) : ev G M_Mo_conserve R E 30 lv rest h cells slots := ev_bipush d_Mo_conserve_30 (by decide) k
theorem d_Mo_conserve_32 : decode prog_10_method_44_code 32 = .ok (.if_icmp .ge 28, 3) := by decide +kernel
theorem s_Mo_conserve_32 {x y : Int32} (kt : y ≤ x → ev G M_Mo_conserve R E 60 lv rest h cells slots) (kf : ¬ y ≤ x → ev G M_Mo_conserve R E 35 lv rest h cells slots) : ev G M_Mo_conserve R E 32 lv (.int y :: .int x :: rest) h cells slots := ev_icmp_ge d_Mo_conserve_32 (by decide) kt kf
theorem d_Mo_conserve_35 : decode prog_10_method_44_code 35 = .ok (.aload_n 0, 1) := by decide +kernel
theorem s_Mo_conserve_35 {x : Nat} (hl : lg lv 0 = some (.ref x)) (k : ev G M_Mo_conserve R E 36 lv (.ref x :: rest) h cells slots) : ev G M_Mo_conserve R E 35 lv rest h cells slots := ev_aload_n d_Mo_conserve_35 rfl hl k
theorem d_Mo_conserve_36 : decode prog_10_method_44_code 36 = .ok (.iload 4, 2) := by decide +kernel
theorem s_Mo_conserve_36 {x : Int32} (hl : lg lv 4 = some (.int x)) (k : ev G M_Mo_conserve R E 38 lv (.int x :: rest) h cells slots) : ev G M_Mo_conserve R E 36 lv rest h cells slots := ev_iload d_Mo_conserve_36 hl k
theorem d_Mo_conserve_38 : decode prog_10_method_44_code 38 = .ok (.iload_n 1, 1) := by decide +kernel
theorem s_Mo_conserve_38 {x : Int32} (hl : lg lv 1 = some (.int x)) (k : ev G M_Mo_conserve R E 39 lv (.int x :: rest) h cells slots) : ev G M_Mo_conserve R E 38 lv rest h cells slots := ev_iload_n d_Mo_conserve_38 rfl hl k
theorem d_Mo_conserve_39 : decode prog_10_method_44_code 39 = .ok (.iload_n 2, 1) := by decide +kernel
theorem s_Mo_conserve_39 {x : Int32} (hl : lg lv 2 = some (.int x)) (k : ev G M_Mo_conserve R E 40 lv (.int x :: rest) h cells slots) : ev G M_Mo_conserve R E 39 lv rest h cells slots := ev_iload_n d_Mo_conserve_39 rfl hl k
theorem d_Mo_conserve_40 : decode prog_10_method_44_code 40 = .ok (.invokevirtual 166, 3) := by decide +kernel
theorem s_Mo_conserve_40 {mc ms : Nat} {P : Option Value → HP → Prop} {a0 : Int32} {a1 : Int32} {a2 : Int32} {b : Nat} {fs : List Value} {v0 : Value} (hm : mt G M_Mo_owns 2 mc ms (.ref b :: [.int a0, .int a1, .int a2]) h P) (hb : h b = mO 7 fs) (hv0 : fs[0]? = some v0) (hR : 2 + 1 ≤ R.frames ∧ 8 + (4 + 11) + 39 * 2 ≤ R.locals) (hcs : cells + mc ≤ R.cells ∧ slots + ms ≤ R.slots) (hrest : (rest.map fun v => v.category).sum ≤ 8) (k : ∀ (r : Option Value) (h' : HP), P r h' → ev G M_Mo_conserve R E 43 lv (r.toList ++ rest) h' (cells + mc) (slots + ms)) : ev G M_Mo_conserve R E 40 lv (.int a2 :: .int a1 :: .int a0 :: .ref b :: rest) h cells slots := ev_callV (as := [.int a0, .int a1, .int a2]) (ci := 7) d_Mo_conserve_40 hm hb hv0 rfl w_904 w_906 w_59 w_70 w_907 hy_Mo_owns hR hcs hrest k
theorem d_Mo_conserve_43 : decode prog_10_method_44_code 43 = .ok (.ifCond .eq 9, 3) := by decide +kernel
theorem s_Mo_conserve_43 {x : Int32} (kt : x = 0 → ev G M_Mo_conserve R E 52 lv rest h cells slots) (kf : ¬ x = 0 → ev G M_Mo_conserve R E 46 lv rest h cells slots) : ev G M_Mo_conserve R E 43 lv (.int x :: rest) h cells slots := ev_if_eq d_Mo_conserve_43 (by decide) kt kf
theorem d_Mo_conserve_46 : decode prog_10_method_44_code 46 = .ok (.iload_n 3, 1) := by decide +kernel
theorem s_Mo_conserve_46 {x : Int32} (hl : lg lv 3 = some (.int x)) (k : ev G M_Mo_conserve R E 47 lv (.int x :: rest) h cells slots) : ev G M_Mo_conserve R E 46 lv rest h cells slots := ev_iload_n d_Mo_conserve_46 rfl hl k
theorem d_Mo_conserve_47 : decode prog_10_method_44_code 47 = .ok (.iconst 1, 1) := by decide +kernel
theorem s_Mo_conserve_47  (k : ev G M_Mo_conserve R E 48 lv (.int 1 :: rest) h cells slots) : ev G M_Mo_conserve R E 47 lv rest h cells slots := ev_iconst d_Mo_conserve_47 (by decide) k
theorem d_Mo_conserve_48 : decode prog_10_method_44_code 48 = .ok (.iadd, 1) := by decide +kernel
theorem s_Mo_conserve_48 {x y : Int32} (k : ev G M_Mo_conserve R E 49 lv (.int (x + y) :: rest) h cells slots) : ev G M_Mo_conserve R E 48 lv (.int y :: .int x :: rest) h cells slots := ev_iadd d_Mo_conserve_48 k
theorem d_Mo_conserve_49 : decode prog_10_method_44_code 49 = .ok (.goto 4, 3) := by decide +kernel
theorem s_Mo_conserve_49  (k : ev G M_Mo_conserve R E 53 lv rest h cells slots) : ev G M_Mo_conserve R E 49 lv rest h cells slots := ev_goto d_Mo_conserve_49 (by decide) k
theorem d_Mo_conserve_52 : decode prog_10_method_44_code 52 = .ok (.iload_n 3, 1) := by decide +kernel
theorem s_Mo_conserve_52 {x : Int32} (hl : lg lv 3 = some (.int x)) (k : ev G M_Mo_conserve R E 53 lv (.int x :: rest) h cells slots) : ev G M_Mo_conserve R E 52 lv rest h cells slots := ev_iload_n d_Mo_conserve_52 rfl hl k
theorem d_Mo_conserve_53 : decode prog_10_method_44_code 53 = .ok (.istore_n 3, 1) := by decide +kernel
theorem s_Mo_conserve_53 {x : Int32} (k : ev G M_Mo_conserve R E 54 (ls1 lv 3 (.int x)) rest h cells slots) : ev G M_Mo_conserve R E 53 lv (.int x :: rest) h cells slots := ev_istore_n d_Mo_conserve_53 rfl (by decide) k
theorem d_Mo_conserve_54 : decode prog_10_method_44_code 54 = .ok (.iinc 4 1, 3) := by decide +kernel
theorem s_Mo_conserve_54 {x : Int32} (hl : lg lv 4 = some (.int x)) (k : ev G M_Mo_conserve R E 57 (ls1 lv 4 (.int (x + 1))) rest h cells slots) : ev G M_Mo_conserve R E 54 lv rest h cells slots := ev_iinc d_Mo_conserve_54 (by decide) hl (by decide) k
theorem d_Mo_conserve_57 : decode prog_10_method_44_code 57 = .ok (.goto (-29), 3) := by decide +kernel
theorem s_Mo_conserve_57  (k : ev G M_Mo_conserve R E 28 lv rest h cells slots) : ev G M_Mo_conserve R E 57 lv rest h cells slots := ev_goto d_Mo_conserve_57 (by decide) k
theorem d_Mo_conserve_60 : decode prog_10_method_44_code 60 = .ok (.iconst 0, 1) := by decide +kernel
theorem s_Mo_conserve_60  (k : ev G M_Mo_conserve R E 61 lv (.int 0 :: rest) h cells slots) : ev G M_Mo_conserve R E 60 lv rest h cells slots := ev_iconst d_Mo_conserve_60 (by decide) k
theorem d_Mo_conserve_61 : decode prog_10_method_44_code 61 = .ok (.istore 4, 2) := by decide +kernel
theorem s_Mo_conserve_61 {x : Int32} (k : ev G M_Mo_conserve R E 63 (ls1 lv 4 (.int x)) rest h cells slots) : ev G M_Mo_conserve R E 61 lv (.int x :: rest) h cells slots := ev_istore d_Mo_conserve_61 (by decide) k
theorem d_Mo_conserve_63 : decode prog_10_method_44_code 63 = .ok (.iload 4, 2) := by decide +kernel
theorem s_Mo_conserve_63 {x : Int32} (hl : lg lv 4 = some (.int x)) (k : ev G M_Mo_conserve R E 65 lv (.int x :: rest) h cells slots) : ev G M_Mo_conserve R E 63 lv rest h cells slots := ev_iload d_Mo_conserve_63 hl k
theorem d_Mo_conserve_65 : decode prog_10_method_44_code 65 = .ok (.bipush 6, 2) := by decide +kernel
theorem s_Mo_conserve_65  (k : ev G M_Mo_conserve R E 67 lv (.int 6 :: rest) h cells slots) : ev G M_Mo_conserve R E 65 lv rest h cells slots := ev_bipush d_Mo_conserve_65 (by decide) k
theorem d_Mo_conserve_67 : decode prog_10_method_44_code 67 = .ok (.if_icmp .ge 28, 3) := by decide +kernel
theorem s_Mo_conserve_67 {x y : Int32} (kt : y ≤ x → ev G M_Mo_conserve R E 95 lv rest h cells slots) (kf : ¬ y ≤ x → ev G M_Mo_conserve R E 70 lv rest h cells slots) : ev G M_Mo_conserve R E 67 lv (.int y :: .int x :: rest) h cells slots := ev_icmp_ge d_Mo_conserve_67 (by decide) kt kf
theorem d_Mo_conserve_70 : decode prog_10_method_44_code 70 = .ok (.aload_n 0, 1) := by decide +kernel
theorem s_Mo_conserve_70 {x : Nat} (hl : lg lv 0 = some (.ref x)) (k : ev G M_Mo_conserve R E 71 lv (.ref x :: rest) h cells slots) : ev G M_Mo_conserve R E 70 lv rest h cells slots := ev_aload_n d_Mo_conserve_70 rfl hl k
theorem d_Mo_conserve_71 : decode prog_10_method_44_code 71 = .ok (.iload 4, 2) := by decide +kernel
theorem s_Mo_conserve_71 {x : Int32} (hl : lg lv 4 = some (.int x)) (k : ev G M_Mo_conserve R E 73 lv (.int x :: rest) h cells slots) : ev G M_Mo_conserve R E 71 lv rest h cells slots := ev_iload d_Mo_conserve_71 hl k
theorem d_Mo_conserve_73 : decode prog_10_method_44_code 73 = .ok (.iload_n 1, 1) := by decide +kernel
theorem s_Mo_conserve_73 {x : Int32} (hl : lg lv 1 = some (.int x)) (k : ev G M_Mo_conserve R E 74 lv (.int x :: rest) h cells slots) : ev G M_Mo_conserve R E 73 lv rest h cells slots := ev_iload_n d_Mo_conserve_73 rfl hl k
theorem d_Mo_conserve_74 : decode prog_10_method_44_code 74 = .ok (.iload_n 2, 1) := by decide +kernel
theorem s_Mo_conserve_74 {x : Int32} (hl : lg lv 2 = some (.int x)) (k : ev G M_Mo_conserve R E 75 lv (.int x :: rest) h cells slots) : ev G M_Mo_conserve R E 74 lv rest h cells slots := ev_iload_n d_Mo_conserve_74 rfl hl k
theorem d_Mo_conserve_75 : decode prog_10_method_44_code 75 = .ok (.invokevirtual 169, 3) := by decide +kernel
theorem s_Mo_conserve_75 {mc ms : Nat} {P : Option Value → HP → Prop} {a0 : Int32} {a1 : Int32} {a2 : Int32} {b : Nat} {fs : List Value} {v0 : Value} (hm : mt G M_Mo_cellOwns 1 mc ms (.ref b :: [.int a0, .int a1, .int a2]) h P) (hb : h b = mO 7 fs) (hv0 : fs[0]? = some v0) (hR : 1 + 1 ≤ R.frames ∧ 8 + (4 + 11) + 39 * 1 ≤ R.locals) (hcs : cells + mc ≤ R.cells ∧ slots + ms ≤ R.slots) (hrest : (rest.map fun v => v.category).sum ≤ 8) (k : ∀ (r : Option Value) (h' : HP), P r h' → ev G M_Mo_conserve R E 78 lv (r.toList ++ rest) h' (cells + mc) (slots + ms)) : ev G M_Mo_conserve R E 75 lv (.int a2 :: .int a1 :: .int a0 :: .ref b :: rest) h cells slots := ev_callV (as := [.int a0, .int a1, .int a2]) (ci := 7) d_Mo_conserve_75 hm hb hv0 rfl w_908 w_910 w_60 w_70 w_911 hy_Mo_cellOwns hR hcs hrest k
theorem d_Mo_conserve_78 : decode prog_10_method_44_code 78 = .ok (.ifCond .eq 9, 3) := by decide +kernel
theorem s_Mo_conserve_78 {x : Int32} (kt : x = 0 → ev G M_Mo_conserve R E 87 lv rest h cells slots) (kf : ¬ x = 0 → ev G M_Mo_conserve R E 81 lv rest h cells slots) : ev G M_Mo_conserve R E 78 lv (.int x :: rest) h cells slots := ev_if_eq d_Mo_conserve_78 (by decide) kt kf
theorem d_Mo_conserve_81 : decode prog_10_method_44_code 81 = .ok (.iload_n 3, 1) := by decide +kernel
theorem s_Mo_conserve_81 {x : Int32} (hl : lg lv 3 = some (.int x)) (k : ev G M_Mo_conserve R E 82 lv (.int x :: rest) h cells slots) : ev G M_Mo_conserve R E 81 lv rest h cells slots := ev_iload_n d_Mo_conserve_81 rfl hl k
theorem d_Mo_conserve_82 : decode prog_10_method_44_code 82 = .ok (.iconst 1, 1) := by decide +kernel
theorem s_Mo_conserve_82  (k : ev G M_Mo_conserve R E 83 lv (.int 1 :: rest) h cells slots) : ev G M_Mo_conserve R E 82 lv rest h cells slots := ev_iconst d_Mo_conserve_82 (by decide) k
theorem d_Mo_conserve_83 : decode prog_10_method_44_code 83 = .ok (.iadd, 1) := by decide +kernel
theorem s_Mo_conserve_83 {x y : Int32} (k : ev G M_Mo_conserve R E 84 lv (.int (x + y) :: rest) h cells slots) : ev G M_Mo_conserve R E 83 lv (.int y :: .int x :: rest) h cells slots := ev_iadd d_Mo_conserve_83 k
theorem d_Mo_conserve_84 : decode prog_10_method_44_code 84 = .ok (.goto 4, 3) := by decide +kernel
theorem s_Mo_conserve_84  (k : ev G M_Mo_conserve R E 88 lv rest h cells slots) : ev G M_Mo_conserve R E 84 lv rest h cells slots := ev_goto d_Mo_conserve_84 (by decide) k
theorem d_Mo_conserve_87 : decode prog_10_method_44_code 87 = .ok (.iload_n 3, 1) := by decide +kernel
theorem s_Mo_conserve_87 {x : Int32} (hl : lg lv 3 = some (.int x)) (k : ev G M_Mo_conserve R E 88 lv (.int x :: rest) h cells slots) : ev G M_Mo_conserve R E 87 lv rest h cells slots := ev_iload_n d_Mo_conserve_87 rfl hl k
theorem d_Mo_conserve_88 : decode prog_10_method_44_code 88 = .ok (.istore_n 3, 1) := by decide +kernel
theorem s_Mo_conserve_88 {x : Int32} (k : ev G M_Mo_conserve R E 89 (ls1 lv 3 (.int x)) rest h cells slots) : ev G M_Mo_conserve R E 88 lv (.int x :: rest) h cells slots := ev_istore_n d_Mo_conserve_88 rfl (by decide) k
theorem d_Mo_conserve_89 : decode prog_10_method_44_code 89 = .ok (.iinc 4 1, 3) := by decide +kernel
theorem s_Mo_conserve_89 {x : Int32} (hl : lg lv 4 = some (.int x)) (k : ev G M_Mo_conserve R E 92 (ls1 lv 4 (.int (x + 1))) rest h cells slots) : ev G M_Mo_conserve R E 89 lv rest h cells slots := ev_iinc d_Mo_conserve_89 (by decide) hl (by decide) k
theorem d_Mo_conserve_92 : decode prog_10_method_44_code 92 = .ok (.goto (-29), 3) := by decide +kernel
theorem s_Mo_conserve_92  (k : ev G M_Mo_conserve R E 63 lv rest h cells slots) : ev G M_Mo_conserve R E 92 lv rest h cells slots := ev_goto d_Mo_conserve_92 (by decide) k
theorem d_Mo_conserve_95 : decode prog_10_method_44_code 95 = .ok (.iload_n 3, 1) := by decide +kernel
theorem s_Mo_conserve_95 {x : Int32} (hl : lg lv 3 = some (.int x)) (k : ev G M_Mo_conserve R E 96 lv (.int x :: rest) h cells slots) : ev G M_Mo_conserve R E 95 lv rest h cells slots := ev_iload_n d_Mo_conserve_95 rfl hl k
theorem d_Mo_conserve_96 : decode prog_10_method_44_code 96 = .ok (.iconst 1, 1) := by decide +kernel
theorem s_Mo_conserve_96  (k : ev G M_Mo_conserve R E 97 lv (.int 1 :: rest) h cells slots) : ev G M_Mo_conserve R E 96 lv rest h cells slots := ev_iconst d_Mo_conserve_96 (by decide) k
theorem d_Mo_conserve_97 : decode prog_10_method_44_code 97 = .ok (.if_icmp .eq 7, 3) := by decide +kernel
theorem s_Mo_conserve_97 {x y : Int32} (kt : x = y → ev G M_Mo_conserve R E 104 lv rest h cells slots) (kf : ¬ x = y → ev G M_Mo_conserve R E 100 lv rest h cells slots) : ev G M_Mo_conserve R E 97 lv (.int y :: .int x :: rest) h cells slots := ev_icmp_eq d_Mo_conserve_97 (by decide) kt kf
theorem d_Mo_conserve_100 : decode prog_10_method_44_code 100 = .ok (.iconst 1, 1) := by decide +kernel
theorem s_Mo_conserve_100  (k : ev G M_Mo_conserve R E 101 lv (.int 1 :: rest) h cells slots) : ev G M_Mo_conserve R E 100 lv rest h cells slots := ev_iconst d_Mo_conserve_100 (by decide) k
theorem d_Mo_conserve_101 : decode prog_10_method_44_code 101 = .ok (.iload_n 1, 1) := by decide +kernel
theorem s_Mo_conserve_101 {x : Int32} (hl : lg lv 1 = some (.int x)) (k : ev G M_Mo_conserve R E 102 lv (.int x :: rest) h cells slots) : ev G M_Mo_conserve R E 101 lv rest h cells slots := ev_iload_n d_Mo_conserve_101 rfl hl k
theorem d_Mo_conserve_102 : decode prog_10_method_44_code 102 = .ok (.iadd, 1) := by decide +kernel
theorem s_Mo_conserve_102 {x y : Int32} (k : ev G M_Mo_conserve R E 103 lv (.int (x + y) :: rest) h cells slots) : ev G M_Mo_conserve R E 102 lv (.int y :: .int x :: rest) h cells slots := ev_iadd d_Mo_conserve_102 k
theorem d_Mo_conserve_103 : decode prog_10_method_44_code 103 = .ok (.ireturn, 1) := by decide +kernel
theorem s_Mo_conserve_103 {P : Option Value → HP → Prop} {mc ms : Nat} {v : Int32} (hP : P (some (.int v)) h) (hc : cells ≤ mc ∧ slots ≤ ms) : ev G M_Mo_conserve R (Er M_Mo_conserve P mc ms) 103 lv [.int v] h cells slots := ev_exit ⟨hc.1, hc.2, Or.inr (Or.inl ⟨v, .int, rfl, rfl, d_Mo_conserve_103, rfl, hP⟩)⟩
theorem d_Mo_conserve_104 : decode prog_10_method_44_code 104 = .ok (.iconst 2, 1) := by decide +kernel
theorem s_Mo_conserve_104  (k : ev G M_Mo_conserve R E 105 lv (.int 2 :: rest) h cells slots) : ev G M_Mo_conserve R E 104 lv rest h cells slots := ev_iconst d_Mo_conserve_104 (by decide) k
theorem d_Mo_conserve_105 : decode prog_10_method_44_code 105 = .ok (.iload_n 2, 1) := by decide +kernel
theorem s_Mo_conserve_105 {x : Int32} (hl : lg lv 2 = some (.int x)) (k : ev G M_Mo_conserve R E 106 lv (.int x :: rest) h cells slots) : ev G M_Mo_conserve R E 105 lv rest h cells slots := ev_iload_n d_Mo_conserve_105 rfl hl k
theorem d_Mo_conserve_106 : decode prog_10_method_44_code 106 = .ok (.imul, 1) := by decide +kernel
theorem s_Mo_conserve_106 {x y : Int32} (k : ev G M_Mo_conserve R E 107 lv (.int (x * y) :: rest) h cells slots) : ev G M_Mo_conserve R E 106 lv (.int y :: .int x :: rest) h cells slots := ev_imul d_Mo_conserve_106 k
theorem d_Mo_conserve_107 : decode prog_10_method_44_code 107 = .ok (.istore_n 2, 1) := by decide +kernel
theorem s_Mo_conserve_107 {x : Int32} (k : ev G M_Mo_conserve R E 108 (ls1 lv 2 (.int x)) rest h cells slots) : ev G M_Mo_conserve R E 107 lv (.int x :: rest) h cells slots := ev_istore_n d_Mo_conserve_107 rfl (by decide) k
theorem d_Mo_conserve_108 : decode prog_10_method_44_code 108 = .ok (.goto (-91), 3) := by decide +kernel
theorem s_Mo_conserve_108  (k : ev G M_Mo_conserve R E 17 lv rest h cells slots) : ev G M_Mo_conserve R E 108 lv rest h cells slots := ev_goto d_Mo_conserve_108 (by decide) k
theorem d_Mo_conserve_111 : decode prog_10_method_44_code 111 = .ok (.iinc 1 1, 3) := by decide +kernel
theorem s_Mo_conserve_111 {x : Int32} (hl : lg lv 1 = some (.int x)) (k : ev G M_Mo_conserve R E 114 (ls1 lv 1 (.int (x + 1))) rest h cells slots) : ev G M_Mo_conserve R E 111 lv rest h cells slots := ev_iinc d_Mo_conserve_111 (by decide) hl (by decide) k
theorem d_Mo_conserve_114 : decode prog_10_method_44_code 114 = .ok (.goto (-112), 3) := by decide +kernel
theorem s_Mo_conserve_114  (k : ev G M_Mo_conserve R E 2 lv rest h cells slots) : ev G M_Mo_conserve R E 114 lv rest h cells slots := ev_goto d_Mo_conserve_114 (by decide) k
theorem d_Mo_conserve_117 : decode prog_10_method_44_code 117 = .ok (.iconst 0, 1) := by decide +kernel
theorem s_Mo_conserve_117  (k : ev G M_Mo_conserve R E 118 lv (.int 0 :: rest) h cells slots) : ev G M_Mo_conserve R E 117 lv rest h cells slots := ev_iconst d_Mo_conserve_117 (by decide) k
theorem d_Mo_conserve_118 : decode prog_10_method_44_code 118 = .ok (.istore_n 1, 1) := by decide +kernel
theorem s_Mo_conserve_118 {x : Int32} (k : ev G M_Mo_conserve R E 119 (ls1 lv 1 (.int x)) rest h cells slots) : ev G M_Mo_conserve R E 118 lv (.int x :: rest) h cells slots := ev_istore_n d_Mo_conserve_118 rfl (by decide) k
theorem d_Mo_conserve_119 : decode prog_10_method_44_code 119 = .ok (.iload_n 1, 1) := by decide +kernel
theorem s_Mo_conserve_119 {x : Int32} (hl : lg lv 1 = some (.int x)) (k : ev G M_Mo_conserve R E 120 lv (.int x :: rest) h cells slots) : ev G M_Mo_conserve R E 119 lv rest h cells slots := ev_iload_n d_Mo_conserve_119 rfl hl k
theorem d_Mo_conserve_120 : decode prog_10_method_44_code 120 = .ok (.bipush 6, 2) := by decide +kernel
theorem s_Mo_conserve_120  (k : ev G M_Mo_conserve R E 122 lv (.int 6 :: rest) h cells slots) : ev G M_Mo_conserve R E 120 lv rest h cells slots := ev_bipush d_Mo_conserve_120 (by decide) k
theorem d_Mo_conserve_122 : decode prog_10_method_44_code 122 = .ok (.if_icmp .ge 67, 3) := by decide +kernel
theorem s_Mo_conserve_122 {x y : Int32} (kt : y ≤ x → ev G M_Mo_conserve R E 189 lv rest h cells slots) (kf : ¬ y ≤ x → ev G M_Mo_conserve R E 125 lv rest h cells slots) : ev G M_Mo_conserve R E 122 lv (.int y :: .int x :: rest) h cells slots := ev_icmp_ge d_Mo_conserve_122 (by decide) kt kf
theorem d_Mo_conserve_125 : decode prog_10_method_44_code 125 = .ok (.iconst 0, 1) := by decide +kernel
theorem s_Mo_conserve_125  (k : ev G M_Mo_conserve R E 126 lv (.int 0 :: rest) h cells slots) : ev G M_Mo_conserve R E 125 lv rest h cells slots := ev_iconst d_Mo_conserve_125 (by decide) k
theorem d_Mo_conserve_126 : decode prog_10_method_44_code 126 = .ok (.istore_n 2, 1) := by decide +kernel
theorem s_Mo_conserve_126 {x : Int32} (k : ev G M_Mo_conserve R E 127 (ls1 lv 2 (.int x)) rest h cells slots) : ev G M_Mo_conserve R E 126 lv (.int x :: rest) h cells slots := ev_istore_n d_Mo_conserve_126 rfl (by decide) k
theorem d_Mo_conserve_127 : decode prog_10_method_44_code 127 = .ok (.iconst 0, 1) := by decide +kernel
theorem s_Mo_conserve_127  (k : ev G M_Mo_conserve R E 128 lv (.int 0 :: rest) h cells slots) : ev G M_Mo_conserve R E 127 lv rest h cells slots := ev_iconst d_Mo_conserve_127 (by decide) k
theorem d_Mo_conserve_128 : decode prog_10_method_44_code 128 = .ok (.istore_n 3, 1) := by decide +kernel
theorem s_Mo_conserve_128 {x : Int32} (k : ev G M_Mo_conserve R E 129 (ls1 lv 3 (.int x)) rest h cells slots) : ev G M_Mo_conserve R E 128 lv (.int x :: rest) h cells slots := ev_istore_n d_Mo_conserve_128 rfl (by decide) k
theorem d_Mo_conserve_129 : decode prog_10_method_44_code 129 = .ok (.iload_n 3, 1) := by decide +kernel
theorem s_Mo_conserve_129 {x : Int32} (hl : lg lv 3 = some (.int x)) (k : ev G M_Mo_conserve R E 130 lv (.int x :: rest) h cells slots) : ev G M_Mo_conserve R E 129 lv rest h cells slots := ev_iload_n d_Mo_conserve_129 rfl hl k
theorem d_Mo_conserve_130 : decode prog_10_method_44_code 130 = .ok (.bipush 102, 2) := by decide +kernel
theorem s_Mo_conserve_130  (k : ev G M_Mo_conserve R E 132 lv (.int 102 :: rest) h cells slots) : ev G M_Mo_conserve R E 130 lv rest h cells slots := ev_bipush d_Mo_conserve_130 (by decide) k
theorem d_Mo_conserve_132 : decode prog_10_method_44_code 132 = .ok (.if_icmp .ge 36, 3) := by decide +kernel
theorem s_Mo_conserve_132 {x y : Int32} (kt : y ≤ x → ev G M_Mo_conserve R E 168 lv rest h cells slots) (kf : ¬ y ≤ x → ev G M_Mo_conserve R E 135 lv rest h cells slots) : ev G M_Mo_conserve R E 132 lv (.int y :: .int x :: rest) h cells slots := ev_icmp_ge d_Mo_conserve_132 (by decide) kt kf
theorem d_Mo_conserve_135 : decode prog_10_method_44_code 135 = .ok (.aload_n 0, 1) := by decide +kernel
theorem s_Mo_conserve_135 {x : Nat} (hl : lg lv 0 = some (.ref x)) (k : ev G M_Mo_conserve R E 136 lv (.ref x :: rest) h cells slots) : ev G M_Mo_conserve R E 135 lv rest h cells slots := ev_aload_n d_Mo_conserve_135 rfl hl k
theorem d_Mo_conserve_136 : decode prog_10_method_44_code 136 = .ok (.iload_n 3, 1) := by decide +kernel
theorem s_Mo_conserve_136 {x : Int32} (hl : lg lv 3 = some (.int x)) (k : ev G M_Mo_conserve R E 137 lv (.int x :: rest) h cells slots) : ev G M_Mo_conserve R E 136 lv rest h cells slots := ev_iload_n d_Mo_conserve_136 rfl hl k
theorem d_Mo_conserve_137 : decode prog_10_method_44_code 137 = .ok (.invokevirtual 62, 3) := by decide +kernel
theorem s_Mo_conserve_137 {mc ms : Nat} {P : Option Value → HP → Prop} {a0 : Int32} {b : Nat} {fs : List Value} {v0 : Value} (hm : mt G M_Mo_what 0 mc ms (.ref b :: [.int a0]) h P) (hb : h b = mO 7 fs) (hv0 : fs[0]? = some v0) (hR : 0 + 1 ≤ R.frames ∧ 8 + (2 + 11) + 39 * 0 ≤ R.locals) (hcs : cells + mc ≤ R.cells ∧ slots + ms ≤ R.slots) (hrest : (rest.map fun v => v.category).sum ≤ 8) (k : ∀ (r : Option Value) (h' : HP), P r h' → ev G M_Mo_conserve R E 140 lv (r.toList ++ rest) h' (cells + mc) (slots + ms)) : ev G M_Mo_conserve R E 137 lv (.int a0 :: .ref b :: rest) h cells slots := ev_callV (as := [.int a0]) (ci := 7) d_Mo_conserve_137 hm hb hv0 rfl w_804 w_806 w_39 w_70 w_807 hy_Mo_what hR hcs hrest k
theorem d_Mo_conserve_140 : decode prog_10_method_44_code 140 = .ok (.iconst 2, 1) := by decide +kernel
theorem s_Mo_conserve_140  (k : ev G M_Mo_conserve R E 141 lv (.int 2 :: rest) h cells slots) : ev G M_Mo_conserve R E 140 lv rest h cells slots := ev_iconst d_Mo_conserve_140 (by decide) k
theorem d_Mo_conserve_141 : decode prog_10_method_44_code 141 = .ok (.if_icmp .ne 19, 3) := by decide +kernel
theorem s_Mo_conserve_141 {x y : Int32} (kt : ¬ x = y → ev G M_Mo_conserve R E 160 lv rest h cells slots) (kf : x = y → ev G M_Mo_conserve R E 144 lv rest h cells slots) : ev G M_Mo_conserve R E 141 lv (.int y :: .int x :: rest) h cells slots := ev_icmp_ne d_Mo_conserve_141 (by decide) kt kf
theorem d_Mo_conserve_144 : decode prog_10_method_44_code 144 = .ok (.aload_n 0, 1) := by decide +kernel
theorem s_Mo_conserve_144 {x : Nat} (hl : lg lv 0 = some (.ref x)) (k : ev G M_Mo_conserve R E 145 lv (.ref x :: rest) h cells slots) : ev G M_Mo_conserve R E 144 lv rest h cells slots := ev_aload_n d_Mo_conserve_144 rfl hl k
theorem d_Mo_conserve_145 : decode prog_10_method_44_code 145 = .ok (.iload_n 3, 1) := by decide +kernel
theorem s_Mo_conserve_145 {x : Int32} (hl : lg lv 3 = some (.int x)) (k : ev G M_Mo_conserve R E 146 lv (.int x :: rest) h cells slots) : ev G M_Mo_conserve R E 145 lv rest h cells slots := ev_iload_n d_Mo_conserve_145 rfl hl k
theorem d_Mo_conserve_146 : decode prog_10_method_44_code 146 = .ok (.iconst 4, 1) := by decide +kernel
theorem s_Mo_conserve_146  (k : ev G M_Mo_conserve R E 147 lv (.int 4 :: rest) h cells slots) : ev G M_Mo_conserve R E 146 lv rest h cells slots := ev_iconst d_Mo_conserve_146 (by decide) k
theorem d_Mo_conserve_147 : decode prog_10_method_44_code 147 = .ok (.invokevirtual 66, 3) := by decide +kernel
theorem s_Mo_conserve_147 {mc ms : Nat} {P : Option Value → HP → Prop} {a0 : Int32} {a1 : Int32} {b : Nat} {fs : List Value} {v0 : Value} (hm : mt G M_Mo_get 0 mc ms (.ref b :: [.int a0, .int a1]) h P) (hb : h b = mO 7 fs) (hv0 : fs[0]? = some v0) (hR : 0 + 1 ≤ R.frames ∧ 8 + (3 + 11) + 39 * 0 ≤ R.locals) (hcs : cells + mc ≤ R.cells ∧ slots + ms ≤ R.slots) (hrest : (rest.map fun v => v.category).sum ≤ 8) (k : ∀ (r : Option Value) (h' : HP), P r h' → ev G M_Mo_conserve R E 150 lv (r.toList ++ rest) h' (cells + mc) (slots + ms)) : ev G M_Mo_conserve R E 147 lv (.int a1 :: .int a0 :: .ref b :: rest) h cells slots := ev_callV (as := [.int a0, .int a1]) (ci := 7) d_Mo_conserve_147 hm hb hv0 rfl w_816 w_818 w_42 w_70 w_819 hy_Mo_get hR hcs hrest k
theorem d_Mo_conserve_150 : decode prog_10_method_44_code 150 = .ok (.iload_n 1, 1) := by decide +kernel
theorem s_Mo_conserve_150 {x : Int32} (hl : lg lv 1 = some (.int x)) (k : ev G M_Mo_conserve R E 151 lv (.int x :: rest) h cells slots) : ev G M_Mo_conserve R E 150 lv rest h cells slots := ev_iload_n d_Mo_conserve_150 rfl hl k
theorem d_Mo_conserve_151 : decode prog_10_method_44_code 151 = .ok (.if_icmp .ne 9, 3) := by decide +kernel
theorem s_Mo_conserve_151 {x y : Int32} (kt : ¬ x = y → ev G M_Mo_conserve R E 160 lv rest h cells slots) (kf : x = y → ev G M_Mo_conserve R E 154 lv rest h cells slots) : ev G M_Mo_conserve R E 151 lv (.int y :: .int x :: rest) h cells slots := ev_icmp_ne d_Mo_conserve_151 (by decide) kt kf
theorem d_Mo_conserve_154 : decode prog_10_method_44_code 154 = .ok (.iload_n 2, 1) := by decide +kernel
theorem s_Mo_conserve_154 {x : Int32} (hl : lg lv 2 = some (.int x)) (k : ev G M_Mo_conserve R E 155 lv (.int x :: rest) h cells slots) : ev G M_Mo_conserve R E 154 lv rest h cells slots := ev_iload_n d_Mo_conserve_154 rfl hl k
theorem d_Mo_conserve_155 : decode prog_10_method_44_code 155 = .ok (.iconst 1, 1) := by decide +kernel
theorem s_Mo_conserve_155  (k : ev G M_Mo_conserve R E 156 lv (.int 1 :: rest) h cells slots) : ev G M_Mo_conserve R E 155 lv rest h cells slots := ev_iconst d_Mo_conserve_155 (by decide) k
theorem d_Mo_conserve_156 : decode prog_10_method_44_code 156 = .ok (.iadd, 1) := by decide +kernel
theorem s_Mo_conserve_156 {x y : Int32} (k : ev G M_Mo_conserve R E 157 lv (.int (x + y) :: rest) h cells slots) : ev G M_Mo_conserve R E 156 lv (.int y :: .int x :: rest) h cells slots := ev_iadd d_Mo_conserve_156 k
theorem d_Mo_conserve_157 : decode prog_10_method_44_code 157 = .ok (.goto 4, 3) := by decide +kernel
theorem s_Mo_conserve_157  (k : ev G M_Mo_conserve R E 161 lv rest h cells slots) : ev G M_Mo_conserve R E 157 lv rest h cells slots := ev_goto d_Mo_conserve_157 (by decide) k
theorem d_Mo_conserve_160 : decode prog_10_method_44_code 160 = .ok (.iload_n 2, 1) := by decide +kernel
theorem s_Mo_conserve_160 {x : Int32} (hl : lg lv 2 = some (.int x)) (k : ev G M_Mo_conserve R E 161 lv (.int x :: rest) h cells slots) : ev G M_Mo_conserve R E 160 lv rest h cells slots := ev_iload_n d_Mo_conserve_160 rfl hl k
theorem d_Mo_conserve_161 : decode prog_10_method_44_code 161 = .ok (.istore_n 2, 1) := by decide +kernel
theorem s_Mo_conserve_161 {x : Int32} (k : ev G M_Mo_conserve R E 162 (ls1 lv 2 (.int x)) rest h cells slots) : ev G M_Mo_conserve R E 161 lv (.int x :: rest) h cells slots := ev_istore_n d_Mo_conserve_161 rfl (by decide) k
theorem d_Mo_conserve_162 : decode prog_10_method_44_code 162 = .ok (.iinc 3 1, 3) := by decide +kernel
theorem s_Mo_conserve_162 {x : Int32} (hl : lg lv 3 = some (.int x)) (k : ev G M_Mo_conserve R E 165 (ls1 lv 3 (.int (x + 1))) rest h cells slots) : ev G M_Mo_conserve R E 162 lv rest h cells slots := ev_iinc d_Mo_conserve_162 (by decide) hl (by decide) k
theorem d_Mo_conserve_165 : decode prog_10_method_44_code 165 = .ok (.goto (-36), 3) := by decide +kernel
theorem s_Mo_conserve_165  (k : ev G M_Mo_conserve R E 129 lv rest h cells slots) : ev G M_Mo_conserve R E 165 lv rest h cells slots := ev_goto d_Mo_conserve_165 (by decide) k
theorem d_Mo_conserve_168 : decode prog_10_method_44_code 168 = .ok (.iload_n 2, 1) := by decide +kernel
theorem s_Mo_conserve_168 {x : Int32} (hl : lg lv 2 = some (.int x)) (k : ev G M_Mo_conserve R E 169 lv (.int x :: rest) h cells slots) : ev G M_Mo_conserve R E 168 lv rest h cells slots := ev_iload_n d_Mo_conserve_168 rfl hl k
theorem d_Mo_conserve_169 : decode prog_10_method_44_code 169 = .ok (.aload_n 0, 1) := by decide +kernel
theorem s_Mo_conserve_169 {x : Nat} (hl : lg lv 0 = some (.ref x)) (k : ev G M_Mo_conserve R E 170 lv (.ref x :: rest) h cells slots) : ev G M_Mo_conserve R E 169 lv rest h cells slots := ev_aload_n d_Mo_conserve_169 rfl hl k
theorem d_Mo_conserve_170 : decode prog_10_method_44_code 170 = .ok (.getfield 19, 3) := by decide +kernel
theorem s_Mo_conserve_170 {a : Nat} {fs : List Value} {v : Value} (hh : h a = mO 7 fs) (hv : fs[4]? = some v) (k : ev G M_Mo_conserve R E 173 lv (v :: rest) h cells slots) : ev G M_Mo_conserve R E 170 lv (.ref a :: rest) h cells slots := ev_getfield (ci := 7) (kf := 4) d_Mo_conserve_170 rfl ck7 (by decide) w_708 hh hv k
theorem d_Mo_conserve_173 : decode prog_10_method_44_code 173 = .ok (.iload_n 1, 1) := by decide +kernel
theorem s_Mo_conserve_173 {x : Int32} (hl : lg lv 1 = some (.int x)) (k : ev G M_Mo_conserve R E 174 lv (.int x :: rest) h cells slots) : ev G M_Mo_conserve R E 173 lv rest h cells slots := ev_iload_n d_Mo_conserve_173 rfl hl k
theorem d_Mo_conserve_174 : decode prog_10_method_44_code 174 = .ok (.iaload, 1) := by decide +kernel
theorem s_Mo_conserve_174 {a n : Nat} {f : Nat → Int32} {i : Int32} (hh : h a = mI 0 n f) (hin : vp_in i n) (k : ev G M_Mo_conserve R E 175 lv (.int (f i.toNatClampNeg) :: rest) h cells slots) : ev G M_Mo_conserve R E 174 lv (.int i :: .ref a :: rest) h cells slots := ev_iaload d_Mo_conserve_174 rfl hh hin k
theorem d_Mo_conserve_175 : decode prog_10_method_44_code 175 = .ok (.if_icmp .eq 8, 3) := by decide +kernel
theorem s_Mo_conserve_175 {x y : Int32} (kt : x = y → ev G M_Mo_conserve R E 183 lv rest h cells slots) (kf : ¬ x = y → ev G M_Mo_conserve R E 178 lv rest h cells slots) : ev G M_Mo_conserve R E 175 lv (.int y :: .int x :: rest) h cells slots := ev_icmp_eq d_Mo_conserve_175 (by decide) kt kf
theorem d_Mo_conserve_178 : decode prog_10_method_44_code 178 = .ok (.bipush 100, 2) := by decide +kernel
theorem s_Mo_conserve_178  (k : ev G M_Mo_conserve R E 180 lv (.int 100 :: rest) h cells slots) : ev G M_Mo_conserve R E 178 lv rest h cells slots := ev_bipush d_Mo_conserve_178 (by decide) k
theorem d_Mo_conserve_180 : decode prog_10_method_44_code 180 = .ok (.iload_n 1, 1) := by decide +kernel
theorem s_Mo_conserve_180 {x : Int32} (hl : lg lv 1 = some (.int x)) (k : ev G M_Mo_conserve R E 181 lv (.int x :: rest) h cells slots) : ev G M_Mo_conserve R E 180 lv rest h cells slots := ev_iload_n d_Mo_conserve_180 rfl hl k
theorem d_Mo_conserve_181 : decode prog_10_method_44_code 181 = .ok (.iadd, 1) := by decide +kernel
theorem s_Mo_conserve_181 {x y : Int32} (k : ev G M_Mo_conserve R E 182 lv (.int (x + y) :: rest) h cells slots) : ev G M_Mo_conserve R E 181 lv (.int y :: .int x :: rest) h cells slots := ev_iadd d_Mo_conserve_181 k
theorem d_Mo_conserve_182 : decode prog_10_method_44_code 182 = .ok (.ireturn, 1) := by decide +kernel
theorem s_Mo_conserve_182 {P : Option Value → HP → Prop} {mc ms : Nat} {v : Int32} (hP : P (some (.int v)) h) (hc : cells ≤ mc ∧ slots ≤ ms) : ev G M_Mo_conserve R (Er M_Mo_conserve P mc ms) 182 lv [.int v] h cells slots := ev_exit ⟨hc.1, hc.2, Or.inr (Or.inl ⟨v, .int, rfl, rfl, d_Mo_conserve_182, rfl, hP⟩)⟩
theorem d_Mo_conserve_183 : decode prog_10_method_44_code 183 = .ok (.iinc 1 1, 3) := by decide +kernel
theorem s_Mo_conserve_183 {x : Int32} (hl : lg lv 1 = some (.int x)) (k : ev G M_Mo_conserve R E 186 (ls1 lv 1 (.int (x + 1))) rest h cells slots) : ev G M_Mo_conserve R E 183 lv rest h cells slots := ev_iinc d_Mo_conserve_183 (by decide) hl (by decide) k
theorem d_Mo_conserve_186 : decode prog_10_method_44_code 186 = .ok (.goto (-67), 3) := by decide +kernel
theorem s_Mo_conserve_186  (k : ev G M_Mo_conserve R E 119 lv rest h cells slots) : ev G M_Mo_conserve R E 186 lv rest h cells slots := ev_goto d_Mo_conserve_186 (by decide) k
theorem d_Mo_conserve_189 : decode prog_10_method_44_code 189 = .ok (.iconst 0, 1) := by decide +kernel
theorem s_Mo_conserve_189  (k : ev G M_Mo_conserve R E 190 lv (.int 0 :: rest) h cells slots) : ev G M_Mo_conserve R E 189 lv rest h cells slots := ev_iconst d_Mo_conserve_189 (by decide) k
theorem d_Mo_conserve_190 : decode prog_10_method_44_code 190 = .ok (.ireturn, 1) := by decide +kernel
theorem s_Mo_conserve_190 {P : Option Value → HP → Prop} {mc ms : Nat} {v : Int32} (hP : P (some (.int v)) h) (hc : cells ≤ mc ∧ slots ≤ ms) : ev G M_Mo_conserve R (Er M_Mo_conserve P mc ms) 190 lv [.int v] h cells slots := ev_exit ⟨hc.1, hc.2, Or.inr (Or.inl ⟨v, .int, rfl, rfl, d_Mo_conserve_190, rfl, hP⟩)⟩
end SITES

/-! written by gen_sites.py: the decode rows, and one rule a place (method, pc) -/

section SITES
variable {G : GW} {R : Room} {E : Nat → LV → List Value → HP → Nat → Nat → Prop} {lv : LV} {rest : List Value} {h : HP} {cells slots : Nat}
abbrev M_St_init : MW := (⟨"UseOnceMachine$State", "<init>", "()V"⟩, prog_7_method_1_code, 1, none)
theorem hy_St_init : M_St_init.1.cls ≠ "java/lang/invoke/MethodHandle" ∧ M_St_init.1.cls ≠ "java/lang/invoke/VarHandle" ∧ (parseMethodDescriptor M_St_init.1.desc).map (fun d => d.parameters.length) = some 0 := by decide +kernel
theorem d_St_init_0 : decode prog_7_method_1_code 0 = .ok (.aload_n 0, 1) := by decide +kernel
theorem s_St_init_0 {x : Nat} (hl : lg lv 0 = some (.ref x)) (k : ev G M_St_init R E 1 lv (.ref x :: rest) h cells slots) : ev G M_St_init R E 0 lv rest h cells slots := ev_aload_n d_St_init_0 rfl hl k
theorem d_St_init_1 : decode prog_7_method_1_code 1 = .ok (.invokespecial 3, 3) := by decide +kernel
theorem s_St_init_1 {b : Nat} (hfr : 1 ≤ R.frames) (hlo : (rest.map fun v => v.category).sum + 12 ≤ R.locals) (k : ev G M_St_init R E 4 lv rest h cells slots) : ev G M_St_init R E 1 lv (.ref b :: rest) h cells slots := ev_objInit d_St_init_1 w_103 w_82 w_83 hfr hlo k
theorem d_St_init_4 : decode prog_7_method_1_code 4 = .ok (.aload_n 0, 1) := by decide +kernel
theorem s_St_init_4 {x : Nat} (hl : lg lv 0 = some (.ref x)) (k : ev G M_St_init R E 5 lv (.ref x :: rest) h cells slots) : ev G M_St_init R E 4 lv rest h cells slots := ev_aload_n d_St_init_4 rfl hl k
theorem d_St_init_5 : decode prog_7_method_1_code 5 = .ok (.bipush 102, 2) := by decide +kernel
theorem s_St_init_5  (k : ev G M_St_init R E 7 lv (.int 102 :: rest) h cells slots) : ev G M_St_init R E 5 lv rest h cells slots := ev_bipush d_St_init_5 (by decide) k
theorem d_St_init_7 : decode prog_7_method_1_code 7 = .ok (.newarray .long, 2) := by decide +kernel
theorem s_St_init_7 {kn : Nat} (hcl : cells + 1 ≤ R.cells) (hsl : slots + 102 ≤ R.slots) (hf : h kn = mF) (hk : kn < tB) (k : ev G M_St_init R E 9 lv (.ref kn :: rest) (va_up h kn (mL 1 102 (fun _ => 0))) (cells + 1) (slots + 102)) : ev G M_St_init R E 7 lv (.int 102 :: rest) h cells slots := ev_newarray (t := 1) (c0 := mL 1 102 (fun _ => 0)) (a0 := (102, .inr (.inl (fun _ => 0)))) d_St_init_7 rfl w_163 rfl (fun _ _ _ => rfl) (fun _ => rfl) (fun _ _ h => h) (fun _ => trivial) mL_ne (by decide) (by decide) (by decide) hcl hsl hf hk k
theorem d_St_init_9 : decode prog_7_method_1_code 9 = .ok (.putfield 9, 3) := by decide +kernel
theorem s_St_init_9 {x : Nat} {a : Nat} {fs : List Value} (hh : h a = mO 5 fs) (hlen : 0 < fs.length) (k : ev G M_St_init R E 12 lv rest (va_up h a (mO 5 (fs.set 0 (.ref x)))) cells slots) : ev G M_St_init R E 9 lv (.ref x :: .ref a :: rest) h cells slots := ev_putfinal (ci := 5) (kf := 0) d_St_init_9 rfl ck5 (by decide) w_104 rfl rfl rfl hh hlen (fun _ _ => rfl) (fun _ _ => rfl) k
theorem d_St_init_12 : decode prog_7_method_1_code 12 = .ok (.aload_n 0, 1) := by decide +kernel
theorem s_St_init_12 {x : Nat} (hl : lg lv 0 = some (.ref x)) (k : ev G M_St_init R E 13 lv (.ref x :: rest) h cells slots) : ev G M_St_init R E 12 lv rest h cells slots := ev_aload_n d_St_init_12 rfl hl k
theorem d_St_init_13 : decode prog_7_method_1_code 13 = .ok (.bipush 35, 2) := by decide +kernel
theorem s_St_init_13  (k : ev G M_St_init R E 15 lv (.int 35 :: rest) h cells slots) : ev G M_St_init R E 13 lv rest h cells slots := ev_bipush d_St_init_13 (by decide) k
theorem d_St_init_15 : decode prog_7_method_1_code 15 = .ok (.newarray .long, 2) := by decide +kernel
theorem s_St_init_15 {kn : Nat} (hcl : cells + 1 ≤ R.cells) (hsl : slots + 35 ≤ R.slots) (hf : h kn = mF) (hk : kn < tB) (k : ev G M_St_init R E 17 lv (.ref kn :: rest) (va_up h kn (mL 1 35 (fun _ => 0))) (cells + 1) (slots + 35)) : ev G M_St_init R E 15 lv (.int 35 :: rest) h cells slots := ev_newarray (t := 1) (c0 := mL 1 35 (fun _ => 0)) (a0 := (35, .inr (.inl (fun _ => 0)))) d_St_init_15 rfl w_163 rfl (fun _ _ _ => rfl) (fun _ => rfl) (fun _ _ h => h) (fun _ => trivial) mL_ne (by decide) (by decide) (by decide) hcl hsl hf hk k
theorem d_St_init_17 : decode prog_7_method_1_code 17 = .ok (.putfield 15, 3) := by decide +kernel
theorem s_St_init_17 {x : Nat} {a : Nat} {fs : List Value} (hh : h a = mO 5 fs) (hlen : 1 < fs.length) (k : ev G M_St_init R E 20 lv rest (va_up h a (mO 5 (fs.set 1 (.ref x)))) cells slots) : ev G M_St_init R E 17 lv (.ref x :: .ref a :: rest) h cells slots := ev_putfinal (ci := 5) (kf := 1) d_St_init_17 rfl ck5 (by decide) w_105 rfl rfl rfl hh hlen (fun _ _ => rfl) (fun _ _ => rfl) k
theorem d_St_init_20 : decode prog_7_method_1_code 20 = .ok (.aload_n 0, 1) := by decide +kernel
theorem s_St_init_20 {x : Nat} (hl : lg lv 0 = some (.ref x)) (k : ev G M_St_init R E 21 lv (.ref x :: rest) h cells slots) : ev G M_St_init R E 20 lv rest h cells slots := ev_aload_n d_St_init_20 rfl hl k
theorem d_St_init_21 : decode prog_7_method_1_code 21 = .ok (.bipush 6, 2) := by decide +kernel
theorem s_St_init_21  (k : ev G M_St_init R E 23 lv (.int 6 :: rest) h cells slots) : ev G M_St_init R E 21 lv rest h cells slots := ev_bipush d_St_init_21 (by decide) k
theorem d_St_init_23 : decode prog_7_method_1_code 23 = .ok (.newarray .int, 2) := by decide +kernel
theorem s_St_init_23 {kn : Nat} (hcl : cells + 1 ≤ R.cells) (hsl : slots + 6 ≤ R.slots) (hf : h kn = mF) (hk : kn < tB) (k : ev G M_St_init R E 25 lv (.ref kn :: rest) (va_up h kn (mI 0 6 (fun _ => 0))) (cells + 1) (slots + 6)) : ev G M_St_init R E 23 lv (.int 6 :: rest) h cells slots := ev_newarray (t := 0) (c0 := mI 0 6 (fun _ => 0)) (a0 := (6, .inl (fun _ => 0))) d_St_init_23 rfl w_97 rfl (fun _ _ _ => rfl) (fun _ => rfl) (fun _ _ h => h) (fun _ => trivial) mI_ne (by decide) (by decide) (by decide) hcl hsl hf hk k
theorem d_St_init_25 : decode prog_7_method_1_code 25 = .ok (.putfield 18, 3) := by decide +kernel
theorem s_St_init_25 {x : Nat} {a : Nat} {fs : List Value} (hh : h a = mO 5 fs) (hlen : 2 < fs.length) (k : ev G M_St_init R E 28 lv rest (va_up h a (mO 5 (fs.set 2 (.ref x)))) cells slots) : ev G M_St_init R E 25 lv (.ref x :: .ref a :: rest) h cells slots := ev_putfinal (ci := 5) (kf := 2) d_St_init_25 rfl ck5 (by decide) w_106 rfl rfl rfl hh hlen (fun _ _ => rfl) (fun _ _ => rfl) k
theorem d_St_init_28 : decode prog_7_method_1_code 28 = .ok (.aload_n 0, 1) := by decide +kernel
theorem s_St_init_28 {x : Nat} (hl : lg lv 0 = some (.ref x)) (k : ev G M_St_init R E 29 lv (.ref x :: rest) h cells slots) : ev G M_St_init R E 28 lv rest h cells slots := ev_aload_n d_St_init_28 rfl hl k
theorem d_St_init_29 : decode prog_7_method_1_code 29 = .ok (.bipush 6, 2) := by decide +kernel
theorem s_St_init_29  (k : ev G M_St_init R E 31 lv (.int 6 :: rest) h cells slots) : ev G M_St_init R E 29 lv rest h cells slots := ev_bipush d_St_init_29 (by decide) k
theorem d_St_init_31 : decode prog_7_method_1_code 31 = .ok (.newarray .int, 2) := by decide +kernel
theorem s_St_init_31 {kn : Nat} (hcl : cells + 1 ≤ R.cells) (hsl : slots + 6 ≤ R.slots) (hf : h kn = mF) (hk : kn < tB) (k : ev G M_St_init R E 33 lv (.ref kn :: rest) (va_up h kn (mI 0 6 (fun _ => 0))) (cells + 1) (slots + 6)) : ev G M_St_init R E 31 lv (.int 6 :: rest) h cells slots := ev_newarray (t := 0) (c0 := mI 0 6 (fun _ => 0)) (a0 := (6, .inl (fun _ => 0))) d_St_init_31 rfl w_97 rfl (fun _ _ _ => rfl) (fun _ => rfl) (fun _ _ h => h) (fun _ => trivial) mI_ne (by decide) (by decide) (by decide) hcl hsl hf hk k
theorem d_St_init_33 : decode prog_7_method_1_code 33 = .ok (.putfield 22, 3) := by decide +kernel
theorem s_St_init_33 {x : Nat} {a : Nat} {fs : List Value} (hh : h a = mO 5 fs) (hlen : 3 < fs.length) (k : ev G M_St_init R E 36 lv rest (va_up h a (mO 5 (fs.set 3 (.ref x)))) cells slots) : ev G M_St_init R E 33 lv (.ref x :: .ref a :: rest) h cells slots := ev_putfinal (ci := 5) (kf := 3) d_St_init_33 rfl ck5 (by decide) w_108 rfl rfl rfl hh hlen (fun _ _ => rfl) (fun _ _ => rfl) k
theorem d_St_init_36 : decode prog_7_method_1_code 36 = .ok (.aload_n 0, 1) := by decide +kernel
theorem s_St_init_36 {x : Nat} (hl : lg lv 0 = some (.ref x)) (k : ev G M_St_init R E 37 lv (.ref x :: rest) h cells slots) : ev G M_St_init R E 36 lv rest h cells slots := ev_aload_n d_St_init_36 rfl hl k
theorem d_St_init_37 : decode prog_7_method_1_code 37 = .ok (.bipush 6, 2) := by decide +kernel
theorem s_St_init_37  (k : ev G M_St_init R E 39 lv (.int 6 :: rest) h cells slots) : ev G M_St_init R E 37 lv rest h cells slots := ev_bipush d_St_init_37 (by decide) k
theorem d_St_init_39 : decode prog_7_method_1_code 39 = .ok (.newarray .int, 2) := by decide +kernel
theorem s_St_init_39 {kn : Nat} (hcl : cells + 1 ≤ R.cells) (hsl : slots + 6 ≤ R.slots) (hf : h kn = mF) (hk : kn < tB) (k : ev G M_St_init R E 41 lv (.ref kn :: rest) (va_up h kn (mI 0 6 (fun _ => 0))) (cells + 1) (slots + 6)) : ev G M_St_init R E 39 lv (.int 6 :: rest) h cells slots := ev_newarray (t := 0) (c0 := mI 0 6 (fun _ => 0)) (a0 := (6, .inl (fun _ => 0))) d_St_init_39 rfl w_97 rfl (fun _ _ _ => rfl) (fun _ => rfl) (fun _ _ h => h) (fun _ => trivial) mI_ne (by decide) (by decide) (by decide) hcl hsl hf hk k
theorem d_St_init_41 : decode prog_7_method_1_code 41 = .ok (.putfield 25, 3) := by decide +kernel
theorem s_St_init_41 {x : Nat} {a : Nat} {fs : List Value} (hh : h a = mO 5 fs) (hlen : 4 < fs.length) (k : ev G M_St_init R E 44 lv rest (va_up h a (mO 5 (fs.set 4 (.ref x)))) cells slots) : ev G M_St_init R E 41 lv (.ref x :: .ref a :: rest) h cells slots := ev_putfinal (ci := 5) (kf := 4) d_St_init_41 rfl ck5 (by decide) w_110 rfl rfl rfl hh hlen (fun _ _ => rfl) (fun _ _ => rfl) k
theorem d_St_init_44 : decode prog_7_method_1_code 44 = .ok (.aload_n 0, 1) := by decide +kernel
theorem s_St_init_44 {x : Nat} (hl : lg lv 0 = some (.ref x)) (k : ev G M_St_init R E 45 lv (.ref x :: rest) h cells slots) : ev G M_St_init R E 44 lv rest h cells slots := ev_aload_n d_St_init_44 rfl hl k
theorem d_St_init_45 : decode prog_7_method_1_code 45 = .ok (.bipush 6, 2) := by decide +kernel
theorem s_St_init_45  (k : ev G M_St_init R E 47 lv (.int 6 :: rest) h cells slots) : ev G M_St_init R E 45 lv rest h cells slots := ev_bipush d_St_init_45 (by decide) k
theorem d_St_init_47 : decode prog_7_method_1_code 47 = .ok (.newarray .int, 2) := by decide +kernel
theorem s_St_init_47 {kn : Nat} (hcl : cells + 1 ≤ R.cells) (hsl : slots + 6 ≤ R.slots) (hf : h kn = mF) (hk : kn < tB) (k : ev G M_St_init R E 49 lv (.ref kn :: rest) (va_up h kn (mI 0 6 (fun _ => 0))) (cells + 1) (slots + 6)) : ev G M_St_init R E 47 lv (.int 6 :: rest) h cells slots := ev_newarray (t := 0) (c0 := mI 0 6 (fun _ => 0)) (a0 := (6, .inl (fun _ => 0))) d_St_init_47 rfl w_97 rfl (fun _ _ _ => rfl) (fun _ => rfl) (fun _ _ h => h) (fun _ => trivial) mI_ne (by decide) (by decide) (by decide) hcl hsl hf hk k
theorem d_St_init_49 : decode prog_7_method_1_code 49 = .ok (.putfield 28, 3) := by decide +kernel
theorem s_St_init_49 {x : Nat} {a : Nat} {fs : List Value} (hh : h a = mO 5 fs) (hlen : 5 < fs.length) (k : ev G M_St_init R E 52 lv rest (va_up h a (mO 5 (fs.set 5 (.ref x)))) cells slots) : ev G M_St_init R E 49 lv (.ref x :: .ref a :: rest) h cells slots := ev_putfinal (ci := 5) (kf := 5) d_St_init_49 rfl ck5 (by decide) w_112 rfl rfl rfl hh hlen (fun _ _ => rfl) (fun _ _ => rfl) k
theorem d_St_init_52 : decode prog_7_method_1_code 52 = .ok (.aload_n 0, 1) := by decide +kernel
theorem s_St_init_52 {x : Nat} (hl : lg lv 0 = some (.ref x)) (k : ev G M_St_init R E 53 lv (.ref x :: rest) h cells slots) : ev G M_St_init R E 52 lv rest h cells slots := ev_aload_n d_St_init_52 rfl hl k
theorem d_St_init_53 : decode prog_7_method_1_code 53 = .ok (.iconst 5, 1) := by decide +kernel
theorem s_St_init_53  (k : ev G M_St_init R E 54 lv (.int 5 :: rest) h cells slots) : ev G M_St_init R E 53 lv rest h cells slots := ev_iconst d_St_init_53 (by decide) k
theorem d_St_init_54 : decode prog_7_method_1_code 54 = .ok (.newarray .int, 2) := by decide +kernel
theorem s_St_init_54 {kn : Nat} (hcl : cells + 1 ≤ R.cells) (hsl : slots + 5 ≤ R.slots) (hf : h kn = mF) (hk : kn < tB) (k : ev G M_St_init R E 56 lv (.ref kn :: rest) (va_up h kn (mI 0 5 (fun _ => 0))) (cells + 1) (slots + 5)) : ev G M_St_init R E 54 lv (.int 5 :: rest) h cells slots := ev_newarray (t := 0) (c0 := mI 0 5 (fun _ => 0)) (a0 := (5, .inl (fun _ => 0))) d_St_init_54 rfl w_97 rfl (fun _ _ _ => rfl) (fun _ => rfl) (fun _ _ h => h) (fun _ => trivial) mI_ne (by decide) (by decide) (by decide) hcl hsl hf hk k
theorem d_St_init_56 : decode prog_7_method_1_code 56 = .ok (.putfield 31, 3) := by decide +kernel
theorem s_St_init_56 {x : Nat} {a : Nat} {fs : List Value} (hh : h a = mO 5 fs) (hlen : 6 < fs.length) (k : ev G M_St_init R E 59 lv rest (va_up h a (mO 5 (fs.set 6 (.ref x)))) cells slots) : ev G M_St_init R E 56 lv (.ref x :: .ref a :: rest) h cells slots := ev_putfinal (ci := 5) (kf := 6) d_St_init_56 rfl ck5 (by decide) w_114 rfl rfl rfl hh hlen (fun _ _ => rfl) (fun _ _ => rfl) k
theorem d_St_init_59 : decode prog_7_method_1_code 59 = .ok (.aload_n 0, 1) := by decide +kernel
theorem s_St_init_59 {x : Nat} (hl : lg lv 0 = some (.ref x)) (k : ev G M_St_init R E 60 lv (.ref x :: rest) h cells slots) : ev G M_St_init R E 59 lv rest h cells slots := ev_aload_n d_St_init_59 rfl hl k
theorem d_St_init_60 : decode prog_7_method_1_code 60 = .ok (.iconst 5, 1) := by decide +kernel
theorem s_St_init_60  (k : ev G M_St_init R E 61 lv (.int 5 :: rest) h cells slots) : ev G M_St_init R E 60 lv rest h cells slots := ev_iconst d_St_init_60 (by decide) k
theorem d_St_init_61 : decode prog_7_method_1_code 61 = .ok (.newarray .int, 2) := by decide +kernel
theorem s_St_init_61 {kn : Nat} (hcl : cells + 1 ≤ R.cells) (hsl : slots + 5 ≤ R.slots) (hf : h kn = mF) (hk : kn < tB) (k : ev G M_St_init R E 63 lv (.ref kn :: rest) (va_up h kn (mI 0 5 (fun _ => 0))) (cells + 1) (slots + 5)) : ev G M_St_init R E 61 lv (.int 5 :: rest) h cells slots := ev_newarray (t := 0) (c0 := mI 0 5 (fun _ => 0)) (a0 := (5, .inl (fun _ => 0))) d_St_init_61 rfl w_97 rfl (fun _ _ _ => rfl) (fun _ => rfl) (fun _ _ h => h) (fun _ => trivial) mI_ne (by decide) (by decide) (by decide) hcl hsl hf hk k
theorem d_St_init_63 : decode prog_7_method_1_code 63 = .ok (.putfield 34, 3) := by decide +kernel
theorem s_St_init_63 {x : Nat} {a : Nat} {fs : List Value} (hh : h a = mO 5 fs) (hlen : 7 < fs.length) (k : ev G M_St_init R E 66 lv rest (va_up h a (mO 5 (fs.set 7 (.ref x)))) cells slots) : ev G M_St_init R E 63 lv (.ref x :: .ref a :: rest) h cells slots := ev_putfinal (ci := 5) (kf := 7) d_St_init_63 rfl ck5 (by decide) w_115 rfl rfl rfl hh hlen (fun _ _ => rfl) (fun _ _ => rfl) k
theorem d_St_init_66 : decode prog_7_method_1_code 66 = .ok (.aload_n 0, 1) := by decide +kernel
theorem s_St_init_66 {x : Nat} (hl : lg lv 0 = some (.ref x)) (k : ev G M_St_init R E 67 lv (.ref x :: rest) h cells slots) : ev G M_St_init R E 66 lv rest h cells slots := ev_aload_n d_St_init_66 rfl hl k
theorem d_St_init_67 : decode prog_7_method_1_code 67 = .ok (.iconst 5, 1) := by decide +kernel
theorem s_St_init_67  (k : ev G M_St_init R E 68 lv (.int 5 :: rest) h cells slots) : ev G M_St_init R E 67 lv rest h cells slots := ev_iconst d_St_init_67 (by decide) k
theorem d_St_init_68 : decode prog_7_method_1_code 68 = .ok (.newarray .int, 2) := by decide +kernel
theorem s_St_init_68 {kn : Nat} (hcl : cells + 1 ≤ R.cells) (hsl : slots + 5 ≤ R.slots) (hf : h kn = mF) (hk : kn < tB) (k : ev G M_St_init R E 70 lv (.ref kn :: rest) (va_up h kn (mI 0 5 (fun _ => 0))) (cells + 1) (slots + 5)) : ev G M_St_init R E 68 lv (.int 5 :: rest) h cells slots := ev_newarray (t := 0) (c0 := mI 0 5 (fun _ => 0)) (a0 := (5, .inl (fun _ => 0))) d_St_init_68 rfl w_97 rfl (fun _ _ _ => rfl) (fun _ => rfl) (fun _ _ h => h) (fun _ => trivial) mI_ne (by decide) (by decide) (by decide) hcl hsl hf hk k
theorem d_St_init_70 : decode prog_7_method_1_code 70 = .ok (.putfield 37, 3) := by decide +kernel
theorem s_St_init_70 {x : Nat} {a : Nat} {fs : List Value} (hh : h a = mO 5 fs) (hlen : 8 < fs.length) (k : ev G M_St_init R E 73 lv rest (va_up h a (mO 5 (fs.set 8 (.ref x)))) cells slots) : ev G M_St_init R E 70 lv (.ref x :: .ref a :: rest) h cells slots := ev_putfinal (ci := 5) (kf := 8) d_St_init_70 rfl ck5 (by decide) w_116 rfl rfl rfl hh hlen (fun _ _ => rfl) (fun _ _ => rfl) k
theorem d_St_init_73 : decode prog_7_method_1_code 73 = .ok (.aload_n 0, 1) := by decide +kernel
theorem s_St_init_73 {x : Nat} (hl : lg lv 0 = some (.ref x)) (k : ev G M_St_init R E 74 lv (.ref x :: rest) h cells slots) : ev G M_St_init R E 73 lv rest h cells slots := ev_aload_n d_St_init_73 rfl hl k
theorem d_St_init_74 : decode prog_7_method_1_code 74 = .ok (.iconst 5, 1) := by decide +kernel
theorem s_St_init_74  (k : ev G M_St_init R E 75 lv (.int 5 :: rest) h cells slots) : ev G M_St_init R E 74 lv rest h cells slots := ev_iconst d_St_init_74 (by decide) k
theorem d_St_init_75 : decode prog_7_method_1_code 75 = .ok (.newarray .int, 2) := by decide +kernel
theorem s_St_init_75 {kn : Nat} (hcl : cells + 1 ≤ R.cells) (hsl : slots + 5 ≤ R.slots) (hf : h kn = mF) (hk : kn < tB) (k : ev G M_St_init R E 77 lv (.ref kn :: rest) (va_up h kn (mI 0 5 (fun _ => 0))) (cells + 1) (slots + 5)) : ev G M_St_init R E 75 lv (.int 5 :: rest) h cells slots := ev_newarray (t := 0) (c0 := mI 0 5 (fun _ => 0)) (a0 := (5, .inl (fun _ => 0))) d_St_init_75 rfl w_97 rfl (fun _ _ _ => rfl) (fun _ => rfl) (fun _ _ h => h) (fun _ => trivial) mI_ne (by decide) (by decide) (by decide) hcl hsl hf hk k
theorem d_St_init_77 : decode prog_7_method_1_code 77 = .ok (.putfield 40, 3) := by decide +kernel
theorem s_St_init_77 {x : Nat} {a : Nat} {fs : List Value} (hh : h a = mO 5 fs) (hlen : 9 < fs.length) (k : ev G M_St_init R E 80 lv rest (va_up h a (mO 5 (fs.set 9 (.ref x)))) cells slots) : ev G M_St_init R E 77 lv (.ref x :: .ref a :: rest) h cells slots := ev_putfinal (ci := 5) (kf := 9) d_St_init_77 rfl ck5 (by decide) w_117 rfl rfl rfl hh hlen (fun _ _ => rfl) (fun _ _ => rfl) k
theorem d_St_init_80 : decode prog_7_method_1_code 80 = .ok (.aload_n 0, 1) := by decide +kernel
theorem s_St_init_80 {x : Nat} (hl : lg lv 0 = some (.ref x)) (k : ev G M_St_init R E 81 lv (.ref x :: rest) h cells slots) : ev G M_St_init R E 80 lv rest h cells slots := ev_aload_n d_St_init_80 rfl hl k
theorem d_St_init_81 : decode prog_7_method_1_code 81 = .ok (.iconst 0, 1) := by decide +kernel
theorem s_St_init_81  (k : ev G M_St_init R E 82 lv (.int 0 :: rest) h cells slots) : ev G M_St_init R E 81 lv rest h cells slots := ev_iconst d_St_init_81 (by decide) k
theorem d_St_init_82 : decode prog_7_method_1_code 82 = .ok (.putfield 43, 3) := by decide +kernel
theorem s_St_init_82 {x : Int32} {a : Nat} {fs : List Value} (hh : h a = mO 5 fs) (hlen : 10 < fs.length) (k : ev G M_St_init R E 85 lv rest (va_up h a (mO 5 (fs.set 10 (.int x)))) cells slots) : ev G M_St_init R E 82 lv (.int x :: .ref a :: rest) h cells slots := ev_putfield (ci := 5) (kf := 10) d_St_init_82 rfl ck5 (by decide) w_118 rfl hh hlen (fun _ _ => rfl) (fun _ _ => rfl) k
theorem d_St_init_85 : decode prog_7_method_1_code 85 = .ok (.aload_n 0, 1) := by decide +kernel
theorem s_St_init_85 {x : Nat} (hl : lg lv 0 = some (.ref x)) (k : ev G M_St_init R E 86 lv (.ref x :: rest) h cells slots) : ev G M_St_init R E 85 lv rest h cells slots := ev_aload_n d_St_init_85 rfl hl k
theorem d_St_init_86 : decode prog_7_method_1_code 86 = .ok (.iconst 0, 1) := by decide +kernel
theorem s_St_init_86  (k : ev G M_St_init R E 87 lv (.int 0 :: rest) h cells slots) : ev G M_St_init R E 86 lv rest h cells slots := ev_iconst d_St_init_86 (by decide) k
theorem d_St_init_87 : decode prog_7_method_1_code 87 = .ok (.putfield 47, 3) := by decide +kernel
theorem s_St_init_87 {x : Int32} {a : Nat} {fs : List Value} (hh : h a = mO 5 fs) (hlen : 11 < fs.length) (k : ev G M_St_init R E 90 lv rest (va_up h a (mO 5 (fs.set 11 (.int x)))) cells slots) : ev G M_St_init R E 87 lv (.int x :: .ref a :: rest) h cells slots := ev_putfield (ci := 5) (kf := 11) d_St_init_87 rfl ck5 (by decide) w_120 rfl hh hlen (fun _ _ => rfl) (fun _ _ => rfl) k
theorem d_St_init_90 : decode prog_7_method_1_code 90 = .ok (.aload_n 0, 1) := by decide +kernel
theorem s_St_init_90 {x : Nat} (hl : lg lv 0 = some (.ref x)) (k : ev G M_St_init R E 91 lv (.ref x :: rest) h cells slots) : ev G M_St_init R E 90 lv rest h cells slots := ev_aload_n d_St_init_90 rfl hl k
theorem d_St_init_91 : decode prog_7_method_1_code 91 = .ok (.iconst 0, 1) := by decide +kernel
theorem s_St_init_91  (k : ev G M_St_init R E 92 lv (.int 0 :: rest) h cells slots) : ev G M_St_init R E 91 lv rest h cells slots := ev_iconst d_St_init_91 (by decide) k
theorem d_St_init_92 : decode prog_7_method_1_code 92 = .ok (.putfield 50, 3) := by decide +kernel
theorem s_St_init_92 {x : Int32} {a : Nat} {fs : List Value} (hh : h a = mO 5 fs) (hlen : 12 < fs.length) (k : ev G M_St_init R E 95 lv rest (va_up h a (mO 5 (fs.set 12 (.int x)))) cells slots) : ev G M_St_init R E 92 lv (.int x :: .ref a :: rest) h cells slots := ev_putfield (ci := 5) (kf := 12) d_St_init_92 rfl ck5 (by decide) w_123 rfl hh hlen (fun _ _ => rfl) (fun _ _ => rfl) k
theorem d_St_init_95 : decode prog_7_method_1_code 95 = .ok (.aload_n 0, 1) := by decide +kernel
theorem s_St_init_95 {x : Nat} (hl : lg lv 0 = some (.ref x)) (k : ev G M_St_init R E 96 lv (.ref x :: rest) h cells slots) : ev G M_St_init R E 95 lv rest h cells slots := ev_aload_n d_St_init_95 rfl hl k
theorem d_St_init_96 : decode prog_7_method_1_code 96 = .ok (.iconst 0, 1) := by decide +kernel
theorem s_St_init_96  (k : ev G M_St_init R E 97 lv (.int 0 :: rest) h cells slots) : ev G M_St_init R E 96 lv rest h cells slots := ev_iconst d_St_init_96 (by decide) k
theorem d_St_init_97 : decode prog_7_method_1_code 97 = .ok (.putfield 53, 3) := by decide +kernel
theorem s_St_init_97 {x : Int32} {a : Nat} {fs : List Value} (hh : h a = mO 5 fs) (hlen : 13 < fs.length) (k : ev G M_St_init R E 100 lv rest (va_up h a (mO 5 (fs.set 13 (.int x)))) cells slots) : ev G M_St_init R E 97 lv (.int x :: .ref a :: rest) h cells slots := ev_putfield (ci := 5) (kf := 13) d_St_init_97 rfl ck5 (by decide) w_126 rfl hh hlen (fun _ _ => rfl) (fun _ _ => rfl) k
theorem d_St_init_100 : decode prog_7_method_1_code 100 = .ok (.aload_n 0, 1) := by decide +kernel
theorem s_St_init_100 {x : Nat} (hl : lg lv 0 = some (.ref x)) (k : ev G M_St_init R E 101 lv (.ref x :: rest) h cells slots) : ev G M_St_init R E 100 lv rest h cells slots := ev_aload_n d_St_init_100 rfl hl k
theorem d_St_init_101 : decode prog_7_method_1_code 101 = .ok (.iconst 0, 1) := by decide +kernel
theorem s_St_init_101  (k : ev G M_St_init R E 102 lv (.int 0 :: rest) h cells slots) : ev G M_St_init R E 101 lv rest h cells slots := ev_iconst d_St_init_101 (by decide) k
theorem d_St_init_102 : decode prog_7_method_1_code 102 = .ok (.putfield 56, 3) := by decide +kernel
theorem s_St_init_102 {x : Int32} {a : Nat} {fs : List Value} (hh : h a = mO 5 fs) (hlen : 14 < fs.length) (k : ev G M_St_init R E 105 lv rest (va_up h a (mO 5 (fs.set 14 (.int x)))) cells slots) : ev G M_St_init R E 102 lv (.int x :: .ref a :: rest) h cells slots := ev_putfield (ci := 5) (kf := 14) d_St_init_102 rfl ck5 (by decide) w_129 rfl hh hlen (fun _ _ => rfl) (fun _ _ => rfl) k
theorem d_St_init_105 : decode prog_7_method_1_code 105 = .ok (.return_, 1) := by decide +kernel
theorem s_St_init_105 {P : Option Value → HP → Prop} {mc ms : Nat} (hP : P none h) (hc : cells ≤ mc ∧ slots ≤ ms) : ev G M_St_init R (Er M_St_init P mc ms) 105 lv [] h cells slots := ev_exit ⟨hc.1, hc.2, Or.inl ⟨rfl, d_St_init_105, rfl, hP⟩⟩
abbrev M_Hi_init : MW := (⟨"UseOnceMachine$History", "<init>", "()V"⟩, prog_3_method_1_code, 1, none)
theorem hy_Hi_init : M_Hi_init.1.cls ≠ "java/lang/invoke/MethodHandle" ∧ M_Hi_init.1.cls ≠ "java/lang/invoke/VarHandle" ∧ (parseMethodDescriptor M_Hi_init.1.desc).map (fun d => d.parameters.length) = some 0 := by decide +kernel
theorem d_Hi_init_0 : decode prog_3_method_1_code 0 = .ok (.aload_n 0, 1) := by decide +kernel
theorem s_Hi_init_0 {x : Nat} (hl : lg lv 0 = some (.ref x)) (k : ev G M_Hi_init R E 1 lv (.ref x :: rest) h cells slots) : ev G M_Hi_init R E 0 lv rest h cells slots := ev_aload_n d_Hi_init_0 rfl hl k
theorem s_Hi_init_0N  (hl : lg lv 0 = some .null) (k : ev G M_Hi_init R E 1 lv (.null :: rest) h cells slots) : ev G M_Hi_init R E 0 lv rest h cells slots := ev_aload_nN d_Hi_init_0 rfl hl k
theorem d_Hi_init_1 : decode prog_3_method_1_code 1 = .ok (.invokespecial 3, 3) := by decide +kernel
theorem s_Hi_init_1 {b : Nat} (hfr : 1 ≤ R.frames) (hlo : (rest.map fun v => v.category).sum + 12 ≤ R.locals) (k : ev G M_Hi_init R E 4 lv rest h cells slots) : ev G M_Hi_init R E 1 lv (.ref b :: rest) h cells slots := ev_objInit d_Hi_init_1 w_169 w_82 w_83 hfr hlo k
theorem d_Hi_init_4 : decode prog_3_method_1_code 4 = .ok (.aload_n 0, 1) := by decide +kernel
theorem s_Hi_init_4 {x : Nat} (hl : lg lv 0 = some (.ref x)) (k : ev G M_Hi_init R E 5 lv (.ref x :: rest) h cells slots) : ev G M_Hi_init R E 4 lv rest h cells slots := ev_aload_n d_Hi_init_4 rfl hl k
theorem s_Hi_init_4N  (hl : lg lv 0 = some .null) (k : ev G M_Hi_init R E 5 lv (.null :: rest) h cells slots) : ev G M_Hi_init R E 4 lv rest h cells slots := ev_aload_nN d_Hi_init_4 rfl hl k
theorem d_Hi_init_5 : decode prog_3_method_1_code 5 = .ok (.bipush 40, 2) := by decide +kernel
theorem s_Hi_init_5  (k : ev G M_Hi_init R E 7 lv (.int 40 :: rest) h cells slots) : ev G M_Hi_init R E 5 lv rest h cells slots := ev_bipush d_Hi_init_5 (by decide) k
theorem d_Hi_init_7 : decode prog_3_method_1_code 7 = .ok (.anewarray 9, 3) := by decide +kernel
theorem s_Hi_init_7 {kn : Nat} (hcl : cells + 1 ≤ R.cells) (hsl : slots + 40 ≤ R.slots) (hf : h kn = mF) (hk : kn < tB) (k : ev G M_Hi_init R E 10 lv (.ref kn :: rest) (va_up h kn (mR 3 40 (fun _ => none))) (cells + 1) (slots + 40)) : ev G M_Hi_init R E 7 lv (.int 40 :: rest) h cells slots := ev_anewarray (t := 3) d_Hi_init_7 w_170 (by simp) rfl (by decide) (by decide) (by decide) hcl hsl hf hk k
theorem d_Hi_init_10 : decode prog_3_method_1_code 10 = .ok (.putfield 11, 3) := by decide +kernel
theorem s_Hi_init_10 {x : Nat} {a : Nat} {fs : List Value} (hh : h a = mO 1 fs) (hlen : 0 < fs.length) (k : ev G M_Hi_init R E 13 lv rest (va_up h a (mO 1 (fs.set 0 (.ref x)))) cells slots) : ev G M_Hi_init R E 10 lv (.ref x :: .ref a :: rest) h cells slots := ev_putfinal (ci := 1) (kf := 0) d_Hi_init_10 rfl ck1 (by decide) w_172 rfl rfl rfl hh hlen (fun _ _ => rfl) (fun _ _ => rfl) k
theorem d_Hi_init_13 : decode prog_3_method_1_code 13 = .ok (.aload_n 0, 1) := by decide +kernel
theorem s_Hi_init_13 {x : Nat} (hl : lg lv 0 = some (.ref x)) (k : ev G M_Hi_init R E 14 lv (.ref x :: rest) h cells slots) : ev G M_Hi_init R E 13 lv rest h cells slots := ev_aload_n d_Hi_init_13 rfl hl k
theorem s_Hi_init_13N  (hl : lg lv 0 = some .null) (k : ev G M_Hi_init R E 14 lv (.null :: rest) h cells slots) : ev G M_Hi_init R E 13 lv rest h cells slots := ev_aload_nN d_Hi_init_13 rfl hl k
theorem d_Hi_init_14 : decode prog_3_method_1_code 14 = .ok (.iconst 0, 1) := by decide +kernel
theorem s_Hi_init_14  (k : ev G M_Hi_init R E 15 lv (.int 0 :: rest) h cells slots) : ev G M_Hi_init R E 14 lv rest h cells slots := ev_iconst d_Hi_init_14 (by decide) k
theorem d_Hi_init_15 : decode prog_3_method_1_code 15 = .ok (.putfield 17, 3) := by decide +kernel
theorem s_Hi_init_15 {x : Int32} {a : Nat} {fs : List Value} (hh : h a = mO 1 fs) (hlen : 1 < fs.length) (k : ev G M_Hi_init R E 18 lv rest (va_up h a (mO 1 (fs.set 1 (.int x)))) cells slots) : ev G M_Hi_init R E 15 lv (.int x :: .ref a :: rest) h cells slots := ev_putfield (ci := 1) (kf := 1) d_Hi_init_15 rfl ck1 (by decide) w_173 rfl hh hlen (fun _ _ => rfl) (fun _ _ => rfl) k
theorem d_Hi_init_18 : decode prog_3_method_1_code 18 = .ok (.aload_n 0, 1) := by decide +kernel
theorem s_Hi_init_18 {x : Nat} (hl : lg lv 0 = some (.ref x)) (k : ev G M_Hi_init R E 19 lv (.ref x :: rest) h cells slots) : ev G M_Hi_init R E 18 lv rest h cells slots := ev_aload_n d_Hi_init_18 rfl hl k
theorem s_Hi_init_18N  (hl : lg lv 0 = some .null) (k : ev G M_Hi_init R E 19 lv (.null :: rest) h cells slots) : ev G M_Hi_init R E 18 lv rest h cells slots := ev_aload_nN d_Hi_init_18 rfl hl k
theorem d_Hi_init_19 : decode prog_3_method_1_code 19 = .ok (.iconst 0, 1) := by decide +kernel
theorem s_Hi_init_19  (k : ev G M_Hi_init R E 20 lv (.int 0 :: rest) h cells slots) : ev G M_Hi_init R E 19 lv rest h cells slots := ev_iconst d_Hi_init_19 (by decide) k
theorem d_Hi_init_20 : decode prog_3_method_1_code 20 = .ok (.putfield 21, 3) := by decide +kernel
theorem s_Hi_init_20 {x : Int32} {a : Nat} {fs : List Value} (hh : h a = mO 1 fs) (hlen : 2 < fs.length) (k : ev G M_Hi_init R E 23 lv rest (va_up h a (mO 1 (fs.set 2 (.int x)))) cells slots) : ev G M_Hi_init R E 20 lv (.int x :: .ref a :: rest) h cells slots := ev_putfield (ci := 1) (kf := 2) d_Hi_init_20 rfl ck1 (by decide) w_174 rfl hh hlen (fun _ _ => rfl) (fun _ _ => rfl) k
theorem d_Hi_init_23 : decode prog_3_method_1_code 23 = .ok (.return_, 1) := by decide +kernel
theorem s_Hi_init_23 {P : Option Value → HP → Prop} {mc ms : Nat} (hP : P none h) (hc : cells ≤ mc ∧ slots ≤ ms) : ev G M_Hi_init R (Er M_Hi_init P mc ms) 23 lv [] h cells slots := ev_exit ⟨hc.1, hc.2, Or.inl ⟨rfl, d_Hi_init_23, rfl, hP⟩⟩
abbrev M_Hi_clear : MW := (⟨"UseOnceMachine$History", "clear", "()V"⟩, prog_3_method_2_code, 1, none)
theorem hy_Hi_clear : M_Hi_clear.1.cls ≠ "java/lang/invoke/MethodHandle" ∧ M_Hi_clear.1.cls ≠ "java/lang/invoke/VarHandle" ∧ (parseMethodDescriptor M_Hi_clear.1.desc).map (fun d => d.parameters.length) = some 0 := by decide +kernel
theorem d_Hi_clear_0 : decode prog_3_method_2_code 0 = .ok (.aload_n 0, 1) := by decide +kernel
theorem s_Hi_clear_0 {x : Nat} (hl : lg lv 0 = some (.ref x)) (k : ev G M_Hi_clear R E 1 lv (.ref x :: rest) h cells slots) : ev G M_Hi_clear R E 0 lv rest h cells slots := ev_aload_n d_Hi_clear_0 rfl hl k
theorem s_Hi_clear_0N  (hl : lg lv 0 = some .null) (k : ev G M_Hi_clear R E 1 lv (.null :: rest) h cells slots) : ev G M_Hi_clear R E 0 lv rest h cells slots := ev_aload_nN d_Hi_clear_0 rfl hl k
theorem d_Hi_clear_1 : decode prog_3_method_2_code 1 = .ok (.iconst 0, 1) := by decide +kernel
theorem s_Hi_clear_1  (k : ev G M_Hi_clear R E 2 lv (.int 0 :: rest) h cells slots) : ev G M_Hi_clear R E 1 lv rest h cells slots := ev_iconst d_Hi_clear_1 (by decide) k
theorem d_Hi_clear_2 : decode prog_3_method_2_code 2 = .ok (.putfield 17, 3) := by decide +kernel
theorem s_Hi_clear_2 {x : Int32} {a : Nat} {fs : List Value} (hh : h a = mO 1 fs) (hlen : 1 < fs.length) (k : ev G M_Hi_clear R E 5 lv rest (va_up h a (mO 1 (fs.set 1 (.int x)))) cells slots) : ev G M_Hi_clear R E 2 lv (.int x :: .ref a :: rest) h cells slots := ev_putfield (ci := 1) (kf := 1) d_Hi_clear_2 rfl ck1 (by decide) w_173 rfl hh hlen (fun _ _ => rfl) (fun _ _ => rfl) k
theorem d_Hi_clear_5 : decode prog_3_method_2_code 5 = .ok (.aload_n 0, 1) := by decide +kernel
theorem s_Hi_clear_5 {x : Nat} (hl : lg lv 0 = some (.ref x)) (k : ev G M_Hi_clear R E 6 lv (.ref x :: rest) h cells slots) : ev G M_Hi_clear R E 5 lv rest h cells slots := ev_aload_n d_Hi_clear_5 rfl hl k
theorem s_Hi_clear_5N  (hl : lg lv 0 = some .null) (k : ev G M_Hi_clear R E 6 lv (.null :: rest) h cells slots) : ev G M_Hi_clear R E 5 lv rest h cells slots := ev_aload_nN d_Hi_clear_5 rfl hl k
theorem d_Hi_clear_6 : decode prog_3_method_2_code 6 = .ok (.iconst 0, 1) := by decide +kernel
theorem s_Hi_clear_6  (k : ev G M_Hi_clear R E 7 lv (.int 0 :: rest) h cells slots) : ev G M_Hi_clear R E 6 lv rest h cells slots := ev_iconst d_Hi_clear_6 (by decide) k
theorem d_Hi_clear_7 : decode prog_3_method_2_code 7 = .ok (.putfield 21, 3) := by decide +kernel
theorem s_Hi_clear_7 {x : Int32} {a : Nat} {fs : List Value} (hh : h a = mO 1 fs) (hlen : 2 < fs.length) (k : ev G M_Hi_clear R E 10 lv rest (va_up h a (mO 1 (fs.set 2 (.int x)))) cells slots) : ev G M_Hi_clear R E 7 lv (.int x :: .ref a :: rest) h cells slots := ev_putfield (ci := 1) (kf := 2) d_Hi_clear_7 rfl ck1 (by decide) w_174 rfl hh hlen (fun _ _ => rfl) (fun _ _ => rfl) k
theorem d_Hi_clear_10 : decode prog_3_method_2_code 10 = .ok (.return_, 1) := by decide +kernel
theorem s_Hi_clear_10 {P : Option Value → HP → Prop} {mc ms : Nat} (hP : P none h) (hc : cells ≤ mc ∧ slots ≤ ms) : ev G M_Hi_clear R (Er M_Hi_clear P mc ms) 10 lv [] h cells slots := ev_exit ⟨hc.1, hc.2, Or.inl ⟨rfl, d_Hi_clear_10, rfl, hP⟩⟩
abbrev M_St_clear : MW := (⟨"UseOnceMachine$State", "clear", "()V"⟩, prog_7_method_2_code, 1, none)
theorem hy_St_clear : M_St_clear.1.cls ≠ "java/lang/invoke/MethodHandle" ∧ M_St_clear.1.cls ≠ "java/lang/invoke/VarHandle" ∧ (parseMethodDescriptor M_St_clear.1.desc).map (fun d => d.parameters.length) = some 0 := by decide +kernel
theorem d_St_clear_0 : decode prog_7_method_2_code 0 = .ok (.aload_n 0, 1) := by decide +kernel
theorem s_St_clear_0 {x : Nat} (hl : lg lv 0 = some (.ref x)) (k : ev G M_St_clear R E 1 lv (.ref x :: rest) h cells slots) : ev G M_St_clear R E 0 lv rest h cells slots := ev_aload_n d_St_clear_0 rfl hl k
theorem d_St_clear_1 : decode prog_7_method_2_code 1 = .ok (.getfield 9, 3) := by decide +kernel
theorem s_St_clear_1 {a : Nat} {fs : List Value} {v : Value} (hh : h a = mO 5 fs) (hv : fs[0]? = some v) (k : ev G M_St_clear R E 4 lv (v :: rest) h cells slots) : ev G M_St_clear R E 1 lv (.ref a :: rest) h cells slots := ev_getfield (ci := 5) (kf := 0) d_St_clear_1 rfl ck5 (by decide) w_104 hh hv k
theorem d_St_clear_4 : decode prog_7_method_2_code 4 = .ok (.lconst 0, 1) := by decide +kernel
theorem s_St_clear_4  (k : ev G M_St_clear R E 5 lv (.long 0 :: rest) h cells slots) : ev G M_St_clear R E 4 lv rest h cells slots := ev_lconst d_St_clear_4 (by decide) k
theorem d_St_clear_5 : decode prog_7_method_2_code 5 = .ok (.invokestatic 61, 3) := by decide +kernel
theorem s_St_clear_5 {mc ms : Nat} {P : Option Value → HP → Prop} {a0 : Nat} {a1 : Int64} (hm : mt G M_Ja_fillJ 0 mc ms [.ref a0, .long a1] h P) (hR : 0 + 1 ≤ R.frames ∧ 8 + (5 + 11) + 39 * 0 ≤ R.locals) (hcs : cells + mc ≤ R.cells ∧ slots + ms ≤ R.slots) (hrest : (rest.map fun v => v.category).sum ≤ 8) (k : ∀ (r : Option Value) (h' : HP), P r h' → ev G M_St_clear R E 8 lv (r.toList ++ rest) h' (cells + mc) (slots + ms)) : ev G M_St_clear R E 5 lv (.long a1 :: .ref a0 :: rest) h cells slots := ev_callS (as := [.ref a0, .long a1]) d_St_clear_5 hm w_291 w_292 w_71 w_293 hy_Ja_fillJ hR hcs hrest k
theorem d_St_clear_8 : decode prog_7_method_2_code 8 = .ok (.aload_n 0, 1) := by decide +kernel
theorem s_St_clear_8 {x : Nat} (hl : lg lv 0 = some (.ref x)) (k : ev G M_St_clear R E 9 lv (.ref x :: rest) h cells slots) : ev G M_St_clear R E 8 lv rest h cells slots := ev_aload_n d_St_clear_8 rfl hl k
theorem d_St_clear_9 : decode prog_7_method_2_code 9 = .ok (.getfield 18, 3) := by decide +kernel
theorem s_St_clear_9 {a : Nat} {fs : List Value} {v : Value} (hh : h a = mO 5 fs) (hv : fs[2]? = some v) (k : ev G M_St_clear R E 12 lv (v :: rest) h cells slots) : ev G M_St_clear R E 9 lv (.ref a :: rest) h cells slots := ev_getfield (ci := 5) (kf := 2) d_St_clear_9 rfl ck5 (by decide) w_106 hh hv k
theorem d_St_clear_12 : decode prog_7_method_2_code 12 = .ok (.iconst 0, 1) := by decide +kernel
theorem s_St_clear_12  (k : ev G M_St_clear R E 13 lv (.int 0 :: rest) h cells slots) : ev G M_St_clear R E 12 lv rest h cells slots := ev_iconst d_St_clear_12 (by decide) k
theorem d_St_clear_13 : decode prog_7_method_2_code 13 = .ok (.invokestatic 67, 3) := by decide +kernel
theorem s_St_clear_13 {mc ms : Nat} {P : Option Value → HP → Prop} {a0 : Nat} {a1 : Int32} (hm : mt G M_Ja_fillI 0 mc ms [.ref a0, .int a1] h P) (hR : 0 + 1 ≤ R.frames ∧ 8 + (4 + 11) + 39 * 0 ≤ R.locals) (hcs : cells + mc ≤ R.cells ∧ slots + ms ≤ R.slots) (hrest : (rest.map fun v => v.category).sum ≤ 8) (k : ∀ (r : Option Value) (h' : HP), P r h' → ev G M_St_clear R E 16 lv (r.toList ++ rest) h' (cells + mc) (slots + ms)) : ev G M_St_clear R E 13 lv (.int a1 :: .ref a0 :: rest) h cells slots := ev_callS (as := [.ref a0, .int a1]) d_St_clear_13 hm w_294 w_295 w_71 w_296 hy_Ja_fillI hR hcs hrest k
theorem d_St_clear_16 : decode prog_7_method_2_code 16 = .ok (.aload_n 0, 1) := by decide +kernel
theorem s_St_clear_16 {x : Nat} (hl : lg lv 0 = some (.ref x)) (k : ev G M_St_clear R E 17 lv (.ref x :: rest) h cells slots) : ev G M_St_clear R E 16 lv rest h cells slots := ev_aload_n d_St_clear_16 rfl hl k
theorem d_St_clear_17 : decode prog_7_method_2_code 17 = .ok (.getfield 22, 3) := by decide +kernel
theorem s_St_clear_17 {a : Nat} {fs : List Value} {v : Value} (hh : h a = mO 5 fs) (hv : fs[3]? = some v) (k : ev G M_St_clear R E 20 lv (v :: rest) h cells slots) : ev G M_St_clear R E 17 lv (.ref a :: rest) h cells slots := ev_getfield (ci := 5) (kf := 3) d_St_clear_17 rfl ck5 (by decide) w_108 hh hv k
theorem d_St_clear_20 : decode prog_7_method_2_code 20 = .ok (.iconst 0, 1) := by decide +kernel
theorem s_St_clear_20  (k : ev G M_St_clear R E 21 lv (.int 0 :: rest) h cells slots) : ev G M_St_clear R E 20 lv rest h cells slots := ev_iconst d_St_clear_20 (by decide) k
theorem d_St_clear_21 : decode prog_7_method_2_code 21 = .ok (.invokestatic 67, 3) := by decide +kernel
theorem s_St_clear_21 {mc ms : Nat} {P : Option Value → HP → Prop} {a0 : Nat} {a1 : Int32} (hm : mt G M_Ja_fillI 0 mc ms [.ref a0, .int a1] h P) (hR : 0 + 1 ≤ R.frames ∧ 8 + (4 + 11) + 39 * 0 ≤ R.locals) (hcs : cells + mc ≤ R.cells ∧ slots + ms ≤ R.slots) (hrest : (rest.map fun v => v.category).sum ≤ 8) (k : ∀ (r : Option Value) (h' : HP), P r h' → ev G M_St_clear R E 24 lv (r.toList ++ rest) h' (cells + mc) (slots + ms)) : ev G M_St_clear R E 21 lv (.int a1 :: .ref a0 :: rest) h cells slots := ev_callS (as := [.ref a0, .int a1]) d_St_clear_21 hm w_294 w_295 w_71 w_296 hy_Ja_fillI hR hcs hrest k
theorem d_St_clear_24 : decode prog_7_method_2_code 24 = .ok (.aload_n 0, 1) := by decide +kernel
theorem s_St_clear_24 {x : Nat} (hl : lg lv 0 = some (.ref x)) (k : ev G M_St_clear R E 25 lv (.ref x :: rest) h cells slots) : ev G M_St_clear R E 24 lv rest h cells slots := ev_aload_n d_St_clear_24 rfl hl k
theorem d_St_clear_25 : decode prog_7_method_2_code 25 = .ok (.getfield 25, 3) := by decide +kernel
theorem s_St_clear_25 {a : Nat} {fs : List Value} {v : Value} (hh : h a = mO 5 fs) (hv : fs[4]? = some v) (k : ev G M_St_clear R E 28 lv (v :: rest) h cells slots) : ev G M_St_clear R E 25 lv (.ref a :: rest) h cells slots := ev_getfield (ci := 5) (kf := 4) d_St_clear_25 rfl ck5 (by decide) w_110 hh hv k
theorem d_St_clear_28 : decode prog_7_method_2_code 28 = .ok (.iconst 0, 1) := by decide +kernel
theorem s_St_clear_28  (k : ev G M_St_clear R E 29 lv (.int 0 :: rest) h cells slots) : ev G M_St_clear R E 28 lv rest h cells slots := ev_iconst d_St_clear_28 (by decide) k
theorem d_St_clear_29 : decode prog_7_method_2_code 29 = .ok (.invokestatic 67, 3) := by decide +kernel
theorem s_St_clear_29 {mc ms : Nat} {P : Option Value → HP → Prop} {a0 : Nat} {a1 : Int32} (hm : mt G M_Ja_fillI 0 mc ms [.ref a0, .int a1] h P) (hR : 0 + 1 ≤ R.frames ∧ 8 + (4 + 11) + 39 * 0 ≤ R.locals) (hcs : cells + mc ≤ R.cells ∧ slots + ms ≤ R.slots) (hrest : (rest.map fun v => v.category).sum ≤ 8) (k : ∀ (r : Option Value) (h' : HP), P r h' → ev G M_St_clear R E 32 lv (r.toList ++ rest) h' (cells + mc) (slots + ms)) : ev G M_St_clear R E 29 lv (.int a1 :: .ref a0 :: rest) h cells slots := ev_callS (as := [.ref a0, .int a1]) d_St_clear_29 hm w_294 w_295 w_71 w_296 hy_Ja_fillI hR hcs hrest k
theorem d_St_clear_32 : decode prog_7_method_2_code 32 = .ok (.aload_n 0, 1) := by decide +kernel
theorem s_St_clear_32 {x : Nat} (hl : lg lv 0 = some (.ref x)) (k : ev G M_St_clear R E 33 lv (.ref x :: rest) h cells slots) : ev G M_St_clear R E 32 lv rest h cells slots := ev_aload_n d_St_clear_32 rfl hl k
theorem d_St_clear_33 : decode prog_7_method_2_code 33 = .ok (.getfield 28, 3) := by decide +kernel
theorem s_St_clear_33 {a : Nat} {fs : List Value} {v : Value} (hh : h a = mO 5 fs) (hv : fs[5]? = some v) (k : ev G M_St_clear R E 36 lv (v :: rest) h cells slots) : ev G M_St_clear R E 33 lv (.ref a :: rest) h cells slots := ev_getfield (ci := 5) (kf := 5) d_St_clear_33 rfl ck5 (by decide) w_112 hh hv k
theorem d_St_clear_36 : decode prog_7_method_2_code 36 = .ok (.iconst 0, 1) := by decide +kernel
theorem s_St_clear_36  (k : ev G M_St_clear R E 37 lv (.int 0 :: rest) h cells slots) : ev G M_St_clear R E 36 lv rest h cells slots := ev_iconst d_St_clear_36 (by decide) k
theorem d_St_clear_37 : decode prog_7_method_2_code 37 = .ok (.invokestatic 67, 3) := by decide +kernel
theorem s_St_clear_37 {mc ms : Nat} {P : Option Value → HP → Prop} {a0 : Nat} {a1 : Int32} (hm : mt G M_Ja_fillI 0 mc ms [.ref a0, .int a1] h P) (hR : 0 + 1 ≤ R.frames ∧ 8 + (4 + 11) + 39 * 0 ≤ R.locals) (hcs : cells + mc ≤ R.cells ∧ slots + ms ≤ R.slots) (hrest : (rest.map fun v => v.category).sum ≤ 8) (k : ∀ (r : Option Value) (h' : HP), P r h' → ev G M_St_clear R E 40 lv (r.toList ++ rest) h' (cells + mc) (slots + ms)) : ev G M_St_clear R E 37 lv (.int a1 :: .ref a0 :: rest) h cells slots := ev_callS (as := [.ref a0, .int a1]) d_St_clear_37 hm w_294 w_295 w_71 w_296 hy_Ja_fillI hR hcs hrest k
theorem d_St_clear_40 : decode prog_7_method_2_code 40 = .ok (.aload_n 0, 1) := by decide +kernel
theorem s_St_clear_40 {x : Nat} (hl : lg lv 0 = some (.ref x)) (k : ev G M_St_clear R E 41 lv (.ref x :: rest) h cells slots) : ev G M_St_clear R E 40 lv rest h cells slots := ev_aload_n d_St_clear_40 rfl hl k
theorem d_St_clear_41 : decode prog_7_method_2_code 41 = .ok (.iconst 0, 1) := by decide +kernel
theorem s_St_clear_41  (k : ev G M_St_clear R E 42 lv (.int 0 :: rest) h cells slots) : ev G M_St_clear R E 41 lv rest h cells slots := ev_iconst d_St_clear_41 (by decide) k
theorem d_St_clear_42 : decode prog_7_method_2_code 42 = .ok (.putfield 43, 3) := by decide +kernel
theorem s_St_clear_42 {x : Int32} {a : Nat} {fs : List Value} (hh : h a = mO 5 fs) (hlen : 10 < fs.length) (k : ev G M_St_clear R E 45 lv rest (va_up h a (mO 5 (fs.set 10 (.int x)))) cells slots) : ev G M_St_clear R E 42 lv (.int x :: .ref a :: rest) h cells slots := ev_putfield (ci := 5) (kf := 10) d_St_clear_42 rfl ck5 (by decide) w_118 rfl hh hlen (fun _ _ => rfl) (fun _ _ => rfl) k
theorem d_St_clear_45 : decode prog_7_method_2_code 45 = .ok (.aload_n 0, 1) := by decide +kernel
theorem s_St_clear_45 {x : Nat} (hl : lg lv 0 = some (.ref x)) (k : ev G M_St_clear R E 46 lv (.ref x :: rest) h cells slots) : ev G M_St_clear R E 45 lv rest h cells slots := ev_aload_n d_St_clear_45 rfl hl k
theorem d_St_clear_46 : decode prog_7_method_2_code 46 = .ok (.iconst 0, 1) := by decide +kernel
theorem s_St_clear_46  (k : ev G M_St_clear R E 47 lv (.int 0 :: rest) h cells slots) : ev G M_St_clear R E 46 lv rest h cells slots := ev_iconst d_St_clear_46 (by decide) k
theorem d_St_clear_47 : decode prog_7_method_2_code 47 = .ok (.putfield 47, 3) := by decide +kernel
theorem s_St_clear_47 {x : Int32} {a : Nat} {fs : List Value} (hh : h a = mO 5 fs) (hlen : 11 < fs.length) (k : ev G M_St_clear R E 50 lv rest (va_up h a (mO 5 (fs.set 11 (.int x)))) cells slots) : ev G M_St_clear R E 47 lv (.int x :: .ref a :: rest) h cells slots := ev_putfield (ci := 5) (kf := 11) d_St_clear_47 rfl ck5 (by decide) w_120 rfl hh hlen (fun _ _ => rfl) (fun _ _ => rfl) k
theorem d_St_clear_50 : decode prog_7_method_2_code 50 = .ok (.aload_n 0, 1) := by decide +kernel
theorem s_St_clear_50 {x : Nat} (hl : lg lv 0 = some (.ref x)) (k : ev G M_St_clear R E 51 lv (.ref x :: rest) h cells slots) : ev G M_St_clear R E 50 lv rest h cells slots := ev_aload_n d_St_clear_50 rfl hl k
theorem d_St_clear_51 : decode prog_7_method_2_code 51 = .ok (.iconst 0, 1) := by decide +kernel
theorem s_St_clear_51  (k : ev G M_St_clear R E 52 lv (.int 0 :: rest) h cells slots) : ev G M_St_clear R E 51 lv rest h cells slots := ev_iconst d_St_clear_51 (by decide) k
theorem d_St_clear_52 : decode prog_7_method_2_code 52 = .ok (.putfield 50, 3) := by decide +kernel
theorem s_St_clear_52 {x : Int32} {a : Nat} {fs : List Value} (hh : h a = mO 5 fs) (hlen : 12 < fs.length) (k : ev G M_St_clear R E 55 lv rest (va_up h a (mO 5 (fs.set 12 (.int x)))) cells slots) : ev G M_St_clear R E 52 lv (.int x :: .ref a :: rest) h cells slots := ev_putfield (ci := 5) (kf := 12) d_St_clear_52 rfl ck5 (by decide) w_123 rfl hh hlen (fun _ _ => rfl) (fun _ _ => rfl) k
theorem d_St_clear_55 : decode prog_7_method_2_code 55 = .ok (.aload_n 0, 1) := by decide +kernel
theorem s_St_clear_55 {x : Nat} (hl : lg lv 0 = some (.ref x)) (k : ev G M_St_clear R E 56 lv (.ref x :: rest) h cells slots) : ev G M_St_clear R E 55 lv rest h cells slots := ev_aload_n d_St_clear_55 rfl hl k
theorem d_St_clear_56 : decode prog_7_method_2_code 56 = .ok (.iconst 0, 1) := by decide +kernel
theorem s_St_clear_56  (k : ev G M_St_clear R E 57 lv (.int 0 :: rest) h cells slots) : ev G M_St_clear R E 56 lv rest h cells slots := ev_iconst d_St_clear_56 (by decide) k
theorem d_St_clear_57 : decode prog_7_method_2_code 57 = .ok (.putfield 53, 3) := by decide +kernel
theorem s_St_clear_57 {x : Int32} {a : Nat} {fs : List Value} (hh : h a = mO 5 fs) (hlen : 13 < fs.length) (k : ev G M_St_clear R E 60 lv rest (va_up h a (mO 5 (fs.set 13 (.int x)))) cells slots) : ev G M_St_clear R E 57 lv (.int x :: .ref a :: rest) h cells slots := ev_putfield (ci := 5) (kf := 13) d_St_clear_57 rfl ck5 (by decide) w_126 rfl hh hlen (fun _ _ => rfl) (fun _ _ => rfl) k
theorem d_St_clear_60 : decode prog_7_method_2_code 60 = .ok (.aload_n 0, 1) := by decide +kernel
theorem s_St_clear_60 {x : Nat} (hl : lg lv 0 = some (.ref x)) (k : ev G M_St_clear R E 61 lv (.ref x :: rest) h cells slots) : ev G M_St_clear R E 60 lv rest h cells slots := ev_aload_n d_St_clear_60 rfl hl k
theorem d_St_clear_61 : decode prog_7_method_2_code 61 = .ok (.iconst 0, 1) := by decide +kernel
theorem s_St_clear_61  (k : ev G M_St_clear R E 62 lv (.int 0 :: rest) h cells slots) : ev G M_St_clear R E 61 lv rest h cells slots := ev_iconst d_St_clear_61 (by decide) k
theorem d_St_clear_62 : decode prog_7_method_2_code 62 = .ok (.putfield 56, 3) := by decide +kernel
theorem s_St_clear_62 {x : Int32} {a : Nat} {fs : List Value} (hh : h a = mO 5 fs) (hlen : 14 < fs.length) (k : ev G M_St_clear R E 65 lv rest (va_up h a (mO 5 (fs.set 14 (.int x)))) cells slots) : ev G M_St_clear R E 62 lv (.int x :: .ref a :: rest) h cells slots := ev_putfield (ci := 5) (kf := 14) d_St_clear_62 rfl ck5 (by decide) w_129 rfl hh hlen (fun _ _ => rfl) (fun _ _ => rfl) k
theorem d_St_clear_65 : decode prog_7_method_2_code 65 = .ok (.return_, 1) := by decide +kernel
theorem s_St_clear_65 {P : Option Value → HP → Prop} {mc ms : Nat} (hP : P none h) (hc : cells ≤ mc ∧ slots ≤ ms) : ev G M_St_clear R (Er M_St_clear P mc ms) 65 lv [] h cells slots := ev_exit ⟨hc.1, hc.2, Or.inl ⟨rfl, d_St_clear_65, rfl, hP⟩⟩
abbrev M_St_put : MW := (⟨"UseOnceMachine$State", "put", "(IJ)V"⟩, prog_7_method_5_code, 4, none)
theorem hy_St_put : M_St_put.1.cls ≠ "java/lang/invoke/MethodHandle" ∧ M_St_put.1.cls ≠ "java/lang/invoke/VarHandle" ∧ (parseMethodDescriptor M_St_put.1.desc).map (fun d => d.parameters.length) = some 2 := by decide +kernel
theorem d_St_put_0 : decode prog_7_method_5_code 0 = .ok (.iload_n 1, 1) := by decide +kernel
theorem s_St_put_0 {x : Int32} (hl : lg lv 1 = some (.int x)) (k : ev G M_St_put R E 1 lv (.int x :: rest) h cells slots) : ev G M_St_put R E 0 lv rest h cells slots := ev_iload_n d_St_put_0 rfl hl k
theorem d_St_put_1 : decode prog_7_method_5_code 1 = .ok (.ifCond .lt 16, 3) := by decide +kernel
theorem s_St_put_1 {x : Int32} (kt : x < 0 → ev G M_St_put R E 17 lv rest h cells slots) (kf : ¬ x < 0 → ev G M_St_put R E 4 lv rest h cells slots) : ev G M_St_put R E 1 lv (.int x :: rest) h cells slots := ev_if_lt d_St_put_1 (by decide) kt kf
theorem d_St_put_4 : decode prog_7_method_5_code 4 = .ok (.iload_n 1, 1) := by decide +kernel
theorem s_St_put_4 {x : Int32} (hl : lg lv 1 = some (.int x)) (k : ev G M_St_put R E 5 lv (.int x :: rest) h cells slots) : ev G M_St_put R E 4 lv rest h cells slots := ev_iload_n d_St_put_4 rfl hl k
theorem d_St_put_5 : decode prog_7_method_5_code 5 = .ok (.bipush 102, 2) := by decide +kernel
theorem s_St_put_5  (k : ev G M_St_put R E 7 lv (.int 102 :: rest) h cells slots) : ev G M_St_put R E 5 lv rest h cells slots := ev_bipush d_St_put_5 (by decide) k
theorem d_St_put_7 : decode prog_7_method_5_code 7 = .ok (.if_icmp .ge 10, 3) := by decide +kernel
theorem s_St_put_7 {x y : Int32} (kt : y ≤ x → ev G M_St_put R E 17 lv rest h cells slots) (kf : ¬ y ≤ x → ev G M_St_put R E 10 lv rest h cells slots) : ev G M_St_put R E 7 lv (.int y :: .int x :: rest) h cells slots := ev_icmp_ge d_St_put_7 (by decide) kt kf
theorem d_St_put_10 : decode prog_7_method_5_code 10 = .ok (.aload_n 0, 1) := by decide +kernel
theorem s_St_put_10 {x : Nat} (hl : lg lv 0 = some (.ref x)) (k : ev G M_St_put R E 11 lv (.ref x :: rest) h cells slots) : ev G M_St_put R E 10 lv rest h cells slots := ev_aload_n d_St_put_10 rfl hl k
theorem d_St_put_11 : decode prog_7_method_5_code 11 = .ok (.getfield 9, 3) := by decide +kernel
theorem s_St_put_11 {a : Nat} {fs : List Value} {v : Value} (hh : h a = mO 5 fs) (hv : fs[0]? = some v) (k : ev G M_St_put R E 14 lv (v :: rest) h cells slots) : ev G M_St_put R E 11 lv (.ref a :: rest) h cells slots := ev_getfield (ci := 5) (kf := 0) d_St_put_11 rfl ck5 (by decide) w_104 hh hv k
theorem d_St_put_14 : decode prog_7_method_5_code 14 = .ok (.iload_n 1, 1) := by decide +kernel
theorem s_St_put_14 {x : Int32} (hl : lg lv 1 = some (.int x)) (k : ev G M_St_put R E 15 lv (.int x :: rest) h cells slots) : ev G M_St_put R E 14 lv rest h cells slots := ev_iload_n d_St_put_14 rfl hl k
theorem d_St_put_15 : decode prog_7_method_5_code 15 = .ok (.lload_n 2, 1) := by decide +kernel
theorem s_St_put_15 {x : Int64} (hl : lg lv 2 = some (.long x)) (k : ev G M_St_put R E 16 lv (.long x :: rest) h cells slots) : ev G M_St_put R E 15 lv rest h cells slots := ev_lload_n d_St_put_15 rfl hl k
theorem d_St_put_16 : decode prog_7_method_5_code 16 = .ok (.lastore, 1) := by decide +kernel
theorem s_St_put_16 {a n : Nat} {f : Nat → Int64} {i : Int32} {x : Int64} (hh : h a = mL 1 n f) (hin : vp_in i n) (k : ev G M_St_put R E 17 lv rest (va_up h a (mL 1 n (vp_updL f i.toNatClampNeg x))) cells slots) : ev G M_St_put R E 16 lv (.long x :: .int i :: .ref a :: rest) h cells slots := ev_lastore d_St_put_16 rfl hh hin k
theorem d_St_put_17 : decode prog_7_method_5_code 17 = .ok (.return_, 1) := by decide +kernel
theorem s_St_put_17 {P : Option Value → HP → Prop} {mc ms : Nat} (hP : P none h) (hc : cells ≤ mc ∧ slots ≤ ms) : ev G M_St_put R (Er M_St_put P mc ms) 17 lv [] h cells slots := ev_exit ⟨hc.1, hc.2, Or.inl ⟨rfl, d_St_put_17, rfl, hP⟩⟩
abbrev M_St_copyFrom : MW := (⟨"UseOnceMachine$State", "copyFrom", "(LUseOnceMachine$State;)V"⟩, prog_7_method_3_code, 2, none)
theorem hy_St_copyFrom : M_St_copyFrom.1.cls ≠ "java/lang/invoke/MethodHandle" ∧ M_St_copyFrom.1.cls ≠ "java/lang/invoke/VarHandle" ∧ (parseMethodDescriptor M_St_copyFrom.1.desc).map (fun d => d.parameters.length) = some 1 := by decide +kernel
theorem d_St_copyFrom_0 : decode prog_7_method_3_code 0 = .ok (.aload_n 1, 1) := by decide +kernel
theorem s_St_copyFrom_0 {x : Nat} (hl : lg lv 1 = some (.ref x)) (k : ev G M_St_copyFrom R E 1 lv (.ref x :: rest) h cells slots) : ev G M_St_copyFrom R E 0 lv rest h cells slots := ev_aload_n d_St_copyFrom_0 rfl hl k
theorem d_St_copyFrom_1 : decode prog_7_method_3_code 1 = .ok (.getfield 9, 3) := by decide +kernel
theorem s_St_copyFrom_1 {a : Nat} {fs : List Value} {v : Value} (hh : h a = mO 5 fs) (hv : fs[0]? = some v) (k : ev G M_St_copyFrom R E 4 lv (v :: rest) h cells slots) : ev G M_St_copyFrom R E 1 lv (.ref a :: rest) h cells slots := ev_getfield (ci := 5) (kf := 0) d_St_copyFrom_1 rfl ck5 (by decide) w_104 hh hv k
theorem d_St_copyFrom_4 : decode prog_7_method_3_code 4 = .ok (.iconst 0, 1) := by decide +kernel
theorem s_St_copyFrom_4  (k : ev G M_St_copyFrom R E 5 lv (.int 0 :: rest) h cells slots) : ev G M_St_copyFrom R E 4 lv rest h cells slots := ev_iconst d_St_copyFrom_4 (by decide) k
theorem d_St_copyFrom_5 : decode prog_7_method_3_code 5 = .ok (.aload_n 0, 1) := by decide +kernel
theorem s_St_copyFrom_5 {x : Nat} (hl : lg lv 0 = some (.ref x)) (k : ev G M_St_copyFrom R E 6 lv (.ref x :: rest) h cells slots) : ev G M_St_copyFrom R E 5 lv rest h cells slots := ev_aload_n d_St_copyFrom_5 rfl hl k
theorem d_St_copyFrom_6 : decode prog_7_method_3_code 6 = .ok (.getfield 9, 3) := by decide +kernel
theorem s_St_copyFrom_6 {a : Nat} {fs : List Value} {v : Value} (hh : h a = mO 5 fs) (hv : fs[0]? = some v) (k : ev G M_St_copyFrom R E 9 lv (v :: rest) h cells slots) : ev G M_St_copyFrom R E 6 lv (.ref a :: rest) h cells slots := ev_getfield (ci := 5) (kf := 0) d_St_copyFrom_6 rfl ck5 (by decide) w_104 hh hv k
theorem d_St_copyFrom_9 : decode prog_7_method_3_code 9 = .ok (.iconst 0, 1) := by decide +kernel
theorem s_St_copyFrom_9  (k : ev G M_St_copyFrom R E 10 lv (.int 0 :: rest) h cells slots) : ev G M_St_copyFrom R E 9 lv rest h cells slots := ev_iconst d_St_copyFrom_9 (by decide) k
theorem d_St_copyFrom_10 : decode prog_7_method_3_code 10 = .ok (.bipush 102, 2) := by decide +kernel
theorem s_St_copyFrom_10  (k : ev G M_St_copyFrom R E 12 lv (.int 102 :: rest) h cells slots) : ev G M_St_copyFrom R E 10 lv rest h cells slots := ev_bipush d_St_copyFrom_10 (by decide) k
theorem d_St_copyFrom_12 : decode prog_7_method_3_code 12 = .ok (.invokestatic 70, 3) := by decide +kernel
theorem s_St_copyFrom_12i {n0 n1 a0 a : Nat} {f g : Nat → Int32} {sp dp n : Int32} (h0 : h a0 = mI 0 n0 f) (h1 : h a = mI 0 n1 g) (g1 : ¬ sp < 0) (g2 : ¬ dp < 0) (g3 : ¬ n < 0) (g4 : sp.toNatClampNeg + n.toNatClampNeg ≤ n0) (g5 : dp.toNatClampNeg + n.toNatClampNeg ≤ n1) (hfr : 1 ≤ R.frames) (hlo : (rest.map fun v => v.category).sum + (nativeFrameWords "java/lang/System" "arraycopy" 5 + 11) ≤ R.locals) (k : ev G M_St_copyFrom R E 15 lv rest (va_up h a (mI 0 n1 (va_cpy f g sp.toNatClampNeg dp.toNatClampNeg n.toNatClampNeg))) cells slots) : ev G M_St_copyFrom R E 12 lv (.int n :: .int dp :: .ref a :: .int sp :: .ref a0 :: rest) h cells slots := ev_copyi d_St_copyFrom_12 w_325 w_327 w_326 w_73 rfl h0 h1 g1 g2 g3 g4 g5 hfr hlo k
theorem s_St_copyFrom_12l {n0 n1 a0 a : Nat} {f g : Nat → Int64} {sp dp n : Int32} (h0 : h a0 = mL 1 n0 f) (h1 : h a = mL 1 n1 g) (g1 : ¬ sp < 0) (g2 : ¬ dp < 0) (g3 : ¬ n < 0) (g4 : sp.toNatClampNeg + n.toNatClampNeg ≤ n0) (g5 : dp.toNatClampNeg + n.toNatClampNeg ≤ n1) (hfr : 1 ≤ R.frames) (hlo : (rest.map fun v => v.category).sum + (nativeFrameWords "java/lang/System" "arraycopy" 5 + 11) ≤ R.locals) (k : ev G M_St_copyFrom R E 15 lv rest (va_up h a (mL 1 n1 (va_cpy f g sp.toNatClampNeg dp.toNatClampNeg n.toNatClampNeg))) cells slots) : ev G M_St_copyFrom R E 12 lv (.int n :: .int dp :: .ref a :: .int sp :: .ref a0 :: rest) h cells slots := ev_copyl d_St_copyFrom_12 w_325 w_327 w_326 w_73 rfl h0 h1 g1 g2 g3 g4 g5 hfr hlo k
theorem d_St_copyFrom_15 : decode prog_7_method_3_code 15 = .ok (.aload_n 1, 1) := by decide +kernel
theorem s_St_copyFrom_15 {x : Nat} (hl : lg lv 1 = some (.ref x)) (k : ev G M_St_copyFrom R E 16 lv (.ref x :: rest) h cells slots) : ev G M_St_copyFrom R E 15 lv rest h cells slots := ev_aload_n d_St_copyFrom_15 rfl hl k
theorem d_St_copyFrom_16 : decode prog_7_method_3_code 16 = .ok (.getfield 15, 3) := by decide +kernel
theorem s_St_copyFrom_16 {a : Nat} {fs : List Value} {v : Value} (hh : h a = mO 5 fs) (hv : fs[1]? = some v) (k : ev G M_St_copyFrom R E 19 lv (v :: rest) h cells slots) : ev G M_St_copyFrom R E 16 lv (.ref a :: rest) h cells slots := ev_getfield (ci := 5) (kf := 1) d_St_copyFrom_16 rfl ck5 (by decide) w_105 hh hv k
theorem d_St_copyFrom_19 : decode prog_7_method_3_code 19 = .ok (.iconst 0, 1) := by decide +kernel
theorem s_St_copyFrom_19  (k : ev G M_St_copyFrom R E 20 lv (.int 0 :: rest) h cells slots) : ev G M_St_copyFrom R E 19 lv rest h cells slots := ev_iconst d_St_copyFrom_19 (by decide) k
theorem d_St_copyFrom_20 : decode prog_7_method_3_code 20 = .ok (.aload_n 0, 1) := by decide +kernel
theorem s_St_copyFrom_20 {x : Nat} (hl : lg lv 0 = some (.ref x)) (k : ev G M_St_copyFrom R E 21 lv (.ref x :: rest) h cells slots) : ev G M_St_copyFrom R E 20 lv rest h cells slots := ev_aload_n d_St_copyFrom_20 rfl hl k
theorem d_St_copyFrom_21 : decode prog_7_method_3_code 21 = .ok (.getfield 15, 3) := by decide +kernel
theorem s_St_copyFrom_21 {a : Nat} {fs : List Value} {v : Value} (hh : h a = mO 5 fs) (hv : fs[1]? = some v) (k : ev G M_St_copyFrom R E 24 lv (v :: rest) h cells slots) : ev G M_St_copyFrom R E 21 lv (.ref a :: rest) h cells slots := ev_getfield (ci := 5) (kf := 1) d_St_copyFrom_21 rfl ck5 (by decide) w_105 hh hv k
theorem d_St_copyFrom_24 : decode prog_7_method_3_code 24 = .ok (.iconst 0, 1) := by decide +kernel
theorem s_St_copyFrom_24  (k : ev G M_St_copyFrom R E 25 lv (.int 0 :: rest) h cells slots) : ev G M_St_copyFrom R E 24 lv rest h cells slots := ev_iconst d_St_copyFrom_24 (by decide) k
theorem d_St_copyFrom_25 : decode prog_7_method_3_code 25 = .ok (.bipush 35, 2) := by decide +kernel
theorem s_St_copyFrom_25  (k : ev G M_St_copyFrom R E 27 lv (.int 35 :: rest) h cells slots) : ev G M_St_copyFrom R E 25 lv rest h cells slots := ev_bipush d_St_copyFrom_25 (by decide) k
theorem d_St_copyFrom_27 : decode prog_7_method_3_code 27 = .ok (.invokestatic 70, 3) := by decide +kernel
theorem s_St_copyFrom_27i {n0 n1 a0 a : Nat} {f g : Nat → Int32} {sp dp n : Int32} (h0 : h a0 = mI 0 n0 f) (h1 : h a = mI 0 n1 g) (g1 : ¬ sp < 0) (g2 : ¬ dp < 0) (g3 : ¬ n < 0) (g4 : sp.toNatClampNeg + n.toNatClampNeg ≤ n0) (g5 : dp.toNatClampNeg + n.toNatClampNeg ≤ n1) (hfr : 1 ≤ R.frames) (hlo : (rest.map fun v => v.category).sum + (nativeFrameWords "java/lang/System" "arraycopy" 5 + 11) ≤ R.locals) (k : ev G M_St_copyFrom R E 30 lv rest (va_up h a (mI 0 n1 (va_cpy f g sp.toNatClampNeg dp.toNatClampNeg n.toNatClampNeg))) cells slots) : ev G M_St_copyFrom R E 27 lv (.int n :: .int dp :: .ref a :: .int sp :: .ref a0 :: rest) h cells slots := ev_copyi d_St_copyFrom_27 w_325 w_327 w_326 w_73 rfl h0 h1 g1 g2 g3 g4 g5 hfr hlo k
theorem s_St_copyFrom_27l {n0 n1 a0 a : Nat} {f g : Nat → Int64} {sp dp n : Int32} (h0 : h a0 = mL 1 n0 f) (h1 : h a = mL 1 n1 g) (g1 : ¬ sp < 0) (g2 : ¬ dp < 0) (g3 : ¬ n < 0) (g4 : sp.toNatClampNeg + n.toNatClampNeg ≤ n0) (g5 : dp.toNatClampNeg + n.toNatClampNeg ≤ n1) (hfr : 1 ≤ R.frames) (hlo : (rest.map fun v => v.category).sum + (nativeFrameWords "java/lang/System" "arraycopy" 5 + 11) ≤ R.locals) (k : ev G M_St_copyFrom R E 30 lv rest (va_up h a (mL 1 n1 (va_cpy f g sp.toNatClampNeg dp.toNatClampNeg n.toNatClampNeg))) cells slots) : ev G M_St_copyFrom R E 27 lv (.int n :: .int dp :: .ref a :: .int sp :: .ref a0 :: rest) h cells slots := ev_copyl d_St_copyFrom_27 w_325 w_327 w_326 w_73 rfl h0 h1 g1 g2 g3 g4 g5 hfr hlo k
theorem d_St_copyFrom_30 : decode prog_7_method_3_code 30 = .ok (.aload_n 1, 1) := by decide +kernel
theorem s_St_copyFrom_30 {x : Nat} (hl : lg lv 1 = some (.ref x)) (k : ev G M_St_copyFrom R E 31 lv (.ref x :: rest) h cells slots) : ev G M_St_copyFrom R E 30 lv rest h cells slots := ev_aload_n d_St_copyFrom_30 rfl hl k
theorem d_St_copyFrom_31 : decode prog_7_method_3_code 31 = .ok (.getfield 18, 3) := by decide +kernel
theorem s_St_copyFrom_31 {a : Nat} {fs : List Value} {v : Value} (hh : h a = mO 5 fs) (hv : fs[2]? = some v) (k : ev G M_St_copyFrom R E 34 lv (v :: rest) h cells slots) : ev G M_St_copyFrom R E 31 lv (.ref a :: rest) h cells slots := ev_getfield (ci := 5) (kf := 2) d_St_copyFrom_31 rfl ck5 (by decide) w_106 hh hv k
theorem d_St_copyFrom_34 : decode prog_7_method_3_code 34 = .ok (.iconst 0, 1) := by decide +kernel
theorem s_St_copyFrom_34  (k : ev G M_St_copyFrom R E 35 lv (.int 0 :: rest) h cells slots) : ev G M_St_copyFrom R E 34 lv rest h cells slots := ev_iconst d_St_copyFrom_34 (by decide) k
theorem d_St_copyFrom_35 : decode prog_7_method_3_code 35 = .ok (.aload_n 0, 1) := by decide +kernel
theorem s_St_copyFrom_35 {x : Nat} (hl : lg lv 0 = some (.ref x)) (k : ev G M_St_copyFrom R E 36 lv (.ref x :: rest) h cells slots) : ev G M_St_copyFrom R E 35 lv rest h cells slots := ev_aload_n d_St_copyFrom_35 rfl hl k
theorem d_St_copyFrom_36 : decode prog_7_method_3_code 36 = .ok (.getfield 18, 3) := by decide +kernel
theorem s_St_copyFrom_36 {a : Nat} {fs : List Value} {v : Value} (hh : h a = mO 5 fs) (hv : fs[2]? = some v) (k : ev G M_St_copyFrom R E 39 lv (v :: rest) h cells slots) : ev G M_St_copyFrom R E 36 lv (.ref a :: rest) h cells slots := ev_getfield (ci := 5) (kf := 2) d_St_copyFrom_36 rfl ck5 (by decide) w_106 hh hv k
theorem d_St_copyFrom_39 : decode prog_7_method_3_code 39 = .ok (.iconst 0, 1) := by decide +kernel
theorem s_St_copyFrom_39  (k : ev G M_St_copyFrom R E 40 lv (.int 0 :: rest) h cells slots) : ev G M_St_copyFrom R E 39 lv rest h cells slots := ev_iconst d_St_copyFrom_39 (by decide) k
theorem d_St_copyFrom_40 : decode prog_7_method_3_code 40 = .ok (.bipush 6, 2) := by decide +kernel
theorem s_St_copyFrom_40  (k : ev G M_St_copyFrom R E 42 lv (.int 6 :: rest) h cells slots) : ev G M_St_copyFrom R E 40 lv rest h cells slots := ev_bipush d_St_copyFrom_40 (by decide) k
theorem d_St_copyFrom_42 : decode prog_7_method_3_code 42 = .ok (.invokestatic 70, 3) := by decide +kernel
theorem s_St_copyFrom_42i {n0 n1 a0 a : Nat} {f g : Nat → Int32} {sp dp n : Int32} (h0 : h a0 = mI 0 n0 f) (h1 : h a = mI 0 n1 g) (g1 : ¬ sp < 0) (g2 : ¬ dp < 0) (g3 : ¬ n < 0) (g4 : sp.toNatClampNeg + n.toNatClampNeg ≤ n0) (g5 : dp.toNatClampNeg + n.toNatClampNeg ≤ n1) (hfr : 1 ≤ R.frames) (hlo : (rest.map fun v => v.category).sum + (nativeFrameWords "java/lang/System" "arraycopy" 5 + 11) ≤ R.locals) (k : ev G M_St_copyFrom R E 45 lv rest (va_up h a (mI 0 n1 (va_cpy f g sp.toNatClampNeg dp.toNatClampNeg n.toNatClampNeg))) cells slots) : ev G M_St_copyFrom R E 42 lv (.int n :: .int dp :: .ref a :: .int sp :: .ref a0 :: rest) h cells slots := ev_copyi d_St_copyFrom_42 w_325 w_327 w_326 w_73 rfl h0 h1 g1 g2 g3 g4 g5 hfr hlo k
theorem s_St_copyFrom_42l {n0 n1 a0 a : Nat} {f g : Nat → Int64} {sp dp n : Int32} (h0 : h a0 = mL 1 n0 f) (h1 : h a = mL 1 n1 g) (g1 : ¬ sp < 0) (g2 : ¬ dp < 0) (g3 : ¬ n < 0) (g4 : sp.toNatClampNeg + n.toNatClampNeg ≤ n0) (g5 : dp.toNatClampNeg + n.toNatClampNeg ≤ n1) (hfr : 1 ≤ R.frames) (hlo : (rest.map fun v => v.category).sum + (nativeFrameWords "java/lang/System" "arraycopy" 5 + 11) ≤ R.locals) (k : ev G M_St_copyFrom R E 45 lv rest (va_up h a (mL 1 n1 (va_cpy f g sp.toNatClampNeg dp.toNatClampNeg n.toNatClampNeg))) cells slots) : ev G M_St_copyFrom R E 42 lv (.int n :: .int dp :: .ref a :: .int sp :: .ref a0 :: rest) h cells slots := ev_copyl d_St_copyFrom_42 w_325 w_327 w_326 w_73 rfl h0 h1 g1 g2 g3 g4 g5 hfr hlo k
theorem d_St_copyFrom_45 : decode prog_7_method_3_code 45 = .ok (.aload_n 1, 1) := by decide +kernel
theorem s_St_copyFrom_45 {x : Nat} (hl : lg lv 1 = some (.ref x)) (k : ev G M_St_copyFrom R E 46 lv (.ref x :: rest) h cells slots) : ev G M_St_copyFrom R E 45 lv rest h cells slots := ev_aload_n d_St_copyFrom_45 rfl hl k
theorem d_St_copyFrom_46 : decode prog_7_method_3_code 46 = .ok (.getfield 22, 3) := by decide +kernel
theorem s_St_copyFrom_46 {a : Nat} {fs : List Value} {v : Value} (hh : h a = mO 5 fs) (hv : fs[3]? = some v) (k : ev G M_St_copyFrom R E 49 lv (v :: rest) h cells slots) : ev G M_St_copyFrom R E 46 lv (.ref a :: rest) h cells slots := ev_getfield (ci := 5) (kf := 3) d_St_copyFrom_46 rfl ck5 (by decide) w_108 hh hv k
theorem d_St_copyFrom_49 : decode prog_7_method_3_code 49 = .ok (.iconst 0, 1) := by decide +kernel
theorem s_St_copyFrom_49  (k : ev G M_St_copyFrom R E 50 lv (.int 0 :: rest) h cells slots) : ev G M_St_copyFrom R E 49 lv rest h cells slots := ev_iconst d_St_copyFrom_49 (by decide) k
theorem d_St_copyFrom_50 : decode prog_7_method_3_code 50 = .ok (.aload_n 0, 1) := by decide +kernel
theorem s_St_copyFrom_50 {x : Nat} (hl : lg lv 0 = some (.ref x)) (k : ev G M_St_copyFrom R E 51 lv (.ref x :: rest) h cells slots) : ev G M_St_copyFrom R E 50 lv rest h cells slots := ev_aload_n d_St_copyFrom_50 rfl hl k
theorem d_St_copyFrom_51 : decode prog_7_method_3_code 51 = .ok (.getfield 22, 3) := by decide +kernel
theorem s_St_copyFrom_51 {a : Nat} {fs : List Value} {v : Value} (hh : h a = mO 5 fs) (hv : fs[3]? = some v) (k : ev G M_St_copyFrom R E 54 lv (v :: rest) h cells slots) : ev G M_St_copyFrom R E 51 lv (.ref a :: rest) h cells slots := ev_getfield (ci := 5) (kf := 3) d_St_copyFrom_51 rfl ck5 (by decide) w_108 hh hv k
theorem d_St_copyFrom_54 : decode prog_7_method_3_code 54 = .ok (.iconst 0, 1) := by decide +kernel
theorem s_St_copyFrom_54  (k : ev G M_St_copyFrom R E 55 lv (.int 0 :: rest) h cells slots) : ev G M_St_copyFrom R E 54 lv rest h cells slots := ev_iconst d_St_copyFrom_54 (by decide) k
theorem d_St_copyFrom_55 : decode prog_7_method_3_code 55 = .ok (.bipush 6, 2) := by decide +kernel
theorem s_St_copyFrom_55  (k : ev G M_St_copyFrom R E 57 lv (.int 6 :: rest) h cells slots) : ev G M_St_copyFrom R E 55 lv rest h cells slots := ev_bipush d_St_copyFrom_55 (by decide) k
theorem d_St_copyFrom_57 : decode prog_7_method_3_code 57 = .ok (.invokestatic 70, 3) := by decide +kernel
theorem s_St_copyFrom_57i {n0 n1 a0 a : Nat} {f g : Nat → Int32} {sp dp n : Int32} (h0 : h a0 = mI 0 n0 f) (h1 : h a = mI 0 n1 g) (g1 : ¬ sp < 0) (g2 : ¬ dp < 0) (g3 : ¬ n < 0) (g4 : sp.toNatClampNeg + n.toNatClampNeg ≤ n0) (g5 : dp.toNatClampNeg + n.toNatClampNeg ≤ n1) (hfr : 1 ≤ R.frames) (hlo : (rest.map fun v => v.category).sum + (nativeFrameWords "java/lang/System" "arraycopy" 5 + 11) ≤ R.locals) (k : ev G M_St_copyFrom R E 60 lv rest (va_up h a (mI 0 n1 (va_cpy f g sp.toNatClampNeg dp.toNatClampNeg n.toNatClampNeg))) cells slots) : ev G M_St_copyFrom R E 57 lv (.int n :: .int dp :: .ref a :: .int sp :: .ref a0 :: rest) h cells slots := ev_copyi d_St_copyFrom_57 w_325 w_327 w_326 w_73 rfl h0 h1 g1 g2 g3 g4 g5 hfr hlo k
theorem s_St_copyFrom_57l {n0 n1 a0 a : Nat} {f g : Nat → Int64} {sp dp n : Int32} (h0 : h a0 = mL 1 n0 f) (h1 : h a = mL 1 n1 g) (g1 : ¬ sp < 0) (g2 : ¬ dp < 0) (g3 : ¬ n < 0) (g4 : sp.toNatClampNeg + n.toNatClampNeg ≤ n0) (g5 : dp.toNatClampNeg + n.toNatClampNeg ≤ n1) (hfr : 1 ≤ R.frames) (hlo : (rest.map fun v => v.category).sum + (nativeFrameWords "java/lang/System" "arraycopy" 5 + 11) ≤ R.locals) (k : ev G M_St_copyFrom R E 60 lv rest (va_up h a (mL 1 n1 (va_cpy f g sp.toNatClampNeg dp.toNatClampNeg n.toNatClampNeg))) cells slots) : ev G M_St_copyFrom R E 57 lv (.int n :: .int dp :: .ref a :: .int sp :: .ref a0 :: rest) h cells slots := ev_copyl d_St_copyFrom_57 w_325 w_327 w_326 w_73 rfl h0 h1 g1 g2 g3 g4 g5 hfr hlo k
theorem d_St_copyFrom_60 : decode prog_7_method_3_code 60 = .ok (.aload_n 1, 1) := by decide +kernel
theorem s_St_copyFrom_60 {x : Nat} (hl : lg lv 1 = some (.ref x)) (k : ev G M_St_copyFrom R E 61 lv (.ref x :: rest) h cells slots) : ev G M_St_copyFrom R E 60 lv rest h cells slots := ev_aload_n d_St_copyFrom_60 rfl hl k
theorem d_St_copyFrom_61 : decode prog_7_method_3_code 61 = .ok (.getfield 25, 3) := by decide +kernel
theorem s_St_copyFrom_61 {a : Nat} {fs : List Value} {v : Value} (hh : h a = mO 5 fs) (hv : fs[4]? = some v) (k : ev G M_St_copyFrom R E 64 lv (v :: rest) h cells slots) : ev G M_St_copyFrom R E 61 lv (.ref a :: rest) h cells slots := ev_getfield (ci := 5) (kf := 4) d_St_copyFrom_61 rfl ck5 (by decide) w_110 hh hv k
theorem d_St_copyFrom_64 : decode prog_7_method_3_code 64 = .ok (.iconst 0, 1) := by decide +kernel
theorem s_St_copyFrom_64  (k : ev G M_St_copyFrom R E 65 lv (.int 0 :: rest) h cells slots) : ev G M_St_copyFrom R E 64 lv rest h cells slots := ev_iconst d_St_copyFrom_64 (by decide) k
theorem d_St_copyFrom_65 : decode prog_7_method_3_code 65 = .ok (.aload_n 0, 1) := by decide +kernel
theorem s_St_copyFrom_65 {x : Nat} (hl : lg lv 0 = some (.ref x)) (k : ev G M_St_copyFrom R E 66 lv (.ref x :: rest) h cells slots) : ev G M_St_copyFrom R E 65 lv rest h cells slots := ev_aload_n d_St_copyFrom_65 rfl hl k
theorem d_St_copyFrom_66 : decode prog_7_method_3_code 66 = .ok (.getfield 25, 3) := by decide +kernel
theorem s_St_copyFrom_66 {a : Nat} {fs : List Value} {v : Value} (hh : h a = mO 5 fs) (hv : fs[4]? = some v) (k : ev G M_St_copyFrom R E 69 lv (v :: rest) h cells slots) : ev G M_St_copyFrom R E 66 lv (.ref a :: rest) h cells slots := ev_getfield (ci := 5) (kf := 4) d_St_copyFrom_66 rfl ck5 (by decide) w_110 hh hv k
theorem d_St_copyFrom_69 : decode prog_7_method_3_code 69 = .ok (.iconst 0, 1) := by decide +kernel
theorem s_St_copyFrom_69  (k : ev G M_St_copyFrom R E 70 lv (.int 0 :: rest) h cells slots) : ev G M_St_copyFrom R E 69 lv rest h cells slots := ev_iconst d_St_copyFrom_69 (by decide) k
theorem d_St_copyFrom_70 : decode prog_7_method_3_code 70 = .ok (.bipush 6, 2) := by decide +kernel
theorem s_St_copyFrom_70  (k : ev G M_St_copyFrom R E 72 lv (.int 6 :: rest) h cells slots) : ev G M_St_copyFrom R E 70 lv rest h cells slots := ev_bipush d_St_copyFrom_70 (by decide) k
theorem d_St_copyFrom_72 : decode prog_7_method_3_code 72 = .ok (.invokestatic 70, 3) := by decide +kernel
theorem s_St_copyFrom_72i {n0 n1 a0 a : Nat} {f g : Nat → Int32} {sp dp n : Int32} (h0 : h a0 = mI 0 n0 f) (h1 : h a = mI 0 n1 g) (g1 : ¬ sp < 0) (g2 : ¬ dp < 0) (g3 : ¬ n < 0) (g4 : sp.toNatClampNeg + n.toNatClampNeg ≤ n0) (g5 : dp.toNatClampNeg + n.toNatClampNeg ≤ n1) (hfr : 1 ≤ R.frames) (hlo : (rest.map fun v => v.category).sum + (nativeFrameWords "java/lang/System" "arraycopy" 5 + 11) ≤ R.locals) (k : ev G M_St_copyFrom R E 75 lv rest (va_up h a (mI 0 n1 (va_cpy f g sp.toNatClampNeg dp.toNatClampNeg n.toNatClampNeg))) cells slots) : ev G M_St_copyFrom R E 72 lv (.int n :: .int dp :: .ref a :: .int sp :: .ref a0 :: rest) h cells slots := ev_copyi d_St_copyFrom_72 w_325 w_327 w_326 w_73 rfl h0 h1 g1 g2 g3 g4 g5 hfr hlo k
theorem s_St_copyFrom_72l {n0 n1 a0 a : Nat} {f g : Nat → Int64} {sp dp n : Int32} (h0 : h a0 = mL 1 n0 f) (h1 : h a = mL 1 n1 g) (g1 : ¬ sp < 0) (g2 : ¬ dp < 0) (g3 : ¬ n < 0) (g4 : sp.toNatClampNeg + n.toNatClampNeg ≤ n0) (g5 : dp.toNatClampNeg + n.toNatClampNeg ≤ n1) (hfr : 1 ≤ R.frames) (hlo : (rest.map fun v => v.category).sum + (nativeFrameWords "java/lang/System" "arraycopy" 5 + 11) ≤ R.locals) (k : ev G M_St_copyFrom R E 75 lv rest (va_up h a (mL 1 n1 (va_cpy f g sp.toNatClampNeg dp.toNatClampNeg n.toNatClampNeg))) cells slots) : ev G M_St_copyFrom R E 72 lv (.int n :: .int dp :: .ref a :: .int sp :: .ref a0 :: rest) h cells slots := ev_copyl d_St_copyFrom_72 w_325 w_327 w_326 w_73 rfl h0 h1 g1 g2 g3 g4 g5 hfr hlo k
theorem d_St_copyFrom_75 : decode prog_7_method_3_code 75 = .ok (.aload_n 1, 1) := by decide +kernel
theorem s_St_copyFrom_75 {x : Nat} (hl : lg lv 1 = some (.ref x)) (k : ev G M_St_copyFrom R E 76 lv (.ref x :: rest) h cells slots) : ev G M_St_copyFrom R E 75 lv rest h cells slots := ev_aload_n d_St_copyFrom_75 rfl hl k
theorem d_St_copyFrom_76 : decode prog_7_method_3_code 76 = .ok (.getfield 28, 3) := by decide +kernel
theorem s_St_copyFrom_76 {a : Nat} {fs : List Value} {v : Value} (hh : h a = mO 5 fs) (hv : fs[5]? = some v) (k : ev G M_St_copyFrom R E 79 lv (v :: rest) h cells slots) : ev G M_St_copyFrom R E 76 lv (.ref a :: rest) h cells slots := ev_getfield (ci := 5) (kf := 5) d_St_copyFrom_76 rfl ck5 (by decide) w_112 hh hv k
theorem d_St_copyFrom_79 : decode prog_7_method_3_code 79 = .ok (.iconst 0, 1) := by decide +kernel
theorem s_St_copyFrom_79  (k : ev G M_St_copyFrom R E 80 lv (.int 0 :: rest) h cells slots) : ev G M_St_copyFrom R E 79 lv rest h cells slots := ev_iconst d_St_copyFrom_79 (by decide) k
theorem d_St_copyFrom_80 : decode prog_7_method_3_code 80 = .ok (.aload_n 0, 1) := by decide +kernel
theorem s_St_copyFrom_80 {x : Nat} (hl : lg lv 0 = some (.ref x)) (k : ev G M_St_copyFrom R E 81 lv (.ref x :: rest) h cells slots) : ev G M_St_copyFrom R E 80 lv rest h cells slots := ev_aload_n d_St_copyFrom_80 rfl hl k
theorem d_St_copyFrom_81 : decode prog_7_method_3_code 81 = .ok (.getfield 28, 3) := by decide +kernel
theorem s_St_copyFrom_81 {a : Nat} {fs : List Value} {v : Value} (hh : h a = mO 5 fs) (hv : fs[5]? = some v) (k : ev G M_St_copyFrom R E 84 lv (v :: rest) h cells slots) : ev G M_St_copyFrom R E 81 lv (.ref a :: rest) h cells slots := ev_getfield (ci := 5) (kf := 5) d_St_copyFrom_81 rfl ck5 (by decide) w_112 hh hv k
theorem d_St_copyFrom_84 : decode prog_7_method_3_code 84 = .ok (.iconst 0, 1) := by decide +kernel
theorem s_St_copyFrom_84  (k : ev G M_St_copyFrom R E 85 lv (.int 0 :: rest) h cells slots) : ev G M_St_copyFrom R E 84 lv rest h cells slots := ev_iconst d_St_copyFrom_84 (by decide) k
theorem d_St_copyFrom_85 : decode prog_7_method_3_code 85 = .ok (.bipush 6, 2) := by decide +kernel
theorem s_St_copyFrom_85  (k : ev G M_St_copyFrom R E 87 lv (.int 6 :: rest) h cells slots) : ev G M_St_copyFrom R E 85 lv rest h cells slots := ev_bipush d_St_copyFrom_85 (by decide) k
theorem d_St_copyFrom_87 : decode prog_7_method_3_code 87 = .ok (.invokestatic 70, 3) := by decide +kernel
theorem s_St_copyFrom_87i {n0 n1 a0 a : Nat} {f g : Nat → Int32} {sp dp n : Int32} (h0 : h a0 = mI 0 n0 f) (h1 : h a = mI 0 n1 g) (g1 : ¬ sp < 0) (g2 : ¬ dp < 0) (g3 : ¬ n < 0) (g4 : sp.toNatClampNeg + n.toNatClampNeg ≤ n0) (g5 : dp.toNatClampNeg + n.toNatClampNeg ≤ n1) (hfr : 1 ≤ R.frames) (hlo : (rest.map fun v => v.category).sum + (nativeFrameWords "java/lang/System" "arraycopy" 5 + 11) ≤ R.locals) (k : ev G M_St_copyFrom R E 90 lv rest (va_up h a (mI 0 n1 (va_cpy f g sp.toNatClampNeg dp.toNatClampNeg n.toNatClampNeg))) cells slots) : ev G M_St_copyFrom R E 87 lv (.int n :: .int dp :: .ref a :: .int sp :: .ref a0 :: rest) h cells slots := ev_copyi d_St_copyFrom_87 w_325 w_327 w_326 w_73 rfl h0 h1 g1 g2 g3 g4 g5 hfr hlo k
theorem s_St_copyFrom_87l {n0 n1 a0 a : Nat} {f g : Nat → Int64} {sp dp n : Int32} (h0 : h a0 = mL 1 n0 f) (h1 : h a = mL 1 n1 g) (g1 : ¬ sp < 0) (g2 : ¬ dp < 0) (g3 : ¬ n < 0) (g4 : sp.toNatClampNeg + n.toNatClampNeg ≤ n0) (g5 : dp.toNatClampNeg + n.toNatClampNeg ≤ n1) (hfr : 1 ≤ R.frames) (hlo : (rest.map fun v => v.category).sum + (nativeFrameWords "java/lang/System" "arraycopy" 5 + 11) ≤ R.locals) (k : ev G M_St_copyFrom R E 90 lv rest (va_up h a (mL 1 n1 (va_cpy f g sp.toNatClampNeg dp.toNatClampNeg n.toNatClampNeg))) cells slots) : ev G M_St_copyFrom R E 87 lv (.int n :: .int dp :: .ref a :: .int sp :: .ref a0 :: rest) h cells slots := ev_copyl d_St_copyFrom_87 w_325 w_327 w_326 w_73 rfl h0 h1 g1 g2 g3 g4 g5 hfr hlo k
theorem d_St_copyFrom_90 : decode prog_7_method_3_code 90 = .ok (.aload_n 1, 1) := by decide +kernel
theorem s_St_copyFrom_90 {x : Nat} (hl : lg lv 1 = some (.ref x)) (k : ev G M_St_copyFrom R E 91 lv (.ref x :: rest) h cells slots) : ev G M_St_copyFrom R E 90 lv rest h cells slots := ev_aload_n d_St_copyFrom_90 rfl hl k
theorem d_St_copyFrom_91 : decode prog_7_method_3_code 91 = .ok (.getfield 31, 3) := by decide +kernel
theorem s_St_copyFrom_91 {a : Nat} {fs : List Value} {v : Value} (hh : h a = mO 5 fs) (hv : fs[6]? = some v) (k : ev G M_St_copyFrom R E 94 lv (v :: rest) h cells slots) : ev G M_St_copyFrom R E 91 lv (.ref a :: rest) h cells slots := ev_getfield (ci := 5) (kf := 6) d_St_copyFrom_91 rfl ck5 (by decide) w_114 hh hv k
theorem d_St_copyFrom_94 : decode prog_7_method_3_code 94 = .ok (.iconst 0, 1) := by decide +kernel
theorem s_St_copyFrom_94  (k : ev G M_St_copyFrom R E 95 lv (.int 0 :: rest) h cells slots) : ev G M_St_copyFrom R E 94 lv rest h cells slots := ev_iconst d_St_copyFrom_94 (by decide) k
theorem d_St_copyFrom_95 : decode prog_7_method_3_code 95 = .ok (.aload_n 0, 1) := by decide +kernel
theorem s_St_copyFrom_95 {x : Nat} (hl : lg lv 0 = some (.ref x)) (k : ev G M_St_copyFrom R E 96 lv (.ref x :: rest) h cells slots) : ev G M_St_copyFrom R E 95 lv rest h cells slots := ev_aload_n d_St_copyFrom_95 rfl hl k
theorem d_St_copyFrom_96 : decode prog_7_method_3_code 96 = .ok (.getfield 31, 3) := by decide +kernel
theorem s_St_copyFrom_96 {a : Nat} {fs : List Value} {v : Value} (hh : h a = mO 5 fs) (hv : fs[6]? = some v) (k : ev G M_St_copyFrom R E 99 lv (v :: rest) h cells slots) : ev G M_St_copyFrom R E 96 lv (.ref a :: rest) h cells slots := ev_getfield (ci := 5) (kf := 6) d_St_copyFrom_96 rfl ck5 (by decide) w_114 hh hv k
theorem d_St_copyFrom_99 : decode prog_7_method_3_code 99 = .ok (.iconst 0, 1) := by decide +kernel
theorem s_St_copyFrom_99  (k : ev G M_St_copyFrom R E 100 lv (.int 0 :: rest) h cells slots) : ev G M_St_copyFrom R E 99 lv rest h cells slots := ev_iconst d_St_copyFrom_99 (by decide) k
theorem d_St_copyFrom_100 : decode prog_7_method_3_code 100 = .ok (.iconst 5, 1) := by decide +kernel
theorem s_St_copyFrom_100  (k : ev G M_St_copyFrom R E 101 lv (.int 5 :: rest) h cells slots) : ev G M_St_copyFrom R E 100 lv rest h cells slots := ev_iconst d_St_copyFrom_100 (by decide) k
theorem d_St_copyFrom_101 : decode prog_7_method_3_code 101 = .ok (.invokestatic 70, 3) := by decide +kernel
theorem s_St_copyFrom_101i {n0 n1 a0 a : Nat} {f g : Nat → Int32} {sp dp n : Int32} (h0 : h a0 = mI 0 n0 f) (h1 : h a = mI 0 n1 g) (g1 : ¬ sp < 0) (g2 : ¬ dp < 0) (g3 : ¬ n < 0) (g4 : sp.toNatClampNeg + n.toNatClampNeg ≤ n0) (g5 : dp.toNatClampNeg + n.toNatClampNeg ≤ n1) (hfr : 1 ≤ R.frames) (hlo : (rest.map fun v => v.category).sum + (nativeFrameWords "java/lang/System" "arraycopy" 5 + 11) ≤ R.locals) (k : ev G M_St_copyFrom R E 104 lv rest (va_up h a (mI 0 n1 (va_cpy f g sp.toNatClampNeg dp.toNatClampNeg n.toNatClampNeg))) cells slots) : ev G M_St_copyFrom R E 101 lv (.int n :: .int dp :: .ref a :: .int sp :: .ref a0 :: rest) h cells slots := ev_copyi d_St_copyFrom_101 w_325 w_327 w_326 w_73 rfl h0 h1 g1 g2 g3 g4 g5 hfr hlo k
theorem s_St_copyFrom_101l {n0 n1 a0 a : Nat} {f g : Nat → Int64} {sp dp n : Int32} (h0 : h a0 = mL 1 n0 f) (h1 : h a = mL 1 n1 g) (g1 : ¬ sp < 0) (g2 : ¬ dp < 0) (g3 : ¬ n < 0) (g4 : sp.toNatClampNeg + n.toNatClampNeg ≤ n0) (g5 : dp.toNatClampNeg + n.toNatClampNeg ≤ n1) (hfr : 1 ≤ R.frames) (hlo : (rest.map fun v => v.category).sum + (nativeFrameWords "java/lang/System" "arraycopy" 5 + 11) ≤ R.locals) (k : ev G M_St_copyFrom R E 104 lv rest (va_up h a (mL 1 n1 (va_cpy f g sp.toNatClampNeg dp.toNatClampNeg n.toNatClampNeg))) cells slots) : ev G M_St_copyFrom R E 101 lv (.int n :: .int dp :: .ref a :: .int sp :: .ref a0 :: rest) h cells slots := ev_copyl d_St_copyFrom_101 w_325 w_327 w_326 w_73 rfl h0 h1 g1 g2 g3 g4 g5 hfr hlo k
theorem d_St_copyFrom_104 : decode prog_7_method_3_code 104 = .ok (.aload_n 1, 1) := by decide +kernel
theorem s_St_copyFrom_104 {x : Nat} (hl : lg lv 1 = some (.ref x)) (k : ev G M_St_copyFrom R E 105 lv (.ref x :: rest) h cells slots) : ev G M_St_copyFrom R E 104 lv rest h cells slots := ev_aload_n d_St_copyFrom_104 rfl hl k
theorem d_St_copyFrom_105 : decode prog_7_method_3_code 105 = .ok (.getfield 34, 3) := by decide +kernel
theorem s_St_copyFrom_105 {a : Nat} {fs : List Value} {v : Value} (hh : h a = mO 5 fs) (hv : fs[7]? = some v) (k : ev G M_St_copyFrom R E 108 lv (v :: rest) h cells slots) : ev G M_St_copyFrom R E 105 lv (.ref a :: rest) h cells slots := ev_getfield (ci := 5) (kf := 7) d_St_copyFrom_105 rfl ck5 (by decide) w_115 hh hv k
theorem d_St_copyFrom_108 : decode prog_7_method_3_code 108 = .ok (.iconst 0, 1) := by decide +kernel
theorem s_St_copyFrom_108  (k : ev G M_St_copyFrom R E 109 lv (.int 0 :: rest) h cells slots) : ev G M_St_copyFrom R E 108 lv rest h cells slots := ev_iconst d_St_copyFrom_108 (by decide) k
theorem d_St_copyFrom_109 : decode prog_7_method_3_code 109 = .ok (.aload_n 0, 1) := by decide +kernel
theorem s_St_copyFrom_109 {x : Nat} (hl : lg lv 0 = some (.ref x)) (k : ev G M_St_copyFrom R E 110 lv (.ref x :: rest) h cells slots) : ev G M_St_copyFrom R E 109 lv rest h cells slots := ev_aload_n d_St_copyFrom_109 rfl hl k
theorem d_St_copyFrom_110 : decode prog_7_method_3_code 110 = .ok (.getfield 34, 3) := by decide +kernel
theorem s_St_copyFrom_110 {a : Nat} {fs : List Value} {v : Value} (hh : h a = mO 5 fs) (hv : fs[7]? = some v) (k : ev G M_St_copyFrom R E 113 lv (v :: rest) h cells slots) : ev G M_St_copyFrom R E 110 lv (.ref a :: rest) h cells slots := ev_getfield (ci := 5) (kf := 7) d_St_copyFrom_110 rfl ck5 (by decide) w_115 hh hv k
theorem d_St_copyFrom_113 : decode prog_7_method_3_code 113 = .ok (.iconst 0, 1) := by decide +kernel
theorem s_St_copyFrom_113  (k : ev G M_St_copyFrom R E 114 lv (.int 0 :: rest) h cells slots) : ev G M_St_copyFrom R E 113 lv rest h cells slots := ev_iconst d_St_copyFrom_113 (by decide) k
theorem d_St_copyFrom_114 : decode prog_7_method_3_code 114 = .ok (.iconst 5, 1) := by decide +kernel
theorem s_St_copyFrom_114  (k : ev G M_St_copyFrom R E 115 lv (.int 5 :: rest) h cells slots) : ev G M_St_copyFrom R E 114 lv rest h cells slots := ev_iconst d_St_copyFrom_114 (by decide) k
theorem d_St_copyFrom_115 : decode prog_7_method_3_code 115 = .ok (.invokestatic 70, 3) := by decide +kernel
theorem s_St_copyFrom_115i {n0 n1 a0 a : Nat} {f g : Nat → Int32} {sp dp n : Int32} (h0 : h a0 = mI 0 n0 f) (h1 : h a = mI 0 n1 g) (g1 : ¬ sp < 0) (g2 : ¬ dp < 0) (g3 : ¬ n < 0) (g4 : sp.toNatClampNeg + n.toNatClampNeg ≤ n0) (g5 : dp.toNatClampNeg + n.toNatClampNeg ≤ n1) (hfr : 1 ≤ R.frames) (hlo : (rest.map fun v => v.category).sum + (nativeFrameWords "java/lang/System" "arraycopy" 5 + 11) ≤ R.locals) (k : ev G M_St_copyFrom R E 118 lv rest (va_up h a (mI 0 n1 (va_cpy f g sp.toNatClampNeg dp.toNatClampNeg n.toNatClampNeg))) cells slots) : ev G M_St_copyFrom R E 115 lv (.int n :: .int dp :: .ref a :: .int sp :: .ref a0 :: rest) h cells slots := ev_copyi d_St_copyFrom_115 w_325 w_327 w_326 w_73 rfl h0 h1 g1 g2 g3 g4 g5 hfr hlo k
theorem s_St_copyFrom_115l {n0 n1 a0 a : Nat} {f g : Nat → Int64} {sp dp n : Int32} (h0 : h a0 = mL 1 n0 f) (h1 : h a = mL 1 n1 g) (g1 : ¬ sp < 0) (g2 : ¬ dp < 0) (g3 : ¬ n < 0) (g4 : sp.toNatClampNeg + n.toNatClampNeg ≤ n0) (g5 : dp.toNatClampNeg + n.toNatClampNeg ≤ n1) (hfr : 1 ≤ R.frames) (hlo : (rest.map fun v => v.category).sum + (nativeFrameWords "java/lang/System" "arraycopy" 5 + 11) ≤ R.locals) (k : ev G M_St_copyFrom R E 118 lv rest (va_up h a (mL 1 n1 (va_cpy f g sp.toNatClampNeg dp.toNatClampNeg n.toNatClampNeg))) cells slots) : ev G M_St_copyFrom R E 115 lv (.int n :: .int dp :: .ref a :: .int sp :: .ref a0 :: rest) h cells slots := ev_copyl d_St_copyFrom_115 w_325 w_327 w_326 w_73 rfl h0 h1 g1 g2 g3 g4 g5 hfr hlo k
theorem d_St_copyFrom_118 : decode prog_7_method_3_code 118 = .ok (.aload_n 1, 1) := by decide +kernel
theorem s_St_copyFrom_118 {x : Nat} (hl : lg lv 1 = some (.ref x)) (k : ev G M_St_copyFrom R E 119 lv (.ref x :: rest) h cells slots) : ev G M_St_copyFrom R E 118 lv rest h cells slots := ev_aload_n d_St_copyFrom_118 rfl hl k
theorem d_St_copyFrom_119 : decode prog_7_method_3_code 119 = .ok (.getfield 37, 3) := by decide +kernel
theorem s_St_copyFrom_119 {a : Nat} {fs : List Value} {v : Value} (hh : h a = mO 5 fs) (hv : fs[8]? = some v) (k : ev G M_St_copyFrom R E 122 lv (v :: rest) h cells slots) : ev G M_St_copyFrom R E 119 lv (.ref a :: rest) h cells slots := ev_getfield (ci := 5) (kf := 8) d_St_copyFrom_119 rfl ck5 (by decide) w_116 hh hv k
theorem d_St_copyFrom_122 : decode prog_7_method_3_code 122 = .ok (.iconst 0, 1) := by decide +kernel
theorem s_St_copyFrom_122  (k : ev G M_St_copyFrom R E 123 lv (.int 0 :: rest) h cells slots) : ev G M_St_copyFrom R E 122 lv rest h cells slots := ev_iconst d_St_copyFrom_122 (by decide) k
theorem d_St_copyFrom_123 : decode prog_7_method_3_code 123 = .ok (.aload_n 0, 1) := by decide +kernel
theorem s_St_copyFrom_123 {x : Nat} (hl : lg lv 0 = some (.ref x)) (k : ev G M_St_copyFrom R E 124 lv (.ref x :: rest) h cells slots) : ev G M_St_copyFrom R E 123 lv rest h cells slots := ev_aload_n d_St_copyFrom_123 rfl hl k
theorem d_St_copyFrom_124 : decode prog_7_method_3_code 124 = .ok (.getfield 37, 3) := by decide +kernel
theorem s_St_copyFrom_124 {a : Nat} {fs : List Value} {v : Value} (hh : h a = mO 5 fs) (hv : fs[8]? = some v) (k : ev G M_St_copyFrom R E 127 lv (v :: rest) h cells slots) : ev G M_St_copyFrom R E 124 lv (.ref a :: rest) h cells slots := ev_getfield (ci := 5) (kf := 8) d_St_copyFrom_124 rfl ck5 (by decide) w_116 hh hv k
theorem d_St_copyFrom_127 : decode prog_7_method_3_code 127 = .ok (.iconst 0, 1) := by decide +kernel
theorem s_St_copyFrom_127  (k : ev G M_St_copyFrom R E 128 lv (.int 0 :: rest) h cells slots) : ev G M_St_copyFrom R E 127 lv rest h cells slots := ev_iconst d_St_copyFrom_127 (by decide) k
theorem d_St_copyFrom_128 : decode prog_7_method_3_code 128 = .ok (.iconst 5, 1) := by decide +kernel
theorem s_St_copyFrom_128  (k : ev G M_St_copyFrom R E 129 lv (.int 5 :: rest) h cells slots) : ev G M_St_copyFrom R E 128 lv rest h cells slots := ev_iconst d_St_copyFrom_128 (by decide) k
theorem d_St_copyFrom_129 : decode prog_7_method_3_code 129 = .ok (.invokestatic 70, 3) := by decide +kernel
theorem s_St_copyFrom_129i {n0 n1 a0 a : Nat} {f g : Nat → Int32} {sp dp n : Int32} (h0 : h a0 = mI 0 n0 f) (h1 : h a = mI 0 n1 g) (g1 : ¬ sp < 0) (g2 : ¬ dp < 0) (g3 : ¬ n < 0) (g4 : sp.toNatClampNeg + n.toNatClampNeg ≤ n0) (g5 : dp.toNatClampNeg + n.toNatClampNeg ≤ n1) (hfr : 1 ≤ R.frames) (hlo : (rest.map fun v => v.category).sum + (nativeFrameWords "java/lang/System" "arraycopy" 5 + 11) ≤ R.locals) (k : ev G M_St_copyFrom R E 132 lv rest (va_up h a (mI 0 n1 (va_cpy f g sp.toNatClampNeg dp.toNatClampNeg n.toNatClampNeg))) cells slots) : ev G M_St_copyFrom R E 129 lv (.int n :: .int dp :: .ref a :: .int sp :: .ref a0 :: rest) h cells slots := ev_copyi d_St_copyFrom_129 w_325 w_327 w_326 w_73 rfl h0 h1 g1 g2 g3 g4 g5 hfr hlo k
theorem s_St_copyFrom_129l {n0 n1 a0 a : Nat} {f g : Nat → Int64} {sp dp n : Int32} (h0 : h a0 = mL 1 n0 f) (h1 : h a = mL 1 n1 g) (g1 : ¬ sp < 0) (g2 : ¬ dp < 0) (g3 : ¬ n < 0) (g4 : sp.toNatClampNeg + n.toNatClampNeg ≤ n0) (g5 : dp.toNatClampNeg + n.toNatClampNeg ≤ n1) (hfr : 1 ≤ R.frames) (hlo : (rest.map fun v => v.category).sum + (nativeFrameWords "java/lang/System" "arraycopy" 5 + 11) ≤ R.locals) (k : ev G M_St_copyFrom R E 132 lv rest (va_up h a (mL 1 n1 (va_cpy f g sp.toNatClampNeg dp.toNatClampNeg n.toNatClampNeg))) cells slots) : ev G M_St_copyFrom R E 129 lv (.int n :: .int dp :: .ref a :: .int sp :: .ref a0 :: rest) h cells slots := ev_copyl d_St_copyFrom_129 w_325 w_327 w_326 w_73 rfl h0 h1 g1 g2 g3 g4 g5 hfr hlo k
theorem d_St_copyFrom_132 : decode prog_7_method_3_code 132 = .ok (.aload_n 1, 1) := by decide +kernel
theorem s_St_copyFrom_132 {x : Nat} (hl : lg lv 1 = some (.ref x)) (k : ev G M_St_copyFrom R E 133 lv (.ref x :: rest) h cells slots) : ev G M_St_copyFrom R E 132 lv rest h cells slots := ev_aload_n d_St_copyFrom_132 rfl hl k
theorem d_St_copyFrom_133 : decode prog_7_method_3_code 133 = .ok (.getfield 40, 3) := by decide +kernel
theorem s_St_copyFrom_133 {a : Nat} {fs : List Value} {v : Value} (hh : h a = mO 5 fs) (hv : fs[9]? = some v) (k : ev G M_St_copyFrom R E 136 lv (v :: rest) h cells slots) : ev G M_St_copyFrom R E 133 lv (.ref a :: rest) h cells slots := ev_getfield (ci := 5) (kf := 9) d_St_copyFrom_133 rfl ck5 (by decide) w_117 hh hv k
theorem d_St_copyFrom_136 : decode prog_7_method_3_code 136 = .ok (.iconst 0, 1) := by decide +kernel
theorem s_St_copyFrom_136  (k : ev G M_St_copyFrom R E 137 lv (.int 0 :: rest) h cells slots) : ev G M_St_copyFrom R E 136 lv rest h cells slots := ev_iconst d_St_copyFrom_136 (by decide) k
theorem d_St_copyFrom_137 : decode prog_7_method_3_code 137 = .ok (.aload_n 0, 1) := by decide +kernel
theorem s_St_copyFrom_137 {x : Nat} (hl : lg lv 0 = some (.ref x)) (k : ev G M_St_copyFrom R E 138 lv (.ref x :: rest) h cells slots) : ev G M_St_copyFrom R E 137 lv rest h cells slots := ev_aload_n d_St_copyFrom_137 rfl hl k
theorem d_St_copyFrom_138 : decode prog_7_method_3_code 138 = .ok (.getfield 40, 3) := by decide +kernel
theorem s_St_copyFrom_138 {a : Nat} {fs : List Value} {v : Value} (hh : h a = mO 5 fs) (hv : fs[9]? = some v) (k : ev G M_St_copyFrom R E 141 lv (v :: rest) h cells slots) : ev G M_St_copyFrom R E 138 lv (.ref a :: rest) h cells slots := ev_getfield (ci := 5) (kf := 9) d_St_copyFrom_138 rfl ck5 (by decide) w_117 hh hv k
theorem d_St_copyFrom_141 : decode prog_7_method_3_code 141 = .ok (.iconst 0, 1) := by decide +kernel
theorem s_St_copyFrom_141  (k : ev G M_St_copyFrom R E 142 lv (.int 0 :: rest) h cells slots) : ev G M_St_copyFrom R E 141 lv rest h cells slots := ev_iconst d_St_copyFrom_141 (by decide) k
theorem d_St_copyFrom_142 : decode prog_7_method_3_code 142 = .ok (.iconst 5, 1) := by decide +kernel
theorem s_St_copyFrom_142  (k : ev G M_St_copyFrom R E 143 lv (.int 5 :: rest) h cells slots) : ev G M_St_copyFrom R E 142 lv rest h cells slots := ev_iconst d_St_copyFrom_142 (by decide) k
theorem d_St_copyFrom_143 : decode prog_7_method_3_code 143 = .ok (.invokestatic 70, 3) := by decide +kernel
theorem s_St_copyFrom_143i {n0 n1 a0 a : Nat} {f g : Nat → Int32} {sp dp n : Int32} (h0 : h a0 = mI 0 n0 f) (h1 : h a = mI 0 n1 g) (g1 : ¬ sp < 0) (g2 : ¬ dp < 0) (g3 : ¬ n < 0) (g4 : sp.toNatClampNeg + n.toNatClampNeg ≤ n0) (g5 : dp.toNatClampNeg + n.toNatClampNeg ≤ n1) (hfr : 1 ≤ R.frames) (hlo : (rest.map fun v => v.category).sum + (nativeFrameWords "java/lang/System" "arraycopy" 5 + 11) ≤ R.locals) (k : ev G M_St_copyFrom R E 146 lv rest (va_up h a (mI 0 n1 (va_cpy f g sp.toNatClampNeg dp.toNatClampNeg n.toNatClampNeg))) cells slots) : ev G M_St_copyFrom R E 143 lv (.int n :: .int dp :: .ref a :: .int sp :: .ref a0 :: rest) h cells slots := ev_copyi d_St_copyFrom_143 w_325 w_327 w_326 w_73 rfl h0 h1 g1 g2 g3 g4 g5 hfr hlo k
theorem s_St_copyFrom_143l {n0 n1 a0 a : Nat} {f g : Nat → Int64} {sp dp n : Int32} (h0 : h a0 = mL 1 n0 f) (h1 : h a = mL 1 n1 g) (g1 : ¬ sp < 0) (g2 : ¬ dp < 0) (g3 : ¬ n < 0) (g4 : sp.toNatClampNeg + n.toNatClampNeg ≤ n0) (g5 : dp.toNatClampNeg + n.toNatClampNeg ≤ n1) (hfr : 1 ≤ R.frames) (hlo : (rest.map fun v => v.category).sum + (nativeFrameWords "java/lang/System" "arraycopy" 5 + 11) ≤ R.locals) (k : ev G M_St_copyFrom R E 146 lv rest (va_up h a (mL 1 n1 (va_cpy f g sp.toNatClampNeg dp.toNatClampNeg n.toNatClampNeg))) cells slots) : ev G M_St_copyFrom R E 143 lv (.int n :: .int dp :: .ref a :: .int sp :: .ref a0 :: rest) h cells slots := ev_copyl d_St_copyFrom_143 w_325 w_327 w_326 w_73 rfl h0 h1 g1 g2 g3 g4 g5 hfr hlo k
theorem d_St_copyFrom_146 : decode prog_7_method_3_code 146 = .ok (.aload_n 0, 1) := by decide +kernel
theorem s_St_copyFrom_146 {x : Nat} (hl : lg lv 0 = some (.ref x)) (k : ev G M_St_copyFrom R E 147 lv (.ref x :: rest) h cells slots) : ev G M_St_copyFrom R E 146 lv rest h cells slots := ev_aload_n d_St_copyFrom_146 rfl hl k
theorem d_St_copyFrom_147 : decode prog_7_method_3_code 147 = .ok (.aload_n 1, 1) := by decide +kernel
theorem s_St_copyFrom_147 {x : Nat} (hl : lg lv 1 = some (.ref x)) (k : ev G M_St_copyFrom R E 148 lv (.ref x :: rest) h cells slots) : ev G M_St_copyFrom R E 147 lv rest h cells slots := ev_aload_n d_St_copyFrom_147 rfl hl k
theorem d_St_copyFrom_148 : decode prog_7_method_3_code 148 = .ok (.getfield 43, 3) := by decide +kernel
theorem s_St_copyFrom_148 {a : Nat} {fs : List Value} {v : Value} (hh : h a = mO 5 fs) (hv : fs[10]? = some v) (k : ev G M_St_copyFrom R E 151 lv (v :: rest) h cells slots) : ev G M_St_copyFrom R E 148 lv (.ref a :: rest) h cells slots := ev_getfield (ci := 5) (kf := 10) d_St_copyFrom_148 rfl ck5 (by decide) w_118 hh hv k
theorem d_St_copyFrom_151 : decode prog_7_method_3_code 151 = .ok (.putfield 43, 3) := by decide +kernel
theorem s_St_copyFrom_151 {x : Int32} {a : Nat} {fs : List Value} (hh : h a = mO 5 fs) (hlen : 10 < fs.length) (k : ev G M_St_copyFrom R E 154 lv rest (va_up h a (mO 5 (fs.set 10 (.int x)))) cells slots) : ev G M_St_copyFrom R E 151 lv (.int x :: .ref a :: rest) h cells slots := ev_putfield (ci := 5) (kf := 10) d_St_copyFrom_151 rfl ck5 (by decide) w_118 rfl hh hlen (fun _ _ => rfl) (fun _ _ => rfl) k
theorem d_St_copyFrom_154 : decode prog_7_method_3_code 154 = .ok (.aload_n 0, 1) := by decide +kernel
theorem s_St_copyFrom_154 {x : Nat} (hl : lg lv 0 = some (.ref x)) (k : ev G M_St_copyFrom R E 155 lv (.ref x :: rest) h cells slots) : ev G M_St_copyFrom R E 154 lv rest h cells slots := ev_aload_n d_St_copyFrom_154 rfl hl k
theorem d_St_copyFrom_155 : decode prog_7_method_3_code 155 = .ok (.aload_n 1, 1) := by decide +kernel
theorem s_St_copyFrom_155 {x : Nat} (hl : lg lv 1 = some (.ref x)) (k : ev G M_St_copyFrom R E 156 lv (.ref x :: rest) h cells slots) : ev G M_St_copyFrom R E 155 lv rest h cells slots := ev_aload_n d_St_copyFrom_155 rfl hl k
theorem d_St_copyFrom_156 : decode prog_7_method_3_code 156 = .ok (.getfield 47, 3) := by decide +kernel
theorem s_St_copyFrom_156 {a : Nat} {fs : List Value} {v : Value} (hh : h a = mO 5 fs) (hv : fs[11]? = some v) (k : ev G M_St_copyFrom R E 159 lv (v :: rest) h cells slots) : ev G M_St_copyFrom R E 156 lv (.ref a :: rest) h cells slots := ev_getfield (ci := 5) (kf := 11) d_St_copyFrom_156 rfl ck5 (by decide) w_120 hh hv k
theorem d_St_copyFrom_159 : decode prog_7_method_3_code 159 = .ok (.putfield 47, 3) := by decide +kernel
theorem s_St_copyFrom_159 {x : Int32} {a : Nat} {fs : List Value} (hh : h a = mO 5 fs) (hlen : 11 < fs.length) (k : ev G M_St_copyFrom R E 162 lv rest (va_up h a (mO 5 (fs.set 11 (.int x)))) cells slots) : ev G M_St_copyFrom R E 159 lv (.int x :: .ref a :: rest) h cells slots := ev_putfield (ci := 5) (kf := 11) d_St_copyFrom_159 rfl ck5 (by decide) w_120 rfl hh hlen (fun _ _ => rfl) (fun _ _ => rfl) k
theorem d_St_copyFrom_162 : decode prog_7_method_3_code 162 = .ok (.aload_n 0, 1) := by decide +kernel
theorem s_St_copyFrom_162 {x : Nat} (hl : lg lv 0 = some (.ref x)) (k : ev G M_St_copyFrom R E 163 lv (.ref x :: rest) h cells slots) : ev G M_St_copyFrom R E 162 lv rest h cells slots := ev_aload_n d_St_copyFrom_162 rfl hl k
theorem d_St_copyFrom_163 : decode prog_7_method_3_code 163 = .ok (.aload_n 1, 1) := by decide +kernel
theorem s_St_copyFrom_163 {x : Nat} (hl : lg lv 1 = some (.ref x)) (k : ev G M_St_copyFrom R E 164 lv (.ref x :: rest) h cells slots) : ev G M_St_copyFrom R E 163 lv rest h cells slots := ev_aload_n d_St_copyFrom_163 rfl hl k
theorem d_St_copyFrom_164 : decode prog_7_method_3_code 164 = .ok (.getfield 50, 3) := by decide +kernel
theorem s_St_copyFrom_164 {a : Nat} {fs : List Value} {v : Value} (hh : h a = mO 5 fs) (hv : fs[12]? = some v) (k : ev G M_St_copyFrom R E 167 lv (v :: rest) h cells slots) : ev G M_St_copyFrom R E 164 lv (.ref a :: rest) h cells slots := ev_getfield (ci := 5) (kf := 12) d_St_copyFrom_164 rfl ck5 (by decide) w_123 hh hv k
theorem d_St_copyFrom_167 : decode prog_7_method_3_code 167 = .ok (.putfield 50, 3) := by decide +kernel
theorem s_St_copyFrom_167 {x : Int32} {a : Nat} {fs : List Value} (hh : h a = mO 5 fs) (hlen : 12 < fs.length) (k : ev G M_St_copyFrom R E 170 lv rest (va_up h a (mO 5 (fs.set 12 (.int x)))) cells slots) : ev G M_St_copyFrom R E 167 lv (.int x :: .ref a :: rest) h cells slots := ev_putfield (ci := 5) (kf := 12) d_St_copyFrom_167 rfl ck5 (by decide) w_123 rfl hh hlen (fun _ _ => rfl) (fun _ _ => rfl) k
theorem d_St_copyFrom_170 : decode prog_7_method_3_code 170 = .ok (.aload_n 0, 1) := by decide +kernel
theorem s_St_copyFrom_170 {x : Nat} (hl : lg lv 0 = some (.ref x)) (k : ev G M_St_copyFrom R E 171 lv (.ref x :: rest) h cells slots) : ev G M_St_copyFrom R E 170 lv rest h cells slots := ev_aload_n d_St_copyFrom_170 rfl hl k
theorem d_St_copyFrom_171 : decode prog_7_method_3_code 171 = .ok (.aload_n 1, 1) := by decide +kernel
theorem s_St_copyFrom_171 {x : Nat} (hl : lg lv 1 = some (.ref x)) (k : ev G M_St_copyFrom R E 172 lv (.ref x :: rest) h cells slots) : ev G M_St_copyFrom R E 171 lv rest h cells slots := ev_aload_n d_St_copyFrom_171 rfl hl k
theorem d_St_copyFrom_172 : decode prog_7_method_3_code 172 = .ok (.getfield 53, 3) := by decide +kernel
theorem s_St_copyFrom_172 {a : Nat} {fs : List Value} {v : Value} (hh : h a = mO 5 fs) (hv : fs[13]? = some v) (k : ev G M_St_copyFrom R E 175 lv (v :: rest) h cells slots) : ev G M_St_copyFrom R E 172 lv (.ref a :: rest) h cells slots := ev_getfield (ci := 5) (kf := 13) d_St_copyFrom_172 rfl ck5 (by decide) w_126 hh hv k
theorem d_St_copyFrom_175 : decode prog_7_method_3_code 175 = .ok (.putfield 53, 3) := by decide +kernel
theorem s_St_copyFrom_175 {x : Int32} {a : Nat} {fs : List Value} (hh : h a = mO 5 fs) (hlen : 13 < fs.length) (k : ev G M_St_copyFrom R E 178 lv rest (va_up h a (mO 5 (fs.set 13 (.int x)))) cells slots) : ev G M_St_copyFrom R E 175 lv (.int x :: .ref a :: rest) h cells slots := ev_putfield (ci := 5) (kf := 13) d_St_copyFrom_175 rfl ck5 (by decide) w_126 rfl hh hlen (fun _ _ => rfl) (fun _ _ => rfl) k
theorem d_St_copyFrom_178 : decode prog_7_method_3_code 178 = .ok (.aload_n 0, 1) := by decide +kernel
theorem s_St_copyFrom_178 {x : Nat} (hl : lg lv 0 = some (.ref x)) (k : ev G M_St_copyFrom R E 179 lv (.ref x :: rest) h cells slots) : ev G M_St_copyFrom R E 178 lv rest h cells slots := ev_aload_n d_St_copyFrom_178 rfl hl k
theorem d_St_copyFrom_179 : decode prog_7_method_3_code 179 = .ok (.aload_n 1, 1) := by decide +kernel
theorem s_St_copyFrom_179 {x : Nat} (hl : lg lv 1 = some (.ref x)) (k : ev G M_St_copyFrom R E 180 lv (.ref x :: rest) h cells slots) : ev G M_St_copyFrom R E 179 lv rest h cells slots := ev_aload_n d_St_copyFrom_179 rfl hl k
theorem d_St_copyFrom_180 : decode prog_7_method_3_code 180 = .ok (.getfield 56, 3) := by decide +kernel
theorem s_St_copyFrom_180 {a : Nat} {fs : List Value} {v : Value} (hh : h a = mO 5 fs) (hv : fs[14]? = some v) (k : ev G M_St_copyFrom R E 183 lv (v :: rest) h cells slots) : ev G M_St_copyFrom R E 180 lv (.ref a :: rest) h cells slots := ev_getfield (ci := 5) (kf := 14) d_St_copyFrom_180 rfl ck5 (by decide) w_129 hh hv k
theorem d_St_copyFrom_183 : decode prog_7_method_3_code 183 = .ok (.putfield 56, 3) := by decide +kernel
theorem s_St_copyFrom_183 {x : Int32} {a : Nat} {fs : List Value} (hh : h a = mO 5 fs) (hlen : 14 < fs.length) (k : ev G M_St_copyFrom R E 186 lv rest (va_up h a (mO 5 (fs.set 14 (.int x)))) cells slots) : ev G M_St_copyFrom R E 183 lv (.int x :: .ref a :: rest) h cells slots := ev_putfield (ci := 5) (kf := 14) d_St_copyFrom_183 rfl ck5 (by decide) w_129 rfl hh hlen (fun _ _ => rfl) (fun _ _ => rfl) k
theorem d_St_copyFrom_186 : decode prog_7_method_3_code 186 = .ok (.return_, 1) := by decide +kernel
theorem s_St_copyFrom_186 {P : Option Value → HP → Prop} {mc ms : Nat} (hP : P none h) (hc : cells ≤ mc ∧ slots ≤ ms) : ev G M_St_copyFrom R (Er M_St_copyFrom P mc ms) 186 lv [] h cells slots := ev_exit ⟨hc.1, hc.2, Or.inl ⟨rfl, d_St_copyFrom_186, rfl, hP⟩⟩
abbrev M_Hi_keep : MW := (⟨"UseOnceMachine$History", "keep", "(LUseOnceMachine$State;)V"⟩, prog_3_method_3_code, 3, none)
theorem hy_Hi_keep : M_Hi_keep.1.cls ≠ "java/lang/invoke/MethodHandle" ∧ M_Hi_keep.1.cls ≠ "java/lang/invoke/VarHandle" ∧ (parseMethodDescriptor M_Hi_keep.1.desc).map (fun d => d.parameters.length) = some 1 := by decide +kernel
theorem d_Hi_keep_0 : decode prog_3_method_3_code 0 = .ok (.aload_n 0, 1) := by decide +kernel
theorem s_Hi_keep_0 {x : Nat} (hl : lg lv 0 = some (.ref x)) (k : ev G M_Hi_keep R E 1 lv (.ref x :: rest) h cells slots) : ev G M_Hi_keep R E 0 lv rest h cells slots := ev_aload_n d_Hi_keep_0 rfl hl k
theorem s_Hi_keep_0N  (hl : lg lv 0 = some .null) (k : ev G M_Hi_keep R E 1 lv (.null :: rest) h cells slots) : ev G M_Hi_keep R E 0 lv rest h cells slots := ev_aload_nN d_Hi_keep_0 rfl hl k
theorem d_Hi_keep_1 : decode prog_3_method_3_code 1 = .ok (.getfield 17, 3) := by decide +kernel
theorem s_Hi_keep_1 {a : Nat} {fs : List Value} {v : Value} (hh : h a = mO 1 fs) (hv : fs[1]? = some v) (k : ev G M_Hi_keep R E 4 lv (v :: rest) h cells slots) : ev G M_Hi_keep R E 1 lv (.ref a :: rest) h cells slots := ev_getfield (ci := 1) (kf := 1) d_Hi_keep_1 rfl ck1 (by decide) w_173 hh hv k
theorem d_Hi_keep_4 : decode prog_3_method_3_code 4 = .ok (.ifCond .lt 12, 3) := by decide +kernel
theorem s_Hi_keep_4 {x : Int32} (kt : x < 0 → ev G M_Hi_keep R E 16 lv rest h cells slots) (kf : ¬ x < 0 → ev G M_Hi_keep R E 7 lv rest h cells slots) : ev G M_Hi_keep R E 4 lv (.int x :: rest) h cells slots := ev_if_lt d_Hi_keep_4 (by decide) kt kf
theorem d_Hi_keep_7 : decode prog_3_method_3_code 7 = .ok (.aload_n 0, 1) := by decide +kernel
theorem s_Hi_keep_7 {x : Nat} (hl : lg lv 0 = some (.ref x)) (k : ev G M_Hi_keep R E 8 lv (.ref x :: rest) h cells slots) : ev G M_Hi_keep R E 7 lv rest h cells slots := ev_aload_n d_Hi_keep_7 rfl hl k
theorem s_Hi_keep_7N  (hl : lg lv 0 = some .null) (k : ev G M_Hi_keep R E 8 lv (.null :: rest) h cells slots) : ev G M_Hi_keep R E 7 lv rest h cells slots := ev_aload_nN d_Hi_keep_7 rfl hl k
theorem d_Hi_keep_8 : decode prog_3_method_3_code 8 = .ok (.getfield 17, 3) := by decide +kernel
theorem s_Hi_keep_8 {a : Nat} {fs : List Value} {v : Value} (hh : h a = mO 1 fs) (hv : fs[1]? = some v) (k : ev G M_Hi_keep R E 11 lv (v :: rest) h cells slots) : ev G M_Hi_keep R E 8 lv (.ref a :: rest) h cells slots := ev_getfield (ci := 1) (kf := 1) d_Hi_keep_8 rfl ck1 (by decide) w_173 hh hv k
theorem d_Hi_keep_11 : decode prog_3_method_3_code 11 = .ok (.bipush 40, 2) := by decide +kernel
theorem s_Hi_keep_11  (k : ev G M_Hi_keep R E 13 lv (.int 40 :: rest) h cells slots) : ev G M_Hi_keep R E 11 lv rest h cells slots := ev_bipush d_Hi_keep_11 (by decide) k
theorem d_Hi_keep_13 : decode prog_3_method_3_code 13 = .ok (.if_icmp .lt 4, 3) := by decide +kernel
theorem s_Hi_keep_13 {x y : Int32} (kt : x < y → ev G M_Hi_keep R E 17 lv rest h cells slots) (kf : ¬ x < y → ev G M_Hi_keep R E 16 lv rest h cells slots) : ev G M_Hi_keep R E 13 lv (.int y :: .int x :: rest) h cells slots := ev_icmp_lt d_Hi_keep_13 (by decide) kt kf
theorem d_Hi_keep_16 : decode prog_3_method_3_code 16 = .ok (.return_, 1) := by decide +kernel
theorem s_Hi_keep_16 {P : Option Value → HP → Prop} {mc ms : Nat} (hP : P none h) (hc : cells ≤ mc ∧ slots ≤ ms) : ev G M_Hi_keep R (Er M_Hi_keep P mc ms) 16 lv [] h cells slots := ev_exit ⟨hc.1, hc.2, Or.inl ⟨rfl, d_Hi_keep_16, rfl, hP⟩⟩
theorem d_Hi_keep_17 : decode prog_3_method_3_code 17 = .ok (.aload_n 0, 1) := by decide +kernel
theorem s_Hi_keep_17 {x : Nat} (hl : lg lv 0 = some (.ref x)) (k : ev G M_Hi_keep R E 18 lv (.ref x :: rest) h cells slots) : ev G M_Hi_keep R E 17 lv rest h cells slots := ev_aload_n d_Hi_keep_17 rfl hl k
theorem s_Hi_keep_17N  (hl : lg lv 0 = some .null) (k : ev G M_Hi_keep R E 18 lv (.null :: rest) h cells slots) : ev G M_Hi_keep R E 17 lv rest h cells slots := ev_aload_nN d_Hi_keep_17 rfl hl k
theorem d_Hi_keep_18 : decode prog_3_method_3_code 18 = .ok (.getfield 11, 3) := by decide +kernel
theorem s_Hi_keep_18 {a : Nat} {fs : List Value} {v : Value} (hh : h a = mO 1 fs) (hv : fs[0]? = some v) (k : ev G M_Hi_keep R E 21 lv (v :: rest) h cells slots) : ev G M_Hi_keep R E 18 lv (.ref a :: rest) h cells slots := ev_getfield (ci := 1) (kf := 0) d_Hi_keep_18 rfl ck1 (by decide) w_172 hh hv k
theorem d_Hi_keep_21 : decode prog_3_method_3_code 21 = .ok (.aload_n 0, 1) := by decide +kernel
theorem s_Hi_keep_21 {x : Nat} (hl : lg lv 0 = some (.ref x)) (k : ev G M_Hi_keep R E 22 lv (.ref x :: rest) h cells slots) : ev G M_Hi_keep R E 21 lv rest h cells slots := ev_aload_n d_Hi_keep_21 rfl hl k
theorem s_Hi_keep_21N  (hl : lg lv 0 = some .null) (k : ev G M_Hi_keep R E 22 lv (.null :: rest) h cells slots) : ev G M_Hi_keep R E 21 lv rest h cells slots := ev_aload_nN d_Hi_keep_21 rfl hl k
theorem d_Hi_keep_22 : decode prog_3_method_3_code 22 = .ok (.getfield 17, 3) := by decide +kernel
theorem s_Hi_keep_22 {a : Nat} {fs : List Value} {v : Value} (hh : h a = mO 1 fs) (hv : fs[1]? = some v) (k : ev G M_Hi_keep R E 25 lv (v :: rest) h cells slots) : ev G M_Hi_keep R E 22 lv (.ref a :: rest) h cells slots := ev_getfield (ci := 1) (kf := 1) d_Hi_keep_22 rfl ck1 (by decide) w_173 hh hv k
theorem d_Hi_keep_25 : decode prog_3_method_3_code 25 = .ok (.aaload, 1) := by decide +kernel
theorem s_Hi_keep_25 {a n : Nat} {f : Nat → Option Nat} {i : Int32} (hh : h a = mR 3 n f) (hin : vp_in i n) (k : ev G M_Hi_keep R E 26 lv (orf (f i.toNatClampNeg) :: rest) h cells slots) : ev G M_Hi_keep R E 25 lv (.int i :: .ref a :: rest) h cells slots := ev_aaload d_Hi_keep_25 rfl hh hin k
theorem d_Hi_keep_26 : decode prog_3_method_3_code 26 = .ok (.astore_n 2, 1) := by decide +kernel
theorem s_Hi_keep_26 {x : Nat} (k : ev G M_Hi_keep R E 27 (ls1 lv 2 (.ref x)) rest h cells slots) : ev G M_Hi_keep R E 26 lv (.ref x :: rest) h cells slots := ev_astore_n d_Hi_keep_26 rfl (by decide) k
theorem s_Hi_keep_26N  (k : ev G M_Hi_keep R E 27 (ls1 lv 2 .null) rest h cells slots) : ev G M_Hi_keep R E 26 lv (.null :: rest) h cells slots := ev_astore_nN d_Hi_keep_26 rfl (by decide) k
theorem d_Hi_keep_27 : decode prog_3_method_3_code 27 = .ok (.aload_n 2, 1) := by decide +kernel
theorem s_Hi_keep_27 {x : Nat} (hl : lg lv 2 = some (.ref x)) (k : ev G M_Hi_keep R E 28 lv (.ref x :: rest) h cells slots) : ev G M_Hi_keep R E 27 lv rest h cells slots := ev_aload_n d_Hi_keep_27 rfl hl k
theorem s_Hi_keep_27N  (hl : lg lv 2 = some .null) (k : ev G M_Hi_keep R E 28 lv (.null :: rest) h cells slots) : ev G M_Hi_keep R E 27 lv rest h cells slots := ev_aload_nN d_Hi_keep_27 rfl hl k
theorem d_Hi_keep_28 : decode prog_3_method_3_code 28 = .ok (.ifnonnull 21, 3) := by decide +kernel
theorem s_Hi_keep_28 {x : Nat} (k : ev G M_Hi_keep R E 49 lv rest h cells slots) : ev G M_Hi_keep R E 28 lv (.ref x :: rest) h cells slots := ev_ifnonnull (x := x) d_Hi_keep_28 (by decide) k
theorem s_Hi_keep_28N  (k : ev G M_Hi_keep R E 31 lv rest h cells slots) : ev G M_Hi_keep R E 28 lv (.null :: rest) h cells slots := ev_ifnonnullN (x := 0) d_Hi_keep_28 k
theorem d_Hi_keep_31 : decode prog_3_method_3_code 31 = .ok (.new 9, 3) := by decide +kernel
theorem s_Hi_keep_31 {kn : Nat} (hcl : cells + 1 ≤ R.cells) (hsl : slots + 15 ≤ R.slots) (hf : h kn = mF) (hk : kn < tB) (k : ev G M_Hi_keep R E 34 lv (.ref kn :: rest) (va_up h kn (mO 5 [.null, .null, .null, .null, .null, .null, .null, .null, .null, .null, .int 0, .int 0, .int 0, .int 0, .int 0])) (cells + 1) (slots + 15)) : ev G M_Hi_keep R E 31 lv rest h cells slots := ev_new (ci := 5) d_Hi_keep_31 rfl ck5 w_170 w_99 w_65 (by decide +kernel) (fun _ _ => rfl) (okl_dec rfl) rfl hcl hsl hf hk k
theorem d_Hi_keep_34 : decode prog_3_method_3_code 34 = .ok (.dup, 1) := by decide +kernel
theorem s_Hi_keep_34 {va : Value} (hva : va.category = 1) (k : ev G M_Hi_keep R E 35 lv (va :: va :: rest) h cells slots) : ev G M_Hi_keep R E 34 lv (va :: rest) h cells slots := ev_dup d_Hi_keep_34 hva k
theorem d_Hi_keep_35 : decode prog_3_method_3_code 35 = .ok (.invokespecial 24, 3) := by decide +kernel
theorem s_Hi_keep_35 {mc ms : Nat} {P : Option Value → HP → Prop}  {b : Nat} (hm : mt G M_St_init 1 mc ms (.ref b :: []) h P) (hR : 1 + 1 ≤ R.frames ∧ 8 + (1 + 11) + 39 * 1 ≤ R.locals) (hcs : cells + mc ≤ R.cells ∧ slots + ms ≤ R.slots) (hrest : (rest.map fun v => v.category).sum ≤ 8) (k : ∀ (r : Option Value) (h' : HP), P r h' → ev G M_Hi_keep R E 38 lv (r.toList ++ rest) h' (cells + mc) (slots + ms)) : ev G M_Hi_keep R E 35 lv (.ref b :: rest) h cells slots := ev_callIN (as := []) (host := "UseOnceMachine") d_Hi_keep_35 hm (by simp) rfl w_101 w_65 w_102 hy_St_init hR hcs hrest k
theorem d_Hi_keep_38 : decode prog_3_method_3_code 38 = .ok (.astore_n 2, 1) := by decide +kernel
theorem s_Hi_keep_38 {x : Nat} (k : ev G M_Hi_keep R E 39 (ls1 lv 2 (.ref x)) rest h cells slots) : ev G M_Hi_keep R E 38 lv (.ref x :: rest) h cells slots := ev_astore_n d_Hi_keep_38 rfl (by decide) k
theorem s_Hi_keep_38N  (k : ev G M_Hi_keep R E 39 (ls1 lv 2 .null) rest h cells slots) : ev G M_Hi_keep R E 38 lv (.null :: rest) h cells slots := ev_astore_nN d_Hi_keep_38 rfl (by decide) k
theorem d_Hi_keep_39 : decode prog_3_method_3_code 39 = .ok (.aload_n 0, 1) := by decide +kernel
theorem s_Hi_keep_39 {x : Nat} (hl : lg lv 0 = some (.ref x)) (k : ev G M_Hi_keep R E 40 lv (.ref x :: rest) h cells slots) : ev G M_Hi_keep R E 39 lv rest h cells slots := ev_aload_n d_Hi_keep_39 rfl hl k
theorem s_Hi_keep_39N  (hl : lg lv 0 = some .null) (k : ev G M_Hi_keep R E 40 lv (.null :: rest) h cells slots) : ev G M_Hi_keep R E 39 lv rest h cells slots := ev_aload_nN d_Hi_keep_39 rfl hl k
theorem d_Hi_keep_40 : decode prog_3_method_3_code 40 = .ok (.getfield 11, 3) := by decide +kernel
theorem s_Hi_keep_40 {a : Nat} {fs : List Value} {v : Value} (hh : h a = mO 1 fs) (hv : fs[0]? = some v) (k : ev G M_Hi_keep R E 43 lv (v :: rest) h cells slots) : ev G M_Hi_keep R E 40 lv (.ref a :: rest) h cells slots := ev_getfield (ci := 1) (kf := 0) d_Hi_keep_40 rfl ck1 (by decide) w_172 hh hv k
theorem d_Hi_keep_43 : decode prog_3_method_3_code 43 = .ok (.aload_n 0, 1) := by decide +kernel
theorem s_Hi_keep_43 {x : Nat} (hl : lg lv 0 = some (.ref x)) (k : ev G M_Hi_keep R E 44 lv (.ref x :: rest) h cells slots) : ev G M_Hi_keep R E 43 lv rest h cells slots := ev_aload_n d_Hi_keep_43 rfl hl k
theorem s_Hi_keep_43N  (hl : lg lv 0 = some .null) (k : ev G M_Hi_keep R E 44 lv (.null :: rest) h cells slots) : ev G M_Hi_keep R E 43 lv rest h cells slots := ev_aload_nN d_Hi_keep_43 rfl hl k
theorem d_Hi_keep_44 : decode prog_3_method_3_code 44 = .ok (.getfield 17, 3) := by decide +kernel
theorem s_Hi_keep_44 {a : Nat} {fs : List Value} {v : Value} (hh : h a = mO 1 fs) (hv : fs[1]? = some v) (k : ev G M_Hi_keep R E 47 lv (v :: rest) h cells slots) : ev G M_Hi_keep R E 44 lv (.ref a :: rest) h cells slots := ev_getfield (ci := 1) (kf := 1) d_Hi_keep_44 rfl ck1 (by decide) w_173 hh hv k
theorem d_Hi_keep_47 : decode prog_3_method_3_code 47 = .ok (.aload_n 2, 1) := by decide +kernel
theorem s_Hi_keep_47 {x : Nat} (hl : lg lv 2 = some (.ref x)) (k : ev G M_Hi_keep R E 48 lv (.ref x :: rest) h cells slots) : ev G M_Hi_keep R E 47 lv rest h cells slots := ev_aload_n d_Hi_keep_47 rfl hl k
theorem s_Hi_keep_47N  (hl : lg lv 2 = some .null) (k : ev G M_Hi_keep R E 48 lv (.null :: rest) h cells slots) : ev G M_Hi_keep R E 47 lv rest h cells slots := ev_aload_nN d_Hi_keep_47 rfl hl k
theorem d_Hi_keep_48 : decode prog_3_method_3_code 48 = .ok (.aastore, 1) := by decide +kernel
theorem s_Hi_keep_48 {a b n : Nat} {vs : List Value} {v0 : Value} {f : Nat → Option Nat} {i : Int32} (hh : h a = mR 3 n f) (hb : h b = mO 5 vs) (hv0 : vs[0]? = some v0) (hin : vp_in i n) (k : ev G M_Hi_keep R E 49 lv rest (va_up h a (mR 3 n (va_up f i.toNatClampNeg (some b)))) cells slots) : ev G M_Hi_keep R E 48 lv (.ref b :: .int i :: .ref a :: rest) h cells slots := ev_aastore (cj := 5) d_Hi_keep_48 rfl hh hb hv0 rfl hin k
theorem d_Hi_keep_49 : decode prog_3_method_3_code 49 = .ok (.aload_n 2, 1) := by decide +kernel
theorem s_Hi_keep_49 {x : Nat} (hl : lg lv 2 = some (.ref x)) (k : ev G M_Hi_keep R E 50 lv (.ref x :: rest) h cells slots) : ev G M_Hi_keep R E 49 lv rest h cells slots := ev_aload_n d_Hi_keep_49 rfl hl k
theorem s_Hi_keep_49N  (hl : lg lv 2 = some .null) (k : ev G M_Hi_keep R E 50 lv (.null :: rest) h cells slots) : ev G M_Hi_keep R E 49 lv rest h cells slots := ev_aload_nN d_Hi_keep_49 rfl hl k
theorem d_Hi_keep_50 : decode prog_3_method_3_code 50 = .ok (.aload_n 1, 1) := by decide +kernel
theorem s_Hi_keep_50 {x : Nat} (hl : lg lv 1 = some (.ref x)) (k : ev G M_Hi_keep R E 51 lv (.ref x :: rest) h cells slots) : ev G M_Hi_keep R E 50 lv rest h cells slots := ev_aload_n d_Hi_keep_50 rfl hl k
theorem s_Hi_keep_50N  (hl : lg lv 1 = some .null) (k : ev G M_Hi_keep R E 51 lv (.null :: rest) h cells slots) : ev G M_Hi_keep R E 50 lv rest h cells slots := ev_aload_nN d_Hi_keep_50 rfl hl k
theorem d_Hi_keep_51 : decode prog_3_method_3_code 51 = .ok (.invokevirtual 25, 3) := by decide +kernel
theorem s_Hi_keep_51 {mc ms : Nat} {P : Option Value → HP → Prop} {a0 : Nat} {b : Nat} {fs : List Value} {v0 : Value} (hm : mt G M_St_copyFrom 1 mc ms (.ref b :: [.ref a0]) h P) (hb : h b = mO 5 fs) (hv0 : fs[0]? = some v0) (hR : 1 + 1 ≤ R.frames ∧ 8 + (2 + 11) + 39 * 1 ≤ R.locals) (hcs : cells + mc ≤ R.cells ∧ slots + ms ≤ R.slots) (hrest : (rest.map fun v => v.category).sum ≤ 8) (k : ∀ (r : Option Value) (h' : HP), P r h' → ev G M_Hi_keep R E 54 lv (r.toList ++ rest) h' (cells + mc) (slots + ms)) : ev G M_Hi_keep R E 51 lv (.ref a0 :: .ref b :: rest) h cells slots := ev_callV (as := [.ref a0]) (ci := 5) d_Hi_keep_51 hm hb hv0 rfl w_321 w_322 w_323 w_65 w_324 hy_St_copyFrom hR hcs hrest k
theorem d_Hi_keep_54 : decode prog_3_method_3_code 54 = .ok (.aload_n 0, 1) := by decide +kernel
theorem s_Hi_keep_54 {x : Nat} (hl : lg lv 0 = some (.ref x)) (k : ev G M_Hi_keep R E 55 lv (.ref x :: rest) h cells slots) : ev G M_Hi_keep R E 54 lv rest h cells slots := ev_aload_n d_Hi_keep_54 rfl hl k
theorem s_Hi_keep_54N  (hl : lg lv 0 = some .null) (k : ev G M_Hi_keep R E 55 lv (.null :: rest) h cells slots) : ev G M_Hi_keep R E 54 lv rest h cells slots := ev_aload_nN d_Hi_keep_54 rfl hl k
theorem d_Hi_keep_55 : decode prog_3_method_3_code 55 = .ok (.aload_n 0, 1) := by decide +kernel
theorem s_Hi_keep_55 {x : Nat} (hl : lg lv 0 = some (.ref x)) (k : ev G M_Hi_keep R E 56 lv (.ref x :: rest) h cells slots) : ev G M_Hi_keep R E 55 lv rest h cells slots := ev_aload_n d_Hi_keep_55 rfl hl k
theorem s_Hi_keep_55N  (hl : lg lv 0 = some .null) (k : ev G M_Hi_keep R E 56 lv (.null :: rest) h cells slots) : ev G M_Hi_keep R E 55 lv rest h cells slots := ev_aload_nN d_Hi_keep_55 rfl hl k
theorem d_Hi_keep_56 : decode prog_3_method_3_code 56 = .ok (.getfield 17, 3) := by decide +kernel
theorem s_Hi_keep_56 {a : Nat} {fs : List Value} {v : Value} (hh : h a = mO 1 fs) (hv : fs[1]? = some v) (k : ev G M_Hi_keep R E 59 lv (v :: rest) h cells slots) : ev G M_Hi_keep R E 56 lv (.ref a :: rest) h cells slots := ev_getfield (ci := 1) (kf := 1) d_Hi_keep_56 rfl ck1 (by decide) w_173 hh hv k
theorem d_Hi_keep_59 : decode prog_3_method_3_code 59 = .ok (.iconst 1, 1) := by decide +kernel
theorem s_Hi_keep_59  (k : ev G M_Hi_keep R E 60 lv (.int 1 :: rest) h cells slots) : ev G M_Hi_keep R E 59 lv rest h cells slots := ev_iconst d_Hi_keep_59 (by decide) k
theorem d_Hi_keep_60 : decode prog_3_method_3_code 60 = .ok (.iadd, 1) := by decide +kernel
theorem s_Hi_keep_60 {x y : Int32} (k : ev G M_Hi_keep R E 61 lv (.int (x + y) :: rest) h cells slots) : ev G M_Hi_keep R E 60 lv (.int y :: .int x :: rest) h cells slots := ev_iadd d_Hi_keep_60 k
theorem d_Hi_keep_61 : decode prog_3_method_3_code 61 = .ok (.bipush 40, 2) := by decide +kernel
theorem s_Hi_keep_61  (k : ev G M_Hi_keep R E 63 lv (.int 40 :: rest) h cells slots) : ev G M_Hi_keep R E 61 lv rest h cells slots := ev_bipush d_Hi_keep_61 (by decide) k
theorem d_Hi_keep_63 : decode prog_3_method_3_code 63 = .ok (.irem, 1) := by decide +kernel
theorem s_Hi_keep_63 {x y : Int32} (hne : ¬ y = 0) (k : ev G M_Hi_keep R E 64 lv (.int (x - x / y * y) :: rest) h cells slots) : ev G M_Hi_keep R E 63 lv (.int y :: .int x :: rest) h cells slots := ev_irem d_Hi_keep_63 hne k
theorem d_Hi_keep_64 : decode prog_3_method_3_code 64 = .ok (.putfield 17, 3) := by decide +kernel
theorem s_Hi_keep_64 {x : Int32} {a : Nat} {fs : List Value} (hh : h a = mO 1 fs) (hlen : 1 < fs.length) (k : ev G M_Hi_keep R E 67 lv rest (va_up h a (mO 1 (fs.set 1 (.int x)))) cells slots) : ev G M_Hi_keep R E 64 lv (.int x :: .ref a :: rest) h cells slots := ev_putfield (ci := 1) (kf := 1) d_Hi_keep_64 rfl ck1 (by decide) w_173 rfl hh hlen (fun _ _ => rfl) (fun _ _ => rfl) k
theorem d_Hi_keep_67 : decode prog_3_method_3_code 67 = .ok (.aload_n 0, 1) := by decide +kernel
theorem s_Hi_keep_67 {x : Nat} (hl : lg lv 0 = some (.ref x)) (k : ev G M_Hi_keep R E 68 lv (.ref x :: rest) h cells slots) : ev G M_Hi_keep R E 67 lv rest h cells slots := ev_aload_n d_Hi_keep_67 rfl hl k
theorem s_Hi_keep_67N  (hl : lg lv 0 = some .null) (k : ev G M_Hi_keep R E 68 lv (.null :: rest) h cells slots) : ev G M_Hi_keep R E 67 lv rest h cells slots := ev_aload_nN d_Hi_keep_67 rfl hl k
theorem d_Hi_keep_68 : decode prog_3_method_3_code 68 = .ok (.aload_n 0, 1) := by decide +kernel
theorem s_Hi_keep_68 {x : Nat} (hl : lg lv 0 = some (.ref x)) (k : ev G M_Hi_keep R E 69 lv (.ref x :: rest) h cells slots) : ev G M_Hi_keep R E 68 lv rest h cells slots := ev_aload_n d_Hi_keep_68 rfl hl k
theorem s_Hi_keep_68N  (hl : lg lv 0 = some .null) (k : ev G M_Hi_keep R E 69 lv (.null :: rest) h cells slots) : ev G M_Hi_keep R E 68 lv rest h cells slots := ev_aload_nN d_Hi_keep_68 rfl hl k
theorem d_Hi_keep_69 : decode prog_3_method_3_code 69 = .ok (.getfield 21, 3) := by decide +kernel
theorem s_Hi_keep_69 {a : Nat} {fs : List Value} {v : Value} (hh : h a = mO 1 fs) (hv : fs[2]? = some v) (k : ev G M_Hi_keep R E 72 lv (v :: rest) h cells slots) : ev G M_Hi_keep R E 69 lv (.ref a :: rest) h cells slots := ev_getfield (ci := 1) (kf := 2) d_Hi_keep_69 rfl ck1 (by decide) w_174 hh hv k
theorem d_Hi_keep_72 : decode prog_3_method_3_code 72 = .ok (.iconst 1, 1) := by decide +kernel
theorem s_Hi_keep_72  (k : ev G M_Hi_keep R E 73 lv (.int 1 :: rest) h cells slots) : ev G M_Hi_keep R E 72 lv rest h cells slots := ev_iconst d_Hi_keep_72 (by decide) k
theorem d_Hi_keep_73 : decode prog_3_method_3_code 73 = .ok (.iadd, 1) := by decide +kernel
theorem s_Hi_keep_73 {x y : Int32} (k : ev G M_Hi_keep R E 74 lv (.int (x + y) :: rest) h cells slots) : ev G M_Hi_keep R E 73 lv (.int y :: .int x :: rest) h cells slots := ev_iadd d_Hi_keep_73 k
theorem d_Hi_keep_74 : decode prog_3_method_3_code 74 = .ok (.bipush 40, 2) := by decide +kernel
theorem s_Hi_keep_74  (k : ev G M_Hi_keep R E 76 lv (.int 40 :: rest) h cells slots) : ev G M_Hi_keep R E 74 lv rest h cells slots := ev_bipush d_Hi_keep_74 (by decide) k
theorem d_Hi_keep_76 : decode prog_3_method_3_code 76 = .ok (.invokestatic 29, 3) := by decide +kernel
theorem s_Hi_keep_76 {mc ms : Nat} {P : Option Value → HP → Prop} {a0 : Int32} {a1 : Int32} (hm : mt G M_Jm_min 0 mc ms [.int a0, .int a1] h P) (hR : 0 + 1 ≤ R.frames ∧ 8 + (2 + 11) + 39 * 0 ≤ R.locals) (hcs : cells + mc ≤ R.cells ∧ slots + ms ≤ R.slots) (hrest : (rest.map fun v => v.category).sum ≤ 8) (k : ∀ (r : Option Value) (h' : HP), P r h' → ev G M_Hi_keep R E 79 lv (r.toList ++ rest) h' (cells + mc) (slots + ms)) : ev G M_Hi_keep R E 76 lv (.int a1 :: .int a0 :: rest) h cells slots := ev_callS (as := [.int a0, .int a1]) d_Hi_keep_76 hm w_328 w_329 w_74 w_330 hy_Jm_min hR hcs hrest k
theorem d_Hi_keep_79 : decode prog_3_method_3_code 79 = .ok (.putfield 21, 3) := by decide +kernel
theorem s_Hi_keep_79 {x : Int32} {a : Nat} {fs : List Value} (hh : h a = mO 1 fs) (hlen : 2 < fs.length) (k : ev G M_Hi_keep R E 82 lv rest (va_up h a (mO 1 (fs.set 2 (.int x)))) cells slots) : ev G M_Hi_keep R E 79 lv (.int x :: .ref a :: rest) h cells slots := ev_putfield (ci := 1) (kf := 2) d_Hi_keep_79 rfl ck1 (by decide) w_174 rfl hh hlen (fun _ _ => rfl) (fun _ _ => rfl) k
theorem d_Hi_keep_82 : decode prog_3_method_3_code 82 = .ok (.return_, 1) := by decide +kernel
theorem s_Hi_keep_82 {P : Option Value → HP → Prop} {mc ms : Nat} (hP : P none h) (hc : cells ≤ mc ∧ slots ≤ ms) : ev G M_Hi_keep R (Er M_Hi_keep P mc ms) 82 lv [] h cells slots := ev_exit ⟨hc.1, hc.2, Or.inl ⟨rfl, d_Hi_keep_82, rfl, hP⟩⟩
abbrev M_St_held : MW := (⟨"UseOnceMachine$State", "held", "(I)J"⟩, prog_7_method_4_code, 2, (some .long))
theorem hy_St_held : M_St_held.1.cls ≠ "java/lang/invoke/MethodHandle" ∧ M_St_held.1.cls ≠ "java/lang/invoke/VarHandle" ∧ (parseMethodDescriptor M_St_held.1.desc).map (fun d => d.parameters.length) = some 1 := by decide +kernel
theorem d_St_held_0 : decode prog_7_method_4_code 0 = .ok (.iload_n 1, 1) := by decide +kernel
theorem s_St_held_0 {x : Int32} (hl : lg lv 1 = some (.int x)) (k : ev G M_St_held R E 1 lv (.int x :: rest) h cells slots) : ev G M_St_held R E 0 lv rest h cells slots := ev_iload_n d_St_held_0 rfl hl k
theorem d_St_held_1 : decode prog_7_method_4_code 1 = .ok (.ifCond .lt 9, 3) := by decide +kernel
theorem s_St_held_1 {x : Int32} (kt : x < 0 → ev G M_St_held R E 10 lv rest h cells slots) (kf : ¬ x < 0 → ev G M_St_held R E 4 lv rest h cells slots) : ev G M_St_held R E 1 lv (.int x :: rest) h cells slots := ev_if_lt d_St_held_1 (by decide) kt kf
theorem d_St_held_4 : decode prog_7_method_4_code 4 = .ok (.iload_n 1, 1) := by decide +kernel
theorem s_St_held_4 {x : Int32} (hl : lg lv 1 = some (.int x)) (k : ev G M_St_held R E 5 lv (.int x :: rest) h cells slots) : ev G M_St_held R E 4 lv rest h cells slots := ev_iload_n d_St_held_4 rfl hl k
theorem d_St_held_5 : decode prog_7_method_4_code 5 = .ok (.bipush 102, 2) := by decide +kernel
theorem s_St_held_5  (k : ev G M_St_held R E 7 lv (.int 102 :: rest) h cells slots) : ev G M_St_held R E 5 lv rest h cells slots := ev_bipush d_St_held_5 (by decide) k
theorem d_St_held_7 : decode prog_7_method_4_code 7 = .ok (.if_icmp .lt 7, 3) := by decide +kernel
theorem s_St_held_7 {x y : Int32} (kt : x < y → ev G M_St_held R E 14 lv rest h cells slots) (kf : ¬ x < y → ev G M_St_held R E 10 lv rest h cells slots) : ev G M_St_held R E 7 lv (.int y :: .int x :: rest) h cells slots := ev_icmp_lt d_St_held_7 (by decide) kt kf
theorem d_St_held_10 : decode prog_7_method_4_code 10 = .ok (.lconst 0, 1) := by decide +kernel
theorem s_St_held_10  (k : ev G M_St_held R E 11 lv (.long 0 :: rest) h cells slots) : ev G M_St_held R E 10 lv rest h cells slots := ev_lconst d_St_held_10 (by decide) k
theorem d_St_held_11 : decode prog_7_method_4_code 11 = .ok (.goto 9, 3) := by decide +kernel
theorem s_St_held_11  (k : ev G M_St_held R E 20 lv rest h cells slots) : ev G M_St_held R E 11 lv rest h cells slots := ev_goto d_St_held_11 (by decide) k
theorem d_St_held_14 : decode prog_7_method_4_code 14 = .ok (.aload_n 0, 1) := by decide +kernel
theorem s_St_held_14 {x : Nat} (hl : lg lv 0 = some (.ref x)) (k : ev G M_St_held R E 15 lv (.ref x :: rest) h cells slots) : ev G M_St_held R E 14 lv rest h cells slots := ev_aload_n d_St_held_14 rfl hl k
theorem d_St_held_15 : decode prog_7_method_4_code 15 = .ok (.getfield 9, 3) := by decide +kernel
theorem s_St_held_15 {a : Nat} {fs : List Value} {v : Value} (hh : h a = mO 5 fs) (hv : fs[0]? = some v) (k : ev G M_St_held R E 18 lv (v :: rest) h cells slots) : ev G M_St_held R E 15 lv (.ref a :: rest) h cells slots := ev_getfield (ci := 5) (kf := 0) d_St_held_15 rfl ck5 (by decide) w_104 hh hv k
theorem d_St_held_18 : decode prog_7_method_4_code 18 = .ok (.iload_n 1, 1) := by decide +kernel
theorem s_St_held_18 {x : Int32} (hl : lg lv 1 = some (.int x)) (k : ev G M_St_held R E 19 lv (.int x :: rest) h cells slots) : ev G M_St_held R E 18 lv rest h cells slots := ev_iload_n d_St_held_18 rfl hl k
theorem d_St_held_19 : decode prog_7_method_4_code 19 = .ok (.laload, 1) := by decide +kernel
theorem s_St_held_19 {a n : Nat} {f : Nat → Int64} {i : Int32} (hh : h a = mL 1 n f) (hin : vp_in i n) (k : ev G M_St_held R E 20 lv (.long (f i.toNatClampNeg) :: rest) h cells slots) : ev G M_St_held R E 19 lv (.int i :: .ref a :: rest) h cells slots := ev_laload d_St_held_19 rfl hh hin k
theorem d_St_held_20 : decode prog_7_method_4_code 20 = .ok (.lreturn, 1) := by decide +kernel
theorem s_St_held_20 {P : Option Value → HP → Prop} {mc ms : Nat} {v : Int64} (hP : P (some (.long v)) h) (hc : cells ≤ mc ∧ slots ≤ ms) : ev G M_St_held R (Er M_St_held P mc ms) 20 lv [.long v] h cells slots := ev_exit ⟨hc.1, hc.2, Or.inr (Or.inr ⟨v, rfl, d_St_held_20, rfl, hP⟩)⟩
abbrev M_St_carry : MW := (⟨"UseOnceMachine$State", "carry", "(II)V"⟩, prog_7_method_6_code, 3, none)
theorem hy_St_carry : M_St_carry.1.cls ≠ "java/lang/invoke/MethodHandle" ∧ M_St_carry.1.cls ≠ "java/lang/invoke/VarHandle" ∧ (parseMethodDescriptor M_St_carry.1.desc).map (fun d => d.parameters.length) = some 2 := by decide +kernel
theorem d_St_carry_0 : decode prog_7_method_6_code 0 = .ok (.aload_n 0, 1) := by decide +kernel
theorem s_St_carry_0 {x : Nat} (hl : lg lv 0 = some (.ref x)) (k : ev G M_St_carry R E 1 lv (.ref x :: rest) h cells slots) : ev G M_St_carry R E 0 lv rest h cells slots := ev_aload_n d_St_carry_0 rfl hl k
theorem d_St_carry_1 : decode prog_7_method_6_code 1 = .ok (.iload_n 1, 1) := by decide +kernel
theorem s_St_carry_1 {x : Int32} (hl : lg lv 1 = some (.int x)) (k : ev G M_St_carry R E 2 lv (.int x :: rest) h cells slots) : ev G M_St_carry R E 1 lv rest h cells slots := ev_iload_n d_St_carry_1 rfl hl k
theorem d_St_carry_2 : decode prog_7_method_6_code 2 = .ok (.aload_n 0, 1) := by decide +kernel
theorem s_St_carry_2 {x : Nat} (hl : lg lv 0 = some (.ref x)) (k : ev G M_St_carry R E 3 lv (.ref x :: rest) h cells slots) : ev G M_St_carry R E 2 lv rest h cells slots := ev_aload_n d_St_carry_2 rfl hl k
theorem d_St_carry_3 : decode prog_7_method_6_code 3 = .ok (.iload_n 2, 1) := by decide +kernel
theorem s_St_carry_3 {x : Int32} (hl : lg lv 2 = some (.int x)) (k : ev G M_St_carry R E 4 lv (.int x :: rest) h cells slots) : ev G M_St_carry R E 3 lv rest h cells slots := ev_iload_n d_St_carry_3 rfl hl k
theorem d_St_carry_4 : decode prog_7_method_6_code 4 = .ok (.invokevirtual 76, 3) := by decide +kernel
theorem s_St_carry_4 {mc ms : Nat} {P : Option Value → HP → Prop} {a0 : Int32} {b : Nat} {fs : List Value} {v0 : Value} (hm : mt G M_St_held 0 mc ms (.ref b :: [.int a0]) h P) (hb : h b = mO 5 fs) (hv0 : fs[0]? = some v0) (hR : 0 + 1 ≤ R.frames ∧ 8 + (2 + 11) + 39 * 0 ≤ R.locals) (hcs : cells + mc ≤ R.cells ∧ slots + ms ≤ R.slots) (hrest : (rest.map fun v => v.category).sum ≤ 8) (k : ∀ (r : Option Value) (h' : HP), P r h' → ev G M_St_carry R E 7 lv (r.toList ++ rest) h' (cells + mc) (slots + ms)) : ev G M_St_carry R E 4 lv (.int a0 :: .ref b :: rest) h cells slots := ev_callV (as := [.int a0]) (ci := 5) d_St_carry_4 hm hb hv0 rfl w_404 w_374 w_375 w_65 w_376 hy_St_held hR hcs hrest k
theorem d_St_carry_7 : decode prog_7_method_6_code 7 = .ok (.invokevirtual 80, 3) := by decide +kernel
theorem s_St_carry_7 {mc ms : Nat} {P : Option Value → HP → Prop} {a0 : Int32} {a1 : Int64} {b : Nat} {fs : List Value} {v0 : Value} (hm : mt G M_St_put 0 mc ms (.ref b :: [.int a0, .long a1]) h P) (hb : h b = mO 5 fs) (hv0 : fs[0]? = some v0) (hR : 0 + 1 ≤ R.frames ∧ 8 + (4 + 11) + 39 * 0 ≤ R.locals) (hcs : cells + mc ≤ R.cells ∧ slots + ms ≤ R.slots) (hrest : (rest.map fun v => v.category).sum ≤ 8) (k : ∀ (r : Option Value) (h' : HP), P r h' → ev G M_St_carry R E 10 lv (r.toList ++ rest) h' (cells + mc) (slots + ms)) : ev G M_St_carry R E 7 lv (.long a1 :: .int a0 :: .ref b :: rest) h cells slots := ev_callV (as := [.int a0, .long a1]) (ci := 5) d_St_carry_7 hm hb hv0 rfl w_412 w_304 w_305 w_65 w_306 hy_St_put hR hcs hrest k
theorem d_St_carry_10 : decode prog_7_method_6_code 10 = .ok (.aload_n 0, 1) := by decide +kernel
theorem s_St_carry_10 {x : Nat} (hl : lg lv 0 = some (.ref x)) (k : ev G M_St_carry R E 11 lv (.ref x :: rest) h cells slots) : ev G M_St_carry R E 10 lv rest h cells slots := ev_aload_n d_St_carry_10 rfl hl k
theorem d_St_carry_11 : decode prog_7_method_6_code 11 = .ok (.iload_n 2, 1) := by decide +kernel
theorem s_St_carry_11 {x : Int32} (hl : lg lv 2 = some (.int x)) (k : ev G M_St_carry R E 12 lv (.int x :: rest) h cells slots) : ev G M_St_carry R E 11 lv rest h cells slots := ev_iload_n d_St_carry_11 rfl hl k
theorem d_St_carry_12 : decode prog_7_method_6_code 12 = .ok (.lconst 0, 1) := by decide +kernel
theorem s_St_carry_12  (k : ev G M_St_carry R E 13 lv (.long 0 :: rest) h cells slots) : ev G M_St_carry R E 12 lv rest h cells slots := ev_lconst d_St_carry_12 (by decide) k
theorem d_St_carry_13 : decode prog_7_method_6_code 13 = .ok (.invokevirtual 80, 3) := by decide +kernel
theorem s_St_carry_13 {mc ms : Nat} {P : Option Value → HP → Prop} {a0 : Int32} {a1 : Int64} {b : Nat} {fs : List Value} {v0 : Value} (hm : mt G M_St_put 0 mc ms (.ref b :: [.int a0, .long a1]) h P) (hb : h b = mO 5 fs) (hv0 : fs[0]? = some v0) (hR : 0 + 1 ≤ R.frames ∧ 8 + (4 + 11) + 39 * 0 ≤ R.locals) (hcs : cells + mc ≤ R.cells ∧ slots + ms ≤ R.slots) (hrest : (rest.map fun v => v.category).sum ≤ 8) (k : ∀ (r : Option Value) (h' : HP), P r h' → ev G M_St_carry R E 16 lv (r.toList ++ rest) h' (cells + mc) (slots + ms)) : ev G M_St_carry R E 13 lv (.long a1 :: .int a0 :: .ref b :: rest) h cells slots := ev_callV (as := [.int a0, .long a1]) (ci := 5) d_St_carry_13 hm hb hv0 rfl w_412 w_304 w_305 w_65 w_306 hy_St_put hR hcs hrest k
theorem d_St_carry_16 : decode prog_7_method_6_code 16 = .ok (.return_, 1) := by decide +kernel
theorem s_St_carry_16 {P : Option Value → HP → Prop} {mc ms : Nat} (hP : P none h) (hc : cells ≤ mc ∧ slots ≤ ms) : ev G M_St_carry R (Er M_St_carry P mc ms) 16 lv [] h cells slots := ev_exit ⟨hc.1, hc.2, Or.inl ⟨rfl, d_St_carry_16, rfl, hP⟩⟩
abbrev M_St_addToCount : MW := (⟨"UseOnceMachine$State", "addToCount", "(II)V"⟩, prog_7_method_9_code, 3, none)
theorem hy_St_addToCount : M_St_addToCount.1.cls ≠ "java/lang/invoke/MethodHandle" ∧ M_St_addToCount.1.cls ≠ "java/lang/invoke/VarHandle" ∧ (parseMethodDescriptor M_St_addToCount.1.desc).map (fun d => d.parameters.length) = some 2 := by decide +kernel
theorem d_St_addToCount_0 : decode prog_7_method_9_code 0 = .ok (.iload_n 1, 1) := by decide +kernel
theorem s_St_addToCount_0 {x : Int32} (hl : lg lv 1 = some (.int x)) (k : ev G M_St_addToCount R E 1 lv (.int x :: rest) h cells slots) : ev G M_St_addToCount R E 0 lv rest h cells slots := ev_iload_n d_St_addToCount_0 rfl hl k
theorem d_St_addToCount_1 : decode prog_7_method_9_code 1 = .ok (.ifCond .lt 19, 3) := by decide +kernel
theorem s_St_addToCount_1 {x : Int32} (kt : x < 0 → ev G M_St_addToCount R E 20 lv rest h cells slots) (kf : ¬ x < 0 → ev G M_St_addToCount R E 4 lv rest h cells slots) : ev G M_St_addToCount R E 1 lv (.int x :: rest) h cells slots := ev_if_lt d_St_addToCount_1 (by decide) kt kf
theorem d_St_addToCount_4 : decode prog_7_method_9_code 4 = .ok (.iload_n 1, 1) := by decide +kernel
theorem s_St_addToCount_4 {x : Int32} (hl : lg lv 1 = some (.int x)) (k : ev G M_St_addToCount R E 5 lv (.int x :: rest) h cells slots) : ev G M_St_addToCount R E 4 lv rest h cells slots := ev_iload_n d_St_addToCount_4 rfl hl k
theorem d_St_addToCount_5 : decode prog_7_method_9_code 5 = .ok (.bipush 6, 2) := by decide +kernel
theorem s_St_addToCount_5  (k : ev G M_St_addToCount R E 7 lv (.int 6 :: rest) h cells slots) : ev G M_St_addToCount R E 5 lv rest h cells slots := ev_bipush d_St_addToCount_5 (by decide) k
theorem d_St_addToCount_7 : decode prog_7_method_9_code 7 = .ok (.if_icmp .ge 13, 3) := by decide +kernel
theorem s_St_addToCount_7 {x y : Int32} (kt : y ≤ x → ev G M_St_addToCount R E 20 lv rest h cells slots) (kf : ¬ y ≤ x → ev G M_St_addToCount R E 10 lv rest h cells slots) : ev G M_St_addToCount R E 7 lv (.int y :: .int x :: rest) h cells slots := ev_icmp_ge d_St_addToCount_7 (by decide) kt kf
theorem d_St_addToCount_10 : decode prog_7_method_9_code 10 = .ok (.aload_n 0, 1) := by decide +kernel
theorem s_St_addToCount_10 {x : Nat} (hl : lg lv 0 = some (.ref x)) (k : ev G M_St_addToCount R E 11 lv (.ref x :: rest) h cells slots) : ev G M_St_addToCount R E 10 lv rest h cells slots := ev_aload_n d_St_addToCount_10 rfl hl k
theorem d_St_addToCount_11 : decode prog_7_method_9_code 11 = .ok (.getfield 18, 3) := by decide +kernel
theorem s_St_addToCount_11 {a : Nat} {fs : List Value} {v : Value} (hh : h a = mO 5 fs) (hv : fs[2]? = some v) (k : ev G M_St_addToCount R E 14 lv (v :: rest) h cells slots) : ev G M_St_addToCount R E 11 lv (.ref a :: rest) h cells slots := ev_getfield (ci := 5) (kf := 2) d_St_addToCount_11 rfl ck5 (by decide) w_106 hh hv k
theorem d_St_addToCount_14 : decode prog_7_method_9_code 14 = .ok (.iload_n 1, 1) := by decide +kernel
theorem s_St_addToCount_14 {x : Int32} (hl : lg lv 1 = some (.int x)) (k : ev G M_St_addToCount R E 15 lv (.int x :: rest) h cells slots) : ev G M_St_addToCount R E 14 lv rest h cells slots := ev_iload_n d_St_addToCount_14 rfl hl k
theorem d_St_addToCount_15 : decode prog_7_method_9_code 15 = .ok (.dup2, 1) := by decide +kernel
theorem s_St_addToCount_15 {va vb : Value} (hva : va.category = 1) (hvb : vb.category = 1) (k : ev G M_St_addToCount R E 16 lv (va :: vb :: va :: vb :: rest) h cells slots) : ev G M_St_addToCount R E 15 lv (va :: vb :: rest) h cells slots := ev_dup2 d_St_addToCount_15 hva hvb k
theorem d_St_addToCount_16 : decode prog_7_method_9_code 16 = .ok (.iaload, 1) := by decide +kernel
theorem s_St_addToCount_16 {a n : Nat} {f : Nat → Int32} {i : Int32} (hh : h a = mI 0 n f) (hin : vp_in i n) (k : ev G M_St_addToCount R E 17 lv (.int (f i.toNatClampNeg) :: rest) h cells slots) : ev G M_St_addToCount R E 16 lv (.int i :: .ref a :: rest) h cells slots := ev_iaload d_St_addToCount_16 rfl hh hin k
theorem d_St_addToCount_17 : decode prog_7_method_9_code 17 = .ok (.iload_n 2, 1) := by decide +kernel
theorem s_St_addToCount_17 {x : Int32} (hl : lg lv 2 = some (.int x)) (k : ev G M_St_addToCount R E 18 lv (.int x :: rest) h cells slots) : ev G M_St_addToCount R E 17 lv rest h cells slots := ev_iload_n d_St_addToCount_17 rfl hl k
theorem d_St_addToCount_18 : decode prog_7_method_9_code 18 = .ok (.iadd, 1) := by decide +kernel
theorem s_St_addToCount_18 {x y : Int32} (k : ev G M_St_addToCount R E 19 lv (.int (x + y) :: rest) h cells slots) : ev G M_St_addToCount R E 18 lv (.int y :: .int x :: rest) h cells slots := ev_iadd d_St_addToCount_18 k
theorem d_St_addToCount_19 : decode prog_7_method_9_code 19 = .ok (.iastore, 1) := by decide +kernel
theorem s_St_addToCount_19 {a n : Nat} {f : Nat → Int32} {i : Int32} {x : Int32} (hh : h a = mI 0 n f) (hin : vp_in i n) (k : ev G M_St_addToCount R E 20 lv rest (va_up h a (mI 0 n (upd f i.toNatClampNeg x))) cells slots) : ev G M_St_addToCount R E 19 lv (.int x :: .int i :: .ref a :: rest) h cells slots := ev_iastore d_St_addToCount_19 rfl hh hin k
theorem d_St_addToCount_20 : decode prog_7_method_9_code 20 = .ok (.return_, 1) := by decide +kernel
theorem s_St_addToCount_20 {P : Option Value → HP → Prop} {mc ms : Nat} (hP : P none h) (hc : cells ≤ mc ∧ slots ≤ ms) : ev G M_St_addToCount R (Er M_St_addToCount P mc ms) 20 lv [] h cells slots := ev_exit ⟨hc.1, hc.2, Or.inl ⟨rfl, d_St_addToCount_20, rfl, hP⟩⟩
abbrev M_St_assign : MW := (⟨"UseOnceMachine$State", "assign", "(II)V"⟩, prog_7_method_7_code, 5, none)
theorem hy_St_assign : M_St_assign.1.cls ≠ "java/lang/invoke/MethodHandle" ∧ M_St_assign.1.cls ≠ "java/lang/invoke/VarHandle" ∧ (parseMethodDescriptor M_St_assign.1.desc).map (fun d => d.parameters.length) = some 2 := by decide +kernel
theorem d_St_assign_0 : decode prog_7_method_7_code 0 = .ok (.aload_n 0, 1) := by decide +kernel
theorem s_St_assign_0 {x : Nat} (hl : lg lv 0 = some (.ref x)) (k : ev G M_St_assign R E 1 lv (.ref x :: rest) h cells slots) : ev G M_St_assign R E 0 lv rest h cells slots := ev_aload_n d_St_assign_0 rfl hl k
theorem d_St_assign_1 : decode prog_7_method_7_code 1 = .ok (.iload_n 2, 1) := by decide +kernel
theorem s_St_assign_1 {x : Int32} (hl : lg lv 2 = some (.int x)) (k : ev G M_St_assign R E 2 lv (.int x :: rest) h cells slots) : ev G M_St_assign R E 1 lv rest h cells slots := ev_iload_n d_St_assign_1 rfl hl k
theorem d_St_assign_2 : decode prog_7_method_7_code 2 = .ok (.invokevirtual 76, 3) := by decide +kernel
theorem s_St_assign_2 {mc ms : Nat} {P : Option Value → HP → Prop} {a0 : Int32} {b : Nat} {fs : List Value} {v0 : Value} (hm : mt G M_St_held 0 mc ms (.ref b :: [.int a0]) h P) (hb : h b = mO 5 fs) (hv0 : fs[0]? = some v0) (hR : 0 + 1 ≤ R.frames ∧ 8 + (2 + 11) + 39 * 0 ≤ R.locals) (hcs : cells + mc ≤ R.cells ∧ slots + ms ≤ R.slots) (hrest : (rest.map fun v => v.category).sum ≤ 8) (k : ∀ (r : Option Value) (h' : HP), P r h' → ev G M_St_assign R E 5 lv (r.toList ++ rest) h' (cells + mc) (slots + ms)) : ev G M_St_assign R E 2 lv (.int a0 :: .ref b :: rest) h cells slots := ev_callV (as := [.int a0]) (ci := 5) d_St_assign_2 hm hb hv0 rfl w_404 w_374 w_375 w_65 w_376 hy_St_held hR hcs hrest k
theorem d_St_assign_5 : decode prog_7_method_7_code 5 = .ok (.lstore_n 3, 1) := by decide +kernel
theorem s_St_assign_5 {x : Int64} (k : ev G M_St_assign R E 6 (ls2 lv 3 (.long x)) rest h cells slots) : ev G M_St_assign R E 5 lv (.long x :: rest) h cells slots := ev_lstore_n d_St_assign_5 rfl (by decide) k
theorem d_St_assign_6 : decode prog_7_method_7_code 6 = .ok (.lload_n 3, 1) := by decide +kernel
theorem s_St_assign_6 {x : Int64} (hl : lg lv 3 = some (.long x)) (k : ev G M_St_assign R E 7 lv (.long x :: rest) h cells slots) : ev G M_St_assign R E 6 lv rest h cells slots := ev_lload_n d_St_assign_6 rfl hl k
theorem d_St_assign_7 : decode prog_7_method_7_code 7 = .ok (.invokestatic 84, 3) := by decide +kernel
theorem s_St_assign_7 {mc ms : Nat} {P : Option Value → HP → Prop} {a0 : Int64} (hm : mt G M_Va_isMoved 1 mc ms [.long a0] h P) (hR : 1 + 1 ≤ R.frames ∧ 8 + (2 + 11) + 39 * 1 ≤ R.locals) (hcs : cells + mc ≤ R.cells ∧ slots + ms ≤ R.slots) (hrest : (rest.map fun v => v.category).sum ≤ 8) (k : ∀ (r : Option Value) (h' : HP), P r h' → ev G M_St_assign R E 10 lv (r.toList ++ rest) h' (cells + mc) (slots + ms)) : ev G M_St_assign R E 7 lv (.long a0 :: rest) h cells slots := ev_callS (as := [.long a0]) d_St_assign_7 hm w_405 w_406 w_72 w_407 hy_Va_isMoved hR hcs hrest k
theorem d_St_assign_10 : decode prog_7_method_7_code 10 = .ok (.ifCond .eq 10, 3) := by decide +kernel
theorem s_St_assign_10 {x : Int32} (kt : x = 0 → ev G M_St_assign R E 20 lv rest h cells slots) (kf : ¬ x = 0 → ev G M_St_assign R E 13 lv rest h cells slots) : ev G M_St_assign R E 10 lv (.int x :: rest) h cells slots := ev_if_eq d_St_assign_10 (by decide) kt kf
theorem d_St_assign_13 : decode prog_7_method_7_code 13 = .ok (.aload_n 0, 1) := by decide +kernel
theorem s_St_assign_13 {x : Nat} (hl : lg lv 0 = some (.ref x)) (k : ev G M_St_assign R E 14 lv (.ref x :: rest) h cells slots) : ev G M_St_assign R E 13 lv rest h cells slots := ev_aload_n d_St_assign_13 rfl hl k
theorem d_St_assign_14 : decode prog_7_method_7_code 14 = .ok (.iload_n 1, 1) := by decide +kernel
theorem s_St_assign_14 {x : Int32} (hl : lg lv 1 = some (.int x)) (k : ev G M_St_assign R E 15 lv (.int x :: rest) h cells slots) : ev G M_St_assign R E 14 lv rest h cells slots := ev_iload_n d_St_assign_14 rfl hl k
theorem d_St_assign_15 : decode prog_7_method_7_code 15 = .ok (.iload_n 2, 1) := by decide +kernel
theorem s_St_assign_15 {x : Int32} (hl : lg lv 2 = some (.int x)) (k : ev G M_St_assign R E 16 lv (.int x :: rest) h cells slots) : ev G M_St_assign R E 15 lv rest h cells slots := ev_iload_n d_St_assign_15 rfl hl k
theorem d_St_assign_16 : decode prog_7_method_7_code 16 = .ok (.invokevirtual 88, 3) := by decide +kernel
theorem s_St_assign_16 {mc ms : Nat} {P : Option Value → HP → Prop} {a0 : Int32} {a1 : Int32} {b : Nat} {fs : List Value} {v0 : Value} (hm : mt G M_St_carry 1 mc ms (.ref b :: [.int a0, .int a1]) h P) (hb : h b = mO 5 fs) (hv0 : fs[0]? = some v0) (hR : 1 + 1 ≤ R.frames ∧ 8 + (3 + 11) + 39 * 1 ≤ R.locals) (hcs : cells + mc ≤ R.cells ∧ slots + ms ≤ R.slots) (hrest : (rest.map fun v => v.category).sum ≤ 8) (k : ∀ (r : Option Value) (h' : HP), P r h' → ev G M_St_assign R E 19 lv (r.toList ++ rest) h' (cells + mc) (slots + ms)) : ev G M_St_assign R E 16 lv (.int a1 :: .int a0 :: .ref b :: rest) h cells slots := ev_callV (as := [.int a0, .int a1]) (ci := 5) d_St_assign_16 hm hb hv0 rfl w_408 w_409 w_410 w_65 w_411 hy_St_carry hR hcs hrest k
theorem d_St_assign_19 : decode prog_7_method_7_code 19 = .ok (.return_, 1) := by decide +kernel
theorem s_St_assign_19 {P : Option Value → HP → Prop} {mc ms : Nat} (hP : P none h) (hc : cells ≤ mc ∧ slots ≤ ms) : ev G M_St_assign R (Er M_St_assign P mc ms) 19 lv [] h cells slots := ev_exit ⟨hc.1, hc.2, Or.inl ⟨rfl, d_St_assign_19, rfl, hP⟩⟩
theorem d_St_assign_20 : decode prog_7_method_7_code 20 = .ok (.aload_n 0, 1) := by decide +kernel
theorem s_St_assign_20 {x : Nat} (hl : lg lv 0 = some (.ref x)) (k : ev G M_St_assign R E 21 lv (.ref x :: rest) h cells slots) : ev G M_St_assign R E 20 lv rest h cells slots := ev_aload_n d_St_assign_20 rfl hl k
theorem d_St_assign_21 : decode prog_7_method_7_code 21 = .ok (.iload_n 1, 1) := by decide +kernel
theorem s_St_assign_21 {x : Int32} (hl : lg lv 1 = some (.int x)) (k : ev G M_St_assign R E 22 lv (.int x :: rest) h cells slots) : ev G M_St_assign R E 21 lv rest h cells slots := ev_iload_n d_St_assign_21 rfl hl k
theorem d_St_assign_22 : decode prog_7_method_7_code 22 = .ok (.lload_n 3, 1) := by decide +kernel
theorem s_St_assign_22 {x : Int64} (hl : lg lv 3 = some (.long x)) (k : ev G M_St_assign R E 23 lv (.long x :: rest) h cells slots) : ev G M_St_assign R E 22 lv rest h cells slots := ev_lload_n d_St_assign_22 rfl hl k
theorem d_St_assign_23 : decode prog_7_method_7_code 23 = .ok (.invokevirtual 80, 3) := by decide +kernel
theorem s_St_assign_23 {mc ms : Nat} {P : Option Value → HP → Prop} {a0 : Int32} {a1 : Int64} {b : Nat} {fs : List Value} {v0 : Value} (hm : mt G M_St_put 0 mc ms (.ref b :: [.int a0, .long a1]) h P) (hb : h b = mO 5 fs) (hv0 : fs[0]? = some v0) (hR : 0 + 1 ≤ R.frames ∧ 8 + (4 + 11) + 39 * 0 ≤ R.locals) (hcs : cells + mc ≤ R.cells ∧ slots + ms ≤ R.slots) (hrest : (rest.map fun v => v.category).sum ≤ 8) (k : ∀ (r : Option Value) (h' : HP), P r h' → ev G M_St_assign R E 26 lv (r.toList ++ rest) h' (cells + mc) (slots + ms)) : ev G M_St_assign R E 23 lv (.long a1 :: .int a0 :: .ref b :: rest) h cells slots := ev_callV (as := [.int a0, .long a1]) (ci := 5) d_St_assign_23 hm hb hv0 rfl w_412 w_304 w_305 w_65 w_306 hy_St_put hR hcs hrest k
theorem d_St_assign_26 : decode prog_7_method_7_code 26 = .ok (.lload_n 3, 1) := by decide +kernel
theorem s_St_assign_26 {x : Int64} (hl : lg lv 3 = some (.long x)) (k : ev G M_St_assign R E 27 lv (.long x :: rest) h cells slots) : ev G M_St_assign R E 26 lv rest h cells slots := ev_lload_n d_St_assign_26 rfl hl k
theorem d_St_assign_27 : decode prog_7_method_7_code 27 = .ok (.invokestatic 92, 3) := by decide +kernel
theorem s_St_assign_27 {mc ms : Nat} {P : Option Value → HP → Prop} {a0 : Int64} (hm : mt G M_Va_kind 0 mc ms [.long a0] h P) (hR : 0 + 1 ≤ R.frames ∧ 8 + (2 + 11) + 39 * 0 ≤ R.locals) (hcs : cells + mc ≤ R.cells ∧ slots + ms ≤ R.slots) (hrest : (rest.map fun v => v.category).sum ≤ 8) (k : ∀ (r : Option Value) (h' : HP), P r h' → ev G M_St_assign R E 30 lv (r.toList ++ rest) h' (cells + mc) (slots + ms)) : ev G M_St_assign R E 27 lv (.long a0 :: rest) h cells slots := ev_callS (as := [.long a0]) d_St_assign_27 hm w_413 w_381 w_72 w_382 hy_Va_kind hR hcs hrest k
theorem d_St_assign_30 : decode prog_7_method_7_code 30 = .ok (.iconst 2, 1) := by decide +kernel
theorem s_St_assign_30  (k : ev G M_St_assign R E 31 lv (.int 2 :: rest) h cells slots) : ev G M_St_assign R E 30 lv rest h cells slots := ev_iconst d_St_assign_30 (by decide) k
theorem d_St_assign_31 : decode prog_7_method_7_code 31 = .ok (.if_icmp .ne 12, 3) := by decide +kernel
theorem s_St_assign_31 {x y : Int32} (kt : ¬ x = y → ev G M_St_assign R E 43 lv rest h cells slots) (kf : x = y → ev G M_St_assign R E 34 lv rest h cells slots) : ev G M_St_assign R E 31 lv (.int y :: .int x :: rest) h cells slots := ev_icmp_ne d_St_assign_31 (by decide) kt kf
theorem d_St_assign_34 : decode prog_7_method_7_code 34 = .ok (.aload_n 0, 1) := by decide +kernel
theorem s_St_assign_34 {x : Nat} (hl : lg lv 0 = some (.ref x)) (k : ev G M_St_assign R E 35 lv (.ref x :: rest) h cells slots) : ev G M_St_assign R E 34 lv rest h cells slots := ev_aload_n d_St_assign_34 rfl hl k
theorem d_St_assign_35 : decode prog_7_method_7_code 35 = .ok (.lload_n 3, 1) := by decide +kernel
theorem s_St_assign_35 {x : Int64} (hl : lg lv 3 = some (.long x)) (k : ev G M_St_assign R E 36 lv (.long x :: rest) h cells slots) : ev G M_St_assign R E 35 lv rest h cells slots := ev_lload_n d_St_assign_35 rfl hl k
theorem d_St_assign_36 : decode prog_7_method_7_code 36 = .ok (.invokestatic 96, 3) := by decide +kernel
theorem s_St_assign_36 {mc ms : Nat} {P : Option Value → HP → Prop} {a0 : Int64} (hm : mt G M_Va_link 0 mc ms [.long a0] h P) (hR : 0 + 1 ≤ R.frames ∧ 8 + (2 + 11) + 39 * 0 ≤ R.locals) (hcs : cells + mc ≤ R.cells ∧ slots + ms ≤ R.slots) (hrest : (rest.map fun v => v.category).sum ≤ 8) (k : ∀ (r : Option Value) (h' : HP), P r h' → ev G M_St_assign R E 39 lv (r.toList ++ rest) h' (cells + mc) (slots + ms)) : ev G M_St_assign R E 36 lv (.long a0 :: rest) h cells slots := ev_callS (as := [.long a0]) d_St_assign_36 hm w_414 w_415 w_72 w_416 hy_Va_link hR hcs hrest k
theorem d_St_assign_39 : decode prog_7_method_7_code 39 = .ok (.iconst 1, 1) := by decide +kernel
theorem s_St_assign_39  (k : ev G M_St_assign R E 40 lv (.int 1 :: rest) h cells slots) : ev G M_St_assign R E 39 lv rest h cells slots := ev_iconst d_St_assign_39 (by decide) k
theorem d_St_assign_40 : decode prog_7_method_7_code 40 = .ok (.invokevirtual 99, 3) := by decide +kernel
theorem s_St_assign_40 {mc ms : Nat} {P : Option Value → HP → Prop} {a0 : Int32} {a1 : Int32} {b : Nat} {fs : List Value} {v0 : Value} (hm : mt G M_St_addToCount 0 mc ms (.ref b :: [.int a0, .int a1]) h P) (hb : h b = mO 5 fs) (hv0 : fs[0]? = some v0) (hR : 0 + 1 ≤ R.frames ∧ 8 + (3 + 11) + 39 * 0 ≤ R.locals) (hcs : cells + mc ≤ R.cells ∧ slots + ms ≤ R.slots) (hrest : (rest.map fun v => v.category).sum ≤ 8) (k : ∀ (r : Option Value) (h' : HP), P r h' → ev G M_St_assign R E 43 lv (r.toList ++ rest) h' (cells + mc) (slots + ms)) : ev G M_St_assign R E 40 lv (.int a1 :: .int a0 :: .ref b :: rest) h cells slots := ev_callV (as := [.int a0, .int a1]) (ci := 5) d_St_assign_40 hm hb hv0 rfl w_417 w_418 w_419 w_65 w_420 hy_St_addToCount hR hcs hrest k
theorem d_St_assign_43 : decode prog_7_method_7_code 43 = .ok (.return_, 1) := by decide +kernel
theorem s_St_assign_43 {P : Option Value → HP → Prop} {mc ms : Nat} (hP : P none h) (hc : cells ≤ mc ∧ slots ≤ ms) : ev G M_St_assign R (Er M_St_assign P mc ms) 43 lv [] h cells slots := ev_exit ⟨hc.1, hc.2, Or.inl ⟨rfl, d_St_assign_43, rfl, hP⟩⟩
abbrev M_St_freeCell : MW := (⟨"UseOnceMachine$State", "freeCell", "()I"⟩, prog_7_method_10_code, 2, (some .int))
theorem hy_St_freeCell : M_St_freeCell.1.cls ≠ "java/lang/invoke/MethodHandle" ∧ M_St_freeCell.1.cls ≠ "java/lang/invoke/VarHandle" ∧ (parseMethodDescriptor M_St_freeCell.1.desc).map (fun d => d.parameters.length) = some 0 := by decide +kernel
theorem d_St_freeCell_0 : decode prog_7_method_10_code 0 = .ok (.iconst 0, 1) := by decide +kernel
theorem s_St_freeCell_0  (k : ev G M_St_freeCell R E 1 lv (.int 0 :: rest) h cells slots) : ev G M_St_freeCell R E 0 lv rest h cells slots := ev_iconst d_St_freeCell_0 (by decide) k
theorem d_St_freeCell_1 : decode prog_7_method_10_code 1 = .ok (.istore_n 1, 1) := by decide +kernel
theorem s_St_freeCell_1 {x : Int32} (k : ev G M_St_freeCell R E 2 (ls1 lv 1 (.int x)) rest h cells slots) : ev G M_St_freeCell R E 1 lv (.int x :: rest) h cells slots := ev_istore_n d_St_freeCell_1 rfl (by decide) k
theorem d_St_freeCell_2 : decode prog_7_method_10_code 2 = .ok (.iload_n 1, 1) := by decide +kernel
theorem s_St_freeCell_2 {x : Int32} (hl : lg lv 1 = some (.int x)) (k : ev G M_St_freeCell R E 3 lv (.int x :: rest) h cells slots) : ev G M_St_freeCell R E 2 lv rest h cells slots := ev_iload_n d_St_freeCell_2 rfl hl k
theorem d_St_freeCell_3 : decode prog_7_method_10_code 3 = .ok (.bipush 6, 2) := by decide +kernel
theorem s_St_freeCell_3  (k : ev G M_St_freeCell R E 5 lv (.int 6 :: rest) h cells slots) : ev G M_St_freeCell R E 3 lv rest h cells slots := ev_bipush d_St_freeCell_3 (by decide) k
theorem d_St_freeCell_5 : decode prog_7_method_10_code 5 = .ok (.if_icmp .ge 20, 3) := by decide +kernel
theorem s_St_freeCell_5 {x y : Int32} (kt : y ≤ x → ev G M_St_freeCell R E 25 lv rest h cells slots) (kf : ¬ y ≤ x → ev G M_St_freeCell R E 8 lv rest h cells slots) : ev G M_St_freeCell R E 5 lv (.int y :: .int x :: rest) h cells slots := ev_icmp_ge d_St_freeCell_5 (by decide) kt kf
theorem d_St_freeCell_8 : decode prog_7_method_10_code 8 = .ok (.aload_n 0, 1) := by decide +kernel
theorem s_St_freeCell_8 {x : Nat} (hl : lg lv 0 = some (.ref x)) (k : ev G M_St_freeCell R E 9 lv (.ref x :: rest) h cells slots) : ev G M_St_freeCell R E 8 lv rest h cells slots := ev_aload_n d_St_freeCell_8 rfl hl k
theorem d_St_freeCell_9 : decode prog_7_method_10_code 9 = .ok (.getfield 18, 3) := by decide +kernel
theorem s_St_freeCell_9 {a : Nat} {fs : List Value} {v : Value} (hh : h a = mO 5 fs) (hv : fs[2]? = some v) (k : ev G M_St_freeCell R E 12 lv (v :: rest) h cells slots) : ev G M_St_freeCell R E 9 lv (.ref a :: rest) h cells slots := ev_getfield (ci := 5) (kf := 2) d_St_freeCell_9 rfl ck5 (by decide) w_106 hh hv k
theorem d_St_freeCell_12 : decode prog_7_method_10_code 12 = .ok (.iload_n 1, 1) := by decide +kernel
theorem s_St_freeCell_12 {x : Int32} (hl : lg lv 1 = some (.int x)) (k : ev G M_St_freeCell R E 13 lv (.int x :: rest) h cells slots) : ev G M_St_freeCell R E 12 lv rest h cells slots := ev_iload_n d_St_freeCell_12 rfl hl k
theorem d_St_freeCell_13 : decode prog_7_method_10_code 13 = .ok (.iaload, 1) := by decide +kernel
theorem s_St_freeCell_13 {a n : Nat} {f : Nat → Int32} {i : Int32} (hh : h a = mI 0 n f) (hin : vp_in i n) (k : ev G M_St_freeCell R E 14 lv (.int (f i.toNatClampNeg) :: rest) h cells slots) : ev G M_St_freeCell R E 13 lv (.int i :: .ref a :: rest) h cells slots := ev_iaload d_St_freeCell_13 rfl hh hin k
theorem d_St_freeCell_14 : decode prog_7_method_10_code 14 = .ok (.ifCond .ne 5, 3) := by decide +kernel
theorem s_St_freeCell_14 {x : Int32} (kt : ¬ x = 0 → ev G M_St_freeCell R E 19 lv rest h cells slots) (kf : x = 0 → ev G M_St_freeCell R E 17 lv rest h cells slots) : ev G M_St_freeCell R E 14 lv (.int x :: rest) h cells slots := ev_if_ne d_St_freeCell_14 (by decide) kt kf
theorem d_St_freeCell_17 : decode prog_7_method_10_code 17 = .ok (.iload_n 1, 1) := by decide +kernel
theorem s_St_freeCell_17 {x : Int32} (hl : lg lv 1 = some (.int x)) (k : ev G M_St_freeCell R E 18 lv (.int x :: rest) h cells slots) : ev G M_St_freeCell R E 17 lv rest h cells slots := ev_iload_n d_St_freeCell_17 rfl hl k
theorem d_St_freeCell_18 : decode prog_7_method_10_code 18 = .ok (.ireturn, 1) := by decide +kernel
theorem s_St_freeCell_18 {P : Option Value → HP → Prop} {mc ms : Nat} {v : Int32} (hP : P (some (.int v)) h) (hc : cells ≤ mc ∧ slots ≤ ms) : ev G M_St_freeCell R (Er M_St_freeCell P mc ms) 18 lv [.int v] h cells slots := ev_exit ⟨hc.1, hc.2, Or.inr (Or.inl ⟨v, .int, rfl, rfl, d_St_freeCell_18, rfl, hP⟩)⟩
theorem d_St_freeCell_19 : decode prog_7_method_10_code 19 = .ok (.iinc 1 1, 3) := by decide +kernel
theorem s_St_freeCell_19 {x : Int32} (hl : lg lv 1 = some (.int x)) (k : ev G M_St_freeCell R E 22 (ls1 lv 1 (.int (x + 1))) rest h cells slots) : ev G M_St_freeCell R E 19 lv rest h cells slots := ev_iinc d_St_freeCell_19 (by decide) hl (by decide) k
theorem d_St_freeCell_22 : decode prog_7_method_10_code 22 = .ok (.goto (-20), 3) := by decide +kernel
theorem s_St_freeCell_22  (k : ev G M_St_freeCell R E 2 lv rest h cells slots) : ev G M_St_freeCell R E 22 lv rest h cells slots := ev_goto d_St_freeCell_22 (by decide) k
theorem d_St_freeCell_25 : decode prog_7_method_10_code 25 = .ok (.iconst (-1), 1) := by decide +kernel
theorem s_St_freeCell_25  (k : ev G M_St_freeCell R E 26 lv (.int (-1) :: rest) h cells slots) : ev G M_St_freeCell R E 25 lv rest h cells slots := ev_iconst d_St_freeCell_25 (by decide) k
theorem d_St_freeCell_26 : decode prog_7_method_10_code 26 = .ok (.ireturn, 1) := by decide +kernel
theorem s_St_freeCell_26 {P : Option Value → HP → Prop} {mc ms : Nat} {v : Int32} (hP : P (some (.int v)) h) (hc : cells ≤ mc ∧ slots ≤ ms) : ev G M_St_freeCell R (Er M_St_freeCell P mc ms) 26 lv [.int v] h cells slots := ev_exit ⟨hc.1, hc.2, Or.inr (Or.inl ⟨v, .int, rfl, rfl, d_St_freeCell_26, rfl, hP⟩)⟩
abbrev M_St_countOf : MW := (⟨"UseOnceMachine$State", "countOf", "(I)I"⟩, prog_7_method_8_code, 2, (some .int))
theorem hy_St_countOf : M_St_countOf.1.cls ≠ "java/lang/invoke/MethodHandle" ∧ M_St_countOf.1.cls ≠ "java/lang/invoke/VarHandle" ∧ (parseMethodDescriptor M_St_countOf.1.desc).map (fun d => d.parameters.length) = some 1 := by decide +kernel
theorem d_St_countOf_0 : decode prog_7_method_8_code 0 = .ok (.iload_n 1, 1) := by decide +kernel
theorem s_St_countOf_0 {x : Int32} (hl : lg lv 1 = some (.int x)) (k : ev G M_St_countOf R E 1 lv (.int x :: rest) h cells slots) : ev G M_St_countOf R E 0 lv rest h cells slots := ev_iload_n d_St_countOf_0 rfl hl k
theorem d_St_countOf_1 : decode prog_7_method_8_code 1 = .ok (.ifCond .lt 9, 3) := by decide +kernel
theorem s_St_countOf_1 {x : Int32} (kt : x < 0 → ev G M_St_countOf R E 10 lv rest h cells slots) (kf : ¬ x < 0 → ev G M_St_countOf R E 4 lv rest h cells slots) : ev G M_St_countOf R E 1 lv (.int x :: rest) h cells slots := ev_if_lt d_St_countOf_1 (by decide) kt kf
theorem d_St_countOf_4 : decode prog_7_method_8_code 4 = .ok (.iload_n 1, 1) := by decide +kernel
theorem s_St_countOf_4 {x : Int32} (hl : lg lv 1 = some (.int x)) (k : ev G M_St_countOf R E 5 lv (.int x :: rest) h cells slots) : ev G M_St_countOf R E 4 lv rest h cells slots := ev_iload_n d_St_countOf_4 rfl hl k
theorem d_St_countOf_5 : decode prog_7_method_8_code 5 = .ok (.bipush 6, 2) := by decide +kernel
theorem s_St_countOf_5  (k : ev G M_St_countOf R E 7 lv (.int 6 :: rest) h cells slots) : ev G M_St_countOf R E 5 lv rest h cells slots := ev_bipush d_St_countOf_5 (by decide) k
theorem d_St_countOf_7 : decode prog_7_method_8_code 7 = .ok (.if_icmp .lt 7, 3) := by decide +kernel
theorem s_St_countOf_7 {x y : Int32} (kt : x < y → ev G M_St_countOf R E 14 lv rest h cells slots) (kf : ¬ x < y → ev G M_St_countOf R E 10 lv rest h cells slots) : ev G M_St_countOf R E 7 lv (.int y :: .int x :: rest) h cells slots := ev_icmp_lt d_St_countOf_7 (by decide) kt kf
theorem d_St_countOf_10 : decode prog_7_method_8_code 10 = .ok (.iconst 0, 1) := by decide +kernel
theorem s_St_countOf_10  (k : ev G M_St_countOf R E 11 lv (.int 0 :: rest) h cells slots) : ev G M_St_countOf R E 10 lv rest h cells slots := ev_iconst d_St_countOf_10 (by decide) k
theorem d_St_countOf_11 : decode prog_7_method_8_code 11 = .ok (.goto 9, 3) := by decide +kernel
theorem s_St_countOf_11  (k : ev G M_St_countOf R E 20 lv rest h cells slots) : ev G M_St_countOf R E 11 lv rest h cells slots := ev_goto d_St_countOf_11 (by decide) k
theorem d_St_countOf_14 : decode prog_7_method_8_code 14 = .ok (.aload_n 0, 1) := by decide +kernel
theorem s_St_countOf_14 {x : Nat} (hl : lg lv 0 = some (.ref x)) (k : ev G M_St_countOf R E 15 lv (.ref x :: rest) h cells slots) : ev G M_St_countOf R E 14 lv rest h cells slots := ev_aload_n d_St_countOf_14 rfl hl k
theorem d_St_countOf_15 : decode prog_7_method_8_code 15 = .ok (.getfield 18, 3) := by decide +kernel
theorem s_St_countOf_15 {a : Nat} {fs : List Value} {v : Value} (hh : h a = mO 5 fs) (hv : fs[2]? = some v) (k : ev G M_St_countOf R E 18 lv (v :: rest) h cells slots) : ev G M_St_countOf R E 15 lv (.ref a :: rest) h cells slots := ev_getfield (ci := 5) (kf := 2) d_St_countOf_15 rfl ck5 (by decide) w_106 hh hv k
theorem d_St_countOf_18 : decode prog_7_method_8_code 18 = .ok (.iload_n 1, 1) := by decide +kernel
theorem s_St_countOf_18 {x : Int32} (hl : lg lv 1 = some (.int x)) (k : ev G M_St_countOf R E 19 lv (.int x :: rest) h cells slots) : ev G M_St_countOf R E 18 lv rest h cells slots := ev_iload_n d_St_countOf_18 rfl hl k
theorem d_St_countOf_19 : decode prog_7_method_8_code 19 = .ok (.iaload, 1) := by decide +kernel
theorem s_St_countOf_19 {a n : Nat} {f : Nat → Int32} {i : Int32} (hh : h a = mI 0 n f) (hin : vp_in i n) (k : ev G M_St_countOf R E 20 lv (.int (f i.toNatClampNeg) :: rest) h cells slots) : ev G M_St_countOf R E 19 lv (.int i :: .ref a :: rest) h cells slots := ev_iaload d_St_countOf_19 rfl hh hin k
theorem d_St_countOf_20 : decode prog_7_method_8_code 20 = .ok (.ireturn, 1) := by decide +kernel
theorem s_St_countOf_20 {P : Option Value → HP → Prop} {mc ms : Nat} {v : Int32} (hP : P (some (.int v)) h) (hc : cells ≤ mc ∧ slots ≤ ms) : ev G M_St_countOf R (Er M_St_countOf P mc ms) 20 lv [.int v] h cells slots := ev_exit ⟨hc.1, hc.2, Or.inr (Or.inl ⟨v, .int, rfl, rfl, d_St_countOf_20, rfl, hP⟩)⟩
abbrev M_St_freeGate : MW := (⟨"UseOnceMachine$State", "freeGate", "()I"⟩, prog_7_method_11_code, 2, (some .int))
theorem hy_St_freeGate : M_St_freeGate.1.cls ≠ "java/lang/invoke/MethodHandle" ∧ M_St_freeGate.1.cls ≠ "java/lang/invoke/VarHandle" ∧ (parseMethodDescriptor M_St_freeGate.1.desc).map (fun d => d.parameters.length) = some 0 := by decide +kernel
theorem d_St_freeGate_0 : decode prog_7_method_11_code 0 = .ok (.iconst 0, 1) := by decide +kernel
theorem s_St_freeGate_0  (k : ev G M_St_freeGate R E 1 lv (.int 0 :: rest) h cells slots) : ev G M_St_freeGate R E 0 lv rest h cells slots := ev_iconst d_St_freeGate_0 (by decide) k
theorem d_St_freeGate_1 : decode prog_7_method_11_code 1 = .ok (.istore_n 1, 1) := by decide +kernel
theorem s_St_freeGate_1 {x : Int32} (k : ev G M_St_freeGate R E 2 (ls1 lv 1 (.int x)) rest h cells slots) : ev G M_St_freeGate R E 1 lv (.int x :: rest) h cells slots := ev_istore_n d_St_freeGate_1 rfl (by decide) k
theorem d_St_freeGate_2 : decode prog_7_method_11_code 2 = .ok (.iload_n 1, 1) := by decide +kernel
theorem s_St_freeGate_2 {x : Int32} (hl : lg lv 1 = some (.int x)) (k : ev G M_St_freeGate R E 3 lv (.int x :: rest) h cells slots) : ev G M_St_freeGate R E 2 lv rest h cells slots := ev_iload_n d_St_freeGate_2 rfl hl k
theorem d_St_freeGate_3 : decode prog_7_method_11_code 3 = .ok (.bipush 6, 2) := by decide +kernel
theorem s_St_freeGate_3  (k : ev G M_St_freeGate R E 5 lv (.int 6 :: rest) h cells slots) : ev G M_St_freeGate R E 3 lv rest h cells slots := ev_bipush d_St_freeGate_3 (by decide) k
theorem d_St_freeGate_5 : decode prog_7_method_11_code 5 = .ok (.if_icmp .ge 20, 3) := by decide +kernel
theorem s_St_freeGate_5 {x y : Int32} (kt : y ≤ x → ev G M_St_freeGate R E 25 lv rest h cells slots) (kf : ¬ y ≤ x → ev G M_St_freeGate R E 8 lv rest h cells slots) : ev G M_St_freeGate R E 5 lv (.int y :: .int x :: rest) h cells slots := ev_icmp_ge d_St_freeGate_5 (by decide) kt kf
theorem d_St_freeGate_8 : decode prog_7_method_11_code 8 = .ok (.aload_n 0, 1) := by decide +kernel
theorem s_St_freeGate_8 {x : Nat} (hl : lg lv 0 = some (.ref x)) (k : ev G M_St_freeGate R E 9 lv (.ref x :: rest) h cells slots) : ev G M_St_freeGate R E 8 lv rest h cells slots := ev_aload_n d_St_freeGate_8 rfl hl k
theorem d_St_freeGate_9 : decode prog_7_method_11_code 9 = .ok (.getfield 22, 3) := by decide +kernel
theorem s_St_freeGate_9 {a : Nat} {fs : List Value} {v : Value} (hh : h a = mO 5 fs) (hv : fs[3]? = some v) (k : ev G M_St_freeGate R E 12 lv (v :: rest) h cells slots) : ev G M_St_freeGate R E 9 lv (.ref a :: rest) h cells slots := ev_getfield (ci := 5) (kf := 3) d_St_freeGate_9 rfl ck5 (by decide) w_108 hh hv k
theorem d_St_freeGate_12 : decode prog_7_method_11_code 12 = .ok (.iload_n 1, 1) := by decide +kernel
theorem s_St_freeGate_12 {x : Int32} (hl : lg lv 1 = some (.int x)) (k : ev G M_St_freeGate R E 13 lv (.int x :: rest) h cells slots) : ev G M_St_freeGate R E 12 lv rest h cells slots := ev_iload_n d_St_freeGate_12 rfl hl k
theorem d_St_freeGate_13 : decode prog_7_method_11_code 13 = .ok (.iaload, 1) := by decide +kernel
theorem s_St_freeGate_13 {a n : Nat} {f : Nat → Int32} {i : Int32} (hh : h a = mI 0 n f) (hin : vp_in i n) (k : ev G M_St_freeGate R E 14 lv (.int (f i.toNatClampNeg) :: rest) h cells slots) : ev G M_St_freeGate R E 13 lv (.int i :: .ref a :: rest) h cells slots := ev_iaload d_St_freeGate_13 rfl hh hin k
theorem d_St_freeGate_14 : decode prog_7_method_11_code 14 = .ok (.ifCond .ne 5, 3) := by decide +kernel
theorem s_St_freeGate_14 {x : Int32} (kt : ¬ x = 0 → ev G M_St_freeGate R E 19 lv rest h cells slots) (kf : x = 0 → ev G M_St_freeGate R E 17 lv rest h cells slots) : ev G M_St_freeGate R E 14 lv (.int x :: rest) h cells slots := ev_if_ne d_St_freeGate_14 (by decide) kt kf
theorem d_St_freeGate_17 : decode prog_7_method_11_code 17 = .ok (.iload_n 1, 1) := by decide +kernel
theorem s_St_freeGate_17 {x : Int32} (hl : lg lv 1 = some (.int x)) (k : ev G M_St_freeGate R E 18 lv (.int x :: rest) h cells slots) : ev G M_St_freeGate R E 17 lv rest h cells slots := ev_iload_n d_St_freeGate_17 rfl hl k
theorem d_St_freeGate_18 : decode prog_7_method_11_code 18 = .ok (.ireturn, 1) := by decide +kernel
theorem s_St_freeGate_18 {P : Option Value → HP → Prop} {mc ms : Nat} {v : Int32} (hP : P (some (.int v)) h) (hc : cells ≤ mc ∧ slots ≤ ms) : ev G M_St_freeGate R (Er M_St_freeGate P mc ms) 18 lv [.int v] h cells slots := ev_exit ⟨hc.1, hc.2, Or.inr (Or.inl ⟨v, .int, rfl, rfl, d_St_freeGate_18, rfl, hP⟩)⟩
theorem d_St_freeGate_19 : decode prog_7_method_11_code 19 = .ok (.iinc 1 1, 3) := by decide +kernel
theorem s_St_freeGate_19 {x : Int32} (hl : lg lv 1 = some (.int x)) (k : ev G M_St_freeGate R E 22 (ls1 lv 1 (.int (x + 1))) rest h cells slots) : ev G M_St_freeGate R E 19 lv rest h cells slots := ev_iinc d_St_freeGate_19 (by decide) hl (by decide) k
theorem d_St_freeGate_22 : decode prog_7_method_11_code 22 = .ok (.goto (-20), 3) := by decide +kernel
theorem s_St_freeGate_22  (k : ev G M_St_freeGate R E 2 lv rest h cells slots) : ev G M_St_freeGate R E 22 lv rest h cells slots := ev_goto d_St_freeGate_22 (by decide) k
theorem d_St_freeGate_25 : decode prog_7_method_11_code 25 = .ok (.iconst (-1), 1) := by decide +kernel
theorem s_St_freeGate_25  (k : ev G M_St_freeGate R E 26 lv (.int (-1) :: rest) h cells slots) : ev G M_St_freeGate R E 25 lv rest h cells slots := ev_iconst d_St_freeGate_25 (by decide) k
theorem d_St_freeGate_26 : decode prog_7_method_11_code 26 = .ok (.ireturn, 1) := by decide +kernel
theorem s_St_freeGate_26 {P : Option Value → HP → Prop} {mc ms : Nat} {v : Int32} (hP : P (some (.int v)) h) (hc : cells ≤ mc ∧ slots ≤ ms) : ev G M_St_freeGate R (Er M_St_freeGate P mc ms) 26 lv [.int v] h cells slots := ev_exit ⟨hc.1, hc.2, Or.inr (Or.inl ⟨v, .int, rfl, rfl, d_St_freeGate_26, rfl, hP⟩)⟩
abbrev M_St_fillGate : MW := (⟨"UseOnceMachine$State", "fillGate", "(IIII)V"⟩, prog_7_method_13_code, 5, none)
theorem hy_St_fillGate : M_St_fillGate.1.cls ≠ "java/lang/invoke/MethodHandle" ∧ M_St_fillGate.1.cls ≠ "java/lang/invoke/VarHandle" ∧ (parseMethodDescriptor M_St_fillGate.1.desc).map (fun d => d.parameters.length) = some 4 := by decide +kernel
theorem d_St_fillGate_0 : decode prog_7_method_13_code 0 = .ok (.iload_n 1, 1) := by decide +kernel
theorem s_St_fillGate_0 {x : Int32} (hl : lg lv 1 = some (.int x)) (k : ev G M_St_fillGate R E 1 lv (.int x :: rest) h cells slots) : ev G M_St_fillGate R E 0 lv rest h cells slots := ev_iload_n d_St_fillGate_0 rfl hl k
theorem d_St_fillGate_1 : decode prog_7_method_13_code 1 = .ok (.ifCond .lt 9, 3) := by decide +kernel
theorem s_St_fillGate_1 {x : Int32} (kt : x < 0 → ev G M_St_fillGate R E 10 lv rest h cells slots) (kf : ¬ x < 0 → ev G M_St_fillGate R E 4 lv rest h cells slots) : ev G M_St_fillGate R E 1 lv (.int x :: rest) h cells slots := ev_if_lt d_St_fillGate_1 (by decide) kt kf
theorem d_St_fillGate_4 : decode prog_7_method_13_code 4 = .ok (.iload_n 1, 1) := by decide +kernel
theorem s_St_fillGate_4 {x : Int32} (hl : lg lv 1 = some (.int x)) (k : ev G M_St_fillGate R E 5 lv (.int x :: rest) h cells slots) : ev G M_St_fillGate R E 4 lv rest h cells slots := ev_iload_n d_St_fillGate_4 rfl hl k
theorem d_St_fillGate_5 : decode prog_7_method_13_code 5 = .ok (.bipush 6, 2) := by decide +kernel
theorem s_St_fillGate_5  (k : ev G M_St_fillGate R E 7 lv (.int 6 :: rest) h cells slots) : ev G M_St_fillGate R E 5 lv rest h cells slots := ev_bipush d_St_fillGate_5 (by decide) k
theorem d_St_fillGate_7 : decode prog_7_method_13_code 7 = .ok (.if_icmp .lt 4, 3) := by decide +kernel
theorem s_St_fillGate_7 {x y : Int32} (kt : x < y → ev G M_St_fillGate R E 11 lv rest h cells slots) (kf : ¬ x < y → ev G M_St_fillGate R E 10 lv rest h cells slots) : ev G M_St_fillGate R E 7 lv (.int y :: .int x :: rest) h cells slots := ev_icmp_lt d_St_fillGate_7 (by decide) kt kf
theorem d_St_fillGate_10 : decode prog_7_method_13_code 10 = .ok (.return_, 1) := by decide +kernel
theorem s_St_fillGate_10 {P : Option Value → HP → Prop} {mc ms : Nat} (hP : P none h) (hc : cells ≤ mc ∧ slots ≤ ms) : ev G M_St_fillGate R (Er M_St_fillGate P mc ms) 10 lv [] h cells slots := ev_exit ⟨hc.1, hc.2, Or.inl ⟨rfl, d_St_fillGate_10, rfl, hP⟩⟩
theorem d_St_fillGate_11 : decode prog_7_method_13_code 11 = .ok (.aload_n 0, 1) := by decide +kernel
theorem s_St_fillGate_11 {x : Nat} (hl : lg lv 0 = some (.ref x)) (k : ev G M_St_fillGate R E 12 lv (.ref x :: rest) h cells slots) : ev G M_St_fillGate R E 11 lv rest h cells slots := ev_aload_n d_St_fillGate_11 rfl hl k
theorem d_St_fillGate_12 : decode prog_7_method_13_code 12 = .ok (.bipush 96, 2) := by decide +kernel
theorem s_St_fillGate_12  (k : ev G M_St_fillGate R E 14 lv (.int 96 :: rest) h cells slots) : ev G M_St_fillGate R E 12 lv rest h cells slots := ev_bipush d_St_fillGate_12 (by decide) k
theorem d_St_fillGate_14 : decode prog_7_method_13_code 14 = .ok (.iload_n 1, 1) := by decide +kernel
theorem s_St_fillGate_14 {x : Int32} (hl : lg lv 1 = some (.int x)) (k : ev G M_St_fillGate R E 15 lv (.int x :: rest) h cells slots) : ev G M_St_fillGate R E 14 lv rest h cells slots := ev_iload_n d_St_fillGate_14 rfl hl k
theorem d_St_fillGate_15 : decode prog_7_method_13_code 15 = .ok (.iadd, 1) := by decide +kernel
theorem s_St_fillGate_15 {x y : Int32} (k : ev G M_St_fillGate R E 16 lv (.int (x + y) :: rest) h cells slots) : ev G M_St_fillGate R E 15 lv (.int y :: .int x :: rest) h cells slots := ev_iadd d_St_fillGate_15 k
theorem d_St_fillGate_16 : decode prog_7_method_13_code 16 = .ok (.iload_n 2, 1) := by decide +kernel
theorem s_St_fillGate_16 {x : Int32} (hl : lg lv 2 = some (.int x)) (k : ev G M_St_fillGate R E 17 lv (.int x :: rest) h cells slots) : ev G M_St_fillGate R E 16 lv rest h cells slots := ev_iload_n d_St_fillGate_16 rfl hl k
theorem d_St_fillGate_17 : decode prog_7_method_13_code 17 = .ok (.invokevirtual 88, 3) := by decide +kernel
theorem s_St_fillGate_17 {mc ms : Nat} {P : Option Value → HP → Prop} {a0 : Int32} {a1 : Int32} {b : Nat} {fs : List Value} {v0 : Value} (hm : mt G M_St_carry 1 mc ms (.ref b :: [.int a0, .int a1]) h P) (hb : h b = mO 5 fs) (hv0 : fs[0]? = some v0) (hR : 1 + 1 ≤ R.frames ∧ 8 + (3 + 11) + 39 * 1 ≤ R.locals) (hcs : cells + mc ≤ R.cells ∧ slots + ms ≤ R.slots) (hrest : (rest.map fun v => v.category).sum ≤ 8) (k : ∀ (r : Option Value) (h' : HP), P r h' → ev G M_St_fillGate R E 20 lv (r.toList ++ rest) h' (cells + mc) (slots + ms)) : ev G M_St_fillGate R E 17 lv (.int a1 :: .int a0 :: .ref b :: rest) h cells slots := ev_callV (as := [.int a0, .int a1]) (ci := 5) d_St_fillGate_17 hm hb hv0 rfl w_408 w_409 w_410 w_65 w_411 hy_St_carry hR hcs hrest k
theorem d_St_fillGate_20 : decode prog_7_method_13_code 20 = .ok (.aload_n 0, 1) := by decide +kernel
theorem s_St_fillGate_20 {x : Nat} (hl : lg lv 0 = some (.ref x)) (k : ev G M_St_fillGate R E 21 lv (.ref x :: rest) h cells slots) : ev G M_St_fillGate R E 20 lv rest h cells slots := ev_aload_n d_St_fillGate_20 rfl hl k
theorem d_St_fillGate_21 : decode prog_7_method_13_code 21 = .ok (.getfield 22, 3) := by decide +kernel
theorem s_St_fillGate_21 {a : Nat} {fs : List Value} {v : Value} (hh : h a = mO 5 fs) (hv : fs[3]? = some v) (k : ev G M_St_fillGate R E 24 lv (v :: rest) h cells slots) : ev G M_St_fillGate R E 21 lv (.ref a :: rest) h cells slots := ev_getfield (ci := 5) (kf := 3) d_St_fillGate_21 rfl ck5 (by decide) w_108 hh hv k
theorem d_St_fillGate_24 : decode prog_7_method_13_code 24 = .ok (.iload_n 1, 1) := by decide +kernel
theorem s_St_fillGate_24 {x : Int32} (hl : lg lv 1 = some (.int x)) (k : ev G M_St_fillGate R E 25 lv (.int x :: rest) h cells slots) : ev G M_St_fillGate R E 24 lv rest h cells slots := ev_iload_n d_St_fillGate_24 rfl hl k
theorem d_St_fillGate_25 : decode prog_7_method_13_code 25 = .ok (.iconst 1, 1) := by decide +kernel
theorem s_St_fillGate_25  (k : ev G M_St_fillGate R E 26 lv (.int 1 :: rest) h cells slots) : ev G M_St_fillGate R E 25 lv rest h cells slots := ev_iconst d_St_fillGate_25 (by decide) k
theorem d_St_fillGate_26 : decode prog_7_method_13_code 26 = .ok (.iastore, 1) := by decide +kernel
theorem s_St_fillGate_26 {a n : Nat} {f : Nat → Int32} {i : Int32} {x : Int32} (hh : h a = mI 0 n f) (hin : vp_in i n) (k : ev G M_St_fillGate R E 27 lv rest (va_up h a (mI 0 n (upd f i.toNatClampNeg x))) cells slots) : ev G M_St_fillGate R E 26 lv (.int x :: .int i :: .ref a :: rest) h cells slots := ev_iastore d_St_fillGate_26 rfl hh hin k
theorem d_St_fillGate_27 : decode prog_7_method_13_code 27 = .ok (.aload_n 0, 1) := by decide +kernel
theorem s_St_fillGate_27 {x : Nat} (hl : lg lv 0 = some (.ref x)) (k : ev G M_St_fillGate R E 28 lv (.ref x :: rest) h cells slots) : ev G M_St_fillGate R E 27 lv rest h cells slots := ev_aload_n d_St_fillGate_27 rfl hl k
theorem d_St_fillGate_28 : decode prog_7_method_13_code 28 = .ok (.getfield 25, 3) := by decide +kernel
theorem s_St_fillGate_28 {a : Nat} {fs : List Value} {v : Value} (hh : h a = mO 5 fs) (hv : fs[4]? = some v) (k : ev G M_St_fillGate R E 31 lv (v :: rest) h cells slots) : ev G M_St_fillGate R E 28 lv (.ref a :: rest) h cells slots := ev_getfield (ci := 5) (kf := 4) d_St_fillGate_28 rfl ck5 (by decide) w_110 hh hv k
theorem d_St_fillGate_31 : decode prog_7_method_13_code 31 = .ok (.iload_n 1, 1) := by decide +kernel
theorem s_St_fillGate_31 {x : Int32} (hl : lg lv 1 = some (.int x)) (k : ev G M_St_fillGate R E 32 lv (.int x :: rest) h cells slots) : ev G M_St_fillGate R E 31 lv rest h cells slots := ev_iload_n d_St_fillGate_31 rfl hl k
theorem d_St_fillGate_32 : decode prog_7_method_13_code 32 = .ok (.iload_n 3, 1) := by decide +kernel
theorem s_St_fillGate_32 {x : Int32} (hl : lg lv 3 = some (.int x)) (k : ev G M_St_fillGate R E 33 lv (.int x :: rest) h cells slots) : ev G M_St_fillGate R E 32 lv rest h cells slots := ev_iload_n d_St_fillGate_32 rfl hl k
theorem d_St_fillGate_33 : decode prog_7_method_13_code 33 = .ok (.iastore, 1) := by decide +kernel
theorem s_St_fillGate_33 {a n : Nat} {f : Nat → Int32} {i : Int32} {x : Int32} (hh : h a = mI 0 n f) (hin : vp_in i n) (k : ev G M_St_fillGate R E 34 lv rest (va_up h a (mI 0 n (upd f i.toNatClampNeg x))) cells slots) : ev G M_St_fillGate R E 33 lv (.int x :: .int i :: .ref a :: rest) h cells slots := ev_iastore d_St_fillGate_33 rfl hh hin k
theorem d_St_fillGate_34 : decode prog_7_method_13_code 34 = .ok (.aload_n 0, 1) := by decide +kernel
theorem s_St_fillGate_34 {x : Nat} (hl : lg lv 0 = some (.ref x)) (k : ev G M_St_fillGate R E 35 lv (.ref x :: rest) h cells slots) : ev G M_St_fillGate R E 34 lv rest h cells slots := ev_aload_n d_St_fillGate_34 rfl hl k
theorem d_St_fillGate_35 : decode prog_7_method_13_code 35 = .ok (.getfield 28, 3) := by decide +kernel
theorem s_St_fillGate_35 {a : Nat} {fs : List Value} {v : Value} (hh : h a = mO 5 fs) (hv : fs[5]? = some v) (k : ev G M_St_fillGate R E 38 lv (v :: rest) h cells slots) : ev G M_St_fillGate R E 35 lv (.ref a :: rest) h cells slots := ev_getfield (ci := 5) (kf := 5) d_St_fillGate_35 rfl ck5 (by decide) w_112 hh hv k
theorem d_St_fillGate_38 : decode prog_7_method_13_code 38 = .ok (.iload_n 1, 1) := by decide +kernel
theorem s_St_fillGate_38 {x : Int32} (hl : lg lv 1 = some (.int x)) (k : ev G M_St_fillGate R E 39 lv (.int x :: rest) h cells slots) : ev G M_St_fillGate R E 38 lv rest h cells slots := ev_iload_n d_St_fillGate_38 rfl hl k
theorem d_St_fillGate_39 : decode prog_7_method_13_code 39 = .ok (.iload 4, 2) := by decide +kernel
theorem s_St_fillGate_39 {x : Int32} (hl : lg lv 4 = some (.int x)) (k : ev G M_St_fillGate R E 41 lv (.int x :: rest) h cells slots) : ev G M_St_fillGate R E 39 lv rest h cells slots := ev_iload d_St_fillGate_39 hl k
theorem d_St_fillGate_41 : decode prog_7_method_13_code 41 = .ok (.iastore, 1) := by decide +kernel
theorem s_St_fillGate_41 {a n : Nat} {f : Nat → Int32} {i : Int32} {x : Int32} (hh : h a = mI 0 n f) (hin : vp_in i n) (k : ev G M_St_fillGate R E 42 lv rest (va_up h a (mI 0 n (upd f i.toNatClampNeg x))) cells slots) : ev G M_St_fillGate R E 41 lv (.int x :: .int i :: .ref a :: rest) h cells slots := ev_iastore d_St_fillGate_41 rfl hh hin k
theorem d_St_fillGate_42 : decode prog_7_method_13_code 42 = .ok (.return_, 1) := by decide +kernel
theorem s_St_fillGate_42 {P : Option Value → HP → Prop} {mc ms : Nat} (hP : P none h) (hc : cells ≤ mc ∧ slots ≤ ms) : ev G M_St_fillGate R (Er M_St_fillGate P mc ms) 42 lv [] h cells slots := ev_exit ⟨hc.1, hc.2, Or.inl ⟨rfl, d_St_fillGate_42, rfl, hP⟩⟩
abbrev M_St_canOpen : MW := (⟨"UseOnceMachine$State", "canOpen", "(I)Z"⟩, prog_7_method_12_code, 2, (some .boolean))
theorem hy_St_canOpen : M_St_canOpen.1.cls ≠ "java/lang/invoke/MethodHandle" ∧ M_St_canOpen.1.cls ≠ "java/lang/invoke/VarHandle" ∧ (parseMethodDescriptor M_St_canOpen.1.desc).map (fun d => d.parameters.length) = some 1 := by decide +kernel
theorem d_St_canOpen_0 : decode prog_7_method_12_code 0 = .ok (.iload_n 1, 1) := by decide +kernel
theorem s_St_canOpen_0 {x : Int32} (hl : lg lv 1 = some (.int x)) (k : ev G M_St_canOpen R E 1 lv (.int x :: rest) h cells slots) : ev G M_St_canOpen R E 0 lv rest h cells slots := ev_iload_n d_St_canOpen_0 rfl hl k
theorem d_St_canOpen_1 : decode prog_7_method_12_code 1 = .ok (.ifCond .lt 31, 3) := by decide +kernel
theorem s_St_canOpen_1 {x : Int32} (kt : x < 0 → ev G M_St_canOpen R E 32 lv rest h cells slots) (kf : ¬ x < 0 → ev G M_St_canOpen R E 4 lv rest h cells slots) : ev G M_St_canOpen R E 1 lv (.int x :: rest) h cells slots := ev_if_lt d_St_canOpen_1 (by decide) kt kf
theorem d_St_canOpen_4 : decode prog_7_method_12_code 4 = .ok (.iload_n 1, 1) := by decide +kernel
theorem s_St_canOpen_4 {x : Int32} (hl : lg lv 1 = some (.int x)) (k : ev G M_St_canOpen R E 5 lv (.int x :: rest) h cells slots) : ev G M_St_canOpen R E 4 lv rest h cells slots := ev_iload_n d_St_canOpen_4 rfl hl k
theorem d_St_canOpen_5 : decode prog_7_method_12_code 5 = .ok (.bipush 6, 2) := by decide +kernel
theorem s_St_canOpen_5  (k : ev G M_St_canOpen R E 7 lv (.int 6 :: rest) h cells slots) : ev G M_St_canOpen R E 5 lv rest h cells slots := ev_bipush d_St_canOpen_5 (by decide) k
theorem d_St_canOpen_7 : decode prog_7_method_12_code 7 = .ok (.if_icmp .ge 25, 3) := by decide +kernel
theorem s_St_canOpen_7 {x y : Int32} (kt : y ≤ x → ev G M_St_canOpen R E 32 lv rest h cells slots) (kf : ¬ y ≤ x → ev G M_St_canOpen R E 10 lv rest h cells slots) : ev G M_St_canOpen R E 7 lv (.int y :: .int x :: rest) h cells slots := ev_icmp_ge d_St_canOpen_7 (by decide) kt kf
theorem d_St_canOpen_10 : decode prog_7_method_12_code 10 = .ok (.aload_n 0, 1) := by decide +kernel
theorem s_St_canOpen_10 {x : Nat} (hl : lg lv 0 = some (.ref x)) (k : ev G M_St_canOpen R E 11 lv (.ref x :: rest) h cells slots) : ev G M_St_canOpen R E 10 lv rest h cells slots := ev_aload_n d_St_canOpen_10 rfl hl k
theorem d_St_canOpen_11 : decode prog_7_method_12_code 11 = .ok (.getfield 22, 3) := by decide +kernel
theorem s_St_canOpen_11 {a : Nat} {fs : List Value} {v : Value} (hh : h a = mO 5 fs) (hv : fs[3]? = some v) (k : ev G M_St_canOpen R E 14 lv (v :: rest) h cells slots) : ev G M_St_canOpen R E 11 lv (.ref a :: rest) h cells slots := ev_getfield (ci := 5) (kf := 3) d_St_canOpen_11 rfl ck5 (by decide) w_108 hh hv k
theorem d_St_canOpen_14 : decode prog_7_method_12_code 14 = .ok (.iload_n 1, 1) := by decide +kernel
theorem s_St_canOpen_14 {x : Int32} (hl : lg lv 1 = some (.int x)) (k : ev G M_St_canOpen R E 15 lv (.int x :: rest) h cells slots) : ev G M_St_canOpen R E 14 lv rest h cells slots := ev_iload_n d_St_canOpen_14 rfl hl k
theorem d_St_canOpen_15 : decode prog_7_method_12_code 15 = .ok (.iaload, 1) := by decide +kernel
theorem s_St_canOpen_15 {a n : Nat} {f : Nat → Int32} {i : Int32} (hh : h a = mI 0 n f) (hin : vp_in i n) (k : ev G M_St_canOpen R E 16 lv (.int (f i.toNatClampNeg) :: rest) h cells slots) : ev G M_St_canOpen R E 15 lv (.int i :: .ref a :: rest) h cells slots := ev_iaload d_St_canOpen_15 rfl hh hin k
theorem d_St_canOpen_16 : decode prog_7_method_12_code 16 = .ok (.iconst 1, 1) := by decide +kernel
theorem s_St_canOpen_16  (k : ev G M_St_canOpen R E 17 lv (.int 1 :: rest) h cells slots) : ev G M_St_canOpen R E 16 lv rest h cells slots := ev_iconst d_St_canOpen_16 (by decide) k
theorem d_St_canOpen_17 : decode prog_7_method_12_code 17 = .ok (.if_icmp .ne 15, 3) := by decide +kernel
theorem s_St_canOpen_17 {x y : Int32} (kt : ¬ x = y → ev G M_St_canOpen R E 32 lv rest h cells slots) (kf : x = y → ev G M_St_canOpen R E 20 lv rest h cells slots) : ev G M_St_canOpen R E 17 lv (.int y :: .int x :: rest) h cells slots := ev_icmp_ne d_St_canOpen_17 (by decide) kt kf
theorem d_St_canOpen_20 : decode prog_7_method_12_code 20 = .ok (.aload_n 0, 1) := by decide +kernel
theorem s_St_canOpen_20 {x : Nat} (hl : lg lv 0 = some (.ref x)) (k : ev G M_St_canOpen R E 21 lv (.ref x :: rest) h cells slots) : ev G M_St_canOpen R E 20 lv rest h cells slots := ev_aload_n d_St_canOpen_20 rfl hl k
theorem d_St_canOpen_21 : decode prog_7_method_12_code 21 = .ok (.getfield 43, 3) := by decide +kernel
theorem s_St_canOpen_21 {a : Nat} {fs : List Value} {v : Value} (hh : h a = mO 5 fs) (hv : fs[10]? = some v) (k : ev G M_St_canOpen R E 24 lv (v :: rest) h cells slots) : ev G M_St_canOpen R E 21 lv (.ref a :: rest) h cells slots := ev_getfield (ci := 5) (kf := 10) d_St_canOpen_21 rfl ck5 (by decide) w_118 hh hv k
theorem d_St_canOpen_24 : decode prog_7_method_12_code 24 = .ok (.iconst 5, 1) := by decide +kernel
theorem s_St_canOpen_24  (k : ev G M_St_canOpen R E 25 lv (.int 5 :: rest) h cells slots) : ev G M_St_canOpen R E 24 lv rest h cells slots := ev_iconst d_St_canOpen_24 (by decide) k
theorem d_St_canOpen_25 : decode prog_7_method_12_code 25 = .ok (.if_icmp .ge 7, 3) := by decide +kernel
theorem s_St_canOpen_25 {x y : Int32} (kt : y ≤ x → ev G M_St_canOpen R E 32 lv rest h cells slots) (kf : ¬ y ≤ x → ev G M_St_canOpen R E 28 lv rest h cells slots) : ev G M_St_canOpen R E 25 lv (.int y :: .int x :: rest) h cells slots := ev_icmp_ge d_St_canOpen_25 (by decide) kt kf
theorem d_St_canOpen_28 : decode prog_7_method_12_code 28 = .ok (.iconst 1, 1) := by decide +kernel
theorem s_St_canOpen_28  (k : ev G M_St_canOpen R E 29 lv (.int 1 :: rest) h cells slots) : ev G M_St_canOpen R E 28 lv rest h cells slots := ev_iconst d_St_canOpen_28 (by decide) k
theorem d_St_canOpen_29 : decode prog_7_method_12_code 29 = .ok (.goto 4, 3) := by decide +kernel
theorem s_St_canOpen_29  (k : ev G M_St_canOpen R E 33 lv rest h cells slots) : ev G M_St_canOpen R E 29 lv rest h cells slots := ev_goto d_St_canOpen_29 (by decide) k
theorem d_St_canOpen_32 : decode prog_7_method_12_code 32 = .ok (.iconst 0, 1) := by decide +kernel
theorem s_St_canOpen_32  (k : ev G M_St_canOpen R E 33 lv (.int 0 :: rest) h cells slots) : ev G M_St_canOpen R E 32 lv rest h cells slots := ev_iconst d_St_canOpen_32 (by decide) k
theorem d_St_canOpen_33 : decode prog_7_method_12_code 33 = .ok (.ireturn, 1) := by decide +kernel
theorem s_St_canOpen_33 {P : Option Value → HP → Prop} {mc ms : Nat} {v : Int32} (hz : v = 0 ∨ v = 1) (hP : P (some (.int v)) h) (hc : cells ≤ mc ∧ slots ≤ ms) : ev G M_St_canOpen R (Er M_St_canOpen P mc ms) 33 lv [.int v] h cells slots := ev_exit ⟨hc.1, hc.2, Or.inr (Or.inl ⟨v, .boolean, rfl, (nar_z hz), d_St_canOpen_33, rfl, hP⟩)⟩
abbrev M_St_writeNotes : MW := (⟨"UseOnceMachine$State", "writeNotes", "(II)V"⟩, prog_7_method_15_code, 6, none)
theorem hy_St_writeNotes : M_St_writeNotes.1.cls ≠ "java/lang/invoke/MethodHandle" ∧ M_St_writeNotes.1.cls ≠ "java/lang/invoke/VarHandle" ∧ (parseMethodDescriptor M_St_writeNotes.1.desc).map (fun d => d.parameters.length) = some 2 := by decide +kernel
theorem d_St_writeNotes_0 : decode prog_7_method_15_code 0 = .ok (.aload_n 0, 1) := by decide +kernel
theorem s_St_writeNotes_0 {x : Nat} (hl : lg lv 0 = some (.ref x)) (k : ev G M_St_writeNotes R E 1 lv (.ref x :: rest) h cells slots) : ev G M_St_writeNotes R E 0 lv rest h cells slots := ev_aload_n d_St_writeNotes_0 rfl hl k
theorem d_St_writeNotes_1 : decode prog_7_method_15_code 1 = .ok (.getfield 43, 3) := by decide +kernel
theorem s_St_writeNotes_1 {a : Nat} {fs : List Value} {v : Value} (hh : h a = mO 5 fs) (hv : fs[10]? = some v) (k : ev G M_St_writeNotes R E 4 lv (v :: rest) h cells slots) : ev G M_St_writeNotes R E 1 lv (.ref a :: rest) h cells slots := ev_getfield (ci := 5) (kf := 10) d_St_writeNotes_1 rfl ck5 (by decide) w_118 hh hv k
theorem d_St_writeNotes_4 : decode prog_7_method_15_code 4 = .ok (.bipush 7, 2) := by decide +kernel
theorem s_St_writeNotes_4  (k : ev G M_St_writeNotes R E 6 lv (.int 7 :: rest) h cells slots) : ev G M_St_writeNotes R E 4 lv rest h cells slots := ev_bipush d_St_writeNotes_4 (by decide) k
theorem d_St_writeNotes_6 : decode prog_7_method_15_code 6 = .ok (.imul, 1) := by decide +kernel
theorem s_St_writeNotes_6 {x y : Int32} (k : ev G M_St_writeNotes R E 7 lv (.int (x * y) :: rest) h cells slots) : ev G M_St_writeNotes R E 6 lv (.int y :: .int x :: rest) h cells slots := ev_imul d_St_writeNotes_6 k
theorem d_St_writeNotes_7 : decode prog_7_method_15_code 7 = .ok (.istore_n 3, 1) := by decide +kernel
theorem s_St_writeNotes_7 {x : Int32} (k : ev G M_St_writeNotes R E 8 (ls1 lv 3 (.int x)) rest h cells slots) : ev G M_St_writeNotes R E 7 lv (.int x :: rest) h cells slots := ev_istore_n d_St_writeNotes_7 rfl (by decide) k
theorem d_St_writeNotes_8 : decode prog_7_method_15_code 8 = .ok (.aload_n 0, 1) := by decide +kernel
theorem s_St_writeNotes_8 {x : Nat} (hl : lg lv 0 = some (.ref x)) (k : ev G M_St_writeNotes R E 9 lv (.ref x :: rest) h cells slots) : ev G M_St_writeNotes R E 8 lv rest h cells slots := ev_aload_n d_St_writeNotes_8 rfl hl k
theorem d_St_writeNotes_9 : decode prog_7_method_15_code 9 = .ok (.getfield 15, 3) := by decide +kernel
theorem s_St_writeNotes_9 {a : Nat} {fs : List Value} {v : Value} (hh : h a = mO 5 fs) (hv : fs[1]? = some v) (k : ev G M_St_writeNotes R E 12 lv (v :: rest) h cells slots) : ev G M_St_writeNotes R E 9 lv (.ref a :: rest) h cells slots := ev_getfield (ci := 5) (kf := 1) d_St_writeNotes_9 rfl ck5 (by decide) w_105 hh hv k
theorem d_St_writeNotes_12 : decode prog_7_method_15_code 12 = .ok (.iload_n 3, 1) := by decide +kernel
theorem s_St_writeNotes_12 {x : Int32} (hl : lg lv 3 = some (.int x)) (k : ev G M_St_writeNotes R E 13 lv (.int x :: rest) h cells slots) : ev G M_St_writeNotes R E 12 lv rest h cells slots := ev_iload_n d_St_writeNotes_12 rfl hl k
theorem d_St_writeNotes_13 : decode prog_7_method_15_code 13 = .ok (.aload_n 0, 1) := by decide +kernel
theorem s_St_writeNotes_13 {x : Nat} (hl : lg lv 0 = some (.ref x)) (k : ev G M_St_writeNotes R E 14 lv (.ref x :: rest) h cells slots) : ev G M_St_writeNotes R E 13 lv rest h cells slots := ev_aload_n d_St_writeNotes_13 rfl hl k
theorem d_St_writeNotes_14 : decode prog_7_method_15_code 14 = .ok (.bipush 96, 2) := by decide +kernel
theorem s_St_writeNotes_14  (k : ev G M_St_writeNotes R E 16 lv (.int 96 :: rest) h cells slots) : ev G M_St_writeNotes R E 14 lv rest h cells slots := ev_bipush d_St_writeNotes_14 (by decide) k
theorem d_St_writeNotes_16 : decode prog_7_method_15_code 16 = .ok (.iload_n 1, 1) := by decide +kernel
theorem s_St_writeNotes_16 {x : Int32} (hl : lg lv 1 = some (.int x)) (k : ev G M_St_writeNotes R E 17 lv (.int x :: rest) h cells slots) : ev G M_St_writeNotes R E 16 lv rest h cells slots := ev_iload_n d_St_writeNotes_16 rfl hl k
theorem d_St_writeNotes_17 : decode prog_7_method_15_code 17 = .ok (.iadd, 1) := by decide +kernel
theorem s_St_writeNotes_17 {x y : Int32} (k : ev G M_St_writeNotes R E 18 lv (.int (x + y) :: rest) h cells slots) : ev G M_St_writeNotes R E 17 lv (.int y :: .int x :: rest) h cells slots := ev_iadd d_St_writeNotes_17 k
theorem d_St_writeNotes_18 : decode prog_7_method_15_code 18 = .ok (.invokevirtual 76, 3) := by decide +kernel
theorem s_St_writeNotes_18 {mc ms : Nat} {P : Option Value → HP → Prop} {a0 : Int32} {b : Nat} {fs : List Value} {v0 : Value} (hm : mt G M_St_held 0 mc ms (.ref b :: [.int a0]) h P) (hb : h b = mO 5 fs) (hv0 : fs[0]? = some v0) (hR : 0 + 1 ≤ R.frames ∧ 8 + (2 + 11) + 39 * 0 ≤ R.locals) (hcs : cells + mc ≤ R.cells ∧ slots + ms ≤ R.slots) (hrest : (rest.map fun v => v.category).sum ≤ 8) (k : ∀ (r : Option Value) (h' : HP), P r h' → ev G M_St_writeNotes R E 21 lv (r.toList ++ rest) h' (cells + mc) (slots + ms)) : ev G M_St_writeNotes R E 18 lv (.int a0 :: .ref b :: rest) h cells slots := ev_callV (as := [.int a0]) (ci := 5) d_St_writeNotes_18 hm hb hv0 rfl w_404 w_374 w_375 w_65 w_376 hy_St_held hR hcs hrest k
theorem d_St_writeNotes_21 : decode prog_7_method_15_code 21 = .ok (.lastore, 1) := by decide +kernel
theorem s_St_writeNotes_21 {a n : Nat} {f : Nat → Int64} {i : Int32} {x : Int64} (hh : h a = mL 1 n f) (hin : vp_in i n) (k : ev G M_St_writeNotes R E 22 lv rest (va_up h a (mL 1 n (vp_updL f i.toNatClampNeg x))) cells slots) : ev G M_St_writeNotes R E 21 lv (.long x :: .int i :: .ref a :: rest) h cells slots := ev_lastore d_St_writeNotes_21 rfl hh hin k
theorem d_St_writeNotes_22 : decode prog_7_method_15_code 22 = .ok (.iconst 1, 1) := by decide +kernel
theorem s_St_writeNotes_22  (k : ev G M_St_writeNotes R E 23 lv (.int 1 :: rest) h cells slots) : ev G M_St_writeNotes R E 22 lv rest h cells slots := ev_iconst d_St_writeNotes_22 (by decide) k
theorem d_St_writeNotes_23 : decode prog_7_method_15_code 23 = .ok (.istore 4, 2) := by decide +kernel
theorem s_St_writeNotes_23 {x : Int32} (k : ev G M_St_writeNotes R E 25 (ls1 lv 4 (.int x)) rest h cells slots) : ev G M_St_writeNotes R E 23 lv (.int x :: rest) h cells slots := ev_istore d_St_writeNotes_23 (by decide) k
theorem d_St_writeNotes_25 : decode prog_7_method_15_code 25 = .ok (.iload 4, 2) := by decide +kernel
theorem s_St_writeNotes_25 {x : Int32} (hl : lg lv 4 = some (.int x)) (k : ev G M_St_writeNotes R E 27 lv (.int x :: rest) h cells slots) : ev G M_St_writeNotes R E 25 lv rest h cells slots := ev_iload d_St_writeNotes_25 hl k
theorem d_St_writeNotes_27 : decode prog_7_method_15_code 27 = .ok (.bipush 6, 2) := by decide +kernel
theorem s_St_writeNotes_27  (k : ev G M_St_writeNotes R E 29 lv (.int 6 :: rest) h cells slots) : ev G M_St_writeNotes R E 27 lv rest h cells slots := ev_bipush d_St_writeNotes_27 (by decide) k
theorem d_St_writeNotes_29 : decode prog_7_method_15_code 29 = .ok (.if_icmp .gt 63, 3) := by decide +kernel
theorem s_St_writeNotes_29 {x y : Int32} (kt : y < x → ev G M_St_writeNotes R E 92 lv rest h cells slots) (kf : ¬ y < x → ev G M_St_writeNotes R E 32 lv rest h cells slots) : ev G M_St_writeNotes R E 29 lv (.int y :: .int x :: rest) h cells slots := ev_icmp_gt d_St_writeNotes_29 (by decide) kt kf
theorem d_St_writeNotes_32 : decode prog_7_method_15_code 32 = .ok (.iload 4, 2) := by decide +kernel
theorem s_St_writeNotes_32 {x : Int32} (hl : lg lv 4 = some (.int x)) (k : ev G M_St_writeNotes R E 34 lv (.int x :: rest) h cells slots) : ev G M_St_writeNotes R E 32 lv rest h cells slots := ev_iload d_St_writeNotes_32 hl k
theorem d_St_writeNotes_34 : decode prog_7_method_15_code 34 = .ok (.iload_n 2, 1) := by decide +kernel
theorem s_St_writeNotes_34 {x : Int32} (hl : lg lv 2 = some (.int x)) (k : ev G M_St_writeNotes R E 35 lv (.int x :: rest) h cells slots) : ev G M_St_writeNotes R E 34 lv rest h cells slots := ev_iload_n d_St_writeNotes_34 rfl hl k
theorem d_St_writeNotes_35 : decode prog_7_method_15_code 35 = .ok (.if_icmp .gt 24, 3) := by decide +kernel
theorem s_St_writeNotes_35 {x y : Int32} (kt : y < x → ev G M_St_writeNotes R E 59 lv rest h cells slots) (kf : ¬ y < x → ev G M_St_writeNotes R E 38 lv rest h cells slots) : ev G M_St_writeNotes R E 35 lv (.int y :: .int x :: rest) h cells slots := ev_icmp_gt d_St_writeNotes_35 (by decide) kt kf
theorem d_St_writeNotes_38 : decode prog_7_method_15_code 38 = .ok (.aload_n 0, 1) := by decide +kernel
theorem s_St_writeNotes_38 {x : Nat} (hl : lg lv 0 = some (.ref x)) (k : ev G M_St_writeNotes R E 39 lv (.ref x :: rest) h cells slots) : ev G M_St_writeNotes R E 38 lv rest h cells slots := ev_aload_n d_St_writeNotes_38 rfl hl k
theorem d_St_writeNotes_39 : decode prog_7_method_15_code 39 = .ok (.getfield 28, 3) := by decide +kernel
theorem s_St_writeNotes_39 {a : Nat} {fs : List Value} {v : Value} (hh : h a = mO 5 fs) (hv : fs[5]? = some v) (k : ev G M_St_writeNotes R E 42 lv (v :: rest) h cells slots) : ev G M_St_writeNotes R E 39 lv (.ref a :: rest) h cells slots := ev_getfield (ci := 5) (kf := 5) d_St_writeNotes_39 rfl ck5 (by decide) w_112 hh hv k
theorem d_St_writeNotes_42 : decode prog_7_method_15_code 42 = .ok (.iload_n 1, 1) := by decide +kernel
theorem s_St_writeNotes_42 {x : Int32} (hl : lg lv 1 = some (.int x)) (k : ev G M_St_writeNotes R E 43 lv (.int x :: rest) h cells slots) : ev G M_St_writeNotes R E 42 lv rest h cells slots := ev_iload_n d_St_writeNotes_42 rfl hl k
theorem d_St_writeNotes_43 : decode prog_7_method_15_code 43 = .ok (.iaload, 1) := by decide +kernel
theorem s_St_writeNotes_43 {a n : Nat} {f : Nat → Int32} {i : Int32} (hh : h a = mI 0 n f) (hin : vp_in i n) (k : ev G M_St_writeNotes R E 44 lv (.int (f i.toNatClampNeg) :: rest) h cells slots) : ev G M_St_writeNotes R E 43 lv (.int i :: .ref a :: rest) h cells slots := ev_iaload d_St_writeNotes_43 rfl hh hin k
theorem d_St_writeNotes_44 : decode prog_7_method_15_code 44 = .ok (.iload 4, 2) := by decide +kernel
theorem s_St_writeNotes_44 {x : Int32} (hl : lg lv 4 = some (.int x)) (k : ev G M_St_writeNotes R E 46 lv (.int x :: rest) h cells slots) : ev G M_St_writeNotes R E 44 lv rest h cells slots := ev_iload d_St_writeNotes_44 hl k
theorem d_St_writeNotes_46 : decode prog_7_method_15_code 46 = .ok (.iconst 1, 1) := by decide +kernel
theorem s_St_writeNotes_46  (k : ev G M_St_writeNotes R E 47 lv (.int 1 :: rest) h cells slots) : ev G M_St_writeNotes R E 46 lv rest h cells slots := ev_iconst d_St_writeNotes_46 (by decide) k
theorem d_St_writeNotes_47 : decode prog_7_method_15_code 47 = .ok (.isub, 1) := by decide +kernel
theorem s_St_writeNotes_47 {x y : Int32} (k : ev G M_St_writeNotes R E 48 lv (.int (x - y) :: rest) h cells slots) : ev G M_St_writeNotes R E 47 lv (.int y :: .int x :: rest) h cells slots := ev_isub d_St_writeNotes_47 k
theorem d_St_writeNotes_48 : decode prog_7_method_15_code 48 = .ok (.ishr, 1) := by decide +kernel
theorem s_St_writeNotes_48 {x y : Int32} (k : ev G M_St_writeNotes R E 49 lv (.int (x >>> (y &&& 31)) :: rest) h cells slots) : ev G M_St_writeNotes R E 48 lv (.int y :: .int x :: rest) h cells slots := ev_ishr d_St_writeNotes_48 k
theorem d_St_writeNotes_49 : decode prog_7_method_15_code 49 = .ok (.iconst 1, 1) := by decide +kernel
theorem s_St_writeNotes_49  (k : ev G M_St_writeNotes R E 50 lv (.int 1 :: rest) h cells slots) : ev G M_St_writeNotes R E 49 lv rest h cells slots := ev_iconst d_St_writeNotes_49 (by decide) k
theorem d_St_writeNotes_50 : decode prog_7_method_15_code 50 = .ok (.iand, 1) := by decide +kernel
theorem s_St_writeNotes_50 {x y : Int32} (k : ev G M_St_writeNotes R E 51 lv (.int (x &&& y) :: rest) h cells slots) : ev G M_St_writeNotes R E 50 lv (.int y :: .int x :: rest) h cells slots := ev_iand d_St_writeNotes_50 k
theorem d_St_writeNotes_51 : decode prog_7_method_15_code 51 = .ok (.iconst 1, 1) := by decide +kernel
theorem s_St_writeNotes_51  (k : ev G M_St_writeNotes R E 52 lv (.int 1 :: rest) h cells slots) : ev G M_St_writeNotes R E 51 lv rest h cells slots := ev_iconst d_St_writeNotes_51 (by decide) k
theorem d_St_writeNotes_52 : decode prog_7_method_15_code 52 = .ok (.if_icmp .ne 7, 3) := by decide +kernel
theorem s_St_writeNotes_52 {x y : Int32} (kt : ¬ x = y → ev G M_St_writeNotes R E 59 lv rest h cells slots) (kf : x = y → ev G M_St_writeNotes R E 55 lv rest h cells slots) : ev G M_St_writeNotes R E 52 lv (.int y :: .int x :: rest) h cells slots := ev_icmp_ne d_St_writeNotes_52 (by decide) kt kf
theorem d_St_writeNotes_55 : decode prog_7_method_15_code 55 = .ok (.iconst 1, 1) := by decide +kernel
theorem s_St_writeNotes_55  (k : ev G M_St_writeNotes R E 56 lv (.int 1 :: rest) h cells slots) : ev G M_St_writeNotes R E 55 lv rest h cells slots := ev_iconst d_St_writeNotes_55 (by decide) k
theorem d_St_writeNotes_56 : decode prog_7_method_15_code 56 = .ok (.goto 4, 3) := by decide +kernel
theorem s_St_writeNotes_56  (k : ev G M_St_writeNotes R E 60 lv rest h cells slots) : ev G M_St_writeNotes R E 56 lv rest h cells slots := ev_goto d_St_writeNotes_56 (by decide) k
theorem d_St_writeNotes_59 : decode prog_7_method_15_code 59 = .ok (.iconst 0, 1) := by decide +kernel
theorem s_St_writeNotes_59  (k : ev G M_St_writeNotes R E 60 lv (.int 0 :: rest) h cells slots) : ev G M_St_writeNotes R E 59 lv rest h cells slots := ev_iconst d_St_writeNotes_59 (by decide) k
theorem d_St_writeNotes_60 : decode prog_7_method_15_code 60 = .ok (.istore 5, 2) := by decide +kernel
theorem s_St_writeNotes_60 {x : Int32} (k : ev G M_St_writeNotes R E 62 (ls1 lv 5 (.int x)) rest h cells slots) : ev G M_St_writeNotes R E 60 lv (.int x :: rest) h cells slots := ev_istore d_St_writeNotes_60 (by decide) k
theorem d_St_writeNotes_62 : decode prog_7_method_15_code 62 = .ok (.aload_n 0, 1) := by decide +kernel
theorem s_St_writeNotes_62 {x : Nat} (hl : lg lv 0 = some (.ref x)) (k : ev G M_St_writeNotes R E 63 lv (.ref x :: rest) h cells slots) : ev G M_St_writeNotes R E 62 lv rest h cells slots := ev_aload_n d_St_writeNotes_62 rfl hl k
theorem d_St_writeNotes_63 : decode prog_7_method_15_code 63 = .ok (.getfield 15, 3) := by decide +kernel
theorem s_St_writeNotes_63 {a : Nat} {fs : List Value} {v : Value} (hh : h a = mO 5 fs) (hv : fs[1]? = some v) (k : ev G M_St_writeNotes R E 66 lv (v :: rest) h cells slots) : ev G M_St_writeNotes R E 63 lv (.ref a :: rest) h cells slots := ev_getfield (ci := 5) (kf := 1) d_St_writeNotes_63 rfl ck5 (by decide) w_105 hh hv k
theorem d_St_writeNotes_66 : decode prog_7_method_15_code 66 = .ok (.iload_n 3, 1) := by decide +kernel
theorem s_St_writeNotes_66 {x : Int32} (hl : lg lv 3 = some (.int x)) (k : ev G M_St_writeNotes R E 67 lv (.int x :: rest) h cells slots) : ev G M_St_writeNotes R E 66 lv rest h cells slots := ev_iload_n d_St_writeNotes_66 rfl hl k
theorem d_St_writeNotes_67 : decode prog_7_method_15_code 67 = .ok (.iload 4, 2) := by decide +kernel
theorem s_St_writeNotes_67 {x : Int32} (hl : lg lv 4 = some (.int x)) (k : ev G M_St_writeNotes R E 69 lv (.int x :: rest) h cells slots) : ev G M_St_writeNotes R E 67 lv rest h cells slots := ev_iload d_St_writeNotes_67 hl k
theorem d_St_writeNotes_69 : decode prog_7_method_15_code 69 = .ok (.iadd, 1) := by decide +kernel
theorem s_St_writeNotes_69 {x y : Int32} (k : ev G M_St_writeNotes R E 70 lv (.int (x + y) :: rest) h cells slots) : ev G M_St_writeNotes R E 69 lv (.int y :: .int x :: rest) h cells slots := ev_iadd d_St_writeNotes_69 k
theorem d_St_writeNotes_70 : decode prog_7_method_15_code 70 = .ok (.iload 5, 2) := by decide +kernel
theorem s_St_writeNotes_70 {x : Int32} (hl : lg lv 5 = some (.int x)) (k : ev G M_St_writeNotes R E 72 lv (.int x :: rest) h cells slots) : ev G M_St_writeNotes R E 70 lv rest h cells slots := ev_iload d_St_writeNotes_70 hl k
theorem d_St_writeNotes_72 : decode prog_7_method_15_code 72 = .ok (.ifCond .eq 12, 3) := by decide +kernel
theorem s_St_writeNotes_72 {x : Int32} (kt : x = 0 → ev G M_St_writeNotes R E 84 lv rest h cells slots) (kf : ¬ x = 0 → ev G M_St_writeNotes R E 75 lv rest h cells slots) : ev G M_St_writeNotes R E 72 lv (.int x :: rest) h cells slots := ev_if_eq d_St_writeNotes_72 (by decide) kt kf
theorem d_St_writeNotes_75 : decode prog_7_method_15_code 75 = .ok (.aload_n 0, 1) := by decide +kernel
theorem s_St_writeNotes_75 {x : Nat} (hl : lg lv 0 = some (.ref x)) (k : ev G M_St_writeNotes R E 76 lv (.ref x :: rest) h cells slots) : ev G M_St_writeNotes R E 75 lv rest h cells slots := ev_aload_n d_St_writeNotes_75 rfl hl k
theorem d_St_writeNotes_76 : decode prog_7_method_15_code 76 = .ok (.iload 4, 2) := by decide +kernel
theorem s_St_writeNotes_76 {x : Int32} (hl : lg lv 4 = some (.int x)) (k : ev G M_St_writeNotes R E 78 lv (.int x :: rest) h cells slots) : ev G M_St_writeNotes R E 76 lv rest h cells slots := ev_iload d_St_writeNotes_76 hl k
theorem d_St_writeNotes_78 : decode prog_7_method_15_code 78 = .ok (.invokevirtual 76, 3) := by decide +kernel
theorem s_St_writeNotes_78 {mc ms : Nat} {P : Option Value → HP → Prop} {a0 : Int32} {b : Nat} {fs : List Value} {v0 : Value} (hm : mt G M_St_held 0 mc ms (.ref b :: [.int a0]) h P) (hb : h b = mO 5 fs) (hv0 : fs[0]? = some v0) (hR : 0 + 1 ≤ R.frames ∧ 8 + (2 + 11) + 39 * 0 ≤ R.locals) (hcs : cells + mc ≤ R.cells ∧ slots + ms ≤ R.slots) (hrest : (rest.map fun v => v.category).sum ≤ 8) (k : ∀ (r : Option Value) (h' : HP), P r h' → ev G M_St_writeNotes R E 81 lv (r.toList ++ rest) h' (cells + mc) (slots + ms)) : ev G M_St_writeNotes R E 78 lv (.int a0 :: .ref b :: rest) h cells slots := ev_callV (as := [.int a0]) (ci := 5) d_St_writeNotes_78 hm hb hv0 rfl w_404 w_374 w_375 w_65 w_376 hy_St_held hR hcs hrest k
theorem d_St_writeNotes_81 : decode prog_7_method_15_code 81 = .ok (.goto 4, 3) := by decide +kernel
theorem s_St_writeNotes_81  (k : ev G M_St_writeNotes R E 85 lv rest h cells slots) : ev G M_St_writeNotes R E 81 lv rest h cells slots := ev_goto d_St_writeNotes_81 (by decide) k
theorem d_St_writeNotes_84 : decode prog_7_method_15_code 84 = .ok (.lconst 0, 1) := by decide +kernel
theorem s_St_writeNotes_84  (k : ev G M_St_writeNotes R E 85 lv (.long 0 :: rest) h cells slots) : ev G M_St_writeNotes R E 84 lv rest h cells slots := ev_lconst d_St_writeNotes_84 (by decide) k
theorem d_St_writeNotes_85 : decode prog_7_method_15_code 85 = .ok (.lastore, 1) := by decide +kernel
theorem s_St_writeNotes_85 {a n : Nat} {f : Nat → Int64} {i : Int32} {x : Int64} (hh : h a = mL 1 n f) (hin : vp_in i n) (k : ev G M_St_writeNotes R E 86 lv rest (va_up h a (mL 1 n (vp_updL f i.toNatClampNeg x))) cells slots) : ev G M_St_writeNotes R E 85 lv (.long x :: .int i :: .ref a :: rest) h cells slots := ev_lastore d_St_writeNotes_85 rfl hh hin k
theorem d_St_writeNotes_86 : decode prog_7_method_15_code 86 = .ok (.iinc 4 1, 3) := by decide +kernel
theorem s_St_writeNotes_86 {x : Int32} (hl : lg lv 4 = some (.int x)) (k : ev G M_St_writeNotes R E 89 (ls1 lv 4 (.int (x + 1))) rest h cells slots) : ev G M_St_writeNotes R E 86 lv rest h cells slots := ev_iinc d_St_writeNotes_86 (by decide) hl (by decide) k
theorem d_St_writeNotes_89 : decode prog_7_method_15_code 89 = .ok (.goto (-64), 3) := by decide +kernel
theorem s_St_writeNotes_89  (k : ev G M_St_writeNotes R E 25 lv rest h cells slots) : ev G M_St_writeNotes R E 89 lv rest h cells slots := ev_goto d_St_writeNotes_89 (by decide) k
theorem d_St_writeNotes_92 : decode prog_7_method_15_code 92 = .ok (.return_, 1) := by decide +kernel
theorem s_St_writeNotes_92 {P : Option Value → HP → Prop} {mc ms : Nat} (hP : P none h) (hc : cells ≤ mc ∧ slots ≤ ms) : ev G M_St_writeNotes R (Er M_St_writeNotes P mc ms) 92 lv [] h cells slots := ev_exit ⟨hc.1, hc.2, Or.inl ⟨rfl, d_St_writeNotes_92, rfl, hP⟩⟩
abbrev M_St_keptPlace : MW := (⟨"UseOnceMachine$State", "keptPlace", "(II)I"⟩, prog_7_method_18_code, 2, (some .int))
theorem hy_St_keptPlace : M_St_keptPlace.1.cls ≠ "java/lang/invoke/MethodHandle" ∧ M_St_keptPlace.1.cls ≠ "java/lang/invoke/VarHandle" ∧ (parseMethodDescriptor M_St_keptPlace.1.desc).map (fun d => d.parameters.length) = some 2 := by decide +kernel
theorem d_St_keptPlace_0 : decode prog_7_method_18_code 0 = .ok (.bipush 56, 2) := by decide +kernel
theorem s_St_keptPlace_0  (k : ev G M_St_keptPlace R E 2 lv (.int 56 :: rest) h cells slots) : ev G M_St_keptPlace R E 0 lv rest h cells slots := ev_bipush d_St_keptPlace_0 (by decide) k
theorem d_St_keptPlace_2 : decode prog_7_method_18_code 2 = .ok (.iload_n 0, 1) := by decide +kernel
theorem s_St_keptPlace_2 {x : Int32} (hl : lg lv 0 = some (.int x)) (k : ev G M_St_keptPlace R E 3 lv (.int x :: rest) h cells slots) : ev G M_St_keptPlace R E 2 lv rest h cells slots := ev_iload_n d_St_keptPlace_2 rfl hl k
theorem d_St_keptPlace_3 : decode prog_7_method_18_code 3 = .ok (.bipush 8, 2) := by decide +kernel
theorem s_St_keptPlace_3  (k : ev G M_St_keptPlace R E 5 lv (.int 8 :: rest) h cells slots) : ev G M_St_keptPlace R E 3 lv rest h cells slots := ev_bipush d_St_keptPlace_3 (by decide) k
theorem d_St_keptPlace_5 : decode prog_7_method_18_code 5 = .ok (.imul, 1) := by decide +kernel
theorem s_St_keptPlace_5 {x y : Int32} (k : ev G M_St_keptPlace R E 6 lv (.int (x * y) :: rest) h cells slots) : ev G M_St_keptPlace R E 5 lv (.int y :: .int x :: rest) h cells slots := ev_imul d_St_keptPlace_5 k
theorem d_St_keptPlace_6 : decode prog_7_method_18_code 6 = .ok (.iadd, 1) := by decide +kernel
theorem s_St_keptPlace_6 {x y : Int32} (k : ev G M_St_keptPlace R E 7 lv (.int (x + y) :: rest) h cells slots) : ev G M_St_keptPlace R E 6 lv (.int y :: .int x :: rest) h cells slots := ev_iadd d_St_keptPlace_6 k
theorem d_St_keptPlace_7 : decode prog_7_method_18_code 7 = .ok (.iload_n 1, 1) := by decide +kernel
theorem s_St_keptPlace_7 {x : Int32} (hl : lg lv 1 = some (.int x)) (k : ev G M_St_keptPlace R E 8 lv (.int x :: rest) h cells slots) : ev G M_St_keptPlace R E 7 lv rest h cells slots := ev_iload_n d_St_keptPlace_7 rfl hl k
theorem d_St_keptPlace_8 : decode prog_7_method_18_code 8 = .ok (.iadd, 1) := by decide +kernel
theorem s_St_keptPlace_8 {x y : Int32} (k : ev G M_St_keptPlace R E 9 lv (.int (x + y) :: rest) h cells slots) : ev G M_St_keptPlace R E 8 lv (.int y :: .int x :: rest) h cells slots := ev_iadd d_St_keptPlace_8 k
theorem d_St_keptPlace_9 : decode prog_7_method_18_code 9 = .ok (.ireturn, 1) := by decide +kernel
theorem s_St_keptPlace_9 {P : Option Value → HP → Prop} {mc ms : Nat} {v : Int32} (hP : P (some (.int v)) h) (hc : cells ≤ mc ∧ slots ≤ ms) : ev G M_St_keptPlace R (Er M_St_keptPlace P mc ms) 9 lv [.int v] h cells slots := ev_exit ⟨hc.1, hc.2, Or.inr (Or.inl ⟨v, .int, rfl, rfl, d_St_keptPlace_9, rfl, hP⟩)⟩
abbrev M_St_openFrame : MW := (⟨"UseOnceMachine$State", "openFrame", "(III)V"⟩, prog_7_method_14_code, 5, none)
theorem hy_St_openFrame : M_St_openFrame.1.cls ≠ "java/lang/invoke/MethodHandle" ∧ M_St_openFrame.1.cls ≠ "java/lang/invoke/VarHandle" ∧ (parseMethodDescriptor M_St_openFrame.1.desc).map (fun d => d.parameters.length) = some 3 := by decide +kernel
theorem d_St_openFrame_0 : decode prog_7_method_14_code 0 = .ok (.aload_n 0, 1) := by decide +kernel
theorem s_St_openFrame_0 {x : Nat} (hl : lg lv 0 = some (.ref x)) (k : ev G M_St_openFrame R E 1 lv (.ref x :: rest) h cells slots) : ev G M_St_openFrame R E 0 lv rest h cells slots := ev_aload_n d_St_openFrame_0 rfl hl k
theorem d_St_openFrame_1 : decode prog_7_method_14_code 1 = .ok (.iload_n 1, 1) := by decide +kernel
theorem s_St_openFrame_1 {x : Int32} (hl : lg lv 1 = some (.int x)) (k : ev G M_St_openFrame R E 2 lv (.int x :: rest) h cells slots) : ev G M_St_openFrame R E 1 lv rest h cells slots := ev_iload_n d_St_openFrame_1 rfl hl k
theorem d_St_openFrame_2 : decode prog_7_method_14_code 2 = .ok (.invokevirtual 102, 3) := by decide +kernel
theorem s_St_openFrame_2 {mc ms : Nat} {P : Option Value → HP → Prop} {a0 : Int32} {b : Nat} {fs : List Value} {v0 : Value} (hm : mt G M_St_canOpen 0 mc ms (.ref b :: [.int a0]) h P) (hb : h b = mO 5 fs) (hv0 : fs[0]? = some v0) (hR : 0 + 1 ≤ R.frames ∧ 8 + (2 + 11) + 39 * 0 ≤ R.locals) (hcs : cells + mc ≤ R.cells ∧ slots + ms ≤ R.slots) (hrest : (rest.map fun v => v.category).sum ≤ 8) (k : ∀ (r : Option Value) (h' : HP), P r h' → ev G M_St_openFrame R E 5 lv (r.toList ++ rest) h' (cells + mc) (slots + ms)) : ev G M_St_openFrame R E 2 lv (.int a0 :: .ref b :: rest) h cells slots := ev_callV (as := [.int a0]) (ci := 5) d_St_openFrame_2 hm hb hv0 rfl w_552 w_545 w_546 w_65 w_547 hy_St_canOpen hR hcs hrest k
theorem d_St_openFrame_5 : decode prog_7_method_14_code 5 = .ok (.ifCond .eq 10, 3) := by decide +kernel
theorem s_St_openFrame_5 {x : Int32} (kt : x = 0 → ev G M_St_openFrame R E 15 lv rest h cells slots) (kf : ¬ x = 0 → ev G M_St_openFrame R E 8 lv rest h cells slots) : ev G M_St_openFrame R E 5 lv (.int x :: rest) h cells slots := ev_if_eq d_St_openFrame_5 (by decide) kt kf
theorem d_St_openFrame_8 : decode prog_7_method_14_code 8 = .ok (.aload_n 0, 1) := by decide +kernel
theorem s_St_openFrame_8 {x : Nat} (hl : lg lv 0 = some (.ref x)) (k : ev G M_St_openFrame R E 9 lv (.ref x :: rest) h cells slots) : ev G M_St_openFrame R E 8 lv rest h cells slots := ev_aload_n d_St_openFrame_8 rfl hl k
theorem d_St_openFrame_9 : decode prog_7_method_14_code 9 = .ok (.getfield 43, 3) := by decide +kernel
theorem s_St_openFrame_9 {a : Nat} {fs : List Value} {v : Value} (hh : h a = mO 5 fs) (hv : fs[10]? = some v) (k : ev G M_St_openFrame R E 12 lv (v :: rest) h cells slots) : ev G M_St_openFrame R E 9 lv (.ref a :: rest) h cells slots := ev_getfield (ci := 5) (kf := 10) d_St_openFrame_9 rfl ck5 (by decide) w_118 hh hv k
theorem d_St_openFrame_12 : decode prog_7_method_14_code 12 = .ok (.ifCond .ge 4, 3) := by decide +kernel
theorem s_St_openFrame_12 {x : Int32} (kt : 0 ≤ x → ev G M_St_openFrame R E 16 lv rest h cells slots) (kf : ¬ 0 ≤ x → ev G M_St_openFrame R E 15 lv rest h cells slots) : ev G M_St_openFrame R E 12 lv (.int x :: rest) h cells slots := ev_if_ge d_St_openFrame_12 (by decide) kt kf
theorem d_St_openFrame_15 : decode prog_7_method_14_code 15 = .ok (.return_, 1) := by decide +kernel
theorem s_St_openFrame_15 {P : Option Value → HP → Prop} {mc ms : Nat} (hP : P none h) (hc : cells ≤ mc ∧ slots ≤ ms) : ev G M_St_openFrame R (Er M_St_openFrame P mc ms) 15 lv [] h cells slots := ev_exit ⟨hc.1, hc.2, Or.inl ⟨rfl, d_St_openFrame_15, rfl, hP⟩⟩
theorem d_St_openFrame_16 : decode prog_7_method_14_code 16 = .ok (.aload_n 0, 1) := by decide +kernel
theorem s_St_openFrame_16 {x : Nat} (hl : lg lv 0 = some (.ref x)) (k : ev G M_St_openFrame R E 17 lv (.ref x :: rest) h cells slots) : ev G M_St_openFrame R E 16 lv rest h cells slots := ev_aload_n d_St_openFrame_16 rfl hl k
theorem d_St_openFrame_17 : decode prog_7_method_14_code 17 = .ok (.getfield 31, 3) := by decide +kernel
theorem s_St_openFrame_17 {a : Nat} {fs : List Value} {v : Value} (hh : h a = mO 5 fs) (hv : fs[6]? = some v) (k : ev G M_St_openFrame R E 20 lv (v :: rest) h cells slots) : ev G M_St_openFrame R E 17 lv (.ref a :: rest) h cells slots := ev_getfield (ci := 5) (kf := 6) d_St_openFrame_17 rfl ck5 (by decide) w_114 hh hv k
theorem d_St_openFrame_20 : decode prog_7_method_14_code 20 = .ok (.aload_n 0, 1) := by decide +kernel
theorem s_St_openFrame_20 {x : Nat} (hl : lg lv 0 = some (.ref x)) (k : ev G M_St_openFrame R E 21 lv (.ref x :: rest) h cells slots) : ev G M_St_openFrame R E 20 lv rest h cells slots := ev_aload_n d_St_openFrame_20 rfl hl k
theorem d_St_openFrame_21 : decode prog_7_method_14_code 21 = .ok (.getfield 43, 3) := by decide +kernel
theorem s_St_openFrame_21 {a : Nat} {fs : List Value} {v : Value} (hh : h a = mO 5 fs) (hv : fs[10]? = some v) (k : ev G M_St_openFrame R E 24 lv (v :: rest) h cells slots) : ev G M_St_openFrame R E 21 lv (.ref a :: rest) h cells slots := ev_getfield (ci := 5) (kf := 10) d_St_openFrame_21 rfl ck5 (by decide) w_118 hh hv k
theorem d_St_openFrame_24 : decode prog_7_method_14_code 24 = .ok (.iload_n 3, 1) := by decide +kernel
theorem s_St_openFrame_24 {x : Int32} (hl : lg lv 3 = some (.int x)) (k : ev G M_St_openFrame R E 25 lv (.int x :: rest) h cells slots) : ev G M_St_openFrame R E 24 lv rest h cells slots := ev_iload_n d_St_openFrame_24 rfl hl k
theorem d_St_openFrame_25 : decode prog_7_method_14_code 25 = .ok (.iastore, 1) := by decide +kernel
theorem s_St_openFrame_25 {a n : Nat} {f : Nat → Int32} {i : Int32} {x : Int32} (hh : h a = mI 0 n f) (hin : vp_in i n) (k : ev G M_St_openFrame R E 26 lv rest (va_up h a (mI 0 n (upd f i.toNatClampNeg x))) cells slots) : ev G M_St_openFrame R E 25 lv (.int x :: .int i :: .ref a :: rest) h cells slots := ev_iastore d_St_openFrame_25 rfl hh hin k
theorem d_St_openFrame_26 : decode prog_7_method_14_code 26 = .ok (.aload_n 0, 1) := by decide +kernel
theorem s_St_openFrame_26 {x : Nat} (hl : lg lv 0 = some (.ref x)) (k : ev G M_St_openFrame R E 27 lv (.ref x :: rest) h cells slots) : ev G M_St_openFrame R E 26 lv rest h cells slots := ev_aload_n d_St_openFrame_26 rfl hl k
theorem d_St_openFrame_27 : decode prog_7_method_14_code 27 = .ok (.getfield 34, 3) := by decide +kernel
theorem s_St_openFrame_27 {a : Nat} {fs : List Value} {v : Value} (hh : h a = mO 5 fs) (hv : fs[7]? = some v) (k : ev G M_St_openFrame R E 30 lv (v :: rest) h cells slots) : ev G M_St_openFrame R E 27 lv (.ref a :: rest) h cells slots := ev_getfield (ci := 5) (kf := 7) d_St_openFrame_27 rfl ck5 (by decide) w_115 hh hv k
theorem d_St_openFrame_30 : decode prog_7_method_14_code 30 = .ok (.aload_n 0, 1) := by decide +kernel
theorem s_St_openFrame_30 {x : Nat} (hl : lg lv 0 = some (.ref x)) (k : ev G M_St_openFrame R E 31 lv (.ref x :: rest) h cells slots) : ev G M_St_openFrame R E 30 lv rest h cells slots := ev_aload_n d_St_openFrame_30 rfl hl k
theorem d_St_openFrame_31 : decode prog_7_method_14_code 31 = .ok (.getfield 43, 3) := by decide +kernel
theorem s_St_openFrame_31 {a : Nat} {fs : List Value} {v : Value} (hh : h a = mO 5 fs) (hv : fs[10]? = some v) (k : ev G M_St_openFrame R E 34 lv (v :: rest) h cells slots) : ev G M_St_openFrame R E 31 lv (.ref a :: rest) h cells slots := ev_getfield (ci := 5) (kf := 10) d_St_openFrame_31 rfl ck5 (by decide) w_118 hh hv k
theorem d_St_openFrame_34 : decode prog_7_method_14_code 34 = .ok (.aload_n 0, 1) := by decide +kernel
theorem s_St_openFrame_34 {x : Nat} (hl : lg lv 0 = some (.ref x)) (k : ev G M_St_openFrame R E 35 lv (.ref x :: rest) h cells slots) : ev G M_St_openFrame R E 34 lv rest h cells slots := ev_aload_n d_St_openFrame_34 rfl hl k
theorem d_St_openFrame_35 : decode prog_7_method_14_code 35 = .ok (.getfield 47, 3) := by decide +kernel
theorem s_St_openFrame_35 {a : Nat} {fs : List Value} {v : Value} (hh : h a = mO 5 fs) (hv : fs[11]? = some v) (k : ev G M_St_openFrame R E 38 lv (v :: rest) h cells slots) : ev G M_St_openFrame R E 35 lv (.ref a :: rest) h cells slots := ev_getfield (ci := 5) (kf := 11) d_St_openFrame_35 rfl ck5 (by decide) w_120 hh hv k
theorem d_St_openFrame_38 : decode prog_7_method_14_code 38 = .ok (.iastore, 1) := by decide +kernel
theorem s_St_openFrame_38 {a n : Nat} {f : Nat → Int32} {i : Int32} {x : Int32} (hh : h a = mI 0 n f) (hin : vp_in i n) (k : ev G M_St_openFrame R E 39 lv rest (va_up h a (mI 0 n (upd f i.toNatClampNeg x))) cells slots) : ev G M_St_openFrame R E 38 lv (.int x :: .int i :: .ref a :: rest) h cells slots := ev_iastore d_St_openFrame_38 rfl hh hin k
theorem d_St_openFrame_39 : decode prog_7_method_14_code 39 = .ok (.aload_n 0, 1) := by decide +kernel
theorem s_St_openFrame_39 {x : Nat} (hl : lg lv 0 = some (.ref x)) (k : ev G M_St_openFrame R E 40 lv (.ref x :: rest) h cells slots) : ev G M_St_openFrame R E 39 lv rest h cells slots := ev_aload_n d_St_openFrame_39 rfl hl k
theorem d_St_openFrame_40 : decode prog_7_method_14_code 40 = .ok (.getfield 37, 3) := by decide +kernel
theorem s_St_openFrame_40 {a : Nat} {fs : List Value} {v : Value} (hh : h a = mO 5 fs) (hv : fs[8]? = some v) (k : ev G M_St_openFrame R E 43 lv (v :: rest) h cells slots) : ev G M_St_openFrame R E 40 lv (.ref a :: rest) h cells slots := ev_getfield (ci := 5) (kf := 8) d_St_openFrame_40 rfl ck5 (by decide) w_116 hh hv k
theorem d_St_openFrame_43 : decode prog_7_method_14_code 43 = .ok (.aload_n 0, 1) := by decide +kernel
theorem s_St_openFrame_43 {x : Nat} (hl : lg lv 0 = some (.ref x)) (k : ev G M_St_openFrame R E 44 lv (.ref x :: rest) h cells slots) : ev G M_St_openFrame R E 43 lv rest h cells slots := ev_aload_n d_St_openFrame_43 rfl hl k
theorem d_St_openFrame_44 : decode prog_7_method_14_code 44 = .ok (.getfield 43, 3) := by decide +kernel
theorem s_St_openFrame_44 {a : Nat} {fs : List Value} {v : Value} (hh : h a = mO 5 fs) (hv : fs[10]? = some v) (k : ev G M_St_openFrame R E 47 lv (v :: rest) h cells slots) : ev G M_St_openFrame R E 44 lv (.ref a :: rest) h cells slots := ev_getfield (ci := 5) (kf := 10) d_St_openFrame_44 rfl ck5 (by decide) w_118 hh hv k
theorem d_St_openFrame_47 : decode prog_7_method_14_code 47 = .ok (.iload_n 1, 1) := by decide +kernel
theorem s_St_openFrame_47 {x : Int32} (hl : lg lv 1 = some (.int x)) (k : ev G M_St_openFrame R E 48 lv (.int x :: rest) h cells slots) : ev G M_St_openFrame R E 47 lv rest h cells slots := ev_iload_n d_St_openFrame_47 rfl hl k
theorem d_St_openFrame_48 : decode prog_7_method_14_code 48 = .ok (.iastore, 1) := by decide +kernel
theorem s_St_openFrame_48 {a n : Nat} {f : Nat → Int32} {i : Int32} {x : Int32} (hh : h a = mI 0 n f) (hin : vp_in i n) (k : ev G M_St_openFrame R E 49 lv rest (va_up h a (mI 0 n (upd f i.toNatClampNeg x))) cells slots) : ev G M_St_openFrame R E 48 lv (.int x :: .int i :: .ref a :: rest) h cells slots := ev_iastore d_St_openFrame_48 rfl hh hin k
theorem d_St_openFrame_49 : decode prog_7_method_14_code 49 = .ok (.aload_n 0, 1) := by decide +kernel
theorem s_St_openFrame_49 {x : Nat} (hl : lg lv 0 = some (.ref x)) (k : ev G M_St_openFrame R E 50 lv (.ref x :: rest) h cells slots) : ev G M_St_openFrame R E 49 lv rest h cells slots := ev_aload_n d_St_openFrame_49 rfl hl k
theorem d_St_openFrame_50 : decode prog_7_method_14_code 50 = .ok (.getfield 40, 3) := by decide +kernel
theorem s_St_openFrame_50 {a : Nat} {fs : List Value} {v : Value} (hh : h a = mO 5 fs) (hv : fs[9]? = some v) (k : ev G M_St_openFrame R E 53 lv (v :: rest) h cells slots) : ev G M_St_openFrame R E 50 lv (.ref a :: rest) h cells slots := ev_getfield (ci := 5) (kf := 9) d_St_openFrame_50 rfl ck5 (by decide) w_117 hh hv k
theorem d_St_openFrame_53 : decode prog_7_method_14_code 53 = .ok (.aload_n 0, 1) := by decide +kernel
theorem s_St_openFrame_53 {x : Nat} (hl : lg lv 0 = some (.ref x)) (k : ev G M_St_openFrame R E 54 lv (.ref x :: rest) h cells slots) : ev G M_St_openFrame R E 53 lv rest h cells slots := ev_aload_n d_St_openFrame_53 rfl hl k
theorem d_St_openFrame_54 : decode prog_7_method_14_code 54 = .ok (.getfield 43, 3) := by decide +kernel
theorem s_St_openFrame_54 {a : Nat} {fs : List Value} {v : Value} (hh : h a = mO 5 fs) (hv : fs[10]? = some v) (k : ev G M_St_openFrame R E 57 lv (v :: rest) h cells slots) : ev G M_St_openFrame R E 54 lv (.ref a :: rest) h cells slots := ev_getfield (ci := 5) (kf := 10) d_St_openFrame_54 rfl ck5 (by decide) w_118 hh hv k
theorem d_St_openFrame_57 : decode prog_7_method_14_code 57 = .ok (.iload_n 2, 1) := by decide +kernel
theorem s_St_openFrame_57 {x : Int32} (hl : lg lv 2 = some (.int x)) (k : ev G M_St_openFrame R E 58 lv (.int x :: rest) h cells slots) : ev G M_St_openFrame R E 57 lv rest h cells slots := ev_iload_n d_St_openFrame_57 rfl hl k
theorem d_St_openFrame_58 : decode prog_7_method_14_code 58 = .ok (.iastore, 1) := by decide +kernel
theorem s_St_openFrame_58 {a n : Nat} {f : Nat → Int32} {i : Int32} {x : Int32} (hh : h a = mI 0 n f) (hin : vp_in i n) (k : ev G M_St_openFrame R E 59 lv rest (va_up h a (mI 0 n (upd f i.toNatClampNeg x))) cells slots) : ev G M_St_openFrame R E 58 lv (.int x :: .int i :: .ref a :: rest) h cells slots := ev_iastore d_St_openFrame_58 rfl hh hin k
theorem d_St_openFrame_59 : decode prog_7_method_14_code 59 = .ok (.aload_n 0, 1) := by decide +kernel
theorem s_St_openFrame_59 {x : Nat} (hl : lg lv 0 = some (.ref x)) (k : ev G M_St_openFrame R E 60 lv (.ref x :: rest) h cells slots) : ev G M_St_openFrame R E 59 lv rest h cells slots := ev_aload_n d_St_openFrame_59 rfl hl k
theorem d_St_openFrame_60 : decode prog_7_method_14_code 60 = .ok (.iload_n 1, 1) := by decide +kernel
theorem s_St_openFrame_60 {x : Int32} (hl : lg lv 1 = some (.int x)) (k : ev G M_St_openFrame R E 61 lv (.int x :: rest) h cells slots) : ev G M_St_openFrame R E 60 lv rest h cells slots := ev_iload_n d_St_openFrame_60 rfl hl k
theorem d_St_openFrame_61 : decode prog_7_method_14_code 61 = .ok (.iload_n 2, 1) := by decide +kernel
theorem s_St_openFrame_61 {x : Int32} (hl : lg lv 2 = some (.int x)) (k : ev G M_St_openFrame R E 62 lv (.int x :: rest) h cells slots) : ev G M_St_openFrame R E 61 lv rest h cells slots := ev_iload_n d_St_openFrame_61 rfl hl k
theorem d_St_openFrame_62 : decode prog_7_method_14_code 62 = .ok (.invokevirtual 106, 3) := by decide +kernel
theorem s_St_openFrame_62 {mc ms : Nat} {P : Option Value → HP → Prop} {a0 : Int32} {a1 : Int32} {b : Nat} {fs : List Value} {v0 : Value} (hm : mt G M_St_writeNotes 1 mc ms (.ref b :: [.int a0, .int a1]) h P) (hb : h b = mO 5 fs) (hv0 : fs[0]? = some v0) (hR : 1 + 1 ≤ R.frames ∧ 8 + (6 + 11) + 39 * 1 ≤ R.locals) (hcs : cells + mc ≤ R.cells ∧ slots + ms ≤ R.slots) (hrest : (rest.map fun v => v.category).sum ≤ 8) (k : ∀ (r : Option Value) (h' : HP), P r h' → ev G M_St_openFrame R E 65 lv (r.toList ++ rest) h' (cells + mc) (slots + ms)) : ev G M_St_openFrame R E 62 lv (.int a1 :: .int a0 :: .ref b :: rest) h cells slots := ev_callV (as := [.int a0, .int a1]) (ci := 5) d_St_openFrame_62 hm hb hv0 rfl w_553 w_555 w_24 w_65 w_556 hy_St_writeNotes hR hcs hrest k
theorem d_St_openFrame_65 : decode prog_7_method_14_code 65 = .ok (.iconst 0, 1) := by decide +kernel
theorem s_St_openFrame_65  (k : ev G M_St_openFrame R E 66 lv (.int 0 :: rest) h cells slots) : ev G M_St_openFrame R E 65 lv rest h cells slots := ev_iconst d_St_openFrame_65 (by decide) k
theorem d_St_openFrame_66 : decode prog_7_method_14_code 66 = .ok (.istore 4, 2) := by decide +kernel
theorem s_St_openFrame_66 {x : Int32} (k : ev G M_St_openFrame R E 68 (ls1 lv 4 (.int x)) rest h cells slots) : ev G M_St_openFrame R E 66 lv (.int x :: rest) h cells slots := ev_istore d_St_openFrame_66 (by decide) k
theorem d_St_openFrame_68 : decode prog_7_method_14_code 68 = .ok (.iload 4, 2) := by decide +kernel
theorem s_St_openFrame_68 {x : Int32} (hl : lg lv 4 = some (.int x)) (k : ev G M_St_openFrame R E 70 lv (.int x :: rest) h cells slots) : ev G M_St_openFrame R E 68 lv rest h cells slots := ev_iload d_St_openFrame_68 hl k
theorem d_St_openFrame_70 : decode prog_7_method_14_code 70 = .ok (.bipush 8, 2) := by decide +kernel
theorem s_St_openFrame_70  (k : ev G M_St_openFrame R E 72 lv (.int 8 :: rest) h cells slots) : ev G M_St_openFrame R E 70 lv rest h cells slots := ev_bipush d_St_openFrame_70 (by decide) k
theorem d_St_openFrame_72 : decode prog_7_method_14_code 72 = .ok (.if_icmp .ge 35, 3) := by decide +kernel
theorem s_St_openFrame_72 {x y : Int32} (kt : y ≤ x → ev G M_St_openFrame R E 107 lv rest h cells slots) (kf : ¬ y ≤ x → ev G M_St_openFrame R E 75 lv rest h cells slots) : ev G M_St_openFrame R E 72 lv (.int y :: .int x :: rest) h cells slots := ev_icmp_ge d_St_openFrame_72 (by decide) kt kf
theorem d_St_openFrame_75 : decode prog_7_method_14_code 75 = .ok (.iload 4, 2) := by decide +kernel
theorem s_St_openFrame_75 {x : Int32} (hl : lg lv 4 = some (.int x)) (k : ev G M_St_openFrame R E 77 lv (.int x :: rest) h cells slots) : ev G M_St_openFrame R E 75 lv rest h cells slots := ev_iload d_St_openFrame_75 hl k
theorem d_St_openFrame_77 : decode prog_7_method_14_code 77 = .ok (.ifCond .eq 9, 3) := by decide +kernel
theorem s_St_openFrame_77 {x : Int32} (kt : x = 0 → ev G M_St_openFrame R E 86 lv rest h cells slots) (kf : ¬ x = 0 → ev G M_St_openFrame R E 80 lv rest h cells slots) : ev G M_St_openFrame R E 77 lv (.int x :: rest) h cells slots := ev_if_eq d_St_openFrame_77 (by decide) kt kf
theorem d_St_openFrame_80 : decode prog_7_method_14_code 80 = .ok (.iload 4, 2) := by decide +kernel
theorem s_St_openFrame_80 {x : Int32} (hl : lg lv 4 = some (.int x)) (k : ev G M_St_openFrame R E 82 lv (.int x :: rest) h cells slots) : ev G M_St_openFrame R E 80 lv rest h cells slots := ev_iload d_St_openFrame_80 hl k
theorem d_St_openFrame_82 : decode prog_7_method_14_code 82 = .ok (.iload_n 2, 1) := by decide +kernel
theorem s_St_openFrame_82 {x : Int32} (hl : lg lv 2 = some (.int x)) (k : ev G M_St_openFrame R E 83 lv (.int x :: rest) h cells slots) : ev G M_St_openFrame R E 82 lv rest h cells slots := ev_iload_n d_St_openFrame_82 rfl hl k
theorem d_St_openFrame_83 : decode prog_7_method_14_code 83 = .ok (.if_icmp .le 18, 3) := by decide +kernel
theorem s_St_openFrame_83 {x y : Int32} (kt : x ≤ y → ev G M_St_openFrame R E 101 lv rest h cells slots) (kf : ¬ x ≤ y → ev G M_St_openFrame R E 86 lv rest h cells slots) : ev G M_St_openFrame R E 83 lv (.int y :: .int x :: rest) h cells slots := ev_icmp_le d_St_openFrame_83 (by decide) kt kf
theorem d_St_openFrame_86 : decode prog_7_method_14_code 86 = .ok (.aload_n 0, 1) := by decide +kernel
theorem s_St_openFrame_86 {x : Nat} (hl : lg lv 0 = some (.ref x)) (k : ev G M_St_openFrame R E 87 lv (.ref x :: rest) h cells slots) : ev G M_St_openFrame R E 86 lv rest h cells slots := ev_aload_n d_St_openFrame_86 rfl hl k
theorem d_St_openFrame_87 : decode prog_7_method_14_code 87 = .ok (.aload_n 0, 1) := by decide +kernel
theorem s_St_openFrame_87 {x : Nat} (hl : lg lv 0 = some (.ref x)) (k : ev G M_St_openFrame R E 88 lv (.ref x :: rest) h cells slots) : ev G M_St_openFrame R E 87 lv rest h cells slots := ev_aload_n d_St_openFrame_87 rfl hl k
theorem d_St_openFrame_88 : decode prog_7_method_14_code 88 = .ok (.getfield 43, 3) := by decide +kernel
theorem s_St_openFrame_88 {a : Nat} {fs : List Value} {v : Value} (hh : h a = mO 5 fs) (hv : fs[10]? = some v) (k : ev G M_St_openFrame R E 91 lv (v :: rest) h cells slots) : ev G M_St_openFrame R E 88 lv (.ref a :: rest) h cells slots := ev_getfield (ci := 5) (kf := 10) d_St_openFrame_88 rfl ck5 (by decide) w_118 hh hv k
theorem d_St_openFrame_91 : decode prog_7_method_14_code 91 = .ok (.iload 4, 2) := by decide +kernel
theorem s_St_openFrame_91 {x : Int32} (hl : lg lv 4 = some (.int x)) (k : ev G M_St_openFrame R E 93 lv (.int x :: rest) h cells slots) : ev G M_St_openFrame R E 91 lv rest h cells slots := ev_iload d_St_openFrame_91 hl k
theorem d_St_openFrame_93 : decode prog_7_method_14_code 93 = .ok (.invokestatic 109, 3) := by decide +kernel
theorem s_St_openFrame_93 {mc ms : Nat} {P : Option Value → HP → Prop} {a0 : Int32} {a1 : Int32} (hm : mt G M_St_keptPlace 0 mc ms [.int a0, .int a1] h P) (hR : 0 + 1 ≤ R.frames ∧ 8 + (2 + 11) + 39 * 0 ≤ R.locals) (hcs : cells + mc ≤ R.cells ∧ slots + ms ≤ R.slots) (hrest : (rest.map fun v => v.category).sum ≤ 8) (k : ∀ (r : Option Value) (h' : HP), P r h' → ev G M_St_openFrame R E 96 lv (r.toList ++ rest) h' (cells + mc) (slots + ms)) : ev G M_St_openFrame R E 93 lv (.int a1 :: .int a0 :: rest) h cells slots := ev_callS (as := [.int a0, .int a1]) d_St_openFrame_93 hm w_557 w_558 w_65 w_559 hy_St_keptPlace hR hcs hrest k
theorem d_St_openFrame_96 : decode prog_7_method_14_code 96 = .ok (.iload 4, 2) := by decide +kernel
theorem s_St_openFrame_96 {x : Int32} (hl : lg lv 4 = some (.int x)) (k : ev G M_St_openFrame R E 98 lv (.int x :: rest) h cells slots) : ev G M_St_openFrame R E 96 lv rest h cells slots := ev_iload d_St_openFrame_96 hl k
theorem d_St_openFrame_98 : decode prog_7_method_14_code 98 = .ok (.invokevirtual 88, 3) := by decide +kernel
theorem s_St_openFrame_98 {mc ms : Nat} {P : Option Value → HP → Prop} {a0 : Int32} {a1 : Int32} {b : Nat} {fs : List Value} {v0 : Value} (hm : mt G M_St_carry 1 mc ms (.ref b :: [.int a0, .int a1]) h P) (hb : h b = mO 5 fs) (hv0 : fs[0]? = some v0) (hR : 1 + 1 ≤ R.frames ∧ 8 + (3 + 11) + 39 * 1 ≤ R.locals) (hcs : cells + mc ≤ R.cells ∧ slots + ms ≤ R.slots) (hrest : (rest.map fun v => v.category).sum ≤ 8) (k : ∀ (r : Option Value) (h' : HP), P r h' → ev G M_St_openFrame R E 101 lv (r.toList ++ rest) h' (cells + mc) (slots + ms)) : ev G M_St_openFrame R E 98 lv (.int a1 :: .int a0 :: .ref b :: rest) h cells slots := ev_callV (as := [.int a0, .int a1]) (ci := 5) d_St_openFrame_98 hm hb hv0 rfl w_408 w_409 w_410 w_65 w_411 hy_St_carry hR hcs hrest k
theorem d_St_openFrame_101 : decode prog_7_method_14_code 101 = .ok (.iinc 4 1, 3) := by decide +kernel
theorem s_St_openFrame_101 {x : Int32} (hl : lg lv 4 = some (.int x)) (k : ev G M_St_openFrame R E 104 (ls1 lv 4 (.int (x + 1))) rest h cells slots) : ev G M_St_openFrame R E 101 lv rest h cells slots := ev_iinc d_St_openFrame_101 (by decide) hl (by decide) k
theorem d_St_openFrame_104 : decode prog_7_method_14_code 104 = .ok (.goto (-36), 3) := by decide +kernel
theorem s_St_openFrame_104  (k : ev G M_St_openFrame R E 68 lv rest h cells slots) : ev G M_St_openFrame R E 104 lv rest h cells slots := ev_goto d_St_openFrame_104 (by decide) k
theorem d_St_openFrame_107 : decode prog_7_method_14_code 107 = .ok (.aload_n 0, 1) := by decide +kernel
theorem s_St_openFrame_107 {x : Nat} (hl : lg lv 0 = some (.ref x)) (k : ev G M_St_openFrame R E 108 lv (.ref x :: rest) h cells slots) : ev G M_St_openFrame R E 107 lv rest h cells slots := ev_aload_n d_St_openFrame_107 rfl hl k
theorem d_St_openFrame_108 : decode prog_7_method_14_code 108 = .ok (.bipush 7, 2) := by decide +kernel
theorem s_St_openFrame_108  (k : ev G M_St_openFrame R E 110 lv (.int 7 :: rest) h cells slots) : ev G M_St_openFrame R E 108 lv rest h cells slots := ev_bipush d_St_openFrame_108 (by decide) k
theorem d_St_openFrame_110 : decode prog_7_method_14_code 110 = .ok (.bipush 96, 2) := by decide +kernel
theorem s_St_openFrame_110  (k : ev G M_St_openFrame R E 112 lv (.int 96 :: rest) h cells slots) : ev G M_St_openFrame R E 110 lv rest h cells slots := ev_bipush d_St_openFrame_110 (by decide) k
theorem d_St_openFrame_112 : decode prog_7_method_14_code 112 = .ok (.iload_n 1, 1) := by decide +kernel
theorem s_St_openFrame_112 {x : Int32} (hl : lg lv 1 = some (.int x)) (k : ev G M_St_openFrame R E 113 lv (.int x :: rest) h cells slots) : ev G M_St_openFrame R E 112 lv rest h cells slots := ev_iload_n d_St_openFrame_112 rfl hl k
theorem d_St_openFrame_113 : decode prog_7_method_14_code 113 = .ok (.iadd, 1) := by decide +kernel
theorem s_St_openFrame_113 {x y : Int32} (k : ev G M_St_openFrame R E 114 lv (.int (x + y) :: rest) h cells slots) : ev G M_St_openFrame R E 113 lv (.int y :: .int x :: rest) h cells slots := ev_iadd d_St_openFrame_113 k
theorem d_St_openFrame_114 : decode prog_7_method_14_code 114 = .ok (.invokevirtual 88, 3) := by decide +kernel
theorem s_St_openFrame_114 {mc ms : Nat} {P : Option Value → HP → Prop} {a0 : Int32} {a1 : Int32} {b : Nat} {fs : List Value} {v0 : Value} (hm : mt G M_St_carry 1 mc ms (.ref b :: [.int a0, .int a1]) h P) (hb : h b = mO 5 fs) (hv0 : fs[0]? = some v0) (hR : 1 + 1 ≤ R.frames ∧ 8 + (3 + 11) + 39 * 1 ≤ R.locals) (hcs : cells + mc ≤ R.cells ∧ slots + ms ≤ R.slots) (hrest : (rest.map fun v => v.category).sum ≤ 8) (k : ∀ (r : Option Value) (h' : HP), P r h' → ev G M_St_openFrame R E 117 lv (r.toList ++ rest) h' (cells + mc) (slots + ms)) : ev G M_St_openFrame R E 114 lv (.int a1 :: .int a0 :: .ref b :: rest) h cells slots := ev_callV (as := [.int a0, .int a1]) (ci := 5) d_St_openFrame_114 hm hb hv0 rfl w_408 w_409 w_410 w_65 w_411 hy_St_carry hR hcs hrest k
theorem d_St_openFrame_117 : decode prog_7_method_14_code 117 = .ok (.aload_n 0, 1) := by decide +kernel
theorem s_St_openFrame_117 {x : Nat} (hl : lg lv 0 = some (.ref x)) (k : ev G M_St_openFrame R E 118 lv (.ref x :: rest) h cells slots) : ev G M_St_openFrame R E 117 lv rest h cells slots := ev_aload_n d_St_openFrame_117 rfl hl k
theorem d_St_openFrame_118 : decode prog_7_method_14_code 118 = .ok (.getfield 22, 3) := by decide +kernel
theorem s_St_openFrame_118 {a : Nat} {fs : List Value} {v : Value} (hh : h a = mO 5 fs) (hv : fs[3]? = some v) (k : ev G M_St_openFrame R E 121 lv (v :: rest) h cells slots) : ev G M_St_openFrame R E 118 lv (.ref a :: rest) h cells slots := ev_getfield (ci := 5) (kf := 3) d_St_openFrame_118 rfl ck5 (by decide) w_108 hh hv k
theorem d_St_openFrame_121 : decode prog_7_method_14_code 121 = .ok (.iload_n 1, 1) := by decide +kernel
theorem s_St_openFrame_121 {x : Int32} (hl : lg lv 1 = some (.int x)) (k : ev G M_St_openFrame R E 122 lv (.int x :: rest) h cells slots) : ev G M_St_openFrame R E 121 lv rest h cells slots := ev_iload_n d_St_openFrame_121 rfl hl k
theorem d_St_openFrame_122 : decode prog_7_method_14_code 122 = .ok (.iconst 2, 1) := by decide +kernel
theorem s_St_openFrame_122  (k : ev G M_St_openFrame R E 123 lv (.int 2 :: rest) h cells slots) : ev G M_St_openFrame R E 122 lv rest h cells slots := ev_iconst d_St_openFrame_122 (by decide) k
theorem d_St_openFrame_123 : decode prog_7_method_14_code 123 = .ok (.iastore, 1) := by decide +kernel
theorem s_St_openFrame_123 {a n : Nat} {f : Nat → Int32} {i : Int32} {x : Int32} (hh : h a = mI 0 n f) (hin : vp_in i n) (k : ev G M_St_openFrame R E 124 lv rest (va_up h a (mI 0 n (upd f i.toNatClampNeg x))) cells slots) : ev G M_St_openFrame R E 123 lv (.int x :: .int i :: .ref a :: rest) h cells slots := ev_iastore d_St_openFrame_123 rfl hh hin k
theorem d_St_openFrame_124 : decode prog_7_method_14_code 124 = .ok (.aload_n 0, 1) := by decide +kernel
theorem s_St_openFrame_124 {x : Nat} (hl : lg lv 0 = some (.ref x)) (k : ev G M_St_openFrame R E 125 lv (.ref x :: rest) h cells slots) : ev G M_St_openFrame R E 124 lv rest h cells slots := ev_aload_n d_St_openFrame_124 rfl hl k
theorem d_St_openFrame_125 : decode prog_7_method_14_code 125 = .ok (.aload_n 0, 1) := by decide +kernel
theorem s_St_openFrame_125 {x : Nat} (hl : lg lv 0 = some (.ref x)) (k : ev G M_St_openFrame R E 126 lv (.ref x :: rest) h cells slots) : ev G M_St_openFrame R E 125 lv rest h cells slots := ev_aload_n d_St_openFrame_125 rfl hl k
theorem d_St_openFrame_126 : decode prog_7_method_14_code 126 = .ok (.getfield 25, 3) := by decide +kernel
theorem s_St_openFrame_126 {a : Nat} {fs : List Value} {v : Value} (hh : h a = mO 5 fs) (hv : fs[4]? = some v) (k : ev G M_St_openFrame R E 129 lv (v :: rest) h cells slots) : ev G M_St_openFrame R E 126 lv (.ref a :: rest) h cells slots := ev_getfield (ci := 5) (kf := 4) d_St_openFrame_126 rfl ck5 (by decide) w_110 hh hv k
theorem d_St_openFrame_129 : decode prog_7_method_14_code 129 = .ok (.iload_n 1, 1) := by decide +kernel
theorem s_St_openFrame_129 {x : Int32} (hl : lg lv 1 = some (.int x)) (k : ev G M_St_openFrame R E 130 lv (.int x :: rest) h cells slots) : ev G M_St_openFrame R E 129 lv rest h cells slots := ev_iload_n d_St_openFrame_129 rfl hl k
theorem d_St_openFrame_130 : decode prog_7_method_14_code 130 = .ok (.iaload, 1) := by decide +kernel
theorem s_St_openFrame_130 {a n : Nat} {f : Nat → Int32} {i : Int32} (hh : h a = mI 0 n f) (hin : vp_in i n) (k : ev G M_St_openFrame R E 131 lv (.int (f i.toNatClampNeg) :: rest) h cells slots) : ev G M_St_openFrame R E 130 lv (.int i :: .ref a :: rest) h cells slots := ev_iaload d_St_openFrame_130 rfl hh hin k
theorem d_St_openFrame_131 : decode prog_7_method_14_code 131 = .ok (.putfield 47, 3) := by decide +kernel
theorem s_St_openFrame_131 {x : Int32} {a : Nat} {fs : List Value} (hh : h a = mO 5 fs) (hlen : 11 < fs.length) (k : ev G M_St_openFrame R E 134 lv rest (va_up h a (mO 5 (fs.set 11 (.int x)))) cells slots) : ev G M_St_openFrame R E 131 lv (.int x :: .ref a :: rest) h cells slots := ev_putfield (ci := 5) (kf := 11) d_St_openFrame_131 rfl ck5 (by decide) w_120 rfl hh hlen (fun _ _ => rfl) (fun _ _ => rfl) k
theorem d_St_openFrame_134 : decode prog_7_method_14_code 134 = .ok (.aload_n 0, 1) := by decide +kernel
theorem s_St_openFrame_134 {x : Nat} (hl : lg lv 0 = some (.ref x)) (k : ev G M_St_openFrame R E 135 lv (.ref x :: rest) h cells slots) : ev G M_St_openFrame R E 134 lv rest h cells slots := ev_aload_n d_St_openFrame_134 rfl hl k
theorem d_St_openFrame_135 : decode prog_7_method_14_code 135 = .ok (.iconst 0, 1) := by decide +kernel
theorem s_St_openFrame_135  (k : ev G M_St_openFrame R E 136 lv (.int 0 :: rest) h cells slots) : ev G M_St_openFrame R E 135 lv rest h cells slots := ev_iconst d_St_openFrame_135 (by decide) k
theorem d_St_openFrame_136 : decode prog_7_method_14_code 136 = .ok (.putfield 50, 3) := by decide +kernel
theorem s_St_openFrame_136 {x : Int32} {a : Nat} {fs : List Value} (hh : h a = mO 5 fs) (hlen : 12 < fs.length) (k : ev G M_St_openFrame R E 139 lv rest (va_up h a (mO 5 (fs.set 12 (.int x)))) cells slots) : ev G M_St_openFrame R E 136 lv (.int x :: .ref a :: rest) h cells slots := ev_putfield (ci := 5) (kf := 12) d_St_openFrame_136 rfl ck5 (by decide) w_123 rfl hh hlen (fun _ _ => rfl) (fun _ _ => rfl) k
theorem d_St_openFrame_139 : decode prog_7_method_14_code 139 = .ok (.aload_n 0, 1) := by decide +kernel
theorem s_St_openFrame_139 {x : Nat} (hl : lg lv 0 = some (.ref x)) (k : ev G M_St_openFrame R E 140 lv (.ref x :: rest) h cells slots) : ev G M_St_openFrame R E 139 lv rest h cells slots := ev_aload_n d_St_openFrame_139 rfl hl k
theorem d_St_openFrame_140 : decode prog_7_method_14_code 140 = .ok (.dup, 1) := by decide +kernel
theorem s_St_openFrame_140 {va : Value} (hva : va.category = 1) (k : ev G M_St_openFrame R E 141 lv (va :: va :: rest) h cells slots) : ev G M_St_openFrame R E 140 lv (va :: rest) h cells slots := ev_dup d_St_openFrame_140 hva k
theorem d_St_openFrame_141 : decode prog_7_method_14_code 141 = .ok (.getfield 43, 3) := by decide +kernel
theorem s_St_openFrame_141 {a : Nat} {fs : List Value} {v : Value} (hh : h a = mO 5 fs) (hv : fs[10]? = some v) (k : ev G M_St_openFrame R E 144 lv (v :: rest) h cells slots) : ev G M_St_openFrame R E 141 lv (.ref a :: rest) h cells slots := ev_getfield (ci := 5) (kf := 10) d_St_openFrame_141 rfl ck5 (by decide) w_118 hh hv k
theorem d_St_openFrame_144 : decode prog_7_method_14_code 144 = .ok (.iconst 1, 1) := by decide +kernel
theorem s_St_openFrame_144  (k : ev G M_St_openFrame R E 145 lv (.int 1 :: rest) h cells slots) : ev G M_St_openFrame R E 144 lv rest h cells slots := ev_iconst d_St_openFrame_144 (by decide) k
theorem d_St_openFrame_145 : decode prog_7_method_14_code 145 = .ok (.iadd, 1) := by decide +kernel
theorem s_St_openFrame_145 {x y : Int32} (k : ev G M_St_openFrame R E 146 lv (.int (x + y) :: rest) h cells slots) : ev G M_St_openFrame R E 145 lv (.int y :: .int x :: rest) h cells slots := ev_iadd d_St_openFrame_145 k
theorem d_St_openFrame_146 : decode prog_7_method_14_code 146 = .ok (.putfield 43, 3) := by decide +kernel
theorem s_St_openFrame_146 {x : Int32} {a : Nat} {fs : List Value} (hh : h a = mO 5 fs) (hlen : 10 < fs.length) (k : ev G M_St_openFrame R E 149 lv rest (va_up h a (mO 5 (fs.set 10 (.int x)))) cells slots) : ev G M_St_openFrame R E 146 lv (.int x :: .ref a :: rest) h cells slots := ev_putfield (ci := 5) (kf := 10) d_St_openFrame_146 rfl ck5 (by decide) w_118 rfl hh hlen (fun _ _ => rfl) (fun _ _ => rfl) k
theorem d_St_openFrame_149 : decode prog_7_method_14_code 149 = .ok (.return_, 1) := by decide +kernel
theorem s_St_openFrame_149 {P : Option Value → HP → Prop} {mc ms : Nat} (hP : P none h) (hc : cells ≤ mc ∧ slots ≤ ms) : ev G M_St_openFrame R (Er M_St_openFrame P mc ms) 149 lv [] h cells slots := ev_exit ⟨hc.1, hc.2, Or.inl ⟨rfl, d_St_openFrame_149, rfl, hP⟩⟩
abbrev M_St_canCloseFrame : MW := (⟨"UseOnceMachine$State", "canCloseFrame", "()Z"⟩, prog_7_method_16_code, 6, (some .boolean))
theorem hy_St_canCloseFrame : M_St_canCloseFrame.1.cls ≠ "java/lang/invoke/MethodHandle" ∧ M_St_canCloseFrame.1.cls ≠ "java/lang/invoke/VarHandle" ∧ (parseMethodDescriptor M_St_canCloseFrame.1.desc).map (fun d => d.parameters.length) = some 0 := by decide +kernel
theorem d_St_canCloseFrame_0 : decode prog_7_method_16_code 0 = .ok (.aload_n 0, 1) := by decide +kernel
theorem s_St_canCloseFrame_0 {x : Nat} (hl : lg lv 0 = some (.ref x)) (k : ev G M_St_canCloseFrame R E 1 lv (.ref x :: rest) h cells slots) : ev G M_St_canCloseFrame R E 0 lv rest h cells slots := ev_aload_n d_St_canCloseFrame_0 rfl hl k
theorem d_St_canCloseFrame_1 : decode prog_7_method_16_code 1 = .ok (.getfield 43, 3) := by decide +kernel
theorem s_St_canCloseFrame_1 {a : Nat} {fs : List Value} {v : Value} (hh : h a = mO 5 fs) (hv : fs[10]? = some v) (k : ev G M_St_canCloseFrame R E 4 lv (v :: rest) h cells slots) : ev G M_St_canCloseFrame R E 1 lv (.ref a :: rest) h cells slots := ev_getfield (ci := 5) (kf := 10) d_St_canCloseFrame_1 rfl ck5 (by decide) w_118 hh hv k
theorem d_St_canCloseFrame_4 : decode prog_7_method_16_code 4 = .ok (.iconst 1, 1) := by decide +kernel
theorem s_St_canCloseFrame_4  (k : ev G M_St_canCloseFrame R E 5 lv (.int 1 :: rest) h cells slots) : ev G M_St_canCloseFrame R E 4 lv rest h cells slots := ev_iconst d_St_canCloseFrame_4 (by decide) k
theorem d_St_canCloseFrame_5 : decode prog_7_method_16_code 5 = .ok (.if_icmp .lt 11, 3) := by decide +kernel
theorem s_St_canCloseFrame_5 {x y : Int32} (kt : x < y → ev G M_St_canCloseFrame R E 16 lv rest h cells slots) (kf : ¬ x < y → ev G M_St_canCloseFrame R E 8 lv rest h cells slots) : ev G M_St_canCloseFrame R E 5 lv (.int y :: .int x :: rest) h cells slots := ev_icmp_lt d_St_canCloseFrame_5 (by decide) kt kf
theorem d_St_canCloseFrame_8 : decode prog_7_method_16_code 8 = .ok (.aload_n 0, 1) := by decide +kernel
theorem s_St_canCloseFrame_8 {x : Nat} (hl : lg lv 0 = some (.ref x)) (k : ev G M_St_canCloseFrame R E 9 lv (.ref x :: rest) h cells slots) : ev G M_St_canCloseFrame R E 8 lv rest h cells slots := ev_aload_n d_St_canCloseFrame_8 rfl hl k
theorem d_St_canCloseFrame_9 : decode prog_7_method_16_code 9 = .ok (.getfield 43, 3) := by decide +kernel
theorem s_St_canCloseFrame_9 {a : Nat} {fs : List Value} {v : Value} (hh : h a = mO 5 fs) (hv : fs[10]? = some v) (k : ev G M_St_canCloseFrame R E 12 lv (v :: rest) h cells slots) : ev G M_St_canCloseFrame R E 9 lv (.ref a :: rest) h cells slots := ev_getfield (ci := 5) (kf := 10) d_St_canCloseFrame_9 rfl ck5 (by decide) w_118 hh hv k
theorem d_St_canCloseFrame_12 : decode prog_7_method_16_code 12 = .ok (.iconst 5, 1) := by decide +kernel
theorem s_St_canCloseFrame_12  (k : ev G M_St_canCloseFrame R E 13 lv (.int 5 :: rest) h cells slots) : ev G M_St_canCloseFrame R E 12 lv rest h cells slots := ev_iconst d_St_canCloseFrame_12 (by decide) k
theorem d_St_canCloseFrame_13 : decode prog_7_method_16_code 13 = .ok (.if_icmp .le 5, 3) := by decide +kernel
theorem s_St_canCloseFrame_13 {x y : Int32} (kt : x ≤ y → ev G M_St_canCloseFrame R E 18 lv rest h cells slots) (kf : ¬ x ≤ y → ev G M_St_canCloseFrame R E 16 lv rest h cells slots) : ev G M_St_canCloseFrame R E 13 lv (.int y :: .int x :: rest) h cells slots := ev_icmp_le d_St_canCloseFrame_13 (by decide) kt kf
theorem d_St_canCloseFrame_16 : decode prog_7_method_16_code 16 = .ok (.iconst 0, 1) := by decide +kernel
theorem s_St_canCloseFrame_16  (k : ev G M_St_canCloseFrame R E 17 lv (.int 0 :: rest) h cells slots) : ev G M_St_canCloseFrame R E 16 lv rest h cells slots := ev_iconst d_St_canCloseFrame_16 (by decide) k
theorem d_St_canCloseFrame_17 : decode prog_7_method_16_code 17 = .ok (.ireturn, 1) := by decide +kernel
theorem s_St_canCloseFrame_17 {P : Option Value → HP → Prop} {mc ms : Nat} {v : Int32} (hz : v = 0 ∨ v = 1) (hP : P (some (.int v)) h) (hc : cells ≤ mc ∧ slots ≤ ms) : ev G M_St_canCloseFrame R (Er M_St_canCloseFrame P mc ms) 17 lv [.int v] h cells slots := ev_exit ⟨hc.1, hc.2, Or.inr (Or.inl ⟨v, .boolean, rfl, (nar_z hz), d_St_canCloseFrame_17, rfl, hP⟩)⟩
theorem d_St_canCloseFrame_18 : decode prog_7_method_16_code 18 = .ok (.aload_n 0, 1) := by decide +kernel
theorem s_St_canCloseFrame_18 {x : Nat} (hl : lg lv 0 = some (.ref x)) (k : ev G M_St_canCloseFrame R E 19 lv (.ref x :: rest) h cells slots) : ev G M_St_canCloseFrame R E 18 lv rest h cells slots := ev_aload_n d_St_canCloseFrame_18 rfl hl k
theorem d_St_canCloseFrame_19 : decode prog_7_method_16_code 19 = .ok (.getfield 43, 3) := by decide +kernel
theorem s_St_canCloseFrame_19 {a : Nat} {fs : List Value} {v : Value} (hh : h a = mO 5 fs) (hv : fs[10]? = some v) (k : ev G M_St_canCloseFrame R E 22 lv (v :: rest) h cells slots) : ev G M_St_canCloseFrame R E 19 lv (.ref a :: rest) h cells slots := ev_getfield (ci := 5) (kf := 10) d_St_canCloseFrame_19 rfl ck5 (by decide) w_118 hh hv k
theorem d_St_canCloseFrame_22 : decode prog_7_method_16_code 22 = .ok (.iconst 1, 1) := by decide +kernel
theorem s_St_canCloseFrame_22  (k : ev G M_St_canCloseFrame R E 23 lv (.int 1 :: rest) h cells slots) : ev G M_St_canCloseFrame R E 22 lv rest h cells slots := ev_iconst d_St_canCloseFrame_22 (by decide) k
theorem d_St_canCloseFrame_23 : decode prog_7_method_16_code 23 = .ok (.isub, 1) := by decide +kernel
theorem s_St_canCloseFrame_23 {x y : Int32} (k : ev G M_St_canCloseFrame R E 24 lv (.int (x - y) :: rest) h cells slots) : ev G M_St_canCloseFrame R E 23 lv (.int y :: .int x :: rest) h cells slots := ev_isub d_St_canCloseFrame_23 k
theorem d_St_canCloseFrame_24 : decode prog_7_method_16_code 24 = .ok (.bipush 7, 2) := by decide +kernel
theorem s_St_canCloseFrame_24  (k : ev G M_St_canCloseFrame R E 26 lv (.int 7 :: rest) h cells slots) : ev G M_St_canCloseFrame R E 24 lv rest h cells slots := ev_bipush d_St_canCloseFrame_24 (by decide) k
theorem d_St_canCloseFrame_26 : decode prog_7_method_16_code 26 = .ok (.imul, 1) := by decide +kernel
theorem s_St_canCloseFrame_26 {x y : Int32} (k : ev G M_St_canCloseFrame R E 27 lv (.int (x * y) :: rest) h cells slots) : ev G M_St_canCloseFrame R E 26 lv (.int y :: .int x :: rest) h cells slots := ev_imul d_St_canCloseFrame_26 k
theorem d_St_canCloseFrame_27 : decode prog_7_method_16_code 27 = .ok (.istore_n 1, 1) := by decide +kernel
theorem s_St_canCloseFrame_27 {x : Int32} (k : ev G M_St_canCloseFrame R E 28 (ls1 lv 1 (.int x)) rest h cells slots) : ev G M_St_canCloseFrame R E 27 lv (.int x :: rest) h cells slots := ev_istore_n d_St_canCloseFrame_27 rfl (by decide) k
theorem d_St_canCloseFrame_28 : decode prog_7_method_16_code 28 = .ok (.aload_n 0, 1) := by decide +kernel
theorem s_St_canCloseFrame_28 {x : Nat} (hl : lg lv 0 = some (.ref x)) (k : ev G M_St_canCloseFrame R E 29 lv (.ref x :: rest) h cells slots) : ev G M_St_canCloseFrame R E 28 lv rest h cells slots := ev_aload_n d_St_canCloseFrame_28 rfl hl k
theorem d_St_canCloseFrame_29 : decode prog_7_method_16_code 29 = .ok (.iconst 0, 1) := by decide +kernel
theorem s_St_canCloseFrame_29  (k : ev G M_St_canCloseFrame R E 30 lv (.int 0 :: rest) h cells slots) : ev G M_St_canCloseFrame R E 29 lv rest h cells slots := ev_iconst d_St_canCloseFrame_29 (by decide) k
theorem d_St_canCloseFrame_30 : decode prog_7_method_16_code 30 = .ok (.invokevirtual 76, 3) := by decide +kernel
theorem s_St_canCloseFrame_30 {mc ms : Nat} {P : Option Value → HP → Prop} {a0 : Int32} {b : Nat} {fs : List Value} {v0 : Value} (hm : mt G M_St_held 0 mc ms (.ref b :: [.int a0]) h P) (hb : h b = mO 5 fs) (hv0 : fs[0]? = some v0) (hR : 0 + 1 ≤ R.frames ∧ 8 + (2 + 11) + 39 * 0 ≤ R.locals) (hcs : cells + mc ≤ R.cells ∧ slots + ms ≤ R.slots) (hrest : (rest.map fun v => v.category).sum ≤ 8) (k : ∀ (r : Option Value) (h' : HP), P r h' → ev G M_St_canCloseFrame R E 33 lv (r.toList ++ rest) h' (cells + mc) (slots + ms)) : ev G M_St_canCloseFrame R E 30 lv (.int a0 :: .ref b :: rest) h cells slots := ev_callV (as := [.int a0]) (ci := 5) d_St_canCloseFrame_30 hm hb hv0 rfl w_404 w_374 w_375 w_65 w_376 hy_St_held hR hcs hrest k
theorem d_St_canCloseFrame_33 : decode prog_7_method_16_code 33 = .ok (.invokestatic 113, 3) := by decide +kernel
theorem s_St_canCloseFrame_33 {mc ms : Nat} {P : Option Value → HP → Prop} {a0 : Int64} (hm : mt G M_Va_isNumber 1 mc ms [.long a0] h P) (hR : 1 + 1 ≤ R.frames ∧ 8 + (2 + 11) + 39 * 1 ≤ R.locals) (hcs : cells + mc ≤ R.cells ∧ slots + ms ≤ R.slots) (hrest : (rest.map fun v => v.category).sum ≤ 8) (k : ∀ (r : Option Value) (h' : HP), P r h' → ev G M_St_canCloseFrame R E 36 lv (r.toList ++ rest) h' (cells + mc) (slots + ms)) : ev G M_St_canCloseFrame R E 33 lv (.long a0 :: rest) h cells slots := ev_callS (as := [.long a0]) d_St_canCloseFrame_33 hm w_568 w_378 w_72 w_379 hy_Va_isNumber hR hcs hrest k
theorem d_St_canCloseFrame_36 : decode prog_7_method_16_code 36 = .ok (.ifCond .eq 23, 3) := by decide +kernel
theorem s_St_canCloseFrame_36 {x : Int32} (kt : x = 0 → ev G M_St_canCloseFrame R E 59 lv rest h cells slots) (kf : ¬ x = 0 → ev G M_St_canCloseFrame R E 39 lv rest h cells slots) : ev G M_St_canCloseFrame R E 36 lv (.int x :: rest) h cells slots := ev_if_eq d_St_canCloseFrame_36 (by decide) kt kf
theorem d_St_canCloseFrame_39 : decode prog_7_method_16_code 39 = .ok (.aload_n 0, 1) := by decide +kernel
theorem s_St_canCloseFrame_39 {x : Nat} (hl : lg lv 0 = some (.ref x)) (k : ev G M_St_canCloseFrame R E 40 lv (.ref x :: rest) h cells slots) : ev G M_St_canCloseFrame R E 39 lv rest h cells slots := ev_aload_n d_St_canCloseFrame_39 rfl hl k
theorem d_St_canCloseFrame_40 : decode prog_7_method_16_code 40 = .ok (.bipush 7, 2) := by decide +kernel
theorem s_St_canCloseFrame_40  (k : ev G M_St_canCloseFrame R E 42 lv (.int 7 :: rest) h cells slots) : ev G M_St_canCloseFrame R E 40 lv rest h cells slots := ev_bipush d_St_canCloseFrame_40 (by decide) k
theorem d_St_canCloseFrame_42 : decode prog_7_method_16_code 42 = .ok (.invokevirtual 76, 3) := by decide +kernel
theorem s_St_canCloseFrame_42 {mc ms : Nat} {P : Option Value → HP → Prop} {a0 : Int32} {b : Nat} {fs : List Value} {v0 : Value} (hm : mt G M_St_held 0 mc ms (.ref b :: [.int a0]) h P) (hb : h b = mO 5 fs) (hv0 : fs[0]? = some v0) (hR : 0 + 1 ≤ R.frames ∧ 8 + (2 + 11) + 39 * 0 ≤ R.locals) (hcs : cells + mc ≤ R.cells ∧ slots + ms ≤ R.slots) (hrest : (rest.map fun v => v.category).sum ≤ 8) (k : ∀ (r : Option Value) (h' : HP), P r h' → ev G M_St_canCloseFrame R E 45 lv (r.toList ++ rest) h' (cells + mc) (slots + ms)) : ev G M_St_canCloseFrame R E 42 lv (.int a0 :: .ref b :: rest) h cells slots := ev_callV (as := [.int a0]) (ci := 5) d_St_canCloseFrame_42 hm hb hv0 rfl w_404 w_374 w_375 w_65 w_376 hy_St_held hR hcs hrest k
theorem d_St_canCloseFrame_45 : decode prog_7_method_16_code 45 = .ok (.aload_n 0, 1) := by decide +kernel
theorem s_St_canCloseFrame_45 {x : Nat} (hl : lg lv 0 = some (.ref x)) (k : ev G M_St_canCloseFrame R E 46 lv (.ref x :: rest) h cells slots) : ev G M_St_canCloseFrame R E 45 lv rest h cells slots := ev_aload_n d_St_canCloseFrame_45 rfl hl k
theorem d_St_canCloseFrame_46 : decode prog_7_method_16_code 46 = .ok (.getfield 15, 3) := by decide +kernel
theorem s_St_canCloseFrame_46 {a : Nat} {fs : List Value} {v : Value} (hh : h a = mO 5 fs) (hv : fs[1]? = some v) (k : ev G M_St_canCloseFrame R E 49 lv (v :: rest) h cells slots) : ev G M_St_canCloseFrame R E 46 lv (.ref a :: rest) h cells slots := ev_getfield (ci := 5) (kf := 1) d_St_canCloseFrame_46 rfl ck5 (by decide) w_105 hh hv k
theorem d_St_canCloseFrame_49 : decode prog_7_method_16_code 49 = .ok (.iload_n 1, 1) := by decide +kernel
theorem s_St_canCloseFrame_49 {x : Int32} (hl : lg lv 1 = some (.int x)) (k : ev G M_St_canCloseFrame R E 50 lv (.int x :: rest) h cells slots) : ev G M_St_canCloseFrame R E 49 lv rest h cells slots := ev_iload_n d_St_canCloseFrame_49 rfl hl k
theorem d_St_canCloseFrame_50 : decode prog_7_method_16_code 50 = .ok (.laload, 1) := by decide +kernel
theorem s_St_canCloseFrame_50 {a n : Nat} {f : Nat → Int64} {i : Int32} (hh : h a = mL 1 n f) (hin : vp_in i n) (k : ev G M_St_canCloseFrame R E 51 lv (.long (f i.toNatClampNeg) :: rest) h cells slots) : ev G M_St_canCloseFrame R E 50 lv (.int i :: .ref a :: rest) h cells slots := ev_laload d_St_canCloseFrame_50 rfl hh hin k
theorem d_St_canCloseFrame_51 : decode prog_7_method_16_code 51 = .ok (.lcmp, 1) := by decide +kernel
theorem s_St_canCloseFrame_51 {x y : Int64} (k : ev G M_St_canCloseFrame R E 52 lv (.int (lg_cmp x y) :: rest) h cells slots) : ev G M_St_canCloseFrame R E 51 lv (.long y :: .long x :: rest) h cells slots := ev_lcmp d_St_canCloseFrame_51 k
theorem d_St_canCloseFrame_52 : decode prog_7_method_16_code 52 = .ok (.ifCond .ne 7, 3) := by decide +kernel
theorem s_St_canCloseFrame_52 {x : Int32} (kt : ¬ x = 0 → ev G M_St_canCloseFrame R E 59 lv rest h cells slots) (kf : x = 0 → ev G M_St_canCloseFrame R E 55 lv rest h cells slots) : ev G M_St_canCloseFrame R E 52 lv (.int x :: rest) h cells slots := ev_if_ne d_St_canCloseFrame_52 (by decide) kt kf
theorem d_St_canCloseFrame_55 : decode prog_7_method_16_code 55 = .ok (.iconst 1, 1) := by decide +kernel
theorem s_St_canCloseFrame_55  (k : ev G M_St_canCloseFrame R E 56 lv (.int 1 :: rest) h cells slots) : ev G M_St_canCloseFrame R E 55 lv rest h cells slots := ev_iconst d_St_canCloseFrame_55 (by decide) k
theorem d_St_canCloseFrame_56 : decode prog_7_method_16_code 56 = .ok (.goto 4, 3) := by decide +kernel
theorem s_St_canCloseFrame_56  (k : ev G M_St_canCloseFrame R E 60 lv rest h cells slots) : ev G M_St_canCloseFrame R E 56 lv rest h cells slots := ev_goto d_St_canCloseFrame_56 (by decide) k
theorem d_St_canCloseFrame_59 : decode prog_7_method_16_code 59 = .ok (.iconst 0, 1) := by decide +kernel
theorem s_St_canCloseFrame_59  (k : ev G M_St_canCloseFrame R E 60 lv (.int 0 :: rest) h cells slots) : ev G M_St_canCloseFrame R E 59 lv rest h cells slots := ev_iconst d_St_canCloseFrame_59 (by decide) k
theorem d_St_canCloseFrame_60 : decode prog_7_method_16_code 60 = .ok (.istore_n 2, 1) := by decide +kernel
theorem s_St_canCloseFrame_60 {x : Int32} (k : ev G M_St_canCloseFrame R E 61 (ls1 lv 2 (.int x)) rest h cells slots) : ev G M_St_canCloseFrame R E 60 lv (.int x :: rest) h cells slots := ev_istore_n d_St_canCloseFrame_60 rfl (by decide) k
theorem d_St_canCloseFrame_61 : decode prog_7_method_16_code 61 = .ok (.iconst 1, 1) := by decide +kernel
theorem s_St_canCloseFrame_61  (k : ev G M_St_canCloseFrame R E 62 lv (.int 1 :: rest) h cells slots) : ev G M_St_canCloseFrame R E 61 lv rest h cells slots := ev_iconst d_St_canCloseFrame_61 (by decide) k
theorem d_St_canCloseFrame_62 : decode prog_7_method_16_code 62 = .ok (.istore_n 3, 1) := by decide +kernel
theorem s_St_canCloseFrame_62 {x : Int32} (k : ev G M_St_canCloseFrame R E 63 (ls1 lv 3 (.int x)) rest h cells slots) : ev G M_St_canCloseFrame R E 62 lv (.int x :: rest) h cells slots := ev_istore_n d_St_canCloseFrame_62 rfl (by decide) k
theorem d_St_canCloseFrame_63 : decode prog_7_method_16_code 63 = .ok (.iload_n 3, 1) := by decide +kernel
theorem s_St_canCloseFrame_63 {x : Int32} (hl : lg lv 3 = some (.int x)) (k : ev G M_St_canCloseFrame R E 64 lv (.int x :: rest) h cells slots) : ev G M_St_canCloseFrame R E 63 lv rest h cells slots := ev_iload_n d_St_canCloseFrame_63 rfl hl k
theorem d_St_canCloseFrame_64 : decode prog_7_method_16_code 64 = .ok (.bipush 6, 2) := by decide +kernel
theorem s_St_canCloseFrame_64  (k : ev G M_St_canCloseFrame R E 66 lv (.int 6 :: rest) h cells slots) : ev G M_St_canCloseFrame R E 64 lv rest h cells slots := ev_bipush d_St_canCloseFrame_64 (by decide) k
theorem d_St_canCloseFrame_66 : decode prog_7_method_16_code 66 = .ok (.if_icmp .gt 62, 3) := by decide +kernel
theorem s_St_canCloseFrame_66 {x y : Int32} (kt : y < x → ev G M_St_canCloseFrame R E 128 lv rest h cells slots) (kf : ¬ y < x → ev G M_St_canCloseFrame R E 69 lv rest h cells slots) : ev G M_St_canCloseFrame R E 66 lv (.int y :: .int x :: rest) h cells slots := ev_icmp_gt d_St_canCloseFrame_66 (by decide) kt kf
theorem d_St_canCloseFrame_69 : decode prog_7_method_16_code 69 = .ok (.aload_n 0, 1) := by decide +kernel
theorem s_St_canCloseFrame_69 {x : Nat} (hl : lg lv 0 = some (.ref x)) (k : ev G M_St_canCloseFrame R E 70 lv (.ref x :: rest) h cells slots) : ev G M_St_canCloseFrame R E 69 lv rest h cells slots := ev_aload_n d_St_canCloseFrame_69 rfl hl k
theorem d_St_canCloseFrame_70 : decode prog_7_method_16_code 70 = .ok (.getfield 15, 3) := by decide +kernel
theorem s_St_canCloseFrame_70 {a : Nat} {fs : List Value} {v : Value} (hh : h a = mO 5 fs) (hv : fs[1]? = some v) (k : ev G M_St_canCloseFrame R E 73 lv (v :: rest) h cells slots) : ev G M_St_canCloseFrame R E 70 lv (.ref a :: rest) h cells slots := ev_getfield (ci := 5) (kf := 1) d_St_canCloseFrame_70 rfl ck5 (by decide) w_105 hh hv k
theorem d_St_canCloseFrame_73 : decode prog_7_method_16_code 73 = .ok (.iload_n 1, 1) := by decide +kernel
theorem s_St_canCloseFrame_73 {x : Int32} (hl : lg lv 1 = some (.int x)) (k : ev G M_St_canCloseFrame R E 74 lv (.int x :: rest) h cells slots) : ev G M_St_canCloseFrame R E 73 lv rest h cells slots := ev_iload_n d_St_canCloseFrame_73 rfl hl k
theorem d_St_canCloseFrame_74 : decode prog_7_method_16_code 74 = .ok (.iload_n 3, 1) := by decide +kernel
theorem s_St_canCloseFrame_74 {x : Int32} (hl : lg lv 3 = some (.int x)) (k : ev G M_St_canCloseFrame R E 75 lv (.int x :: rest) h cells slots) : ev G M_St_canCloseFrame R E 74 lv rest h cells slots := ev_iload_n d_St_canCloseFrame_74 rfl hl k
theorem d_St_canCloseFrame_75 : decode prog_7_method_16_code 75 = .ok (.iadd, 1) := by decide +kernel
theorem s_St_canCloseFrame_75 {x y : Int32} (k : ev G M_St_canCloseFrame R E 76 lv (.int (x + y) :: rest) h cells slots) : ev G M_St_canCloseFrame R E 75 lv (.int y :: .int x :: rest) h cells slots := ev_iadd d_St_canCloseFrame_75 k
theorem d_St_canCloseFrame_76 : decode prog_7_method_16_code 76 = .ok (.laload, 1) := by decide +kernel
theorem s_St_canCloseFrame_76 {a n : Nat} {f : Nat → Int64} {i : Int32} (hh : h a = mL 1 n f) (hin : vp_in i n) (k : ev G M_St_canCloseFrame R E 77 lv (.long (f i.toNatClampNeg) :: rest) h cells slots) : ev G M_St_canCloseFrame R E 76 lv (.int i :: .ref a :: rest) h cells slots := ev_laload d_St_canCloseFrame_76 rfl hh hin k
theorem d_St_canCloseFrame_77 : decode prog_7_method_16_code 77 = .ok (.lstore 4, 2) := by decide +kernel
theorem s_St_canCloseFrame_77 {x : Int64} (k : ev G M_St_canCloseFrame R E 79 (ls2 lv 4 (.long x)) rest h cells slots) : ev G M_St_canCloseFrame R E 77 lv (.long x :: rest) h cells slots := ev_lstore d_St_canCloseFrame_77 (by decide) k
theorem d_St_canCloseFrame_79 : decode prog_7_method_16_code 79 = .ok (.iload_n 2, 1) := by decide +kernel
theorem s_St_canCloseFrame_79 {x : Int32} (hl : lg lv 2 = some (.int x)) (k : ev G M_St_canCloseFrame R E 80 lv (.int x :: rest) h cells slots) : ev G M_St_canCloseFrame R E 79 lv rest h cells slots := ev_iload_n d_St_canCloseFrame_79 rfl hl k
theorem d_St_canCloseFrame_80 : decode prog_7_method_16_code 80 = .ok (.ifCond .eq 40, 3) := by decide +kernel
theorem s_St_canCloseFrame_80 {x : Int32} (kt : x = 0 → ev G M_St_canCloseFrame R E 120 lv rest h cells slots) (kf : ¬ x = 0 → ev G M_St_canCloseFrame R E 83 lv rest h cells slots) : ev G M_St_canCloseFrame R E 80 lv (.int x :: rest) h cells slots := ev_if_eq d_St_canCloseFrame_80 (by decide) kt kf
theorem d_St_canCloseFrame_83 : decode prog_7_method_16_code 83 = .ok (.lload 4, 2) := by decide +kernel
theorem s_St_canCloseFrame_83 {x : Int64} (hl : lg lv 4 = some (.long x)) (k : ev G M_St_canCloseFrame R E 85 lv (.long x :: rest) h cells slots) : ev G M_St_canCloseFrame R E 83 lv rest h cells slots := ev_lload d_St_canCloseFrame_83 hl k
theorem d_St_canCloseFrame_85 : decode prog_7_method_16_code 85 = .ok (.invokestatic 113, 3) := by decide +kernel
theorem s_St_canCloseFrame_85 {mc ms : Nat} {P : Option Value → HP → Prop} {a0 : Int64} (hm : mt G M_Va_isNumber 1 mc ms [.long a0] h P) (hR : 1 + 1 ≤ R.frames ∧ 8 + (2 + 11) + 39 * 1 ≤ R.locals) (hcs : cells + mc ≤ R.cells ∧ slots + ms ≤ R.slots) (hrest : (rest.map fun v => v.category).sum ≤ 8) (k : ∀ (r : Option Value) (h' : HP), P r h' → ev G M_St_canCloseFrame R E 88 lv (r.toList ++ rest) h' (cells + mc) (slots + ms)) : ev G M_St_canCloseFrame R E 85 lv (.long a0 :: rest) h cells slots := ev_callS (as := [.long a0]) d_St_canCloseFrame_85 hm w_568 w_378 w_72 w_379 hy_Va_isNumber hR hcs hrest k
theorem d_St_canCloseFrame_88 : decode prog_7_method_16_code 88 = .ok (.ifCond .eq 17, 3) := by decide +kernel
theorem s_St_canCloseFrame_88 {x : Int32} (kt : x = 0 → ev G M_St_canCloseFrame R E 105 lv rest h cells slots) (kf : ¬ x = 0 → ev G M_St_canCloseFrame R E 91 lv rest h cells slots) : ev G M_St_canCloseFrame R E 88 lv (.int x :: rest) h cells slots := ev_if_eq d_St_canCloseFrame_88 (by decide) kt kf
theorem d_St_canCloseFrame_91 : decode prog_7_method_16_code 91 = .ok (.aload_n 0, 1) := by decide +kernel
theorem s_St_canCloseFrame_91 {x : Nat} (hl : lg lv 0 = some (.ref x)) (k : ev G M_St_canCloseFrame R E 92 lv (.ref x :: rest) h cells slots) : ev G M_St_canCloseFrame R E 91 lv rest h cells slots := ev_aload_n d_St_canCloseFrame_91 rfl hl k
theorem d_St_canCloseFrame_92 : decode prog_7_method_16_code 92 = .ok (.iload_n 3, 1) := by decide +kernel
theorem s_St_canCloseFrame_92 {x : Int32} (hl : lg lv 3 = some (.int x)) (k : ev G M_St_canCloseFrame R E 93 lv (.int x :: rest) h cells slots) : ev G M_St_canCloseFrame R E 92 lv rest h cells slots := ev_iload_n d_St_canCloseFrame_92 rfl hl k
theorem d_St_canCloseFrame_93 : decode prog_7_method_16_code 93 = .ok (.invokevirtual 76, 3) := by decide +kernel
theorem s_St_canCloseFrame_93 {mc ms : Nat} {P : Option Value → HP → Prop} {a0 : Int32} {b : Nat} {fs : List Value} {v0 : Value} (hm : mt G M_St_held 0 mc ms (.ref b :: [.int a0]) h P) (hb : h b = mO 5 fs) (hv0 : fs[0]? = some v0) (hR : 0 + 1 ≤ R.frames ∧ 8 + (2 + 11) + 39 * 0 ≤ R.locals) (hcs : cells + mc ≤ R.cells ∧ slots + ms ≤ R.slots) (hrest : (rest.map fun v => v.category).sum ≤ 8) (k : ∀ (r : Option Value) (h' : HP), P r h' → ev G M_St_canCloseFrame R E 96 lv (r.toList ++ rest) h' (cells + mc) (slots + ms)) : ev G M_St_canCloseFrame R E 93 lv (.int a0 :: .ref b :: rest) h cells slots := ev_callV (as := [.int a0]) (ci := 5) d_St_canCloseFrame_93 hm hb hv0 rfl w_404 w_374 w_375 w_65 w_376 hy_St_held hR hcs hrest k
theorem d_St_canCloseFrame_96 : decode prog_7_method_16_code 96 = .ok (.invokestatic 113, 3) := by decide +kernel
theorem s_St_canCloseFrame_96 {mc ms : Nat} {P : Option Value → HP → Prop} {a0 : Int64} (hm : mt G M_Va_isNumber 1 mc ms [.long a0] h P) (hR : 1 + 1 ≤ R.frames ∧ 8 + (2 + 11) + 39 * 1 ≤ R.locals) (hcs : cells + mc ≤ R.cells ∧ slots + ms ≤ R.slots) (hrest : (rest.map fun v => v.category).sum ≤ 8) (k : ∀ (r : Option Value) (h' : HP), P r h' → ev G M_St_canCloseFrame R E 99 lv (r.toList ++ rest) h' (cells + mc) (slots + ms)) : ev G M_St_canCloseFrame R E 96 lv (.long a0 :: rest) h cells slots := ev_callS (as := [.long a0]) d_St_canCloseFrame_96 hm w_568 w_378 w_72 w_379 hy_Va_isNumber hR hcs hrest k
theorem d_St_canCloseFrame_99 : decode prog_7_method_16_code 99 = .ok (.ifCond .eq 21, 3) := by decide +kernel
theorem s_St_canCloseFrame_99 {x : Int32} (kt : x = 0 → ev G M_St_canCloseFrame R E 120 lv rest h cells slots) (kf : ¬ x = 0 → ev G M_St_canCloseFrame R E 102 lv rest h cells slots) : ev G M_St_canCloseFrame R E 99 lv (.int x :: rest) h cells slots := ev_if_eq d_St_canCloseFrame_99 (by decide) kt kf
theorem d_St_canCloseFrame_102 : decode prog_7_method_16_code 102 = .ok (.goto 14, 3) := by decide +kernel
theorem s_St_canCloseFrame_102  (k : ev G M_St_canCloseFrame R E 116 lv rest h cells slots) : ev G M_St_canCloseFrame R E 102 lv rest h cells slots := ev_goto d_St_canCloseFrame_102 (by decide) k
theorem d_St_canCloseFrame_105 : decode prog_7_method_16_code 105 = .ok (.aload_n 0, 1) := by decide +kernel
theorem s_St_canCloseFrame_105 {x : Nat} (hl : lg lv 0 = some (.ref x)) (k : ev G M_St_canCloseFrame R E 106 lv (.ref x :: rest) h cells slots) : ev G M_St_canCloseFrame R E 105 lv rest h cells slots := ev_aload_n d_St_canCloseFrame_105 rfl hl k
theorem d_St_canCloseFrame_106 : decode prog_7_method_16_code 106 = .ok (.iload_n 3, 1) := by decide +kernel
theorem s_St_canCloseFrame_106 {x : Int32} (hl : lg lv 3 = some (.int x)) (k : ev G M_St_canCloseFrame R E 107 lv (.int x :: rest) h cells slots) : ev G M_St_canCloseFrame R E 106 lv rest h cells slots := ev_iload_n d_St_canCloseFrame_106 rfl hl k
theorem d_St_canCloseFrame_107 : decode prog_7_method_16_code 107 = .ok (.invokevirtual 76, 3) := by decide +kernel
theorem s_St_canCloseFrame_107 {mc ms : Nat} {P : Option Value → HP → Prop} {a0 : Int32} {b : Nat} {fs : List Value} {v0 : Value} (hm : mt G M_St_held 0 mc ms (.ref b :: [.int a0]) h P) (hb : h b = mO 5 fs) (hv0 : fs[0]? = some v0) (hR : 0 + 1 ≤ R.frames ∧ 8 + (2 + 11) + 39 * 0 ≤ R.locals) (hcs : cells + mc ≤ R.cells ∧ slots + ms ≤ R.slots) (hrest : (rest.map fun v => v.category).sum ≤ 8) (k : ∀ (r : Option Value) (h' : HP), P r h' → ev G M_St_canCloseFrame R E 110 lv (r.toList ++ rest) h' (cells + mc) (slots + ms)) : ev G M_St_canCloseFrame R E 107 lv (.int a0 :: .ref b :: rest) h cells slots := ev_callV (as := [.int a0]) (ci := 5) d_St_canCloseFrame_107 hm hb hv0 rfl w_404 w_374 w_375 w_65 w_376 hy_St_held hR hcs hrest k
theorem d_St_canCloseFrame_110 : decode prog_7_method_16_code 110 = .ok (.lload 4, 2) := by decide +kernel
theorem s_St_canCloseFrame_110 {x : Int64} (hl : lg lv 4 = some (.long x)) (k : ev G M_St_canCloseFrame R E 112 lv (.long x :: rest) h cells slots) : ev G M_St_canCloseFrame R E 110 lv rest h cells slots := ev_lload d_St_canCloseFrame_110 hl k
theorem d_St_canCloseFrame_112 : decode prog_7_method_16_code 112 = .ok (.lcmp, 1) := by decide +kernel
theorem s_St_canCloseFrame_112 {x y : Int64} (k : ev G M_St_canCloseFrame R E 113 lv (.int (lg_cmp x y) :: rest) h cells slots) : ev G M_St_canCloseFrame R E 112 lv (.long y :: .long x :: rest) h cells slots := ev_lcmp d_St_canCloseFrame_112 k
theorem d_St_canCloseFrame_113 : decode prog_7_method_16_code 113 = .ok (.ifCond .ne 7, 3) := by decide +kernel
theorem s_St_canCloseFrame_113 {x : Int32} (kt : ¬ x = 0 → ev G M_St_canCloseFrame R E 120 lv rest h cells slots) (kf : x = 0 → ev G M_St_canCloseFrame R E 116 lv rest h cells slots) : ev G M_St_canCloseFrame R E 113 lv (.int x :: rest) h cells slots := ev_if_ne d_St_canCloseFrame_113 (by decide) kt kf
theorem d_St_canCloseFrame_116 : decode prog_7_method_16_code 116 = .ok (.iconst 1, 1) := by decide +kernel
theorem s_St_canCloseFrame_116  (k : ev G M_St_canCloseFrame R E 117 lv (.int 1 :: rest) h cells slots) : ev G M_St_canCloseFrame R E 116 lv rest h cells slots := ev_iconst d_St_canCloseFrame_116 (by decide) k
theorem d_St_canCloseFrame_117 : decode prog_7_method_16_code 117 = .ok (.goto 4, 3) := by decide +kernel
theorem s_St_canCloseFrame_117  (k : ev G M_St_canCloseFrame R E 121 lv rest h cells slots) : ev G M_St_canCloseFrame R E 117 lv rest h cells slots := ev_goto d_St_canCloseFrame_117 (by decide) k
theorem d_St_canCloseFrame_120 : decode prog_7_method_16_code 120 = .ok (.iconst 0, 1) := by decide +kernel
theorem s_St_canCloseFrame_120  (k : ev G M_St_canCloseFrame R E 121 lv (.int 0 :: rest) h cells slots) : ev G M_St_canCloseFrame R E 120 lv rest h cells slots := ev_iconst d_St_canCloseFrame_120 (by decide) k
theorem d_St_canCloseFrame_121 : decode prog_7_method_16_code 121 = .ok (.istore_n 2, 1) := by decide +kernel
theorem s_St_canCloseFrame_121 {x : Int32} (k : ev G M_St_canCloseFrame R E 122 (ls1 lv 2 (.int x)) rest h cells slots) : ev G M_St_canCloseFrame R E 121 lv (.int x :: rest) h cells slots := ev_istore_n d_St_canCloseFrame_121 rfl (by decide) k
theorem d_St_canCloseFrame_122 : decode prog_7_method_16_code 122 = .ok (.iinc 3 1, 3) := by decide +kernel
theorem s_St_canCloseFrame_122 {x : Int32} (hl : lg lv 3 = some (.int x)) (k : ev G M_St_canCloseFrame R E 125 (ls1 lv 3 (.int (x + 1))) rest h cells slots) : ev G M_St_canCloseFrame R E 122 lv rest h cells slots := ev_iinc d_St_canCloseFrame_122 (by decide) hl (by decide) k
theorem d_St_canCloseFrame_125 : decode prog_7_method_16_code 125 = .ok (.goto (-62), 3) := by decide +kernel
theorem s_St_canCloseFrame_125  (k : ev G M_St_canCloseFrame R E 63 lv rest h cells slots) : ev G M_St_canCloseFrame R E 125 lv rest h cells slots := ev_goto d_St_canCloseFrame_125 (by decide) k
theorem d_St_canCloseFrame_128 : decode prog_7_method_16_code 128 = .ok (.iload_n 2, 1) := by decide +kernel
theorem s_St_canCloseFrame_128 {x : Int32} (hl : lg lv 2 = some (.int x)) (k : ev G M_St_canCloseFrame R E 129 lv (.int x :: rest) h cells slots) : ev G M_St_canCloseFrame R E 128 lv rest h cells slots := ev_iload_n d_St_canCloseFrame_128 rfl hl k
theorem d_St_canCloseFrame_129 : decode prog_7_method_16_code 129 = .ok (.ireturn, 1) := by decide +kernel
theorem s_St_canCloseFrame_129 {P : Option Value → HP → Prop} {mc ms : Nat} {v : Int32} (hz : v = 0 ∨ v = 1) (hP : P (some (.int v)) h) (hc : cells ≤ mc ∧ slots ≤ ms) : ev G M_St_canCloseFrame R (Er M_St_canCloseFrame P mc ms) 129 lv [.int v] h cells slots := ev_exit ⟨hc.1, hc.2, Or.inr (Or.inl ⟨v, .boolean, rfl, (nar_z hz), d_St_canCloseFrame_129, rfl, hP⟩)⟩
abbrev M_St_closeFrame : MW := (⟨"UseOnceMachine$State", "closeFrame", "()V"⟩, prog_7_method_17_code, 4, none)
theorem hy_St_closeFrame : M_St_closeFrame.1.cls ≠ "java/lang/invoke/MethodHandle" ∧ M_St_closeFrame.1.cls ≠ "java/lang/invoke/VarHandle" ∧ (parseMethodDescriptor M_St_closeFrame.1.desc).map (fun d => d.parameters.length) = some 0 := by decide +kernel
theorem d_St_closeFrame_0 : decode prog_7_method_17_code 0 = .ok (.aload_n 0, 1) := by decide +kernel
theorem s_St_closeFrame_0 {x : Nat} (hl : lg lv 0 = some (.ref x)) (k : ev G M_St_closeFrame R E 1 lv (.ref x :: rest) h cells slots) : ev G M_St_closeFrame R E 0 lv rest h cells slots := ev_aload_n d_St_closeFrame_0 rfl hl k
theorem d_St_closeFrame_1 : decode prog_7_method_17_code 1 = .ok (.getfield 43, 3) := by decide +kernel
theorem s_St_closeFrame_1 {a : Nat} {fs : List Value} {v : Value} (hh : h a = mO 5 fs) (hv : fs[10]? = some v) (k : ev G M_St_closeFrame R E 4 lv (v :: rest) h cells slots) : ev G M_St_closeFrame R E 1 lv (.ref a :: rest) h cells slots := ev_getfield (ci := 5) (kf := 10) d_St_closeFrame_1 rfl ck5 (by decide) w_118 hh hv k
theorem d_St_closeFrame_4 : decode prog_7_method_17_code 4 = .ok (.iconst 1, 1) := by decide +kernel
theorem s_St_closeFrame_4  (k : ev G M_St_closeFrame R E 5 lv (.int 1 :: rest) h cells slots) : ev G M_St_closeFrame R E 4 lv rest h cells slots := ev_iconst d_St_closeFrame_4 (by decide) k
theorem d_St_closeFrame_5 : decode prog_7_method_17_code 5 = .ok (.isub, 1) := by decide +kernel
theorem s_St_closeFrame_5 {x y : Int32} (k : ev G M_St_closeFrame R E 6 lv (.int (x - y) :: rest) h cells slots) : ev G M_St_closeFrame R E 5 lv (.int y :: .int x :: rest) h cells slots := ev_isub d_St_closeFrame_5 k
theorem d_St_closeFrame_6 : decode prog_7_method_17_code 6 = .ok (.istore_n 1, 1) := by decide +kernel
theorem s_St_closeFrame_6 {x : Int32} (k : ev G M_St_closeFrame R E 7 (ls1 lv 1 (.int x)) rest h cells slots) : ev G M_St_closeFrame R E 6 lv (.int x :: rest) h cells slots := ev_istore_n d_St_closeFrame_6 rfl (by decide) k
theorem d_St_closeFrame_7 : decode prog_7_method_17_code 7 = .ok (.iload_n 1, 1) := by decide +kernel
theorem s_St_closeFrame_7 {x : Int32} (hl : lg lv 1 = some (.int x)) (k : ev G M_St_closeFrame R E 8 lv (.int x :: rest) h cells slots) : ev G M_St_closeFrame R E 7 lv rest h cells slots := ev_iload_n d_St_closeFrame_7 rfl hl k
theorem d_St_closeFrame_8 : decode prog_7_method_17_code 8 = .ok (.ifCond .lt 8, 3) := by decide +kernel
theorem s_St_closeFrame_8 {x : Int32} (kt : x < 0 → ev G M_St_closeFrame R E 16 lv rest h cells slots) (kf : ¬ x < 0 → ev G M_St_closeFrame R E 11 lv rest h cells slots) : ev G M_St_closeFrame R E 8 lv (.int x :: rest) h cells slots := ev_if_lt d_St_closeFrame_8 (by decide) kt kf
theorem d_St_closeFrame_11 : decode prog_7_method_17_code 11 = .ok (.iload_n 1, 1) := by decide +kernel
theorem s_St_closeFrame_11 {x : Int32} (hl : lg lv 1 = some (.int x)) (k : ev G M_St_closeFrame R E 12 lv (.int x :: rest) h cells slots) : ev G M_St_closeFrame R E 11 lv rest h cells slots := ev_iload_n d_St_closeFrame_11 rfl hl k
theorem d_St_closeFrame_12 : decode prog_7_method_17_code 12 = .ok (.iconst 5, 1) := by decide +kernel
theorem s_St_closeFrame_12  (k : ev G M_St_closeFrame R E 13 lv (.int 5 :: rest) h cells slots) : ev G M_St_closeFrame R E 12 lv rest h cells slots := ev_iconst d_St_closeFrame_12 (by decide) k
theorem d_St_closeFrame_13 : decode prog_7_method_17_code 13 = .ok (.if_icmp .lt 4, 3) := by decide +kernel
theorem s_St_closeFrame_13 {x y : Int32} (kt : x < y → ev G M_St_closeFrame R E 17 lv rest h cells slots) (kf : ¬ x < y → ev G M_St_closeFrame R E 16 lv rest h cells slots) : ev G M_St_closeFrame R E 13 lv (.int y :: .int x :: rest) h cells slots := ev_icmp_lt d_St_closeFrame_13 (by decide) kt kf
theorem d_St_closeFrame_16 : decode prog_7_method_17_code 16 = .ok (.return_, 1) := by decide +kernel
theorem s_St_closeFrame_16 {P : Option Value → HP → Prop} {mc ms : Nat} (hP : P none h) (hc : cells ≤ mc ∧ slots ≤ ms) : ev G M_St_closeFrame R (Er M_St_closeFrame P mc ms) 16 lv [] h cells slots := ev_exit ⟨hc.1, hc.2, Or.inl ⟨rfl, d_St_closeFrame_16, rfl, hP⟩⟩
theorem d_St_closeFrame_17 : decode prog_7_method_17_code 17 = .ok (.aload_n 0, 1) := by decide +kernel
theorem s_St_closeFrame_17 {x : Nat} (hl : lg lv 0 = some (.ref x)) (k : ev G M_St_closeFrame R E 18 lv (.ref x :: rest) h cells slots) : ev G M_St_closeFrame R E 17 lv rest h cells slots := ev_aload_n d_St_closeFrame_17 rfl hl k
theorem d_St_closeFrame_18 : decode prog_7_method_17_code 18 = .ok (.getfield 37, 3) := by decide +kernel
theorem s_St_closeFrame_18 {a : Nat} {fs : List Value} {v : Value} (hh : h a = mO 5 fs) (hv : fs[8]? = some v) (k : ev G M_St_closeFrame R E 21 lv (v :: rest) h cells slots) : ev G M_St_closeFrame R E 18 lv (.ref a :: rest) h cells slots := ev_getfield (ci := 5) (kf := 8) d_St_closeFrame_18 rfl ck5 (by decide) w_116 hh hv k
theorem d_St_closeFrame_21 : decode prog_7_method_17_code 21 = .ok (.iload_n 1, 1) := by decide +kernel
theorem s_St_closeFrame_21 {x : Int32} (hl : lg lv 1 = some (.int x)) (k : ev G M_St_closeFrame R E 22 lv (.int x :: rest) h cells slots) : ev G M_St_closeFrame R E 21 lv rest h cells slots := ev_iload_n d_St_closeFrame_21 rfl hl k
theorem d_St_closeFrame_22 : decode prog_7_method_17_code 22 = .ok (.iaload, 1) := by decide +kernel
theorem s_St_closeFrame_22 {a n : Nat} {f : Nat → Int32} {i : Int32} (hh : h a = mI 0 n f) (hin : vp_in i n) (k : ev G M_St_closeFrame R E 23 lv (.int (f i.toNatClampNeg) :: rest) h cells slots) : ev G M_St_closeFrame R E 22 lv (.int i :: .ref a :: rest) h cells slots := ev_iaload d_St_closeFrame_22 rfl hh hin k
theorem d_St_closeFrame_23 : decode prog_7_method_17_code 23 = .ok (.istore_n 2, 1) := by decide +kernel
theorem s_St_closeFrame_23 {x : Int32} (k : ev G M_St_closeFrame R E 24 (ls1 lv 2 (.int x)) rest h cells slots) : ev G M_St_closeFrame R E 23 lv (.int x :: rest) h cells slots := ev_istore_n d_St_closeFrame_23 rfl (by decide) k
theorem d_St_closeFrame_24 : decode prog_7_method_17_code 24 = .ok (.iload_n 2, 1) := by decide +kernel
theorem s_St_closeFrame_24 {x : Int32} (hl : lg lv 2 = some (.int x)) (k : ev G M_St_closeFrame R E 25 lv (.int x :: rest) h cells slots) : ev G M_St_closeFrame R E 24 lv rest h cells slots := ev_iload_n d_St_closeFrame_24 rfl hl k
theorem d_St_closeFrame_25 : decode prog_7_method_17_code 25 = .ok (.ifCond .lt 9, 3) := by decide +kernel
theorem s_St_closeFrame_25 {x : Int32} (kt : x < 0 → ev G M_St_closeFrame R E 34 lv rest h cells slots) (kf : ¬ x < 0 → ev G M_St_closeFrame R E 28 lv rest h cells slots) : ev G M_St_closeFrame R E 25 lv (.int x :: rest) h cells slots := ev_if_lt d_St_closeFrame_25 (by decide) kt kf
theorem d_St_closeFrame_28 : decode prog_7_method_17_code 28 = .ok (.iload_n 2, 1) := by decide +kernel
theorem s_St_closeFrame_28 {x : Int32} (hl : lg lv 2 = some (.int x)) (k : ev G M_St_closeFrame R E 29 lv (.int x :: rest) h cells slots) : ev G M_St_closeFrame R E 28 lv rest h cells slots := ev_iload_n d_St_closeFrame_28 rfl hl k
theorem d_St_closeFrame_29 : decode prog_7_method_17_code 29 = .ok (.bipush 6, 2) := by decide +kernel
theorem s_St_closeFrame_29  (k : ev G M_St_closeFrame R E 31 lv (.int 6 :: rest) h cells slots) : ev G M_St_closeFrame R E 29 lv rest h cells slots := ev_bipush d_St_closeFrame_29 (by decide) k
theorem d_St_closeFrame_31 : decode prog_7_method_17_code 31 = .ok (.if_icmp .lt 4, 3) := by decide +kernel
theorem s_St_closeFrame_31 {x y : Int32} (kt : x < y → ev G M_St_closeFrame R E 35 lv rest h cells slots) (kf : ¬ x < y → ev G M_St_closeFrame R E 34 lv rest h cells slots) : ev G M_St_closeFrame R E 31 lv (.int y :: .int x :: rest) h cells slots := ev_icmp_lt d_St_closeFrame_31 (by decide) kt kf
theorem d_St_closeFrame_34 : decode prog_7_method_17_code 34 = .ok (.return_, 1) := by decide +kernel
theorem s_St_closeFrame_34 {P : Option Value → HP → Prop} {mc ms : Nat} (hP : P none h) (hc : cells ≤ mc ∧ slots ≤ ms) : ev G M_St_closeFrame R (Er M_St_closeFrame P mc ms) 34 lv [] h cells slots := ev_exit ⟨hc.1, hc.2, Or.inl ⟨rfl, d_St_closeFrame_34, rfl, hP⟩⟩
theorem d_St_closeFrame_35 : decode prog_7_method_17_code 35 = .ok (.aload_n 0, 1) := by decide +kernel
theorem s_St_closeFrame_35 {x : Nat} (hl : lg lv 0 = some (.ref x)) (k : ev G M_St_closeFrame R E 36 lv (.ref x :: rest) h cells slots) : ev G M_St_closeFrame R E 35 lv rest h cells slots := ev_aload_n d_St_closeFrame_35 rfl hl k
theorem d_St_closeFrame_36 : decode prog_7_method_17_code 36 = .ok (.bipush 96, 2) := by decide +kernel
theorem s_St_closeFrame_36  (k : ev G M_St_closeFrame R E 38 lv (.int 96 :: rest) h cells slots) : ev G M_St_closeFrame R E 36 lv rest h cells slots := ev_bipush d_St_closeFrame_36 (by decide) k
theorem d_St_closeFrame_38 : decode prog_7_method_17_code 38 = .ok (.iload_n 2, 1) := by decide +kernel
theorem s_St_closeFrame_38 {x : Int32} (hl : lg lv 2 = some (.int x)) (k : ev G M_St_closeFrame R E 39 lv (.int x :: rest) h cells slots) : ev G M_St_closeFrame R E 38 lv rest h cells slots := ev_iload_n d_St_closeFrame_38 rfl hl k
theorem d_St_closeFrame_39 : decode prog_7_method_17_code 39 = .ok (.iadd, 1) := by decide +kernel
theorem s_St_closeFrame_39 {x y : Int32} (k : ev G M_St_closeFrame R E 40 lv (.int (x + y) :: rest) h cells slots) : ev G M_St_closeFrame R E 39 lv (.int y :: .int x :: rest) h cells slots := ev_iadd d_St_closeFrame_39 k
theorem d_St_closeFrame_40 : decode prog_7_method_17_code 40 = .ok (.bipush 7, 2) := by decide +kernel
theorem s_St_closeFrame_40  (k : ev G M_St_closeFrame R E 42 lv (.int 7 :: rest) h cells slots) : ev G M_St_closeFrame R E 40 lv rest h cells slots := ev_bipush d_St_closeFrame_40 (by decide) k
theorem d_St_closeFrame_42 : decode prog_7_method_17_code 42 = .ok (.invokevirtual 88, 3) := by decide +kernel
theorem s_St_closeFrame_42 {mc ms : Nat} {P : Option Value → HP → Prop} {a0 : Int32} {a1 : Int32} {b : Nat} {fs : List Value} {v0 : Value} (hm : mt G M_St_carry 1 mc ms (.ref b :: [.int a0, .int a1]) h P) (hb : h b = mO 5 fs) (hv0 : fs[0]? = some v0) (hR : 1 + 1 ≤ R.frames ∧ 8 + (3 + 11) + 39 * 1 ≤ R.locals) (hcs : cells + mc ≤ R.cells ∧ slots + ms ≤ R.slots) (hrest : (rest.map fun v => v.category).sum ≤ 8) (k : ∀ (r : Option Value) (h' : HP), P r h' → ev G M_St_closeFrame R E 45 lv (r.toList ++ rest) h' (cells + mc) (slots + ms)) : ev G M_St_closeFrame R E 42 lv (.int a1 :: .int a0 :: .ref b :: rest) h cells slots := ev_callV (as := [.int a0, .int a1]) (ci := 5) d_St_closeFrame_42 hm hb hv0 rfl w_408 w_409 w_410 w_65 w_411 hy_St_carry hR hcs hrest k
theorem d_St_closeFrame_45 : decode prog_7_method_17_code 45 = .ok (.aload_n 0, 1) := by decide +kernel
theorem s_St_closeFrame_45 {x : Nat} (hl : lg lv 0 = some (.ref x)) (k : ev G M_St_closeFrame R E 46 lv (.ref x :: rest) h cells slots) : ev G M_St_closeFrame R E 45 lv rest h cells slots := ev_aload_n d_St_closeFrame_45 rfl hl k
theorem d_St_closeFrame_46 : decode prog_7_method_17_code 46 = .ok (.getfield 22, 3) := by decide +kernel
theorem s_St_closeFrame_46 {a : Nat} {fs : List Value} {v : Value} (hh : h a = mO 5 fs) (hv : fs[3]? = some v) (k : ev G M_St_closeFrame R E 49 lv (v :: rest) h cells slots) : ev G M_St_closeFrame R E 46 lv (.ref a :: rest) h cells slots := ev_getfield (ci := 5) (kf := 3) d_St_closeFrame_46 rfl ck5 (by decide) w_108 hh hv k
theorem d_St_closeFrame_49 : decode prog_7_method_17_code 49 = .ok (.iload_n 2, 1) := by decide +kernel
theorem s_St_closeFrame_49 {x : Int32} (hl : lg lv 2 = some (.int x)) (k : ev G M_St_closeFrame R E 50 lv (.int x :: rest) h cells slots) : ev G M_St_closeFrame R E 49 lv rest h cells slots := ev_iload_n d_St_closeFrame_49 rfl hl k
theorem d_St_closeFrame_50 : decode prog_7_method_17_code 50 = .ok (.iconst 1, 1) := by decide +kernel
theorem s_St_closeFrame_50  (k : ev G M_St_closeFrame R E 51 lv (.int 1 :: rest) h cells slots) : ev G M_St_closeFrame R E 50 lv rest h cells slots := ev_iconst d_St_closeFrame_50 (by decide) k
theorem d_St_closeFrame_51 : decode prog_7_method_17_code 51 = .ok (.iastore, 1) := by decide +kernel
theorem s_St_closeFrame_51 {a n : Nat} {f : Nat → Int32} {i : Int32} {x : Int32} (hh : h a = mI 0 n f) (hin : vp_in i n) (k : ev G M_St_closeFrame R E 52 lv rest (va_up h a (mI 0 n (upd f i.toNatClampNeg x))) cells slots) : ev G M_St_closeFrame R E 51 lv (.int x :: .int i :: .ref a :: rest) h cells slots := ev_iastore d_St_closeFrame_51 rfl hh hin k
theorem d_St_closeFrame_52 : decode prog_7_method_17_code 52 = .ok (.aload_n 0, 1) := by decide +kernel
theorem s_St_closeFrame_52 {x : Nat} (hl : lg lv 0 = some (.ref x)) (k : ev G M_St_closeFrame R E 53 lv (.ref x :: rest) h cells slots) : ev G M_St_closeFrame R E 52 lv rest h cells slots := ev_aload_n d_St_closeFrame_52 rfl hl k
theorem d_St_closeFrame_53 : decode prog_7_method_17_code 53 = .ok (.getfield 40, 3) := by decide +kernel
theorem s_St_closeFrame_53 {a : Nat} {fs : List Value} {v : Value} (hh : h a = mO 5 fs) (hv : fs[9]? = some v) (k : ev G M_St_closeFrame R E 56 lv (v :: rest) h cells slots) : ev G M_St_closeFrame R E 53 lv (.ref a :: rest) h cells slots := ev_getfield (ci := 5) (kf := 9) d_St_closeFrame_53 rfl ck5 (by decide) w_117 hh hv k
theorem d_St_closeFrame_56 : decode prog_7_method_17_code 56 = .ok (.iload_n 1, 1) := by decide +kernel
theorem s_St_closeFrame_56 {x : Int32} (hl : lg lv 1 = some (.int x)) (k : ev G M_St_closeFrame R E 57 lv (.int x :: rest) h cells slots) : ev G M_St_closeFrame R E 56 lv rest h cells slots := ev_iload_n d_St_closeFrame_56 rfl hl k
theorem d_St_closeFrame_57 : decode prog_7_method_17_code 57 = .ok (.iaload, 1) := by decide +kernel
theorem s_St_closeFrame_57 {a n : Nat} {f : Nat → Int32} {i : Int32} (hh : h a = mI 0 n f) (hin : vp_in i n) (k : ev G M_St_closeFrame R E 58 lv (.int (f i.toNatClampNeg) :: rest) h cells slots) : ev G M_St_closeFrame R E 57 lv (.int i :: .ref a :: rest) h cells slots := ev_iaload d_St_closeFrame_57 rfl hh hin k
theorem d_St_closeFrame_58 : decode prog_7_method_17_code 58 = .ok (.iconst 1, 1) := by decide +kernel
theorem s_St_closeFrame_58  (k : ev G M_St_closeFrame R E 59 lv (.int 1 :: rest) h cells slots) : ev G M_St_closeFrame R E 58 lv rest h cells slots := ev_iconst d_St_closeFrame_58 (by decide) k
theorem d_St_closeFrame_59 : decode prog_7_method_17_code 59 = .ok (.iadd, 1) := by decide +kernel
theorem s_St_closeFrame_59 {x y : Int32} (k : ev G M_St_closeFrame R E 60 lv (.int (x + y) :: rest) h cells slots) : ev G M_St_closeFrame R E 59 lv (.int y :: .int x :: rest) h cells slots := ev_iadd d_St_closeFrame_59 k
theorem d_St_closeFrame_60 : decode prog_7_method_17_code 60 = .ok (.istore_n 3, 1) := by decide +kernel
theorem s_St_closeFrame_60 {x : Int32} (k : ev G M_St_closeFrame R E 61 (ls1 lv 3 (.int x)) rest h cells slots) : ev G M_St_closeFrame R E 60 lv (.int x :: rest) h cells slots := ev_istore_n d_St_closeFrame_60 rfl (by decide) k
theorem d_St_closeFrame_61 : decode prog_7_method_17_code 61 = .ok (.iload_n 3, 1) := by decide +kernel
theorem s_St_closeFrame_61 {x : Int32} (hl : lg lv 3 = some (.int x)) (k : ev G M_St_closeFrame R E 62 lv (.int x :: rest) h cells slots) : ev G M_St_closeFrame R E 61 lv rest h cells slots := ev_iload_n d_St_closeFrame_61 rfl hl k
theorem d_St_closeFrame_62 : decode prog_7_method_17_code 62 = .ok (.bipush 8, 2) := by decide +kernel
theorem s_St_closeFrame_62  (k : ev G M_St_closeFrame R E 64 lv (.int 8 :: rest) h cells slots) : ev G M_St_closeFrame R E 62 lv rest h cells slots := ev_bipush d_St_closeFrame_62 (by decide) k
theorem d_St_closeFrame_64 : decode prog_7_method_17_code 64 = .ok (.if_icmp .ge 19, 3) := by decide +kernel
theorem s_St_closeFrame_64 {x y : Int32} (kt : y ≤ x → ev G M_St_closeFrame R E 83 lv rest h cells slots) (kf : ¬ y ≤ x → ev G M_St_closeFrame R E 67 lv rest h cells slots) : ev G M_St_closeFrame R E 64 lv (.int y :: .int x :: rest) h cells slots := ev_icmp_ge d_St_closeFrame_64 (by decide) kt kf
theorem d_St_closeFrame_67 : decode prog_7_method_17_code 67 = .ok (.aload_n 0, 1) := by decide +kernel
theorem s_St_closeFrame_67 {x : Nat} (hl : lg lv 0 = some (.ref x)) (k : ev G M_St_closeFrame R E 68 lv (.ref x :: rest) h cells slots) : ev G M_St_closeFrame R E 67 lv rest h cells slots := ev_aload_n d_St_closeFrame_67 rfl hl k
theorem d_St_closeFrame_68 : decode prog_7_method_17_code 68 = .ok (.iload_n 3, 1) := by decide +kernel
theorem s_St_closeFrame_68 {x : Int32} (hl : lg lv 3 = some (.int x)) (k : ev G M_St_closeFrame R E 69 lv (.int x :: rest) h cells slots) : ev G M_St_closeFrame R E 68 lv rest h cells slots := ev_iload_n d_St_closeFrame_68 rfl hl k
theorem d_St_closeFrame_69 : decode prog_7_method_17_code 69 = .ok (.iload_n 1, 1) := by decide +kernel
theorem s_St_closeFrame_69 {x : Int32} (hl : lg lv 1 = some (.int x)) (k : ev G M_St_closeFrame R E 70 lv (.int x :: rest) h cells slots) : ev G M_St_closeFrame R E 69 lv rest h cells slots := ev_iload_n d_St_closeFrame_69 rfl hl k
theorem d_St_closeFrame_70 : decode prog_7_method_17_code 70 = .ok (.iload_n 3, 1) := by decide +kernel
theorem s_St_closeFrame_70 {x : Int32} (hl : lg lv 3 = some (.int x)) (k : ev G M_St_closeFrame R E 71 lv (.int x :: rest) h cells slots) : ev G M_St_closeFrame R E 70 lv rest h cells slots := ev_iload_n d_St_closeFrame_70 rfl hl k
theorem d_St_closeFrame_71 : decode prog_7_method_17_code 71 = .ok (.invokestatic 109, 3) := by decide +kernel
theorem s_St_closeFrame_71 {mc ms : Nat} {P : Option Value → HP → Prop} {a0 : Int32} {a1 : Int32} (hm : mt G M_St_keptPlace 0 mc ms [.int a0, .int a1] h P) (hR : 0 + 1 ≤ R.frames ∧ 8 + (2 + 11) + 39 * 0 ≤ R.locals) (hcs : cells + mc ≤ R.cells ∧ slots + ms ≤ R.slots) (hrest : (rest.map fun v => v.category).sum ≤ 8) (k : ∀ (r : Option Value) (h' : HP), P r h' → ev G M_St_closeFrame R E 74 lv (r.toList ++ rest) h' (cells + mc) (slots + ms)) : ev G M_St_closeFrame R E 71 lv (.int a1 :: .int a0 :: rest) h cells slots := ev_callS (as := [.int a0, .int a1]) d_St_closeFrame_71 hm w_557 w_558 w_65 w_559 hy_St_keptPlace hR hcs hrest k
theorem d_St_closeFrame_74 : decode prog_7_method_17_code 74 = .ok (.invokevirtual 88, 3) := by decide +kernel
theorem s_St_closeFrame_74 {mc ms : Nat} {P : Option Value → HP → Prop} {a0 : Int32} {a1 : Int32} {b : Nat} {fs : List Value} {v0 : Value} (hm : mt G M_St_carry 1 mc ms (.ref b :: [.int a0, .int a1]) h P) (hb : h b = mO 5 fs) (hv0 : fs[0]? = some v0) (hR : 1 + 1 ≤ R.frames ∧ 8 + (3 + 11) + 39 * 1 ≤ R.locals) (hcs : cells + mc ≤ R.cells ∧ slots + ms ≤ R.slots) (hrest : (rest.map fun v => v.category).sum ≤ 8) (k : ∀ (r : Option Value) (h' : HP), P r h' → ev G M_St_closeFrame R E 77 lv (r.toList ++ rest) h' (cells + mc) (slots + ms)) : ev G M_St_closeFrame R E 74 lv (.int a1 :: .int a0 :: .ref b :: rest) h cells slots := ev_callV (as := [.int a0, .int a1]) (ci := 5) d_St_closeFrame_74 hm hb hv0 rfl w_408 w_409 w_410 w_65 w_411 hy_St_carry hR hcs hrest k
theorem d_St_closeFrame_77 : decode prog_7_method_17_code 77 = .ok (.iinc 3 1, 3) := by decide +kernel
theorem s_St_closeFrame_77 {x : Int32} (hl : lg lv 3 = some (.int x)) (k : ev G M_St_closeFrame R E 80 (ls1 lv 3 (.int (x + 1))) rest h cells slots) : ev G M_St_closeFrame R E 77 lv rest h cells slots := ev_iinc d_St_closeFrame_77 (by decide) hl (by decide) k
theorem d_St_closeFrame_80 : decode prog_7_method_17_code 80 = .ok (.goto (-19), 3) := by decide +kernel
theorem s_St_closeFrame_80  (k : ev G M_St_closeFrame R E 61 lv rest h cells slots) : ev G M_St_closeFrame R E 80 lv rest h cells slots := ev_goto d_St_closeFrame_80 (by decide) k
theorem d_St_closeFrame_83 : decode prog_7_method_17_code 83 = .ok (.aload_n 0, 1) := by decide +kernel
theorem s_St_closeFrame_83 {x : Nat} (hl : lg lv 0 = some (.ref x)) (k : ev G M_St_closeFrame R E 84 lv (.ref x :: rest) h cells slots) : ev G M_St_closeFrame R E 83 lv rest h cells slots := ev_aload_n d_St_closeFrame_83 rfl hl k
theorem d_St_closeFrame_84 : decode prog_7_method_17_code 84 = .ok (.iload_n 1, 1) := by decide +kernel
theorem s_St_closeFrame_84 {x : Int32} (hl : lg lv 1 = some (.int x)) (k : ev G M_St_closeFrame R E 85 lv (.int x :: rest) h cells slots) : ev G M_St_closeFrame R E 84 lv rest h cells slots := ev_iload_n d_St_closeFrame_84 rfl hl k
theorem d_St_closeFrame_85 : decode prog_7_method_17_code 85 = .ok (.iconst 0, 1) := by decide +kernel
theorem s_St_closeFrame_85  (k : ev G M_St_closeFrame R E 86 lv (.int 0 :: rest) h cells slots) : ev G M_St_closeFrame R E 85 lv rest h cells slots := ev_iconst d_St_closeFrame_85 (by decide) k
theorem d_St_closeFrame_86 : decode prog_7_method_17_code 86 = .ok (.invokestatic 109, 3) := by decide +kernel
theorem s_St_closeFrame_86 {mc ms : Nat} {P : Option Value → HP → Prop} {a0 : Int32} {a1 : Int32} (hm : mt G M_St_keptPlace 0 mc ms [.int a0, .int a1] h P) (hR : 0 + 1 ≤ R.frames ∧ 8 + (2 + 11) + 39 * 0 ≤ R.locals) (hcs : cells + mc ≤ R.cells ∧ slots + ms ≤ R.slots) (hrest : (rest.map fun v => v.category).sum ≤ 8) (k : ∀ (r : Option Value) (h' : HP), P r h' → ev G M_St_closeFrame R E 89 lv (r.toList ++ rest) h' (cells + mc) (slots + ms)) : ev G M_St_closeFrame R E 86 lv (.int a1 :: .int a0 :: rest) h cells slots := ev_callS (as := [.int a0, .int a1]) d_St_closeFrame_86 hm w_557 w_558 w_65 w_559 hy_St_keptPlace hR hcs hrest k
theorem d_St_closeFrame_89 : decode prog_7_method_17_code 89 = .ok (.lconst 0, 1) := by decide +kernel
theorem s_St_closeFrame_89  (k : ev G M_St_closeFrame R E 90 lv (.long 0 :: rest) h cells slots) : ev G M_St_closeFrame R E 89 lv rest h cells slots := ev_lconst d_St_closeFrame_89 (by decide) k
theorem d_St_closeFrame_90 : decode prog_7_method_17_code 90 = .ok (.invokevirtual 80, 3) := by decide +kernel
theorem s_St_closeFrame_90 {mc ms : Nat} {P : Option Value → HP → Prop} {a0 : Int32} {a1 : Int64} {b : Nat} {fs : List Value} {v0 : Value} (hm : mt G M_St_put 0 mc ms (.ref b :: [.int a0, .long a1]) h P) (hb : h b = mO 5 fs) (hv0 : fs[0]? = some v0) (hR : 0 + 1 ≤ R.frames ∧ 8 + (4 + 11) + 39 * 0 ≤ R.locals) (hcs : cells + mc ≤ R.cells ∧ slots + ms ≤ R.slots) (hrest : (rest.map fun v => v.category).sum ≤ 8) (k : ∀ (r : Option Value) (h' : HP), P r h' → ev G M_St_closeFrame R E 93 lv (r.toList ++ rest) h' (cells + mc) (slots + ms)) : ev G M_St_closeFrame R E 90 lv (.long a1 :: .int a0 :: .ref b :: rest) h cells slots := ev_callV (as := [.int a0, .long a1]) (ci := 5) d_St_closeFrame_90 hm hb hv0 rfl w_412 w_304 w_305 w_65 w_306 hy_St_put hR hcs hrest k
theorem d_St_closeFrame_93 : decode prog_7_method_17_code 93 = .ok (.aload_n 0, 1) := by decide +kernel
theorem s_St_closeFrame_93 {x : Nat} (hl : lg lv 0 = some (.ref x)) (k : ev G M_St_closeFrame R E 94 lv (.ref x :: rest) h cells slots) : ev G M_St_closeFrame R E 93 lv rest h cells slots := ev_aload_n d_St_closeFrame_93 rfl hl k
theorem d_St_closeFrame_94 : decode prog_7_method_17_code 94 = .ok (.aload_n 0, 1) := by decide +kernel
theorem s_St_closeFrame_94 {x : Nat} (hl : lg lv 0 = some (.ref x)) (k : ev G M_St_closeFrame R E 95 lv (.ref x :: rest) h cells slots) : ev G M_St_closeFrame R E 94 lv rest h cells slots := ev_aload_n d_St_closeFrame_94 rfl hl k
theorem d_St_closeFrame_95 : decode prog_7_method_17_code 95 = .ok (.getfield 34, 3) := by decide +kernel
theorem s_St_closeFrame_95 {a : Nat} {fs : List Value} {v : Value} (hh : h a = mO 5 fs) (hv : fs[7]? = some v) (k : ev G M_St_closeFrame R E 98 lv (v :: rest) h cells slots) : ev G M_St_closeFrame R E 95 lv (.ref a :: rest) h cells slots := ev_getfield (ci := 5) (kf := 7) d_St_closeFrame_95 rfl ck5 (by decide) w_115 hh hv k
theorem d_St_closeFrame_98 : decode prog_7_method_17_code 98 = .ok (.iload_n 1, 1) := by decide +kernel
theorem s_St_closeFrame_98 {x : Int32} (hl : lg lv 1 = some (.int x)) (k : ev G M_St_closeFrame R E 99 lv (.int x :: rest) h cells slots) : ev G M_St_closeFrame R E 98 lv rest h cells slots := ev_iload_n d_St_closeFrame_98 rfl hl k
theorem d_St_closeFrame_99 : decode prog_7_method_17_code 99 = .ok (.iaload, 1) := by decide +kernel
theorem s_St_closeFrame_99 {a n : Nat} {f : Nat → Int32} {i : Int32} (hh : h a = mI 0 n f) (hin : vp_in i n) (k : ev G M_St_closeFrame R E 100 lv (.int (f i.toNatClampNeg) :: rest) h cells slots) : ev G M_St_closeFrame R E 99 lv (.int i :: .ref a :: rest) h cells slots := ev_iaload d_St_closeFrame_99 rfl hh hin k
theorem d_St_closeFrame_100 : decode prog_7_method_17_code 100 = .ok (.putfield 47, 3) := by decide +kernel
theorem s_St_closeFrame_100 {x : Int32} {a : Nat} {fs : List Value} (hh : h a = mO 5 fs) (hlen : 11 < fs.length) (k : ev G M_St_closeFrame R E 103 lv rest (va_up h a (mO 5 (fs.set 11 (.int x)))) cells slots) : ev G M_St_closeFrame R E 100 lv (.int x :: .ref a :: rest) h cells slots := ev_putfield (ci := 5) (kf := 11) d_St_closeFrame_100 rfl ck5 (by decide) w_120 rfl hh hlen (fun _ _ => rfl) (fun _ _ => rfl) k
theorem d_St_closeFrame_103 : decode prog_7_method_17_code 103 = .ok (.aload_n 0, 1) := by decide +kernel
theorem s_St_closeFrame_103 {x : Nat} (hl : lg lv 0 = some (.ref x)) (k : ev G M_St_closeFrame R E 104 lv (.ref x :: rest) h cells slots) : ev G M_St_closeFrame R E 103 lv rest h cells slots := ev_aload_n d_St_closeFrame_103 rfl hl k
theorem d_St_closeFrame_104 : decode prog_7_method_17_code 104 = .ok (.aload_n 0, 1) := by decide +kernel
theorem s_St_closeFrame_104 {x : Nat} (hl : lg lv 0 = some (.ref x)) (k : ev G M_St_closeFrame R E 105 lv (.ref x :: rest) h cells slots) : ev G M_St_closeFrame R E 104 lv rest h cells slots := ev_aload_n d_St_closeFrame_104 rfl hl k
theorem d_St_closeFrame_105 : decode prog_7_method_17_code 105 = .ok (.getfield 31, 3) := by decide +kernel
theorem s_St_closeFrame_105 {a : Nat} {fs : List Value} {v : Value} (hh : h a = mO 5 fs) (hv : fs[6]? = some v) (k : ev G M_St_closeFrame R E 108 lv (v :: rest) h cells slots) : ev G M_St_closeFrame R E 105 lv (.ref a :: rest) h cells slots := ev_getfield (ci := 5) (kf := 6) d_St_closeFrame_105 rfl ck5 (by decide) w_114 hh hv k
theorem d_St_closeFrame_108 : decode prog_7_method_17_code 108 = .ok (.iload_n 1, 1) := by decide +kernel
theorem s_St_closeFrame_108 {x : Int32} (hl : lg lv 1 = some (.int x)) (k : ev G M_St_closeFrame R E 109 lv (.int x :: rest) h cells slots) : ev G M_St_closeFrame R E 108 lv rest h cells slots := ev_iload_n d_St_closeFrame_108 rfl hl k
theorem d_St_closeFrame_109 : decode prog_7_method_17_code 109 = .ok (.iaload, 1) := by decide +kernel
theorem s_St_closeFrame_109 {a n : Nat} {f : Nat → Int32} {i : Int32} (hh : h a = mI 0 n f) (hin : vp_in i n) (k : ev G M_St_closeFrame R E 110 lv (.int (f i.toNatClampNeg) :: rest) h cells slots) : ev G M_St_closeFrame R E 109 lv (.int i :: .ref a :: rest) h cells slots := ev_iaload d_St_closeFrame_109 rfl hh hin k
theorem d_St_closeFrame_110 : decode prog_7_method_17_code 110 = .ok (.putfield 50, 3) := by decide +kernel
theorem s_St_closeFrame_110 {x : Int32} {a : Nat} {fs : List Value} (hh : h a = mO 5 fs) (hlen : 12 < fs.length) (k : ev G M_St_closeFrame R E 113 lv rest (va_up h a (mO 5 (fs.set 12 (.int x)))) cells slots) : ev G M_St_closeFrame R E 110 lv (.int x :: .ref a :: rest) h cells slots := ev_putfield (ci := 5) (kf := 12) d_St_closeFrame_110 rfl ck5 (by decide) w_123 rfl hh hlen (fun _ _ => rfl) (fun _ _ => rfl) k
theorem d_St_closeFrame_113 : decode prog_7_method_17_code 113 = .ok (.aload_n 0, 1) := by decide +kernel
theorem s_St_closeFrame_113 {x : Nat} (hl : lg lv 0 = some (.ref x)) (k : ev G M_St_closeFrame R E 114 lv (.ref x :: rest) h cells slots) : ev G M_St_closeFrame R E 113 lv rest h cells slots := ev_aload_n d_St_closeFrame_113 rfl hl k
theorem d_St_closeFrame_114 : decode prog_7_method_17_code 114 = .ok (.iload_n 1, 1) := by decide +kernel
theorem s_St_closeFrame_114 {x : Int32} (hl : lg lv 1 = some (.int x)) (k : ev G M_St_closeFrame R E 115 lv (.int x :: rest) h cells slots) : ev G M_St_closeFrame R E 114 lv rest h cells slots := ev_iload_n d_St_closeFrame_114 rfl hl k
theorem d_St_closeFrame_115 : decode prog_7_method_17_code 115 = .ok (.putfield 43, 3) := by decide +kernel
theorem s_St_closeFrame_115 {x : Int32} {a : Nat} {fs : List Value} (hh : h a = mO 5 fs) (hlen : 10 < fs.length) (k : ev G M_St_closeFrame R E 118 lv rest (va_up h a (mO 5 (fs.set 10 (.int x)))) cells slots) : ev G M_St_closeFrame R E 115 lv (.int x :: .ref a :: rest) h cells slots := ev_putfield (ci := 5) (kf := 10) d_St_closeFrame_115 rfl ck5 (by decide) w_118 rfl hh hlen (fun _ _ => rfl) (fun _ _ => rfl) k
theorem d_St_closeFrame_118 : decode prog_7_method_17_code 118 = .ok (.return_, 1) := by decide +kernel
theorem s_St_closeFrame_118 {P : Option Value → HP → Prop} {mc ms : Nat} (hP : P none h) (hc : cells ≤ mc ∧ slots ≤ ms) : ev G M_St_closeFrame R (Er M_St_closeFrame P mc ms) 118 lv [] h cells slots := ev_exit ⟨hc.1, hc.2, Or.inl ⟨rfl, d_St_closeFrame_118, rfl, hP⟩⟩
abbrev M_Hi_takeBack : MW := (⟨"UseOnceMachine$History", "takeBack", "(LUseOnceMachine$State;I)I"⟩, prog_3_method_4_code, 6, (some .int))
theorem hy_Hi_takeBack : M_Hi_takeBack.1.cls ≠ "java/lang/invoke/MethodHandle" ∧ M_Hi_takeBack.1.cls ≠ "java/lang/invoke/VarHandle" ∧ (parseMethodDescriptor M_Hi_takeBack.1.desc).map (fun d => d.parameters.length) = some 2 := by decide +kernel
theorem d_Hi_takeBack_0 : decode prog_3_method_4_code 0 = .ok (.iload_n 2, 1) := by decide +kernel
theorem s_Hi_takeBack_0 {x : Int32} (hl : lg lv 2 = some (.int x)) (k : ev G M_Hi_takeBack R E 1 lv (.int x :: rest) h cells slots) : ev G M_Hi_takeBack R E 0 lv rest h cells slots := ev_iload_n d_Hi_takeBack_0 rfl hl k
theorem d_Hi_takeBack_1 : decode prog_3_method_4_code 1 = .ok (.aload_n 0, 1) := by decide +kernel
theorem s_Hi_takeBack_1 {x : Nat} (hl : lg lv 0 = some (.ref x)) (k : ev G M_Hi_takeBack R E 2 lv (.ref x :: rest) h cells slots) : ev G M_Hi_takeBack R E 1 lv rest h cells slots := ev_aload_n d_Hi_takeBack_1 rfl hl k
theorem s_Hi_takeBack_1N  (hl : lg lv 0 = some .null) (k : ev G M_Hi_takeBack R E 2 lv (.null :: rest) h cells slots) : ev G M_Hi_takeBack R E 1 lv rest h cells slots := ev_aload_nN d_Hi_takeBack_1 rfl hl k
theorem d_Hi_takeBack_2 : decode prog_3_method_4_code 2 = .ok (.getfield 21, 3) := by decide +kernel
theorem s_Hi_takeBack_2 {a : Nat} {fs : List Value} {v : Value} (hh : h a = mO 1 fs) (hv : fs[2]? = some v) (k : ev G M_Hi_takeBack R E 5 lv (v :: rest) h cells slots) : ev G M_Hi_takeBack R E 2 lv (.ref a :: rest) h cells slots := ev_getfield (ci := 1) (kf := 2) d_Hi_takeBack_2 rfl ck1 (by decide) w_174 hh hv k
theorem d_Hi_takeBack_5 : decode prog_3_method_4_code 5 = .ok (.invokestatic 29, 3) := by decide +kernel
theorem s_Hi_takeBack_5 {mc ms : Nat} {P : Option Value → HP → Prop} {a0 : Int32} {a1 : Int32} (hm : mt G M_Jm_min 0 mc ms [.int a0, .int a1] h P) (hR : 0 + 1 ≤ R.frames ∧ 8 + (2 + 11) + 39 * 0 ≤ R.locals) (hcs : cells + mc ≤ R.cells ∧ slots + ms ≤ R.slots) (hrest : (rest.map fun v => v.category).sum ≤ 8) (k : ∀ (r : Option Value) (h' : HP), P r h' → ev G M_Hi_takeBack R E 8 lv (r.toList ++ rest) h' (cells + mc) (slots + ms)) : ev G M_Hi_takeBack R E 5 lv (.int a1 :: .int a0 :: rest) h cells slots := ev_callS (as := [.int a0, .int a1]) d_Hi_takeBack_5 hm w_328 w_329 w_74 w_330 hy_Jm_min hR hcs hrest k
theorem d_Hi_takeBack_8 : decode prog_3_method_4_code 8 = .ok (.istore_n 3, 1) := by decide +kernel
theorem s_Hi_takeBack_8 {x : Int32} (k : ev G M_Hi_takeBack R E 9 (ls1 lv 3 (.int x)) rest h cells slots) : ev G M_Hi_takeBack R E 8 lv (.int x :: rest) h cells slots := ev_istore_n d_Hi_takeBack_8 rfl (by decide) k
theorem d_Hi_takeBack_9 : decode prog_3_method_4_code 9 = .ok (.aload_n 0, 1) := by decide +kernel
theorem s_Hi_takeBack_9 {x : Nat} (hl : lg lv 0 = some (.ref x)) (k : ev G M_Hi_takeBack R E 10 lv (.ref x :: rest) h cells slots) : ev G M_Hi_takeBack R E 9 lv rest h cells slots := ev_aload_n d_Hi_takeBack_9 rfl hl k
theorem s_Hi_takeBack_9N  (hl : lg lv 0 = some .null) (k : ev G M_Hi_takeBack R E 10 lv (.null :: rest) h cells slots) : ev G M_Hi_takeBack R E 9 lv rest h cells slots := ev_aload_nN d_Hi_takeBack_9 rfl hl k
theorem d_Hi_takeBack_10 : decode prog_3_method_4_code 10 = .ok (.getfield 17, 3) := by decide +kernel
theorem s_Hi_takeBack_10 {a : Nat} {fs : List Value} {v : Value} (hh : h a = mO 1 fs) (hv : fs[1]? = some v) (k : ev G M_Hi_takeBack R E 13 lv (v :: rest) h cells slots) : ev G M_Hi_takeBack R E 10 lv (.ref a :: rest) h cells slots := ev_getfield (ci := 1) (kf := 1) d_Hi_takeBack_10 rfl ck1 (by decide) w_173 hh hv k
theorem d_Hi_takeBack_13 : decode prog_3_method_4_code 13 = .ok (.iload_n 3, 1) := by decide +kernel
theorem s_Hi_takeBack_13 {x : Int32} (hl : lg lv 3 = some (.int x)) (k : ev G M_Hi_takeBack R E 14 lv (.int x :: rest) h cells slots) : ev G M_Hi_takeBack R E 13 lv rest h cells slots := ev_iload_n d_Hi_takeBack_13 rfl hl k
theorem d_Hi_takeBack_14 : decode prog_3_method_4_code 14 = .ok (.isub, 1) := by decide +kernel
theorem s_Hi_takeBack_14 {x y : Int32} (k : ev G M_Hi_takeBack R E 15 lv (.int (x - y) :: rest) h cells slots) : ev G M_Hi_takeBack R E 14 lv (.int y :: .int x :: rest) h cells slots := ev_isub d_Hi_takeBack_14 k
theorem d_Hi_takeBack_15 : decode prog_3_method_4_code 15 = .ok (.bipush 40, 2) := by decide +kernel
theorem s_Hi_takeBack_15  (k : ev G M_Hi_takeBack R E 17 lv (.int 40 :: rest) h cells slots) : ev G M_Hi_takeBack R E 15 lv rest h cells slots := ev_bipush d_Hi_takeBack_15 (by decide) k
theorem d_Hi_takeBack_17 : decode prog_3_method_4_code 17 = .ok (.invokestatic 35, 3) := by decide +kernel
theorem s_Hi_takeBack_17 {mc ms : Nat} {P : Option Value → HP → Prop} {a0 : Int32} {a1 : Int32} (hm : mt G M_Jm_floorMod 0 mc ms [.int a0, .int a1] h P) (hR : 0 + 1 ≤ R.frames ∧ 8 + (3 + 11) + 39 * 0 ≤ R.locals) (hcs : cells + mc ≤ R.cells ∧ slots + ms ≤ R.slots) (hrest : (rest.map fun v => v.category).sum ≤ 8) (k : ∀ (r : Option Value) (h' : HP), P r h' → ev G M_Hi_takeBack R E 20 lv (r.toList ++ rest) h' (cells + mc) (slots + ms)) : ev G M_Hi_takeBack R E 17 lv (.int a1 :: .int a0 :: rest) h cells slots := ev_callS (as := [.int a0, .int a1]) d_Hi_takeBack_17 hm w_585 w_586 w_74 w_587 hy_Jm_floorMod hR hcs hrest k
theorem d_Hi_takeBack_20 : decode prog_3_method_4_code 20 = .ok (.istore 4, 2) := by decide +kernel
theorem s_Hi_takeBack_20 {x : Int32} (k : ev G M_Hi_takeBack R E 22 (ls1 lv 4 (.int x)) rest h cells slots) : ev G M_Hi_takeBack R E 20 lv (.int x :: rest) h cells slots := ev_istore d_Hi_takeBack_20 (by decide) k
theorem d_Hi_takeBack_22 : decode prog_3_method_4_code 22 = .ok (.aload_n 0, 1) := by decide +kernel
theorem s_Hi_takeBack_22 {x : Nat} (hl : lg lv 0 = some (.ref x)) (k : ev G M_Hi_takeBack R E 23 lv (.ref x :: rest) h cells slots) : ev G M_Hi_takeBack R E 22 lv rest h cells slots := ev_aload_n d_Hi_takeBack_22 rfl hl k
theorem s_Hi_takeBack_22N  (hl : lg lv 0 = some .null) (k : ev G M_Hi_takeBack R E 23 lv (.null :: rest) h cells slots) : ev G M_Hi_takeBack R E 22 lv rest h cells slots := ev_aload_nN d_Hi_takeBack_22 rfl hl k
theorem d_Hi_takeBack_23 : decode prog_3_method_4_code 23 = .ok (.getfield 11, 3) := by decide +kernel
theorem s_Hi_takeBack_23 {a : Nat} {fs : List Value} {v : Value} (hh : h a = mO 1 fs) (hv : fs[0]? = some v) (k : ev G M_Hi_takeBack R E 26 lv (v :: rest) h cells slots) : ev G M_Hi_takeBack R E 23 lv (.ref a :: rest) h cells slots := ev_getfield (ci := 1) (kf := 0) d_Hi_takeBack_23 rfl ck1 (by decide) w_172 hh hv k
theorem d_Hi_takeBack_26 : decode prog_3_method_4_code 26 = .ok (.iload 4, 2) := by decide +kernel
theorem s_Hi_takeBack_26 {x : Int32} (hl : lg lv 4 = some (.int x)) (k : ev G M_Hi_takeBack R E 28 lv (.int x :: rest) h cells slots) : ev G M_Hi_takeBack R E 26 lv rest h cells slots := ev_iload d_Hi_takeBack_26 hl k
theorem d_Hi_takeBack_28 : decode prog_3_method_4_code 28 = .ok (.aaload, 1) := by decide +kernel
theorem s_Hi_takeBack_28 {a n : Nat} {f : Nat → Option Nat} {i : Int32} (hh : h a = mR 3 n f) (hin : vp_in i n) (k : ev G M_Hi_takeBack R E 29 lv (orf (f i.toNatClampNeg) :: rest) h cells slots) : ev G M_Hi_takeBack R E 28 lv (.int i :: .ref a :: rest) h cells slots := ev_aaload d_Hi_takeBack_28 rfl hh hin k
theorem d_Hi_takeBack_29 : decode prog_3_method_4_code 29 = .ok (.astore 5, 2) := by decide +kernel
theorem s_Hi_takeBack_29 {x : Nat} (k : ev G M_Hi_takeBack R E 31 (ls1 lv 5 (.ref x)) rest h cells slots) : ev G M_Hi_takeBack R E 29 lv (.ref x :: rest) h cells slots := ev_astore d_Hi_takeBack_29 (by decide) k
theorem s_Hi_takeBack_29N  (k : ev G M_Hi_takeBack R E 31 (ls1 lv 5 .null) rest h cells slots) : ev G M_Hi_takeBack R E 29 lv (.null :: rest) h cells slots := ev_astoreN d_Hi_takeBack_29 (by decide) k
theorem d_Hi_takeBack_31 : decode prog_3_method_4_code 31 = .ok (.iload_n 3, 1) := by decide +kernel
theorem s_Hi_takeBack_31 {x : Int32} (hl : lg lv 3 = some (.int x)) (k : ev G M_Hi_takeBack R E 32 lv (.int x :: rest) h cells slots) : ev G M_Hi_takeBack R E 31 lv rest h cells slots := ev_iload_n d_Hi_takeBack_31 rfl hl k
theorem d_Hi_takeBack_32 : decode prog_3_method_4_code 32 = .ok (.iconst 1, 1) := by decide +kernel
theorem s_Hi_takeBack_32  (k : ev G M_Hi_takeBack R E 33 lv (.int 1 :: rest) h cells slots) : ev G M_Hi_takeBack R E 32 lv rest h cells slots := ev_iconst d_Hi_takeBack_32 (by decide) k
theorem d_Hi_takeBack_33 : decode prog_3_method_4_code 33 = .ok (.if_icmp .lt 8, 3) := by decide +kernel
theorem s_Hi_takeBack_33 {x y : Int32} (kt : x < y → ev G M_Hi_takeBack R E 41 lv rest h cells slots) (kf : ¬ x < y → ev G M_Hi_takeBack R E 36 lv rest h cells slots) : ev G M_Hi_takeBack R E 33 lv (.int y :: .int x :: rest) h cells slots := ev_icmp_lt d_Hi_takeBack_33 (by decide) kt kf
theorem d_Hi_takeBack_36 : decode prog_3_method_4_code 36 = .ok (.aload 5, 2) := by decide +kernel
theorem s_Hi_takeBack_36 {x : Nat} (hl : lg lv 5 = some (.ref x)) (k : ev G M_Hi_takeBack R E 38 lv (.ref x :: rest) h cells slots) : ev G M_Hi_takeBack R E 36 lv rest h cells slots := ev_aload d_Hi_takeBack_36 hl k
theorem s_Hi_takeBack_36N  (hl : lg lv 5 = some .null) (k : ev G M_Hi_takeBack R E 38 lv (.null :: rest) h cells slots) : ev G M_Hi_takeBack R E 36 lv rest h cells slots := ev_aloadN d_Hi_takeBack_36 hl k
theorem d_Hi_takeBack_38 : decode prog_3_method_4_code 38 = .ok (.ifnonnull 5, 3) := by decide +kernel
theorem s_Hi_takeBack_38 {x : Nat} (k : ev G M_Hi_takeBack R E 43 lv rest h cells slots) : ev G M_Hi_takeBack R E 38 lv (.ref x :: rest) h cells slots := ev_ifnonnull (x := x) d_Hi_takeBack_38 (by decide) k
theorem s_Hi_takeBack_38N  (k : ev G M_Hi_takeBack R E 41 lv rest h cells slots) : ev G M_Hi_takeBack R E 38 lv (.null :: rest) h cells slots := ev_ifnonnullN (x := 0) d_Hi_takeBack_38 k
theorem d_Hi_takeBack_41 : decode prog_3_method_4_code 41 = .ok (.iconst 0, 1) := by decide +kernel
theorem s_Hi_takeBack_41  (k : ev G M_Hi_takeBack R E 42 lv (.int 0 :: rest) h cells slots) : ev G M_Hi_takeBack R E 41 lv rest h cells slots := ev_iconst d_Hi_takeBack_41 (by decide) k
theorem d_Hi_takeBack_42 : decode prog_3_method_4_code 42 = .ok (.ireturn, 1) := by decide +kernel
theorem s_Hi_takeBack_42 {P : Option Value → HP → Prop} {mc ms : Nat} {v : Int32} (hP : P (some (.int v)) h) (hc : cells ≤ mc ∧ slots ≤ ms) : ev G M_Hi_takeBack R (Er M_Hi_takeBack P mc ms) 42 lv [.int v] h cells slots := ev_exit ⟨hc.1, hc.2, Or.inr (Or.inl ⟨v, .int, rfl, rfl, d_Hi_takeBack_42, rfl, hP⟩)⟩
theorem d_Hi_takeBack_43 : decode prog_3_method_4_code 43 = .ok (.aload_n 1, 1) := by decide +kernel
theorem s_Hi_takeBack_43 {x : Nat} (hl : lg lv 1 = some (.ref x)) (k : ev G M_Hi_takeBack R E 44 lv (.ref x :: rest) h cells slots) : ev G M_Hi_takeBack R E 43 lv rest h cells slots := ev_aload_n d_Hi_takeBack_43 rfl hl k
theorem s_Hi_takeBack_43N  (hl : lg lv 1 = some .null) (k : ev G M_Hi_takeBack R E 44 lv (.null :: rest) h cells slots) : ev G M_Hi_takeBack R E 43 lv rest h cells slots := ev_aload_nN d_Hi_takeBack_43 rfl hl k
theorem d_Hi_takeBack_44 : decode prog_3_method_4_code 44 = .ok (.aload 5, 2) := by decide +kernel
theorem s_Hi_takeBack_44 {x : Nat} (hl : lg lv 5 = some (.ref x)) (k : ev G M_Hi_takeBack R E 46 lv (.ref x :: rest) h cells slots) : ev G M_Hi_takeBack R E 44 lv rest h cells slots := ev_aload d_Hi_takeBack_44 hl k
theorem s_Hi_takeBack_44N  (hl : lg lv 5 = some .null) (k : ev G M_Hi_takeBack R E 46 lv (.null :: rest) h cells slots) : ev G M_Hi_takeBack R E 44 lv rest h cells slots := ev_aloadN d_Hi_takeBack_44 hl k
theorem d_Hi_takeBack_46 : decode prog_3_method_4_code 46 = .ok (.invokevirtual 25, 3) := by decide +kernel
theorem s_Hi_takeBack_46 {mc ms : Nat} {P : Option Value → HP → Prop} {a0 : Nat} {b : Nat} {fs : List Value} {v0 : Value} (hm : mt G M_St_copyFrom 1 mc ms (.ref b :: [.ref a0]) h P) (hb : h b = mO 5 fs) (hv0 : fs[0]? = some v0) (hR : 1 + 1 ≤ R.frames ∧ 8 + (2 + 11) + 39 * 1 ≤ R.locals) (hcs : cells + mc ≤ R.cells ∧ slots + ms ≤ R.slots) (hrest : (rest.map fun v => v.category).sum ≤ 8) (k : ∀ (r : Option Value) (h' : HP), P r h' → ev G M_Hi_takeBack R E 49 lv (r.toList ++ rest) h' (cells + mc) (slots + ms)) : ev G M_Hi_takeBack R E 46 lv (.ref a0 :: .ref b :: rest) h cells slots := ev_callV (as := [.ref a0]) (ci := 5) d_Hi_takeBack_46 hm hb hv0 rfl w_321 w_322 w_323 w_65 w_324 hy_St_copyFrom hR hcs hrest k
theorem d_Hi_takeBack_49 : decode prog_3_method_4_code 49 = .ok (.aload_n 0, 1) := by decide +kernel
theorem s_Hi_takeBack_49 {x : Nat} (hl : lg lv 0 = some (.ref x)) (k : ev G M_Hi_takeBack R E 50 lv (.ref x :: rest) h cells slots) : ev G M_Hi_takeBack R E 49 lv rest h cells slots := ev_aload_n d_Hi_takeBack_49 rfl hl k
theorem s_Hi_takeBack_49N  (hl : lg lv 0 = some .null) (k : ev G M_Hi_takeBack R E 50 lv (.null :: rest) h cells slots) : ev G M_Hi_takeBack R E 49 lv rest h cells slots := ev_aload_nN d_Hi_takeBack_49 rfl hl k
theorem d_Hi_takeBack_50 : decode prog_3_method_4_code 50 = .ok (.iload 4, 2) := by decide +kernel
theorem s_Hi_takeBack_50 {x : Int32} (hl : lg lv 4 = some (.int x)) (k : ev G M_Hi_takeBack R E 52 lv (.int x :: rest) h cells slots) : ev G M_Hi_takeBack R E 50 lv rest h cells slots := ev_iload d_Hi_takeBack_50 hl k
theorem d_Hi_takeBack_52 : decode prog_3_method_4_code 52 = .ok (.putfield 17, 3) := by decide +kernel
theorem s_Hi_takeBack_52 {x : Int32} {a : Nat} {fs : List Value} (hh : h a = mO 1 fs) (hlen : 1 < fs.length) (k : ev G M_Hi_takeBack R E 55 lv rest (va_up h a (mO 1 (fs.set 1 (.int x)))) cells slots) : ev G M_Hi_takeBack R E 52 lv (.int x :: .ref a :: rest) h cells slots := ev_putfield (ci := 1) (kf := 1) d_Hi_takeBack_52 rfl ck1 (by decide) w_173 rfl hh hlen (fun _ _ => rfl) (fun _ _ => rfl) k
theorem d_Hi_takeBack_55 : decode prog_3_method_4_code 55 = .ok (.aload_n 0, 1) := by decide +kernel
theorem s_Hi_takeBack_55 {x : Nat} (hl : lg lv 0 = some (.ref x)) (k : ev G M_Hi_takeBack R E 56 lv (.ref x :: rest) h cells slots) : ev G M_Hi_takeBack R E 55 lv rest h cells slots := ev_aload_n d_Hi_takeBack_55 rfl hl k
theorem s_Hi_takeBack_55N  (hl : lg lv 0 = some .null) (k : ev G M_Hi_takeBack R E 56 lv (.null :: rest) h cells slots) : ev G M_Hi_takeBack R E 55 lv rest h cells slots := ev_aload_nN d_Hi_takeBack_55 rfl hl k
theorem d_Hi_takeBack_56 : decode prog_3_method_4_code 56 = .ok (.dup, 1) := by decide +kernel
theorem s_Hi_takeBack_56 {va : Value} (hva : va.category = 1) (k : ev G M_Hi_takeBack R E 57 lv (va :: va :: rest) h cells slots) : ev G M_Hi_takeBack R E 56 lv (va :: rest) h cells slots := ev_dup d_Hi_takeBack_56 hva k
theorem d_Hi_takeBack_57 : decode prog_3_method_4_code 57 = .ok (.getfield 21, 3) := by decide +kernel
theorem s_Hi_takeBack_57 {a : Nat} {fs : List Value} {v : Value} (hh : h a = mO 1 fs) (hv : fs[2]? = some v) (k : ev G M_Hi_takeBack R E 60 lv (v :: rest) h cells slots) : ev G M_Hi_takeBack R E 57 lv (.ref a :: rest) h cells slots := ev_getfield (ci := 1) (kf := 2) d_Hi_takeBack_57 rfl ck1 (by decide) w_174 hh hv k
theorem d_Hi_takeBack_60 : decode prog_3_method_4_code 60 = .ok (.iload_n 3, 1) := by decide +kernel
theorem s_Hi_takeBack_60 {x : Int32} (hl : lg lv 3 = some (.int x)) (k : ev G M_Hi_takeBack R E 61 lv (.int x :: rest) h cells slots) : ev G M_Hi_takeBack R E 60 lv rest h cells slots := ev_iload_n d_Hi_takeBack_60 rfl hl k
theorem d_Hi_takeBack_61 : decode prog_3_method_4_code 61 = .ok (.isub, 1) := by decide +kernel
theorem s_Hi_takeBack_61 {x y : Int32} (k : ev G M_Hi_takeBack R E 62 lv (.int (x - y) :: rest) h cells slots) : ev G M_Hi_takeBack R E 61 lv (.int y :: .int x :: rest) h cells slots := ev_isub d_Hi_takeBack_61 k
theorem d_Hi_takeBack_62 : decode prog_3_method_4_code 62 = .ok (.putfield 21, 3) := by decide +kernel
theorem s_Hi_takeBack_62 {x : Int32} {a : Nat} {fs : List Value} (hh : h a = mO 1 fs) (hlen : 2 < fs.length) (k : ev G M_Hi_takeBack R E 65 lv rest (va_up h a (mO 1 (fs.set 2 (.int x)))) cells slots) : ev G M_Hi_takeBack R E 62 lv (.int x :: .ref a :: rest) h cells slots := ev_putfield (ci := 1) (kf := 2) d_Hi_takeBack_62 rfl ck1 (by decide) w_174 rfl hh hlen (fun _ _ => rfl) (fun _ _ => rfl) k
theorem d_Hi_takeBack_65 : decode prog_3_method_4_code 65 = .ok (.iload_n 3, 1) := by decide +kernel
theorem s_Hi_takeBack_65 {x : Int32} (hl : lg lv 3 = some (.int x)) (k : ev G M_Hi_takeBack R E 66 lv (.int x :: rest) h cells slots) : ev G M_Hi_takeBack R E 65 lv rest h cells slots := ev_iload_n d_Hi_takeBack_65 rfl hl k
theorem d_Hi_takeBack_66 : decode prog_3_method_4_code 66 = .ok (.ireturn, 1) := by decide +kernel
theorem s_Hi_takeBack_66 {P : Option Value → HP → Prop} {mc ms : Nat} {v : Int32} (hP : P (some (.int v)) h) (hc : cells ≤ mc ∧ slots ≤ ms) : ev G M_Hi_takeBack R (Er M_Hi_takeBack P mc ms) 66 lv [.int v] h cells slots := ev_exit ⟨hc.1, hc.2, Or.inr (Or.inl ⟨v, .int, rfl, rfl, d_Hi_takeBack_66, rfl, hP⟩)⟩
end SITES

/-! written by gen_sites.py: the decode rows, and one rule a place (method, pc) -/

section SITES
variable {G : GW} {R : Room} {E : Nat → LV → List Value → HP → Nat → Nat → Prop} {lv : LV} {rest : List Value} {h : HP} {cells slots : Nat}
abbrev M_Ow_init : MW := (⟨"UseOnceMachine$Owners", "<init>", "(LUseOnceMachine$State;)V"⟩, prog_4_method_1_code, 2, none)
theorem hy_Ow_init : M_Ow_init.1.cls ≠ "java/lang/invoke/MethodHandle" ∧ M_Ow_init.1.cls ≠ "java/lang/invoke/VarHandle" ∧ (parseMethodDescriptor M_Ow_init.1.desc).map (fun d => d.parameters.length) = some 1 := by decide +kernel
theorem d_Ow_init_0 : decode prog_4_method_1_code 0 = .ok (.aload_n 0, 1) := by decide +kernel
theorem s_Ow_init_0 {x : Nat} (hl : lg lv 0 = some (.ref x)) (k : ev G M_Ow_init R E 1 lv (.ref x :: rest) h cells slots) : ev G M_Ow_init R E 0 lv rest h cells slots := ev_aload_n d_Ow_init_0 rfl hl k
theorem d_Ow_init_1 : decode prog_4_method_1_code 1 = .ok (.invokespecial 3, 3) := by decide +kernel
theorem s_Ow_init_1 {b : Nat} (hfr : 1 ≤ R.frames) (hlo : (rest.map fun v => v.category).sum + 12 ≤ R.locals) (k : ev G M_Ow_init R E 4 lv rest h cells slots) : ev G M_Ow_init R E 1 lv (.ref b :: rest) h cells slots := ev_objInit d_Ow_init_1 w_212 w_82 w_83 hfr hlo k
theorem d_Ow_init_4 : decode prog_4_method_1_code 4 = .ok (.aload_n 0, 1) := by decide +kernel
theorem s_Ow_init_4 {x : Nat} (hl : lg lv 0 = some (.ref x)) (k : ev G M_Ow_init R E 5 lv (.ref x :: rest) h cells slots) : ev G M_Ow_init R E 4 lv rest h cells slots := ev_aload_n d_Ow_init_4 rfl hl k
theorem d_Ow_init_5 : decode prog_4_method_1_code 5 = .ok (.sipush 192, 3) := by decide +kernel
theorem s_Ow_init_5  (k : ev G M_Ow_init R E 8 lv (.int 192 :: rest) h cells slots) : ev G M_Ow_init R E 5 lv rest h cells slots := ev_sipush d_Ow_init_5 (by decide) k
theorem d_Ow_init_8 : decode prog_4_method_1_code 8 = .ok (.newarray .int, 2) := by decide +kernel
theorem s_Ow_init_8 {kn : Nat} (hcl : cells + 1 ≤ R.cells) (hsl : slots + 192 ≤ R.slots) (hf : h kn = mF) (hk : kn < tB) (k : ev G M_Ow_init R E 10 lv (.ref kn :: rest) (va_up h kn (mI 0 192 (fun _ => 0))) (cells + 1) (slots + 192)) : ev G M_Ow_init R E 8 lv (.int 192 :: rest) h cells slots := ev_newarray (t := 0) (c0 := mI 0 192 (fun _ => 0)) (a0 := (192, .inl (fun _ => 0))) d_Ow_init_8 rfl w_97 rfl (fun _ _ _ => rfl) (fun _ => rfl) (fun _ _ h => h) (fun _ => trivial) mI_ne (by decide) (by decide) (by decide) hcl hsl hf hk k
theorem d_Ow_init_10 : decode prog_4_method_1_code 10 = .ok (.putfield 9, 3) := by decide +kernel
theorem s_Ow_init_10 {x : Nat} {a : Nat} {fs : List Value} (hh : h a = mO 2 fs) (hlen : 1 < fs.length) (k : ev G M_Ow_init R E 13 lv rest (va_up h a (mO 2 (fs.set 1 (.ref x)))) cells slots) : ev G M_Ow_init R E 10 lv (.ref x :: .ref a :: rest) h cells slots := ev_putfinal (ci := 2) (kf := 1) d_Ow_init_10 rfl ck2 (by decide) w_214 rfl rfl rfl hh hlen (fun _ _ => rfl) (fun _ _ => rfl) k
theorem d_Ow_init_13 : decode prog_4_method_1_code 13 = .ok (.aload_n 0, 1) := by decide +kernel
theorem s_Ow_init_13 {x : Nat} (hl : lg lv 0 = some (.ref x)) (k : ev G M_Ow_init R E 14 lv (.ref x :: rest) h cells slots) : ev G M_Ow_init R E 13 lv rest h cells slots := ev_aload_n d_Ow_init_13 rfl hl k
theorem d_Ow_init_14 : decode prog_4_method_1_code 14 = .ok (.bipush 48, 2) := by decide +kernel
theorem s_Ow_init_14  (k : ev G M_Ow_init R E 16 lv (.int 48 :: rest) h cells slots) : ev G M_Ow_init R E 14 lv rest h cells slots := ev_bipush d_Ow_init_14 (by decide) k
theorem d_Ow_init_16 : decode prog_4_method_1_code 16 = .ok (.newarray .int, 2) := by decide +kernel
theorem s_Ow_init_16 {kn : Nat} (hcl : cells + 1 ≤ R.cells) (hsl : slots + 48 ≤ R.slots) (hf : h kn = mF) (hk : kn < tB) (k : ev G M_Ow_init R E 18 lv (.ref kn :: rest) (va_up h kn (mI 0 48 (fun _ => 0))) (cells + 1) (slots + 48)) : ev G M_Ow_init R E 16 lv (.int 48 :: rest) h cells slots := ev_newarray (t := 0) (c0 := mI 0 48 (fun _ => 0)) (a0 := (48, .inl (fun _ => 0))) d_Ow_init_16 rfl w_97 rfl (fun _ _ _ => rfl) (fun _ => rfl) (fun _ _ h => h) (fun _ => trivial) mI_ne (by decide) (by decide) (by decide) hcl hsl hf hk k
theorem d_Ow_init_18 : decode prog_4_method_1_code 18 = .ok (.putfield 15, 3) := by decide +kernel
theorem s_Ow_init_18 {x : Nat} {a : Nat} {fs : List Value} (hh : h a = mO 2 fs) (hlen : 2 < fs.length) (k : ev G M_Ow_init R E 21 lv rest (va_up h a (mO 2 (fs.set 2 (.ref x)))) cells slots) : ev G M_Ow_init R E 18 lv (.ref x :: .ref a :: rest) h cells slots := ev_putfinal (ci := 2) (kf := 2) d_Ow_init_18 rfl ck2 (by decide) w_215 rfl rfl rfl hh hlen (fun _ _ => rfl) (fun _ _ => rfl) k
theorem d_Ow_init_21 : decode prog_4_method_1_code 21 = .ok (.aload_n 0, 1) := by decide +kernel
theorem s_Ow_init_21 {x : Nat} (hl : lg lv 0 = some (.ref x)) (k : ev G M_Ow_init R E 22 lv (.ref x :: rest) h cells slots) : ev G M_Ow_init R E 21 lv rest h cells slots := ev_aload_n d_Ow_init_21 rfl hl k
theorem d_Ow_init_22 : decode prog_4_method_1_code 22 = .ok (.bipush 6, 2) := by decide +kernel
theorem s_Ow_init_22  (k : ev G M_Ow_init R E 24 lv (.int 6 :: rest) h cells slots) : ev G M_Ow_init R E 22 lv rest h cells slots := ev_bipush d_Ow_init_22 (by decide) k
theorem d_Ow_init_24 : decode prog_4_method_1_code 24 = .ok (.newarray .int, 2) := by decide +kernel
theorem s_Ow_init_24 {kn : Nat} (hcl : cells + 1 ≤ R.cells) (hsl : slots + 6 ≤ R.slots) (hf : h kn = mF) (hk : kn < tB) (k : ev G M_Ow_init R E 26 lv (.ref kn :: rest) (va_up h kn (mI 0 6 (fun _ => 0))) (cells + 1) (slots + 6)) : ev G M_Ow_init R E 24 lv (.int 6 :: rest) h cells slots := ev_newarray (t := 0) (c0 := mI 0 6 (fun _ => 0)) (a0 := (6, .inl (fun _ => 0))) d_Ow_init_24 rfl w_97 rfl (fun _ _ _ => rfl) (fun _ => rfl) (fun _ _ h => h) (fun _ => trivial) mI_ne (by decide) (by decide) (by decide) hcl hsl hf hk k
theorem d_Ow_init_26 : decode prog_4_method_1_code 26 = .ok (.putfield 18, 3) := by decide +kernel
theorem s_Ow_init_26 {x : Nat} {a : Nat} {fs : List Value} (hh : h a = mO 2 fs) (hlen : 3 < fs.length) (k : ev G M_Ow_init R E 29 lv rest (va_up h a (mO 2 (fs.set 3 (.ref x)))) cells slots) : ev G M_Ow_init R E 26 lv (.ref x :: .ref a :: rest) h cells slots := ev_putfinal (ci := 2) (kf := 3) d_Ow_init_26 rfl ck2 (by decide) w_216 rfl rfl rfl hh hlen (fun _ _ => rfl) (fun _ _ => rfl) k
theorem d_Ow_init_29 : decode prog_4_method_1_code 29 = .ok (.aload_n 0, 1) := by decide +kernel
theorem s_Ow_init_29 {x : Nat} (hl : lg lv 0 = some (.ref x)) (k : ev G M_Ow_init R E 30 lv (.ref x :: rest) h cells slots) : ev G M_Ow_init R E 29 lv rest h cells slots := ev_aload_n d_Ow_init_29 rfl hl k
theorem d_Ow_init_30 : decode prog_4_method_1_code 30 = .ok (.aload_n 1, 1) := by decide +kernel
theorem s_Ow_init_30 {x : Nat} (hl : lg lv 1 = some (.ref x)) (k : ev G M_Ow_init R E 31 lv (.ref x :: rest) h cells slots) : ev G M_Ow_init R E 30 lv rest h cells slots := ev_aload_n d_Ow_init_30 rfl hl k
theorem d_Ow_init_31 : decode prog_4_method_1_code 31 = .ok (.putfield 21, 3) := by decide +kernel
theorem s_Ow_init_31 {x : Nat} {a : Nat} {fs : List Value} (hh : h a = mO 2 fs) (hlen : 0 < fs.length) (k : ev G M_Ow_init R E 34 lv rest (va_up h a (mO 2 (fs.set 0 (.ref x)))) cells slots) : ev G M_Ow_init R E 31 lv (.ref x :: .ref a :: rest) h cells slots := ev_putfinal (ci := 2) (kf := 0) d_Ow_init_31 rfl ck2 (by decide) w_213 rfl rfl rfl hh hlen (fun _ _ => rfl) (fun _ _ => rfl) k
theorem d_Ow_init_34 : decode prog_4_method_1_code 34 = .ok (.return_, 1) := by decide +kernel
theorem s_Ow_init_34 {P : Option Value → HP → Prop} {mc ms : Nat} (hP : P none h) (hc : cells ≤ mc ∧ slots ≤ ms) : ev G M_Ow_init R (Er M_Ow_init P mc ms) 34 lv [] h cells slots := ev_exit ⟨hc.1, hc.2, Or.inl ⟨rfl, d_Ow_init_34, rfl, hP⟩⟩
abbrev M_Re_init : MW := (⟨"UseOnceMachine$Reach", "<init>", "(LUseOnceMachine$State;)V"⟩, prog_6_method_1_code, 2, none)
theorem hy_Re_init : M_Re_init.1.cls ≠ "java/lang/invoke/MethodHandle" ∧ M_Re_init.1.cls ≠ "java/lang/invoke/VarHandle" ∧ (parseMethodDescriptor M_Re_init.1.desc).map (fun d => d.parameters.length) = some 1 := by decide +kernel
theorem d_Re_init_0 : decode prog_6_method_1_code 0 = .ok (.aload_n 0, 1) := by decide +kernel
theorem s_Re_init_0 {x : Nat} (hl : lg lv 0 = some (.ref x)) (k : ev G M_Re_init R E 1 lv (.ref x :: rest) h cells slots) : ev G M_Re_init R E 0 lv rest h cells slots := ev_aload_n d_Re_init_0 rfl hl k
theorem d_Re_init_1 : decode prog_6_method_1_code 1 = .ok (.invokespecial 3, 3) := by decide +kernel
theorem s_Re_init_1 {b : Nat} (hfr : 1 ≤ R.frames) (hlo : (rest.map fun v => v.category).sum + 12 ≤ R.locals) (k : ev G M_Re_init R E 4 lv rest h cells slots) : ev G M_Re_init R E 1 lv (.ref b :: rest) h cells slots := ev_objInit d_Re_init_1 w_231 w_82 w_83 hfr hlo k
theorem d_Re_init_4 : decode prog_6_method_1_code 4 = .ok (.aload_n 0, 1) := by decide +kernel
theorem s_Re_init_4 {x : Nat} (hl : lg lv 0 = some (.ref x)) (k : ev G M_Re_init R E 5 lv (.ref x :: rest) h cells slots) : ev G M_Re_init R E 4 lv rest h cells slots := ev_aload_n d_Re_init_4 rfl hl k
theorem d_Re_init_5 : decode prog_6_method_1_code 5 = .ok (.bipush 48, 2) := by decide +kernel
theorem s_Re_init_5  (k : ev G M_Re_init R E 7 lv (.int 48 :: rest) h cells slots) : ev G M_Re_init R E 5 lv rest h cells slots := ev_bipush d_Re_init_5 (by decide) k
theorem d_Re_init_7 : decode prog_6_method_1_code 7 = .ok (.newarray .boolean, 2) := by decide +kernel
theorem s_Re_init_7 {kn : Nat} (hcl : cells + 1 ≤ R.cells) (hsl : slots + 48 ≤ R.slots) (hf : h kn = mF) (hk : kn < tB) (k : ev G M_Re_init R E 9 lv (.ref kn :: rest) (va_up h kn (mI 2 48 (fun _ => 0))) (cells + 1) (slots + 48)) : ev G M_Re_init R E 7 lv (.int 48 :: rest) h cells slots := ev_newarray (t := 2) (c0 := mI 2 48 (fun _ => 0)) (a0 := (48, .inl (fun _ => 0))) d_Re_init_7 rfl w_248 rfl (fun _ _ _ => rfl) (fun _ => rfl) (fun _ _ h => h) (fun _ => trivial) mI_ne (by decide) (by decide) (by decide) hcl hsl hf hk k
theorem d_Re_init_9 : decode prog_6_method_1_code 9 = .ok (.putfield 9, 3) := by decide +kernel
theorem s_Re_init_9 {x : Nat} {a : Nat} {fs : List Value} (hh : h a = mO 4 fs) (hlen : 1 < fs.length) (k : ev G M_Re_init R E 12 lv rest (va_up h a (mO 4 (fs.set 1 (.ref x)))) cells slots) : ev G M_Re_init R E 9 lv (.ref x :: .ref a :: rest) h cells slots := ev_putfinal (ci := 4) (kf := 1) d_Re_init_9 rfl ck4 (by decide) w_233 rfl rfl rfl hh hlen (fun _ _ => rfl) (fun _ _ => rfl) k
theorem d_Re_init_12 : decode prog_6_method_1_code 12 = .ok (.aload_n 0, 1) := by decide +kernel
theorem s_Re_init_12 {x : Nat} (hl : lg lv 0 = some (.ref x)) (k : ev G M_Re_init R E 13 lv (.ref x :: rest) h cells slots) : ev G M_Re_init R E 12 lv rest h cells slots := ev_aload_n d_Re_init_12 rfl hl k
theorem d_Re_init_13 : decode prog_6_method_1_code 13 = .ok (.bipush 48, 2) := by decide +kernel
theorem s_Re_init_13  (k : ev G M_Re_init R E 15 lv (.int 48 :: rest) h cells slots) : ev G M_Re_init R E 13 lv rest h cells slots := ev_bipush d_Re_init_13 (by decide) k
theorem d_Re_init_15 : decode prog_6_method_1_code 15 = .ok (.newarray .boolean, 2) := by decide +kernel
theorem s_Re_init_15 {kn : Nat} (hcl : cells + 1 ≤ R.cells) (hsl : slots + 48 ≤ R.slots) (hf : h kn = mF) (hk : kn < tB) (k : ev G M_Re_init R E 17 lv (.ref kn :: rest) (va_up h kn (mI 2 48 (fun _ => 0))) (cells + 1) (slots + 48)) : ev G M_Re_init R E 15 lv (.int 48 :: rest) h cells slots := ev_newarray (t := 2) (c0 := mI 2 48 (fun _ => 0)) (a0 := (48, .inl (fun _ => 0))) d_Re_init_15 rfl w_248 rfl (fun _ _ _ => rfl) (fun _ => rfl) (fun _ _ h => h) (fun _ => trivial) mI_ne (by decide) (by decide) (by decide) hcl hsl hf hk k
theorem d_Re_init_17 : decode prog_6_method_1_code 17 = .ok (.putfield 15, 3) := by decide +kernel
theorem s_Re_init_17 {x : Nat} {a : Nat} {fs : List Value} (hh : h a = mO 4 fs) (hlen : 2 < fs.length) (k : ev G M_Re_init R E 20 lv rest (va_up h a (mO 4 (fs.set 2 (.ref x)))) cells slots) : ev G M_Re_init R E 17 lv (.ref x :: .ref a :: rest) h cells slots := ev_putfinal (ci := 4) (kf := 2) d_Re_init_17 rfl ck4 (by decide) w_234 rfl rfl rfl hh hlen (fun _ _ => rfl) (fun _ _ => rfl) k
theorem d_Re_init_20 : decode prog_6_method_1_code 20 = .ok (.aload_n 0, 1) := by decide +kernel
theorem s_Re_init_20 {x : Nat} (hl : lg lv 0 = some (.ref x)) (k : ev G M_Re_init R E 21 lv (.ref x :: rest) h cells slots) : ev G M_Re_init R E 20 lv rest h cells slots := ev_aload_n d_Re_init_20 rfl hl k
theorem d_Re_init_21 : decode prog_6_method_1_code 21 = .ok (.bipush 48, 2) := by decide +kernel
theorem s_Re_init_21  (k : ev G M_Re_init R E 23 lv (.int 48 :: rest) h cells slots) : ev G M_Re_init R E 21 lv rest h cells slots := ev_bipush d_Re_init_21 (by decide) k
theorem d_Re_init_23 : decode prog_6_method_1_code 23 = .ok (.newarray .int, 2) := by decide +kernel
theorem s_Re_init_23 {kn : Nat} (hcl : cells + 1 ≤ R.cells) (hsl : slots + 48 ≤ R.slots) (hf : h kn = mF) (hk : kn < tB) (k : ev G M_Re_init R E 25 lv (.ref kn :: rest) (va_up h kn (mI 0 48 (fun _ => 0))) (cells + 1) (slots + 48)) : ev G M_Re_init R E 23 lv (.int 48 :: rest) h cells slots := ev_newarray (t := 0) (c0 := mI 0 48 (fun _ => 0)) (a0 := (48, .inl (fun _ => 0))) d_Re_init_23 rfl w_97 rfl (fun _ _ _ => rfl) (fun _ => rfl) (fun _ _ h => h) (fun _ => trivial) mI_ne (by decide) (by decide) (by decide) hcl hsl hf hk k
theorem d_Re_init_25 : decode prog_6_method_1_code 25 = .ok (.putfield 18, 3) := by decide +kernel
theorem s_Re_init_25 {x : Nat} {a : Nat} {fs : List Value} (hh : h a = mO 4 fs) (hlen : 3 < fs.length) (k : ev G M_Re_init R E 28 lv rest (va_up h a (mO 4 (fs.set 3 (.ref x)))) cells slots) : ev G M_Re_init R E 25 lv (.ref x :: .ref a :: rest) h cells slots := ev_putfinal (ci := 4) (kf := 3) d_Re_init_25 rfl ck4 (by decide) w_235 rfl rfl rfl hh hlen (fun _ _ => rfl) (fun _ _ => rfl) k
theorem d_Re_init_28 : decode prog_6_method_1_code 28 = .ok (.aload_n 0, 1) := by decide +kernel
theorem s_Re_init_28 {x : Nat} (hl : lg lv 0 = some (.ref x)) (k : ev G M_Re_init R E 29 lv (.ref x :: rest) h cells slots) : ev G M_Re_init R E 28 lv rest h cells slots := ev_aload_n d_Re_init_28 rfl hl k
theorem d_Re_init_29 : decode prog_6_method_1_code 29 = .ok (.iconst 0, 1) := by decide +kernel
theorem s_Re_init_29  (k : ev G M_Re_init R E 30 lv (.int 0 :: rest) h cells slots) : ev G M_Re_init R E 29 lv rest h cells slots := ev_iconst d_Re_init_29 (by decide) k
theorem d_Re_init_30 : decode prog_6_method_1_code 30 = .ok (.putfield 22, 3) := by decide +kernel
theorem s_Re_init_30 {x : Int32} {a : Nat} {fs : List Value} (hh : h a = mO 4 fs) (hlen : 4 < fs.length) (k : ev G M_Re_init R E 33 lv rest (va_up h a (mO 4 (fs.set 4 (.int x)))) cells slots) : ev G M_Re_init R E 30 lv (.int x :: .ref a :: rest) h cells slots := ev_putfield (ci := 4) (kf := 4) d_Re_init_30 rfl ck4 (by decide) w_236 rfl hh hlen (fun _ _ => rfl) (fun _ _ => rfl) k
theorem d_Re_init_33 : decode prog_6_method_1_code 33 = .ok (.aload_n 0, 1) := by decide +kernel
theorem s_Re_init_33 {x : Nat} (hl : lg lv 0 = some (.ref x)) (k : ev G M_Re_init R E 34 lv (.ref x :: rest) h cells slots) : ev G M_Re_init R E 33 lv rest h cells slots := ev_aload_n d_Re_init_33 rfl hl k
theorem d_Re_init_34 : decode prog_6_method_1_code 34 = .ok (.aload_n 1, 1) := by decide +kernel
theorem s_Re_init_34 {x : Nat} (hl : lg lv 1 = some (.ref x)) (k : ev G M_Re_init R E 35 lv (.ref x :: rest) h cells slots) : ev G M_Re_init R E 34 lv rest h cells slots := ev_aload_n d_Re_init_34 rfl hl k
theorem d_Re_init_35 : decode prog_6_method_1_code 35 = .ok (.putfield 26, 3) := by decide +kernel
theorem s_Re_init_35 {x : Nat} {a : Nat} {fs : List Value} (hh : h a = mO 4 fs) (hlen : 0 < fs.length) (k : ev G M_Re_init R E 38 lv rest (va_up h a (mO 4 (fs.set 0 (.ref x)))) cells slots) : ev G M_Re_init R E 35 lv (.ref x :: .ref a :: rest) h cells slots := ev_putfinal (ci := 4) (kf := 0) d_Re_init_35 rfl ck4 (by decide) w_232 rfl rfl rfl hh hlen (fun _ _ => rfl) (fun _ _ => rfl) k
theorem d_Re_init_38 : decode prog_6_method_1_code 38 = .ok (.return_, 1) := by decide +kernel
theorem s_Re_init_38 {P : Option Value → HP → Prop} {mc ms : Nat} (hP : P none h) (hc : cells ≤ mc ∧ slots ≤ ms) : ev G M_Re_init R (Er M_Re_init P mc ms) 38 lv [] h cells slots := ev_exit ⟨hc.1, hc.2, Or.inl ⟨rfl, d_Re_init_38, rfl, hP⟩⟩
abbrev M_Um_init : MW := (⟨"UseOnceMachine", "<init>", "()V"⟩, prog_1_method_1_code, 1, none)
theorem hy_Um_init : M_Um_init.1.cls ≠ "java/lang/invoke/MethodHandle" ∧ M_Um_init.1.cls ≠ "java/lang/invoke/VarHandle" ∧ (parseMethodDescriptor M_Um_init.1.desc).map (fun d => d.parameters.length) = some 0 := by decide +kernel
theorem d_Um_init_0 : decode prog_1_method_1_code 0 = .ok (.aload_n 0, 1) := by decide +kernel
theorem s_Um_init_0 {x : Nat} (hl : lg lv 0 = some (.ref x)) (k : ev G M_Um_init R E 1 lv (.ref x :: rest) h cells slots) : ev G M_Um_init R E 0 lv rest h cells slots := ev_aload_n d_Um_init_0 rfl hl k
theorem d_Um_init_1 : decode prog_1_method_1_code 1 = .ok (.invokespecial 3, 3) := by decide +kernel
theorem s_Um_init_1 {b : Nat} (hfr : 1 ≤ R.frames) (hlo : (rest.map fun v => v.category).sum + 12 ≤ R.locals) (k : ev G M_Um_init R E 4 lv rest h cells slots) : ev G M_Um_init R E 1 lv (.ref b :: rest) h cells slots := ev_objInit d_Um_init_1 w_81 w_82 w_83 hfr hlo k
theorem d_Um_init_4 : decode prog_1_method_1_code 4 = .ok (.aload_n 0, 1) := by decide +kernel
theorem s_Um_init_4 {x : Nat} (hl : lg lv 0 = some (.ref x)) (k : ev G M_Um_init R E 5 lv (.ref x :: rest) h cells slots) : ev G M_Um_init R E 4 lv rest h cells slots := ev_aload_n d_Um_init_4 rfl hl k
theorem d_Um_init_5 : decode prog_1_method_1_code 5 = .ok (.new 9, 3) := by decide +kernel
theorem s_Um_init_5 {kn : Nat} (hcl : cells + 1 ≤ R.cells) (hsl : slots + 2 ≤ R.slots) (hf : h kn = mF) (hk : kn < tB) (k : ev G M_Um_init R E 8 lv (.ref kn :: rest) (va_up h kn (mO 0 [.null, .null])) (cells + 1) (slots + 2)) : ev G M_Um_init R E 5 lv rest h cells slots := ev_new (ci := 0) d_Um_init_5 rfl ck0 w_84 w_85 w_64 (by decide +kernel) (fun _ _ => rfl) (okl_dec rfl) rfl hcl hsl hf hk k
theorem d_Um_init_8 : decode prog_1_method_1_code 8 = .ok (.dup, 1) := by decide +kernel
theorem s_Um_init_8 {va : Value} (hva : va.category = 1) (k : ev G M_Um_init R E 9 lv (va :: va :: rest) h cells slots) : ev G M_Um_init R E 8 lv (va :: rest) h cells slots := ev_dup d_Um_init_8 hva k
theorem d_Um_init_9 : decode prog_1_method_1_code 9 = .ok (.invokespecial 11, 3) := by decide +kernel
theorem s_Um_init_9 {mc ms : Nat} {P : Option Value → HP → Prop}  {b : Nat} (hm : mt G M_Co_init 1 mc ms (.ref b :: []) h P) (hR : 1 + 1 ≤ R.frames ∧ 8 + (1 + 11) + 39 * 1 ≤ R.locals) (hcs : cells + mc ≤ R.cells ∧ slots + ms ≤ R.slots) (hrest : (rest.map fun v => v.category).sum ≤ 8) (k : ∀ (r : Option Value) (h' : HP), P r h' → ev G M_Um_init R E 12 lv (r.toList ++ rest) h' (cells + mc) (slots + ms)) : ev G M_Um_init R E 9 lv (.ref b :: rest) h cells slots := ev_callIN (as := []) (host := "UseOnceMachine") d_Um_init_9 hm (by simp) rfl w_87 w_64 w_88 hy_Co_init hR hcs hrest k
theorem d_Um_init_12 : decode prog_1_method_1_code 12 = .ok (.putfield 12, 3) := by decide +kernel
theorem s_Um_init_12 {x : Nat} {a : Nat} {fs : List Value} (hh : h a = mO 6 fs) (hlen : 0 < fs.length) (k : ev G M_Um_init R E 15 lv rest (va_up h a (mO 6 (fs.set 0 (.ref x)))) cells slots) : ev G M_Um_init R E 12 lv (.ref x :: .ref a :: rest) h cells slots := ev_putfinal (ci := 6) (kf := 0) d_Um_init_12 rfl ck6 (by decide) w_249 rfl rfl rfl hh hlen (fun _ _ => rfl) (fun _ _ => rfl) k
theorem d_Um_init_15 : decode prog_1_method_1_code 15 = .ok (.aload_n 0, 1) := by decide +kernel
theorem s_Um_init_15 {x : Nat} (hl : lg lv 0 = some (.ref x)) (k : ev G M_Um_init R E 16 lv (.ref x :: rest) h cells slots) : ev G M_Um_init R E 15 lv rest h cells slots := ev_aload_n d_Um_init_15 rfl hl k
theorem d_Um_init_16 : decode prog_1_method_1_code 16 = .ok (.new 16, 3) := by decide +kernel
theorem s_Um_init_16 {kn : Nat} (hcl : cells + 1 ≤ R.cells) (hsl : slots + 15 ≤ R.slots) (hf : h kn = mF) (hk : kn < tB) (k : ev G M_Um_init R E 19 lv (.ref kn :: rest) (va_up h kn (mO 5 [.null, .null, .null, .null, .null, .null, .null, .null, .null, .null, .int 0, .int 0, .int 0, .int 0, .int 0])) (cells + 1) (slots + 15)) : ev G M_Um_init R E 16 lv rest h cells slots := ev_new (ci := 5) d_Um_init_16 rfl ck5 w_98 w_99 w_65 (by decide +kernel) (fun _ _ => rfl) (okl_dec rfl) rfl hcl hsl hf hk k
theorem d_Um_init_19 : decode prog_1_method_1_code 19 = .ok (.dup, 1) := by decide +kernel
theorem s_Um_init_19 {va : Value} (hva : va.category = 1) (k : ev G M_Um_init R E 20 lv (va :: va :: rest) h cells slots) : ev G M_Um_init R E 19 lv (va :: rest) h cells slots := ev_dup d_Um_init_19 hva k
theorem d_Um_init_20 : decode prog_1_method_1_code 20 = .ok (.invokespecial 18, 3) := by decide +kernel
theorem s_Um_init_20 {mc ms : Nat} {P : Option Value → HP → Prop}  {b : Nat} (hm : mt G M_St_init 1 mc ms (.ref b :: []) h P) (hR : 1 + 1 ≤ R.frames ∧ 8 + (1 + 11) + 39 * 1 ≤ R.locals) (hcs : cells + mc ≤ R.cells ∧ slots + ms ≤ R.slots) (hrest : (rest.map fun v => v.category).sum ≤ 8) (k : ∀ (r : Option Value) (h' : HP), P r h' → ev G M_Um_init R E 23 lv (r.toList ++ rest) h' (cells + mc) (slots + ms)) : ev G M_Um_init R E 20 lv (.ref b :: rest) h cells slots := ev_callIN (as := []) (host := "UseOnceMachine") d_Um_init_20 hm (by simp) rfl w_101 w_65 w_102 hy_St_init hR hcs hrest k
theorem d_Um_init_23 : decode prog_1_method_1_code 23 = .ok (.putfield 19, 3) := by decide +kernel
theorem s_Um_init_23 {x : Nat} {a : Nat} {fs : List Value} (hh : h a = mO 6 fs) (hlen : 1 < fs.length) (k : ev G M_Um_init R E 26 lv rest (va_up h a (mO 6 (fs.set 1 (.ref x)))) cells slots) : ev G M_Um_init R E 23 lv (.ref x :: .ref a :: rest) h cells slots := ev_putfinal (ci := 6) (kf := 1) d_Um_init_23 rfl ck6 (by decide) w_250 rfl rfl rfl hh hlen (fun _ _ => rfl) (fun _ _ => rfl) k
theorem d_Um_init_26 : decode prog_1_method_1_code 26 = .ok (.aload_n 0, 1) := by decide +kernel
theorem s_Um_init_26 {x : Nat} (hl : lg lv 0 = some (.ref x)) (k : ev G M_Um_init R E 27 lv (.ref x :: rest) h cells slots) : ev G M_Um_init R E 26 lv rest h cells slots := ev_aload_n d_Um_init_26 rfl hl k
theorem d_Um_init_27 : decode prog_1_method_1_code 27 = .ok (.new 23, 3) := by decide +kernel
theorem s_Um_init_27 {kn : Nat} (hcl : cells + 1 ≤ R.cells) (hsl : slots + 3 ≤ R.slots) (hf : h kn = mF) (hk : kn < tB) (k : ev G M_Um_init R E 30 lv (.ref kn :: rest) (va_up h kn (mO 1 [.null, .int 0, .int 0])) (cells + 1) (slots + 3)) : ev G M_Um_init R E 27 lv rest h cells slots := ev_new (ci := 1) d_Um_init_27 rfl ck1 w_164 w_165 w_66 (by decide +kernel) (fun _ _ => rfl) (okl_dec rfl) rfl hcl hsl hf hk k
theorem d_Um_init_30 : decode prog_1_method_1_code 30 = .ok (.dup, 1) := by decide +kernel
theorem s_Um_init_30 {va : Value} (hva : va.category = 1) (k : ev G M_Um_init R E 31 lv (va :: va :: rest) h cells slots) : ev G M_Um_init R E 30 lv (va :: rest) h cells slots := ev_dup d_Um_init_30 hva k
theorem d_Um_init_31 : decode prog_1_method_1_code 31 = .ok (.invokespecial 25, 3) := by decide +kernel
theorem s_Um_init_31 {mc ms : Nat} {P : Option Value → HP → Prop}  {b : Nat} (hm : mt G M_Hi_init 1 mc ms (.ref b :: []) h P) (hR : 1 + 1 ≤ R.frames ∧ 8 + (1 + 11) + 39 * 1 ≤ R.locals) (hcs : cells + mc ≤ R.cells ∧ slots + ms ≤ R.slots) (hrest : (rest.map fun v => v.category).sum ≤ 8) (k : ∀ (r : Option Value) (h' : HP), P r h' → ev G M_Um_init R E 34 lv (r.toList ++ rest) h' (cells + mc) (slots + ms)) : ev G M_Um_init R E 31 lv (.ref b :: rest) h cells slots := ev_callIN (as := []) (host := "UseOnceMachine") d_Um_init_31 hm (by simp) rfl w_167 w_66 w_168 hy_Hi_init hR hcs hrest k
theorem d_Um_init_34 : decode prog_1_method_1_code 34 = .ok (.putfield 26, 3) := by decide +kernel
theorem s_Um_init_34 {x : Nat} {a : Nat} {fs : List Value} (hh : h a = mO 6 fs) (hlen : 2 < fs.length) (k : ev G M_Um_init R E 37 lv rest (va_up h a (mO 6 (fs.set 2 (.ref x)))) cells slots) : ev G M_Um_init R E 34 lv (.ref x :: .ref a :: rest) h cells slots := ev_putfinal (ci := 6) (kf := 2) d_Um_init_34 rfl ck6 (by decide) w_251 rfl rfl rfl hh hlen (fun _ _ => rfl) (fun _ _ => rfl) k
theorem d_Um_init_37 : decode prog_1_method_1_code 37 = .ok (.aload_n 0, 1) := by decide +kernel
theorem s_Um_init_37 {x : Nat} (hl : lg lv 0 = some (.ref x)) (k : ev G M_Um_init R E 38 lv (.ref x :: rest) h cells slots) : ev G M_Um_init R E 37 lv rest h cells slots := ev_aload_n d_Um_init_37 rfl hl k
theorem d_Um_init_38 : decode prog_1_method_1_code 38 = .ok (.new 30, 3) := by decide +kernel
theorem s_Um_init_38 {kn : Nat} (hcl : cells + 1 ≤ R.cells) (hsl : slots + 6 ≤ R.slots) (hf : h kn = mF) (hk : kn < tB) (k : ev G M_Um_init R E 41 lv (.ref kn :: rest) (va_up h kn (mO 3 [.null, .null, .int 0, .int 0, .int 0, .int 0])) (cells + 1) (slots + 6)) : ev G M_Um_init R E 38 lv rest h cells slots := ev_new (ci := 3) d_Um_init_38 rfl ck3 w_182 w_183 w_67 (by decide +kernel) (fun _ _ => rfl) (okl_dec rfl) rfl hcl hsl hf hk k
theorem d_Um_init_41 : decode prog_1_method_1_code 41 = .ok (.dup, 1) := by decide +kernel
theorem s_Um_init_41 {va : Value} (hva : va.category = 1) (k : ev G M_Um_init R E 42 lv (va :: va :: rest) h cells slots) : ev G M_Um_init R E 41 lv (va :: rest) h cells slots := ev_dup d_Um_init_41 hva k
theorem d_Um_init_42 : decode prog_1_method_1_code 42 = .ok (.aload_n 0, 1) := by decide +kernel
theorem s_Um_init_42 {x : Nat} (hl : lg lv 0 = some (.ref x)) (k : ev G M_Um_init R E 43 lv (.ref x :: rest) h cells slots) : ev G M_Um_init R E 42 lv rest h cells slots := ev_aload_n d_Um_init_42 rfl hl k
theorem d_Um_init_43 : decode prog_1_method_1_code 43 = .ok (.getfield 12, 3) := by decide +kernel
theorem s_Um_init_43 {a : Nat} {fs : List Value} {v : Value} (hh : h a = mO 6 fs) (hv : fs[0]? = some v) (k : ev G M_Um_init R E 46 lv (v :: rest) h cells slots) : ev G M_Um_init R E 43 lv (.ref a :: rest) h cells slots := ev_getfield (ci := 6) (kf := 0) d_Um_init_43 rfl ck6 (by decide) w_249 hh hv k
theorem d_Um_init_46 : decode prog_1_method_1_code 46 = .ok (.aload_n 0, 1) := by decide +kernel
theorem s_Um_init_46 {x : Nat} (hl : lg lv 0 = some (.ref x)) (k : ev G M_Um_init R E 47 lv (.ref x :: rest) h cells slots) : ev G M_Um_init R E 46 lv rest h cells slots := ev_aload_n d_Um_init_46 rfl hl k
theorem d_Um_init_47 : decode prog_1_method_1_code 47 = .ok (.getfield 19, 3) := by decide +kernel
theorem s_Um_init_47 {a : Nat} {fs : List Value} {v : Value} (hh : h a = mO 6 fs) (hv : fs[1]? = some v) (k : ev G M_Um_init R E 50 lv (v :: rest) h cells slots) : ev G M_Um_init R E 47 lv (.ref a :: rest) h cells slots := ev_getfield (ci := 6) (kf := 1) d_Um_init_47 rfl ck6 (by decide) w_250 hh hv k
theorem d_Um_init_50 : decode prog_1_method_1_code 50 = .ok (.invokespecial 32, 3) := by decide +kernel
theorem s_Um_init_50 {mc ms : Nat} {P : Option Value → HP → Prop} {a0 : Nat} {a1 : Nat} {b : Nat} (hm : mt G M_Pr_init 1 mc ms (.ref b :: [.ref a0, .ref a1]) h P) (hR : 1 + 1 ≤ R.frames ∧ 8 + (3 + 11) + 39 * 1 ≤ R.locals) (hcs : cells + mc ≤ R.cells ∧ slots + ms ≤ R.slots) (hrest : (rest.map fun v => v.category).sum ≤ 8) (k : ∀ (r : Option Value) (h' : HP), P r h' → ev G M_Um_init R E 53 lv (r.toList ++ rest) h' (cells + mc) (slots + ms)) : ev G M_Um_init R E 50 lv (.ref a1 :: .ref a0 :: .ref b :: rest) h cells slots := ev_callI (as := [.ref a0, .ref a1]) d_Um_init_50 hm w_184 rfl w_185 w_67 w_186 hy_Pr_init hR hcs hrest k
theorem d_Um_init_53 : decode prog_1_method_1_code 53 = .ok (.putfield 35, 3) := by decide +kernel
theorem s_Um_init_53 {x : Nat} {a : Nat} {fs : List Value} (hh : h a = mO 6 fs) (hlen : 3 < fs.length) (k : ev G M_Um_init R E 56 lv rest (va_up h a (mO 6 (fs.set 3 (.ref x)))) cells slots) : ev G M_Um_init R E 53 lv (.ref x :: .ref a :: rest) h cells slots := ev_putfinal (ci := 6) (kf := 3) d_Um_init_53 rfl ck6 (by decide) w_252 rfl rfl rfl hh hlen (fun _ _ => rfl) (fun _ _ => rfl) k
theorem d_Um_init_56 : decode prog_1_method_1_code 56 = .ok (.aload_n 0, 1) := by decide +kernel
theorem s_Um_init_56 {x : Nat} (hl : lg lv 0 = some (.ref x)) (k : ev G M_Um_init R E 57 lv (.ref x :: rest) h cells slots) : ev G M_Um_init R E 56 lv rest h cells slots := ev_aload_n d_Um_init_56 rfl hl k
theorem d_Um_init_57 : decode prog_1_method_1_code 57 = .ok (.new 39, 3) := by decide +kernel
theorem s_Um_init_57 {kn : Nat} (hcl : cells + 1 ≤ R.cells) (hsl : slots + 4 ≤ R.slots) (hf : h kn = mF) (hk : kn < tB) (k : ev G M_Um_init R E 60 lv (.ref kn :: rest) (va_up h kn (mO 2 [.null, .null, .null, .null])) (cells + 1) (slots + 4)) : ev G M_Um_init R E 57 lv rest h cells slots := ev_new (ci := 2) d_Um_init_57 rfl ck2 w_207 w_208 w_68 (by decide +kernel) (fun _ _ => rfl) (okl_dec rfl) rfl hcl hsl hf hk k
theorem d_Um_init_60 : decode prog_1_method_1_code 60 = .ok (.dup, 1) := by decide +kernel
theorem s_Um_init_60 {va : Value} (hva : va.category = 1) (k : ev G M_Um_init R E 61 lv (va :: va :: rest) h cells slots) : ev G M_Um_init R E 60 lv (va :: rest) h cells slots := ev_dup d_Um_init_60 hva k
theorem d_Um_init_61 : decode prog_1_method_1_code 61 = .ok (.aload_n 0, 1) := by decide +kernel
theorem s_Um_init_61 {x : Nat} (hl : lg lv 0 = some (.ref x)) (k : ev G M_Um_init R E 62 lv (.ref x :: rest) h cells slots) : ev G M_Um_init R E 61 lv rest h cells slots := ev_aload_n d_Um_init_61 rfl hl k
theorem d_Um_init_62 : decode prog_1_method_1_code 62 = .ok (.getfield 19, 3) := by decide +kernel
theorem s_Um_init_62 {a : Nat} {fs : List Value} {v : Value} (hh : h a = mO 6 fs) (hv : fs[1]? = some v) (k : ev G M_Um_init R E 65 lv (v :: rest) h cells slots) : ev G M_Um_init R E 62 lv (.ref a :: rest) h cells slots := ev_getfield (ci := 6) (kf := 1) d_Um_init_62 rfl ck6 (by decide) w_250 hh hv k
theorem d_Um_init_65 : decode prog_1_method_1_code 65 = .ok (.invokespecial 41, 3) := by decide +kernel
theorem s_Um_init_65 {mc ms : Nat} {P : Option Value → HP → Prop} {a0 : Nat} {b : Nat} (hm : mt G M_Ow_init 1 mc ms (.ref b :: [.ref a0]) h P) (hR : 1 + 1 ≤ R.frames ∧ 8 + (2 + 11) + 39 * 1 ≤ R.locals) (hcs : cells + mc ≤ R.cells ∧ slots + ms ≤ R.slots) (hrest : (rest.map fun v => v.category).sum ≤ 8) (k : ∀ (r : Option Value) (h' : HP), P r h' → ev G M_Um_init R E 68 lv (r.toList ++ rest) h' (cells + mc) (slots + ms)) : ev G M_Um_init R E 65 lv (.ref a0 :: .ref b :: rest) h cells slots := ev_callI (as := [.ref a0]) d_Um_init_65 hm w_209 rfl w_210 w_68 w_211 hy_Ow_init hR hcs hrest k
theorem d_Um_init_68 : decode prog_1_method_1_code 68 = .ok (.putfield 44, 3) := by decide +kernel
theorem s_Um_init_68 {x : Nat} {a : Nat} {fs : List Value} (hh : h a = mO 6 fs) (hlen : 4 < fs.length) (k : ev G M_Um_init R E 71 lv rest (va_up h a (mO 6 (fs.set 4 (.ref x)))) cells slots) : ev G M_Um_init R E 68 lv (.ref x :: .ref a :: rest) h cells slots := ev_putfinal (ci := 6) (kf := 4) d_Um_init_68 rfl ck6 (by decide) w_253 rfl rfl rfl hh hlen (fun _ _ => rfl) (fun _ _ => rfl) k
theorem d_Um_init_71 : decode prog_1_method_1_code 71 = .ok (.aload_n 0, 1) := by decide +kernel
theorem s_Um_init_71 {x : Nat} (hl : lg lv 0 = some (.ref x)) (k : ev G M_Um_init R E 72 lv (.ref x :: rest) h cells slots) : ev G M_Um_init R E 71 lv rest h cells slots := ev_aload_n d_Um_init_71 rfl hl k
theorem d_Um_init_72 : decode prog_1_method_1_code 72 = .ok (.new 48, 3) := by decide +kernel
theorem s_Um_init_72 {kn : Nat} (hcl : cells + 1 ≤ R.cells) (hsl : slots + 5 ≤ R.slots) (hf : h kn = mF) (hk : kn < tB) (k : ev G M_Um_init R E 75 lv (.ref kn :: rest) (va_up h kn (mO 4 [.null, .null, .null, .null, .int 0])) (cells + 1) (slots + 5)) : ev G M_Um_init R E 72 lv rest h cells slots := ev_new (ci := 4) d_Um_init_72 rfl ck4 w_226 w_227 w_69 (by decide +kernel) (fun _ _ => rfl) (okl_dec rfl) rfl hcl hsl hf hk k
theorem d_Um_init_75 : decode prog_1_method_1_code 75 = .ok (.dup, 1) := by decide +kernel
theorem s_Um_init_75 {va : Value} (hva : va.category = 1) (k : ev G M_Um_init R E 76 lv (va :: va :: rest) h cells slots) : ev G M_Um_init R E 75 lv (va :: rest) h cells slots := ev_dup d_Um_init_75 hva k
theorem d_Um_init_76 : decode prog_1_method_1_code 76 = .ok (.aload_n 0, 1) := by decide +kernel
theorem s_Um_init_76 {x : Nat} (hl : lg lv 0 = some (.ref x)) (k : ev G M_Um_init R E 77 lv (.ref x :: rest) h cells slots) : ev G M_Um_init R E 76 lv rest h cells slots := ev_aload_n d_Um_init_76 rfl hl k
theorem d_Um_init_77 : decode prog_1_method_1_code 77 = .ok (.getfield 19, 3) := by decide +kernel
theorem s_Um_init_77 {a : Nat} {fs : List Value} {v : Value} (hh : h a = mO 6 fs) (hv : fs[1]? = some v) (k : ev G M_Um_init R E 80 lv (v :: rest) h cells slots) : ev G M_Um_init R E 77 lv (.ref a :: rest) h cells slots := ev_getfield (ci := 6) (kf := 1) d_Um_init_77 rfl ck6 (by decide) w_250 hh hv k
theorem d_Um_init_80 : decode prog_1_method_1_code 80 = .ok (.invokespecial 50, 3) := by decide +kernel
theorem s_Um_init_80 {mc ms : Nat} {P : Option Value → HP → Prop} {a0 : Nat} {b : Nat} (hm : mt G M_Re_init 1 mc ms (.ref b :: [.ref a0]) h P) (hR : 1 + 1 ≤ R.frames ∧ 8 + (2 + 11) + 39 * 1 ≤ R.locals) (hcs : cells + mc ≤ R.cells ∧ slots + ms ≤ R.slots) (hrest : (rest.map fun v => v.category).sum ≤ 8) (k : ∀ (r : Option Value) (h' : HP), P r h' → ev G M_Um_init R E 83 lv (r.toList ++ rest) h' (cells + mc) (slots + ms)) : ev G M_Um_init R E 80 lv (.ref a0 :: .ref b :: rest) h cells slots := ev_callI (as := [.ref a0]) d_Um_init_80 hm w_228 rfl w_229 w_69 w_230 hy_Re_init hR hcs hrest k
theorem d_Um_init_83 : decode prog_1_method_1_code 83 = .ok (.putfield 51, 3) := by decide +kernel
theorem s_Um_init_83 {x : Nat} {a : Nat} {fs : List Value} (hh : h a = mO 6 fs) (hlen : 5 < fs.length) (k : ev G M_Um_init R E 86 lv rest (va_up h a (mO 6 (fs.set 5 (.ref x)))) cells slots) : ev G M_Um_init R E 83 lv (.ref x :: .ref a :: rest) h cells slots := ev_putfinal (ci := 6) (kf := 5) d_Um_init_83 rfl ck6 (by decide) w_254 rfl rfl rfl hh hlen (fun _ _ => rfl) (fun _ _ => rfl) k
theorem d_Um_init_86 : decode prog_1_method_1_code 86 = .ok (.aload_n 0, 1) := by decide +kernel
theorem s_Um_init_86 {x : Nat} (hl : lg lv 0 = some (.ref x)) (k : ev G M_Um_init R E 87 lv (.ref x :: rest) h cells slots) : ev G M_Um_init R E 86 lv rest h cells slots := ev_aload_n d_Um_init_86 rfl hl k
theorem d_Um_init_87 : decode prog_1_method_1_code 87 = .ok (.iconst 0, 1) := by decide +kernel
theorem s_Um_init_87  (k : ev G M_Um_init R E 88 lv (.int 0 :: rest) h cells slots) : ev G M_Um_init R E 87 lv rest h cells slots := ev_iconst d_Um_init_87 (by decide) k
theorem d_Um_init_88 : decode prog_1_method_1_code 88 = .ok (.putfield 55, 3) := by decide +kernel
theorem s_Um_init_88 {x : Int32} {a : Nat} {fs : List Value} (hh : h a = mO 6 fs) (hlen : 6 < fs.length) (hz : x = 0 ∨ x = 1) (k : ev G M_Um_init R E 91 lv rest (va_up h a (mO 6 (fs.set 6 (.int x)))) cells slots) : ev G M_Um_init R E 88 lv (.int x :: .ref a :: rest) h cells slots := ev_putfield (ci := 6) (kf := 6) d_Um_init_88 rfl ck6 (by decide) w_255 rfl hh hlen (fun _ _ => nar_z hz) (fun _ _ => fits_z hz) k
theorem d_Um_init_91 : decode prog_1_method_1_code 91 = .ok (.return_, 1) := by decide +kernel
theorem s_Um_init_91 {P : Option Value → HP → Prop} {mc ms : Nat} (hP : P none h) (hc : cells ≤ mc ∧ slots ≤ ms) : ev G M_Um_init R (Er M_Um_init P mc ms) 91 lv [] h cells slots := ev_exit ⟨hc.1, hc.2, Or.inl ⟨rfl, d_Um_init_91, rfl, hP⟩⟩
abbrev M_Um_code : MW := (⟨"UseOnceMachine", "code", "(IIIII)I"⟩, prog_1_method_2_code, 6, (some .int))
theorem hy_Um_code : M_Um_code.1.cls ≠ "java/lang/invoke/MethodHandle" ∧ M_Um_code.1.cls ≠ "java/lang/invoke/VarHandle" ∧ (parseMethodDescriptor M_Um_code.1.desc).map (fun d => d.parameters.length) = some 5 := by decide +kernel
theorem d_Um_code_0 : decode prog_1_method_2_code 0 = .ok (.aload_n 0, 1) := by decide +kernel
theorem s_Um_code_0 {x : Nat} (hl : lg lv 0 = some (.ref x)) (k : ev G M_Um_code R E 1 lv (.ref x :: rest) h cells slots) : ev G M_Um_code R E 0 lv rest h cells slots := ev_aload_n d_Um_code_0 rfl hl k
theorem d_Um_code_1 : decode prog_1_method_2_code 1 = .ok (.getfield 55, 3) := by decide +kernel
theorem s_Um_code_1 {a : Nat} {fs : List Value} {v : Value} (hh : h a = mO 6 fs) (hv : fs[6]? = some v) (k : ev G M_Um_code R E 4 lv (v :: rest) h cells slots) : ev G M_Um_code R E 1 lv (.ref a :: rest) h cells slots := ev_getfield (ci := 6) (kf := 6) d_Um_code_1 rfl ck6 (by decide) w_255 hh hv k
theorem d_Um_code_4 : decode prog_1_method_2_code 4 = .ok (.ifCond .eq 7, 3) := by decide +kernel
theorem s_Um_code_4 {x : Int32} (kt : x = 0 → ev G M_Um_code R E 11 lv rest h cells slots) (kf : ¬ x = 0 → ev G M_Um_code R E 7 lv rest h cells slots) : ev G M_Um_code R E 4 lv (.int x :: rest) h cells slots := ev_if_eq d_Um_code_4 (by decide) kt kf
theorem d_Um_code_7 : decode prog_1_method_2_code 7 = .ok (.iconst (-1), 1) := by decide +kernel
theorem s_Um_code_7  (k : ev G M_Um_code R E 8 lv (.int (-1) :: rest) h cells slots) : ev G M_Um_code R E 7 lv rest h cells slots := ev_iconst d_Um_code_7 (by decide) k
theorem d_Um_code_8 : decode prog_1_method_2_code 8 = .ok (.goto 17, 3) := by decide +kernel
theorem s_Um_code_8  (k : ev G M_Um_code R E 25 lv rest h cells slots) : ev G M_Um_code R E 8 lv rest h cells slots := ev_goto d_Um_code_8 (by decide) k
theorem d_Um_code_11 : decode prog_1_method_2_code 11 = .ok (.aload_n 0, 1) := by decide +kernel
theorem s_Um_code_11 {x : Nat} (hl : lg lv 0 = some (.ref x)) (k : ev G M_Um_code R E 12 lv (.ref x :: rest) h cells slots) : ev G M_Um_code R E 11 lv rest h cells slots := ev_aload_n d_Um_code_11 rfl hl k
theorem d_Um_code_12 : decode prog_1_method_2_code 12 = .ok (.getfield 12, 3) := by decide +kernel
theorem s_Um_code_12 {a : Nat} {fs : List Value} {v : Value} (hh : h a = mO 6 fs) (hv : fs[0]? = some v) (k : ev G M_Um_code R E 15 lv (v :: rest) h cells slots) : ev G M_Um_code R E 12 lv (.ref a :: rest) h cells slots := ev_getfield (ci := 6) (kf := 0) d_Um_code_12 rfl ck6 (by decide) w_249 hh hv k
theorem d_Um_code_15 : decode prog_1_method_2_code 15 = .ok (.iload_n 1, 1) := by decide +kernel
theorem s_Um_code_15 {x : Int32} (hl : lg lv 1 = some (.int x)) (k : ev G M_Um_code R E 16 lv (.int x :: rest) h cells slots) : ev G M_Um_code R E 15 lv rest h cells slots := ev_iload_n d_Um_code_15 rfl hl k
theorem d_Um_code_16 : decode prog_1_method_2_code 16 = .ok (.iload_n 2, 1) := by decide +kernel
theorem s_Um_code_16 {x : Int32} (hl : lg lv 2 = some (.int x)) (k : ev G M_Um_code R E 17 lv (.int x :: rest) h cells slots) : ev G M_Um_code R E 16 lv rest h cells slots := ev_iload_n d_Um_code_16 rfl hl k
theorem d_Um_code_17 : decode prog_1_method_2_code 17 = .ok (.iload_n 3, 1) := by decide +kernel
theorem s_Um_code_17 {x : Int32} (hl : lg lv 3 = some (.int x)) (k : ev G M_Um_code R E 18 lv (.int x :: rest) h cells slots) : ev G M_Um_code R E 17 lv rest h cells slots := ev_iload_n d_Um_code_17 rfl hl k
theorem d_Um_code_18 : decode prog_1_method_2_code 18 = .ok (.iload 4, 2) := by decide +kernel
theorem s_Um_code_18 {x : Int32} (hl : lg lv 4 = some (.int x)) (k : ev G M_Um_code R E 20 lv (.int x :: rest) h cells slots) : ev G M_Um_code R E 18 lv rest h cells slots := ev_iload d_Um_code_18 hl k
theorem d_Um_code_20 : decode prog_1_method_2_code 20 = .ok (.iload 5, 2) := by decide +kernel
theorem s_Um_code_20 {x : Int32} (hl : lg lv 5 = some (.int x)) (k : ev G M_Um_code R E 22 lv (.int x :: rest) h cells slots) : ev G M_Um_code R E 20 lv rest h cells slots := ev_iload d_Um_code_20 hl k
theorem d_Um_code_22 : decode prog_1_method_2_code 22 = .ok (.invokevirtual 59, 3) := by decide +kernel
theorem s_Um_code_22 {mc ms : Nat} {P : Option Value → HP → Prop} {a0 : Int32} {a1 : Int32} {a2 : Int32} {a3 : Int32} {a4 : Int32} {b : Nat} {fs : List Value} {v0 : Value} (hm : mt G M_Co_append 0 mc ms (.ref b :: [.int a0, .int a1, .int a2, .int a3, .int a4]) h P) (hb : h b = mO 0 fs) (hv0 : fs[0]? = some v0) (hR : 0 + 1 ≤ R.frames ∧ 8 + (8 + 11) + 39 * 0 ≤ R.locals) (hcs : cells + mc ≤ R.cells ∧ slots + ms ≤ R.slots) (hrest : (rest.map fun v => v.category).sum ≤ 8) (k : ∀ (r : Option Value) (h' : HP), P r h' → ev G M_Um_code R E 25 lv (r.toList ++ rest) h' (cells + mc) (slots + ms)) : ev G M_Um_code R E 22 lv (.int a4 :: .int a3 :: .int a2 :: .int a1 :: .int a0 :: .ref b :: rest) h cells slots := ev_callV (as := [.int a0, .int a1, .int a2, .int a3, .int a4]) (ci := 0) d_Um_code_22 hm hb hv0 rfl w_275 w_276 w_277 w_64 w_278 hy_Co_append hR hcs hrest k
theorem d_Um_code_25 : decode prog_1_method_2_code 25 = .ok (.ireturn, 1) := by decide +kernel
theorem s_Um_code_25 {P : Option Value → HP → Prop} {mc ms : Nat} {v : Int32} (hP : P (some (.int v)) h) (hc : cells ≤ mc ∧ slots ≤ ms) : ev G M_Um_code R (Er M_Um_code P mc ms) 25 lv [.int v] h cells slots := ev_exit ⟨hc.1, hc.2, Or.inr (Or.inl ⟨v, .int, rfl, rfl, d_Um_code_25, rfl, hP⟩)⟩
abbrev M_Um_boot : MW := (⟨"UseOnceMachine", "boot", "()Z"⟩, prog_1_method_3_code, 1, (some .boolean))
theorem hy_Um_boot : M_Um_boot.1.cls ≠ "java/lang/invoke/MethodHandle" ∧ M_Um_boot.1.cls ≠ "java/lang/invoke/VarHandle" ∧ (parseMethodDescriptor M_Um_boot.1.desc).map (fun d => d.parameters.length) = some 0 := by decide +kernel
theorem d_Um_boot_0 : decode prog_1_method_3_code 0 = .ok (.aload_n 0, 1) := by decide +kernel
theorem s_Um_boot_0 {x : Nat} (hl : lg lv 0 = some (.ref x)) (k : ev G M_Um_boot R E 1 lv (.ref x :: rest) h cells slots) : ev G M_Um_boot R E 0 lv rest h cells slots := ev_aload_n d_Um_boot_0 rfl hl k
theorem d_Um_boot_1 : decode prog_1_method_3_code 1 = .ok (.aload_n 0, 1) := by decide +kernel
theorem s_Um_boot_1 {x : Nat} (hl : lg lv 0 = some (.ref x)) (k : ev G M_Um_boot R E 2 lv (.ref x :: rest) h cells slots) : ev G M_Um_boot R E 1 lv rest h cells slots := ev_aload_n d_Um_boot_1 rfl hl k
theorem d_Um_boot_2 : decode prog_1_method_3_code 2 = .ok (.getfield 55, 3) := by decide +kernel
theorem s_Um_boot_2 {a : Nat} {fs : List Value} {v : Value} (hh : h a = mO 6 fs) (hv : fs[6]? = some v) (k : ev G M_Um_boot R E 5 lv (v :: rest) h cells slots) : ev G M_Um_boot R E 2 lv (.ref a :: rest) h cells slots := ev_getfield (ci := 6) (kf := 6) d_Um_boot_2 rfl ck6 (by decide) w_255 hh hv k
theorem d_Um_boot_5 : decode prog_1_method_3_code 5 = .ok (.ifCond .ne 7, 3) := by decide +kernel
theorem s_Um_boot_5 {x : Int32} (kt : ¬ x = 0 → ev G M_Um_boot R E 12 lv rest h cells slots) (kf : x = 0 → ev G M_Um_boot R E 8 lv rest h cells slots) : ev G M_Um_boot R E 5 lv (.int x :: rest) h cells slots := ev_if_ne d_Um_boot_5 (by decide) kt kf
theorem d_Um_boot_8 : decode prog_1_method_3_code 8 = .ok (.iconst 1, 1) := by decide +kernel
theorem s_Um_boot_8  (k : ev G M_Um_boot R E 9 lv (.int 1 :: rest) h cells slots) : ev G M_Um_boot R E 8 lv rest h cells slots := ev_iconst d_Um_boot_8 (by decide) k
theorem d_Um_boot_9 : decode prog_1_method_3_code 9 = .ok (.goto 4, 3) := by decide +kernel
theorem s_Um_boot_9  (k : ev G M_Um_boot R E 13 lv rest h cells slots) : ev G M_Um_boot R E 9 lv rest h cells slots := ev_goto d_Um_boot_9 (by decide) k
theorem d_Um_boot_12 : decode prog_1_method_3_code 12 = .ok (.iconst 0, 1) := by decide +kernel
theorem s_Um_boot_12  (k : ev G M_Um_boot R E 13 lv (.int 0 :: rest) h cells slots) : ev G M_Um_boot R E 12 lv rest h cells slots := ev_iconst d_Um_boot_12 (by decide) k
theorem d_Um_boot_13 : decode prog_1_method_3_code 13 = .ok (.putfield 55, 3) := by decide +kernel
theorem s_Um_boot_13 {x : Int32} {a : Nat} {fs : List Value} (hh : h a = mO 6 fs) (hlen : 6 < fs.length) (hz : x = 0 ∨ x = 1) (k : ev G M_Um_boot R E 16 lv rest (va_up h a (mO 6 (fs.set 6 (.int x)))) cells slots) : ev G M_Um_boot R E 13 lv (.int x :: .ref a :: rest) h cells slots := ev_putfield (ci := 6) (kf := 6) d_Um_boot_13 rfl ck6 (by decide) w_255 rfl hh hlen (fun _ _ => nar_z hz) (fun _ _ => fits_z hz) k
theorem d_Um_boot_16 : decode prog_1_method_3_code 16 = .ok (.aload_n 0, 1) := by decide +kernel
theorem s_Um_boot_16 {x : Nat} (hl : lg lv 0 = some (.ref x)) (k : ev G M_Um_boot R E 17 lv (.ref x :: rest) h cells slots) : ev G M_Um_boot R E 16 lv rest h cells slots := ev_aload_n d_Um_boot_16 rfl hl k
theorem d_Um_boot_17 : decode prog_1_method_3_code 17 = .ok (.getfield 26, 3) := by decide +kernel
theorem s_Um_boot_17 {a : Nat} {fs : List Value} {v : Value} (hh : h a = mO 6 fs) (hv : fs[2]? = some v) (k : ev G M_Um_boot R E 20 lv (v :: rest) h cells slots) : ev G M_Um_boot R E 17 lv (.ref a :: rest) h cells slots := ev_getfield (ci := 6) (kf := 2) d_Um_boot_17 rfl ck6 (by decide) w_251 hh hv k
theorem d_Um_boot_20 : decode prog_1_method_3_code 20 = .ok (.invokevirtual 63, 3) := by decide +kernel
theorem s_Um_boot_20 {mc ms : Nat} {P : Option Value → HP → Prop}  {b : Nat} {fs : List Value} {v0 : Value} (hm : mt G M_Hi_clear 0 mc ms (.ref b :: []) h P) (hb : h b = mO 1 fs) (hv0 : fs[0]? = some v0) (hR : 0 + 1 ≤ R.frames ∧ 8 + (1 + 11) + 39 * 0 ≤ R.locals) (hcs : cells + mc ≤ R.cells ∧ slots + ms ≤ R.slots) (hrest : (rest.map fun v => v.category).sum ≤ 8) (k : ∀ (r : Option Value) (h' : HP), P r h' → ev G M_Um_boot R E 23 lv (r.toList ++ rest) h' (cells + mc) (slots + ms)) : ev G M_Um_boot R E 20 lv (.ref b :: rest) h cells slots := ev_callV (as := []) (ci := 1) d_Um_boot_20 hm hb hv0 rfl w_283 w_284 w_285 w_66 w_286 hy_Hi_clear hR hcs hrest k
theorem d_Um_boot_23 : decode prog_1_method_3_code 23 = .ok (.aload_n 0, 1) := by decide +kernel
theorem s_Um_boot_23 {x : Nat} (hl : lg lv 0 = some (.ref x)) (k : ev G M_Um_boot R E 24 lv (.ref x :: rest) h cells slots) : ev G M_Um_boot R E 23 lv rest h cells slots := ev_aload_n d_Um_boot_23 rfl hl k
theorem d_Um_boot_24 : decode prog_1_method_3_code 24 = .ok (.getfield 19, 3) := by decide +kernel
theorem s_Um_boot_24 {a : Nat} {fs : List Value} {v : Value} (hh : h a = mO 6 fs) (hv : fs[1]? = some v) (k : ev G M_Um_boot R E 27 lv (v :: rest) h cells slots) : ev G M_Um_boot R E 24 lv (.ref a :: rest) h cells slots := ev_getfield (ci := 6) (kf := 1) d_Um_boot_24 rfl ck6 (by decide) w_250 hh hv k
theorem d_Um_boot_27 : decode prog_1_method_3_code 27 = .ok (.invokevirtual 66, 3) := by decide +kernel
theorem s_Um_boot_27 {mc ms : Nat} {P : Option Value → HP → Prop}  {b : Nat} {fs : List Value} {v0 : Value} (hm : mt G M_St_clear 1 mc ms (.ref b :: []) h P) (hb : h b = mO 5 fs) (hv0 : fs[0]? = some v0) (hR : 1 + 1 ≤ R.frames ∧ 8 + (1 + 11) + 39 * 1 ≤ R.locals) (hcs : cells + mc ≤ R.cells ∧ slots + ms ≤ R.slots) (hrest : (rest.map fun v => v.category).sum ≤ 8) (k : ∀ (r : Option Value) (h' : HP), P r h' → ev G M_Um_boot R E 30 lv (r.toList ++ rest) h' (cells + mc) (slots + ms)) : ev G M_Um_boot R E 27 lv (.ref b :: rest) h cells slots := ev_callV (as := []) (ci := 5) d_Um_boot_27 hm hb hv0 rfl w_287 w_288 w_289 w_65 w_290 hy_St_clear hR hcs hrest k
theorem d_Um_boot_30 : decode prog_1_method_3_code 30 = .ok (.aload_n 0, 1) := by decide +kernel
theorem s_Um_boot_30 {x : Nat} (hl : lg lv 0 = some (.ref x)) (k : ev G M_Um_boot R E 31 lv (.ref x :: rest) h cells slots) : ev G M_Um_boot R E 30 lv rest h cells slots := ev_aload_n d_Um_boot_30 rfl hl k
theorem d_Um_boot_31 : decode prog_1_method_3_code 31 = .ok (.getfield 55, 3) := by decide +kernel
theorem s_Um_boot_31 {a : Nat} {fs : List Value} {v : Value} (hh : h a = mO 6 fs) (hv : fs[6]? = some v) (k : ev G M_Um_boot R E 34 lv (v :: rest) h cells slots) : ev G M_Um_boot R E 31 lv (.ref a :: rest) h cells slots := ev_getfield (ci := 6) (kf := 6) d_Um_boot_31 rfl ck6 (by decide) w_255 hh hv k
theorem d_Um_boot_34 : decode prog_1_method_3_code 34 = .ok (.ifCond .eq 22, 3) := by decide +kernel
theorem s_Um_boot_34 {x : Int32} (kt : x = 0 → ev G M_Um_boot R E 56 lv rest h cells slots) (kf : ¬ x = 0 → ev G M_Um_boot R E 37 lv rest h cells slots) : ev G M_Um_boot R E 34 lv (.int x :: rest) h cells slots := ev_if_eq d_Um_boot_34 (by decide) kt kf
theorem d_Um_boot_37 : decode prog_1_method_3_code 37 = .ok (.aload_n 0, 1) := by decide +kernel
theorem s_Um_boot_37 {x : Nat} (hl : lg lv 0 = some (.ref x)) (k : ev G M_Um_boot R E 38 lv (.ref x :: rest) h cells slots) : ev G M_Um_boot R E 37 lv rest h cells slots := ev_aload_n d_Um_boot_37 rfl hl k
theorem d_Um_boot_38 : decode prog_1_method_3_code 38 = .ok (.getfield 19, 3) := by decide +kernel
theorem s_Um_boot_38 {a : Nat} {fs : List Value} {v : Value} (hh : h a = mO 6 fs) (hv : fs[1]? = some v) (k : ev G M_Um_boot R E 41 lv (v :: rest) h cells slots) : ev G M_Um_boot R E 38 lv (.ref a :: rest) h cells slots := ev_getfield (ci := 6) (kf := 1) d_Um_boot_38 rfl ck6 (by decide) w_250 hh hv k
theorem d_Um_boot_41 : decode prog_1_method_3_code 41 = .ok (.iconst 1, 1) := by decide +kernel
theorem s_Um_boot_41  (k : ev G M_Um_boot R E 42 lv (.int 1 :: rest) h cells slots) : ev G M_Um_boot R E 41 lv rest h cells slots := ev_iconst d_Um_boot_41 (by decide) k
theorem d_Um_boot_42 : decode prog_1_method_3_code 42 = .ok (.iconst 0, 1) := by decide +kernel
theorem s_Um_boot_42  (k : ev G M_Um_boot R E 43 lv (.int 0 :: rest) h cells slots) : ev G M_Um_boot R E 42 lv rest h cells slots := ev_iconst d_Um_boot_42 (by decide) k
theorem d_Um_boot_43 : decode prog_1_method_3_code 43 = .ok (.bipush 48, 2) := by decide +kernel
theorem s_Um_boot_43  (k : ev G M_Um_boot R E 45 lv (.int 48 :: rest) h cells slots) : ev G M_Um_boot R E 43 lv rest h cells slots := ev_bipush d_Um_boot_43 (by decide) k
theorem d_Um_boot_45 : decode prog_1_method_3_code 45 = .ok (.bipush 15, 2) := by decide +kernel
theorem s_Um_boot_45  (k : ev G M_Um_boot R E 47 lv (.int 15 :: rest) h cells slots) : ev G M_Um_boot R E 45 lv rest h cells slots := ev_bipush d_Um_boot_45 (by decide) k
theorem d_Um_boot_47 : decode prog_1_method_3_code 47 = .ok (.invokestatic 67, 3) := by decide +kernel
theorem s_Um_boot_47 {mc ms : Nat} {P : Option Value → HP → Prop} {a0 : Int32} {a1 : Int32} {a2 : Int32} (hm : mt G M_Va_exclusive 1 mc ms [.int a0, .int a1, .int a2] h P) (hR : 1 + 1 ≤ R.frames ∧ 8 + (3 + 11) + 39 * 1 ≤ R.locals) (hcs : cells + mc ≤ R.cells ∧ slots + ms ≤ R.slots) (hrest : (rest.map fun v => v.category).sum ≤ 8) (k : ∀ (r : Option Value) (h' : HP), P r h' → ev G M_Um_boot R E 50 lv (r.toList ++ rest) h' (cells + mc) (slots + ms)) : ev G M_Um_boot R E 47 lv (.int a2 :: .int a1 :: .int a0 :: rest) h cells slots := ev_callS (as := [.int a0, .int a1, .int a2]) d_Um_boot_47 hm w_297 w_298 w_72 w_299 hy_Va_exclusive hR hcs hrest k
theorem d_Um_boot_50 : decode prog_1_method_3_code 50 = .ok (.invokevirtual 73, 3) := by decide +kernel
theorem s_Um_boot_50 {mc ms : Nat} {P : Option Value → HP → Prop} {a0 : Int32} {a1 : Int64} {b : Nat} {fs : List Value} {v0 : Value} (hm : mt G M_St_put 0 mc ms (.ref b :: [.int a0, .long a1]) h P) (hb : h b = mO 5 fs) (hv0 : fs[0]? = some v0) (hR : 0 + 1 ≤ R.frames ∧ 8 + (4 + 11) + 39 * 0 ≤ R.locals) (hcs : cells + mc ≤ R.cells ∧ slots + ms ≤ R.slots) (hrest : (rest.map fun v => v.category).sum ≤ 8) (k : ∀ (r : Option Value) (h' : HP), P r h' → ev G M_Um_boot R E 53 lv (r.toList ++ rest) h' (cells + mc) (slots + ms)) : ev G M_Um_boot R E 50 lv (.long a1 :: .int a0 :: .ref b :: rest) h cells slots := ev_callV (as := [.int a0, .long a1]) (ci := 5) d_Um_boot_50 hm hb hv0 rfl w_303 w_304 w_305 w_65 w_306 hy_St_put hR hcs hrest k
theorem d_Um_boot_53 : decode prog_1_method_3_code 53 = .ok (.goto 10, 3) := by decide +kernel
theorem s_Um_boot_53  (k : ev G M_Um_boot R E 63 lv rest h cells slots) : ev G M_Um_boot R E 53 lv rest h cells slots := ev_goto d_Um_boot_53 (by decide) k
theorem d_Um_boot_56 : decode prog_1_method_3_code 56 = .ok (.aload_n 0, 1) := by decide +kernel
theorem s_Um_boot_56 {x : Nat} (hl : lg lv 0 = some (.ref x)) (k : ev G M_Um_boot R E 57 lv (.ref x :: rest) h cells slots) : ev G M_Um_boot R E 56 lv rest h cells slots := ev_aload_n d_Um_boot_56 rfl hl k
theorem d_Um_boot_57 : decode prog_1_method_3_code 57 = .ok (.getfield 12, 3) := by decide +kernel
theorem s_Um_boot_57 {a : Nat} {fs : List Value} {v : Value} (hh : h a = mO 6 fs) (hv : fs[0]? = some v) (k : ev G M_Um_boot R E 60 lv (v :: rest) h cells slots) : ev G M_Um_boot R E 57 lv (.ref a :: rest) h cells slots := ev_getfield (ci := 6) (kf := 0) d_Um_boot_57 rfl ck6 (by decide) w_249 hh hv k
theorem d_Um_boot_60 : decode prog_1_method_3_code 60 = .ok (.invokevirtual 77, 3) := by decide +kernel
theorem s_Um_boot_60 {mc ms : Nat} {P : Option Value → HP → Prop}  {b : Nat} {fs : List Value} {v0 : Value} (hm : mt G M_Co_clear 1 mc ms (.ref b :: []) h P) (hb : h b = mO 0 fs) (hv0 : fs[0]? = some v0) (hR : 1 + 1 ≤ R.frames ∧ 8 + (1 + 11) + 39 * 1 ≤ R.locals) (hcs : cells + mc ≤ R.cells ∧ slots + ms ≤ R.slots) (hrest : (rest.map fun v => v.category).sum ≤ 8) (k : ∀ (r : Option Value) (h' : HP), P r h' → ev G M_Um_boot R E 63 lv (r.toList ++ rest) h' (cells + mc) (slots + ms)) : ev G M_Um_boot R E 60 lv (.ref b :: rest) h cells slots := ev_callV (as := []) (ci := 0) d_Um_boot_60 hm hb hv0 rfl w_307 w_308 w_309 w_64 w_310 hy_Co_clear hR hcs hrest k
theorem d_Um_boot_63 : decode prog_1_method_3_code 63 = .ok (.aload_n 0, 1) := by decide +kernel
theorem s_Um_boot_63 {x : Nat} (hl : lg lv 0 = some (.ref x)) (k : ev G M_Um_boot R E 64 lv (.ref x :: rest) h cells slots) : ev G M_Um_boot R E 63 lv rest h cells slots := ev_aload_n d_Um_boot_63 rfl hl k
theorem d_Um_boot_64 : decode prog_1_method_3_code 64 = .ok (.getfield 55, 3) := by decide +kernel
theorem s_Um_boot_64 {a : Nat} {fs : List Value} {v : Value} (hh : h a = mO 6 fs) (hv : fs[6]? = some v) (k : ev G M_Um_boot R E 67 lv (v :: rest) h cells slots) : ev G M_Um_boot R E 64 lv (.ref a :: rest) h cells slots := ev_getfield (ci := 6) (kf := 6) d_Um_boot_64 rfl ck6 (by decide) w_255 hh hv k
theorem d_Um_boot_67 : decode prog_1_method_3_code 67 = .ok (.ireturn, 1) := by decide +kernel
theorem s_Um_boot_67 {P : Option Value → HP → Prop} {mc ms : Nat} {v : Int32} (hz : v = 0 ∨ v = 1) (hP : P (some (.int v)) h) (hc : cells ≤ mc ∧ slots ≤ ms) : ev G M_Um_boot R (Er M_Um_boot P mc ms) 67 lv [.int v] h cells slots := ev_exit ⟨hc.1, hc.2, Or.inr (Or.inl ⟨v, .boolean, rfl, (nar_z hz), d_Um_boot_67, rfl, hP⟩)⟩
abbrev M_Um_step : MW := (⟨"UseOnceMachine", "step", "(I)I"⟩, prog_1_method_4_code, 3, (some .int))
theorem hy_Um_step : M_Um_step.1.cls ≠ "java/lang/invoke/MethodHandle" ∧ M_Um_step.1.cls ≠ "java/lang/invoke/VarHandle" ∧ (parseMethodDescriptor M_Um_step.1.desc).map (fun d => d.parameters.length) = some 1 := by decide +kernel
theorem d_Um_step_0 : decode prog_1_method_4_code 0 = .ok (.aload_n 0, 1) := by decide +kernel
theorem s_Um_step_0 {x : Nat} (hl : lg lv 0 = some (.ref x)) (k : ev G M_Um_step R E 1 lv (.ref x :: rest) h cells slots) : ev G M_Um_step R E 0 lv rest h cells slots := ev_aload_n d_Um_step_0 rfl hl k
theorem d_Um_step_1 : decode prog_1_method_4_code 1 = .ok (.getfield 55, 3) := by decide +kernel
theorem s_Um_step_1 {a : Nat} {fs : List Value} {v : Value} (hh : h a = mO 6 fs) (hv : fs[6]? = some v) (k : ev G M_Um_step R E 4 lv (v :: rest) h cells slots) : ev G M_Um_step R E 1 lv (.ref a :: rest) h cells slots := ev_getfield (ci := 6) (kf := 6) d_Um_step_1 rfl ck6 (by decide) w_255 hh hv k
theorem d_Um_step_4 : decode prog_1_method_4_code 4 = .ok (.ifCond .eq 14, 3) := by decide +kernel
theorem s_Um_step_4 {x : Int32} (kt : x = 0 → ev G M_Um_step R E 18 lv rest h cells slots) (kf : ¬ x = 0 → ev G M_Um_step R E 7 lv rest h cells slots) : ev G M_Um_step R E 4 lv (.int x :: rest) h cells slots := ev_if_eq d_Um_step_4 (by decide) kt kf
theorem d_Um_step_7 : decode prog_1_method_4_code 7 = .ok (.iload_n 1, 1) := by decide +kernel
theorem s_Um_step_7 {x : Int32} (hl : lg lv 1 = some (.int x)) (k : ev G M_Um_step R E 8 lv (.int x :: rest) h cells slots) : ev G M_Um_step R E 7 lv rest h cells slots := ev_iload_n d_Um_step_7 rfl hl k
theorem d_Um_step_8 : decode prog_1_method_4_code 8 = .ok (.iconst 1, 1) := by decide +kernel
theorem s_Um_step_8  (k : ev G M_Um_step R E 9 lv (.int 1 :: rest) h cells slots) : ev G M_Um_step R E 8 lv rest h cells slots := ev_iconst d_Um_step_8 (by decide) k
theorem d_Um_step_9 : decode prog_1_method_4_code 9 = .ok (.if_icmp .lt 9, 3) := by decide +kernel
theorem s_Um_step_9 {x y : Int32} (kt : x < y → ev G M_Um_step R E 18 lv rest h cells slots) (kf : ¬ x < y → ev G M_Um_step R E 12 lv rest h cells slots) : ev G M_Um_step R E 9 lv (.int y :: .int x :: rest) h cells slots := ev_icmp_lt d_Um_step_9 (by decide) kt kf
theorem d_Um_step_12 : decode prog_1_method_4_code 12 = .ok (.iload_n 1, 1) := by decide +kernel
theorem s_Um_step_12 {x : Int32} (hl : lg lv 1 = some (.int x)) (k : ev G M_Um_step R E 13 lv (.int x :: rest) h cells slots) : ev G M_Um_step R E 12 lv rest h cells slots := ev_iload_n d_Um_step_12 rfl hl k
theorem d_Um_step_13 : decode prog_1_method_4_code 13 = .ok (.bipush 30, 2) := by decide +kernel
theorem s_Um_step_13  (k : ev G M_Um_step R E 15 lv (.int 30 :: rest) h cells slots) : ev G M_Um_step R E 13 lv rest h cells slots := ev_bipush d_Um_step_13 (by decide) k
theorem d_Um_step_15 : decode prog_1_method_4_code 15 = .ok (.if_icmp .le 6, 3) := by decide +kernel
theorem s_Um_step_15 {x y : Int32} (kt : x ≤ y → ev G M_Um_step R E 21 lv rest h cells slots) (kf : ¬ x ≤ y → ev G M_Um_step R E 18 lv rest h cells slots) : ev G M_Um_step R E 15 lv (.int y :: .int x :: rest) h cells slots := ev_icmp_le d_Um_step_15 (by decide) kt kf
theorem d_Um_step_18 : decode prog_1_method_4_code 18 = .ok (.bipush (-2), 2) := by decide +kernel
theorem s_Um_step_18  (k : ev G M_Um_step R E 20 lv (.int (-2) :: rest) h cells slots) : ev G M_Um_step R E 18 lv rest h cells slots := ev_bipush d_Um_step_18 (by decide) k
theorem d_Um_step_20 : decode prog_1_method_4_code 20 = .ok (.ireturn, 1) := by decide +kernel
theorem s_Um_step_20 {P : Option Value → HP → Prop} {mc ms : Nat} {v : Int32} (hP : P (some (.int v)) h) (hc : cells ≤ mc ∧ slots ≤ ms) : ev G M_Um_step R (Er M_Um_step P mc ms) 20 lv [.int v] h cells slots := ev_exit ⟨hc.1, hc.2, Or.inr (Or.inl ⟨v, .int, rfl, rfl, d_Um_step_20, rfl, hP⟩)⟩
theorem d_Um_step_21 : decode prog_1_method_4_code 21 = .ok (.iconst 0, 1) := by decide +kernel
theorem s_Um_step_21  (k : ev G M_Um_step R E 22 lv (.int 0 :: rest) h cells slots) : ev G M_Um_step R E 21 lv rest h cells slots := ev_iconst d_Um_step_21 (by decide) k
theorem d_Um_step_22 : decode prog_1_method_4_code 22 = .ok (.istore_n 2, 1) := by decide +kernel
theorem s_Um_step_22 {x : Int32} (k : ev G M_Um_step R E 23 (ls1 lv 2 (.int x)) rest h cells slots) : ev G M_Um_step R E 22 lv (.int x :: rest) h cells slots := ev_istore_n d_Um_step_22 rfl (by decide) k
theorem d_Um_step_23 : decode prog_1_method_4_code 23 = .ok (.iload_n 2, 1) := by decide +kernel
theorem s_Um_step_23 {x : Int32} (hl : lg lv 2 = some (.int x)) (k : ev G M_Um_step R E 24 lv (.int x :: rest) h cells slots) : ev G M_Um_step R E 23 lv rest h cells slots := ev_iload_n d_Um_step_23 rfl hl k
theorem d_Um_step_24 : decode prog_1_method_4_code 24 = .ok (.iload_n 1, 1) := by decide +kernel
theorem s_Um_step_24 {x : Int32} (hl : lg lv 1 = some (.int x)) (k : ev G M_Um_step R E 25 lv (.int x :: rest) h cells slots) : ev G M_Um_step R E 24 lv rest h cells slots := ev_iload_n d_Um_step_24 rfl hl k
theorem d_Um_step_25 : decode prog_1_method_4_code 25 = .ok (.if_icmp .ge 37, 3) := by decide +kernel
theorem s_Um_step_25 {x y : Int32} (kt : y ≤ x → ev G M_Um_step R E 62 lv rest h cells slots) (kf : ¬ y ≤ x → ev G M_Um_step R E 28 lv rest h cells slots) : ev G M_Um_step R E 25 lv (.int y :: .int x :: rest) h cells slots := ev_icmp_ge d_Um_step_25 (by decide) kt kf
theorem d_Um_step_28 : decode prog_1_method_4_code 28 = .ok (.aload_n 0, 1) := by decide +kernel
theorem s_Um_step_28 {x : Nat} (hl : lg lv 0 = some (.ref x)) (k : ev G M_Um_step R E 29 lv (.ref x :: rest) h cells slots) : ev G M_Um_step R E 28 lv rest h cells slots := ev_aload_n d_Um_step_28 rfl hl k
theorem d_Um_step_29 : decode prog_1_method_4_code 29 = .ok (.getfield 19, 3) := by decide +kernel
theorem s_Um_step_29 {a : Nat} {fs : List Value} {v : Value} (hh : h a = mO 6 fs) (hv : fs[1]? = some v) (k : ev G M_Um_step R E 32 lv (v :: rest) h cells slots) : ev G M_Um_step R E 29 lv (.ref a :: rest) h cells slots := ev_getfield (ci := 6) (kf := 1) d_Um_step_29 rfl ck6 (by decide) w_250 hh hv k
theorem d_Um_step_32 : decode prog_1_method_4_code 32 = .ok (.getfield 78, 3) := by decide +kernel
theorem s_Um_step_32 {a : Nat} {fs : List Value} {v : Value} (hh : h a = mO 5 fs) (hv : fs[14]? = some v) (k : ev G M_Um_step R E 35 lv (v :: rest) h cells slots) : ev G M_Um_step R E 32 lv (.ref a :: rest) h cells slots := ev_getfield (ci := 5) (kf := 14) d_Um_step_32 rfl ck5 (by decide) w_131 hh hv k
theorem d_Um_step_35 : decode prog_1_method_4_code 35 = .ok (.ifCond .ne 27, 3) := by decide +kernel
theorem s_Um_step_35 {x : Int32} (kt : ¬ x = 0 → ev G M_Um_step R E 62 lv rest h cells slots) (kf : x = 0 → ev G M_Um_step R E 38 lv rest h cells slots) : ev G M_Um_step R E 35 lv (.int x :: rest) h cells slots := ev_if_ne d_Um_step_35 (by decide) kt kf
theorem d_Um_step_38 : decode prog_1_method_4_code 38 = .ok (.aload_n 0, 1) := by decide +kernel
theorem s_Um_step_38 {x : Nat} (hl : lg lv 0 = some (.ref x)) (k : ev G M_Um_step R E 39 lv (.ref x :: rest) h cells slots) : ev G M_Um_step R E 38 lv rest h cells slots := ev_aload_n d_Um_step_38 rfl hl k
theorem d_Um_step_39 : decode prog_1_method_4_code 39 = .ok (.getfield 26, 3) := by decide +kernel
theorem s_Um_step_39 {a : Nat} {fs : List Value} {v : Value} (hh : h a = mO 6 fs) (hv : fs[2]? = some v) (k : ev G M_Um_step R E 42 lv (v :: rest) h cells slots) : ev G M_Um_step R E 39 lv (.ref a :: rest) h cells slots := ev_getfield (ci := 6) (kf := 2) d_Um_step_39 rfl ck6 (by decide) w_251 hh hv k
theorem d_Um_step_42 : decode prog_1_method_4_code 42 = .ok (.aload_n 0, 1) := by decide +kernel
theorem s_Um_step_42 {x : Nat} (hl : lg lv 0 = some (.ref x)) (k : ev G M_Um_step R E 43 lv (.ref x :: rest) h cells slots) : ev G M_Um_step R E 42 lv rest h cells slots := ev_aload_n d_Um_step_42 rfl hl k
theorem d_Um_step_43 : decode prog_1_method_4_code 43 = .ok (.getfield 19, 3) := by decide +kernel
theorem s_Um_step_43 {a : Nat} {fs : List Value} {v : Value} (hh : h a = mO 6 fs) (hv : fs[1]? = some v) (k : ev G M_Um_step R E 46 lv (v :: rest) h cells slots) : ev G M_Um_step R E 43 lv (.ref a :: rest) h cells slots := ev_getfield (ci := 6) (kf := 1) d_Um_step_43 rfl ck6 (by decide) w_250 hh hv k
theorem d_Um_step_46 : decode prog_1_method_4_code 46 = .ok (.invokevirtual 82, 3) := by decide +kernel
theorem s_Um_step_46 {mc ms : Nat} {P : Option Value → HP → Prop} {a0 : Nat} {b : Nat} {fs : List Value} {v0 : Value} (hm : mt G M_Hi_keep 2 mc ms (.ref b :: [.ref a0]) h P) (hb : h b = mO 1 fs) (hv0 : fs[0]? = some v0) (hR : 2 + 1 ≤ R.frames ∧ 8 + (3 + 11) + 39 * 2 ≤ R.locals) (hcs : cells + mc ≤ R.cells ∧ slots + ms ≤ R.slots) (hrest : (rest.map fun v => v.category).sum ≤ 8) (k : ∀ (r : Option Value) (h' : HP), P r h' → ev G M_Um_step R E 49 lv (r.toList ++ rest) h' (cells + mc) (slots + ms)) : ev G M_Um_step R E 46 lv (.ref a0 :: .ref b :: rest) h cells slots := ev_callV (as := [.ref a0]) (ci := 1) d_Um_step_46 hm hb hv0 rfl w_316 w_317 w_318 w_66 w_319 hy_Hi_keep hR hcs hrest k
theorem d_Um_step_49 : decode prog_1_method_4_code 49 = .ok (.aload_n 0, 1) := by decide +kernel
theorem s_Um_step_49 {x : Nat} (hl : lg lv 0 = some (.ref x)) (k : ev G M_Um_step R E 50 lv (.ref x :: rest) h cells slots) : ev G M_Um_step R E 49 lv rest h cells slots := ev_aload_n d_Um_step_49 rfl hl k
theorem d_Um_step_50 : decode prog_1_method_4_code 50 = .ok (.getfield 35, 3) := by decide +kernel
theorem s_Um_step_50 {a : Nat} {fs : List Value} {v : Value} (hh : h a = mO 6 fs) (hv : fs[3]? = some v) (k : ev G M_Um_step R E 53 lv (v :: rest) h cells slots) : ev G M_Um_step R E 50 lv (.ref a :: rest) h cells slots := ev_getfield (ci := 6) (kf := 3) d_Um_step_50 rfl ck6 (by decide) w_252 hh hv k
theorem d_Um_step_53 : decode prog_1_method_4_code 53 = .ok (.invokevirtual 85, 3) := by decide +kernel
theorem s_Um_step_53 {mc ms : Nat} {P : Option Value → HP → Prop}  {b : Nat} {fs : List Value} {v0 : Value} (hm : mt G M_Pr_runOne 5 mc ms (.ref b :: []) h P) (hb : h b = mO 3 fs) (hv0 : fs[0]? = some v0) (hR : 5 + 1 ≤ R.frames ∧ 8 + (2 + 11) + 39 * 5 ≤ R.locals) (hcs : cells + mc ≤ R.cells ∧ slots + ms ≤ R.slots) (hrest : (rest.map fun v => v.category).sum ≤ 8) (k : ∀ (r : Option Value) (h' : HP), P r h' → ev G M_Um_step R E 56 lv (r.toList ++ rest) h' (cells + mc) (slots + ms)) : ev G M_Um_step R E 53 lv (.ref b :: rest) h cells slots := ev_callV (as := []) (ci := 3) d_Um_step_53 hm hb hv0 rfl w_331 w_332 w_333 w_67 w_334 hy_Pr_runOne hR hcs hrest k
theorem d_Um_step_56 : decode prog_1_method_4_code 56 = .ok (.iinc 2 1, 3) := by decide +kernel
theorem s_Um_step_56 {x : Int32} (hl : lg lv 2 = some (.int x)) (k : ev G M_Um_step R E 59 (ls1 lv 2 (.int (x + 1))) rest h cells slots) : ev G M_Um_step R E 56 lv rest h cells slots := ev_iinc d_Um_step_56 (by decide) hl (by decide) k
theorem d_Um_step_59 : decode prog_1_method_4_code 59 = .ok (.goto (-36), 3) := by decide +kernel
theorem s_Um_step_59  (k : ev G M_Um_step R E 23 lv rest h cells slots) : ev G M_Um_step R E 59 lv rest h cells slots := ev_goto d_Um_step_59 (by decide) k
theorem d_Um_step_62 : decode prog_1_method_4_code 62 = .ok (.aload_n 0, 1) := by decide +kernel
theorem s_Um_step_62 {x : Nat} (hl : lg lv 0 = some (.ref x)) (k : ev G M_Um_step R E 63 lv (.ref x :: rest) h cells slots) : ev G M_Um_step R E 62 lv rest h cells slots := ev_aload_n d_Um_step_62 rfl hl k
theorem d_Um_step_63 : decode prog_1_method_4_code 63 = .ok (.getfield 19, 3) := by decide +kernel
theorem s_Um_step_63 {a : Nat} {fs : List Value} {v : Value} (hh : h a = mO 6 fs) (hv : fs[1]? = some v) (k : ev G M_Um_step R E 66 lv (v :: rest) h cells slots) : ev G M_Um_step R E 63 lv (.ref a :: rest) h cells slots := ev_getfield (ci := 6) (kf := 1) d_Um_step_63 rfl ck6 (by decide) w_250 hh hv k
theorem d_Um_step_66 : decode prog_1_method_4_code 66 = .ok (.getfield 78, 3) := by decide +kernel
theorem s_Um_step_66 {a : Nat} {fs : List Value} {v : Value} (hh : h a = mO 5 fs) (hv : fs[14]? = some v) (k : ev G M_Um_step R E 69 lv (v :: rest) h cells slots) : ev G M_Um_step R E 66 lv (.ref a :: rest) h cells slots := ev_getfield (ci := 5) (kf := 14) d_Um_step_66 rfl ck5 (by decide) w_131 hh hv k
theorem d_Um_step_69 : decode prog_1_method_4_code 69 = .ok (.ireturn, 1) := by decide +kernel
theorem s_Um_step_69 {P : Option Value → HP → Prop} {mc ms : Nat} {v : Int32} (hP : P (some (.int v)) h) (hc : cells ≤ mc ∧ slots ≤ ms) : ev G M_Um_step R (Er M_Um_step P mc ms) 69 lv [.int v] h cells slots := ev_exit ⟨hc.1, hc.2, Or.inr (Or.inl ⟨v, .int, rfl, rfl, d_Um_step_69, rfl, hP⟩)⟩
abbrev M_Um_undo : MW := (⟨"UseOnceMachine", "undo", "(I)I"⟩, prog_1_method_5_code, 2, (some .int))
theorem hy_Um_undo : M_Um_undo.1.cls ≠ "java/lang/invoke/MethodHandle" ∧ M_Um_undo.1.cls ≠ "java/lang/invoke/VarHandle" ∧ (parseMethodDescriptor M_Um_undo.1.desc).map (fun d => d.parameters.length) = some 1 := by decide +kernel
theorem d_Um_undo_0 : decode prog_1_method_5_code 0 = .ok (.iload_n 1, 1) := by decide +kernel
theorem s_Um_undo_0 {x : Int32} (hl : lg lv 1 = some (.int x)) (k : ev G M_Um_undo R E 1 lv (.int x :: rest) h cells slots) : ev G M_Um_undo R E 0 lv rest h cells slots := ev_iload_n d_Um_undo_0 rfl hl k
theorem d_Um_undo_1 : decode prog_1_method_5_code 1 = .ok (.iconst 1, 1) := by decide +kernel
theorem s_Um_undo_1  (k : ev G M_Um_undo R E 2 lv (.int 1 :: rest) h cells slots) : ev G M_Um_undo R E 1 lv rest h cells slots := ev_iconst d_Um_undo_1 (by decide) k
theorem d_Um_undo_2 : decode prog_1_method_5_code 2 = .ok (.if_icmp .lt 9, 3) := by decide +kernel
theorem s_Um_undo_2 {x y : Int32} (kt : x < y → ev G M_Um_undo R E 11 lv rest h cells slots) (kf : ¬ x < y → ev G M_Um_undo R E 5 lv rest h cells slots) : ev G M_Um_undo R E 2 lv (.int y :: .int x :: rest) h cells slots := ev_icmp_lt d_Um_undo_2 (by decide) kt kf
theorem d_Um_undo_5 : decode prog_1_method_5_code 5 = .ok (.iload_n 1, 1) := by decide +kernel
theorem s_Um_undo_5 {x : Int32} (hl : lg lv 1 = some (.int x)) (k : ev G M_Um_undo R E 6 lv (.int x :: rest) h cells slots) : ev G M_Um_undo R E 5 lv rest h cells slots := ev_iload_n d_Um_undo_5 rfl hl k
theorem d_Um_undo_6 : decode prog_1_method_5_code 6 = .ok (.bipush 40, 2) := by decide +kernel
theorem s_Um_undo_6  (k : ev G M_Um_undo R E 8 lv (.int 40 :: rest) h cells slots) : ev G M_Um_undo R E 6 lv rest h cells slots := ev_bipush d_Um_undo_6 (by decide) k
theorem d_Um_undo_8 : decode prog_1_method_5_code 8 = .ok (.if_icmp .le 5, 3) := by decide +kernel
theorem s_Um_undo_8 {x y : Int32} (kt : x ≤ y → ev G M_Um_undo R E 13 lv rest h cells slots) (kf : ¬ x ≤ y → ev G M_Um_undo R E 11 lv rest h cells slots) : ev G M_Um_undo R E 8 lv (.int y :: .int x :: rest) h cells slots := ev_icmp_le d_Um_undo_8 (by decide) kt kf
theorem d_Um_undo_11 : decode prog_1_method_5_code 11 = .ok (.iconst (-1), 1) := by decide +kernel
theorem s_Um_undo_11  (k : ev G M_Um_undo R E 12 lv (.int (-1) :: rest) h cells slots) : ev G M_Um_undo R E 11 lv rest h cells slots := ev_iconst d_Um_undo_11 (by decide) k
theorem d_Um_undo_12 : decode prog_1_method_5_code 12 = .ok (.ireturn, 1) := by decide +kernel
theorem s_Um_undo_12 {P : Option Value → HP → Prop} {mc ms : Nat} {v : Int32} (hP : P (some (.int v)) h) (hc : cells ≤ mc ∧ slots ≤ ms) : ev G M_Um_undo R (Er M_Um_undo P mc ms) 12 lv [.int v] h cells slots := ev_exit ⟨hc.1, hc.2, Or.inr (Or.inl ⟨v, .int, rfl, rfl, d_Um_undo_12, rfl, hP⟩)⟩
theorem d_Um_undo_13 : decode prog_1_method_5_code 13 = .ok (.aload_n 0, 1) := by decide +kernel
theorem s_Um_undo_13 {x : Nat} (hl : lg lv 0 = some (.ref x)) (k : ev G M_Um_undo R E 14 lv (.ref x :: rest) h cells slots) : ev G M_Um_undo R E 13 lv rest h cells slots := ev_aload_n d_Um_undo_13 rfl hl k
theorem d_Um_undo_14 : decode prog_1_method_5_code 14 = .ok (.getfield 26, 3) := by decide +kernel
theorem s_Um_undo_14 {a : Nat} {fs : List Value} {v : Value} (hh : h a = mO 6 fs) (hv : fs[2]? = some v) (k : ev G M_Um_undo R E 17 lv (v :: rest) h cells slots) : ev G M_Um_undo R E 14 lv (.ref a :: rest) h cells slots := ev_getfield (ci := 6) (kf := 2) d_Um_undo_14 rfl ck6 (by decide) w_251 hh hv k
theorem d_Um_undo_17 : decode prog_1_method_5_code 17 = .ok (.aload_n 0, 1) := by decide +kernel
theorem s_Um_undo_17 {x : Nat} (hl : lg lv 0 = some (.ref x)) (k : ev G M_Um_undo R E 18 lv (.ref x :: rest) h cells slots) : ev G M_Um_undo R E 17 lv rest h cells slots := ev_aload_n d_Um_undo_17 rfl hl k
theorem d_Um_undo_18 : decode prog_1_method_5_code 18 = .ok (.getfield 19, 3) := by decide +kernel
theorem s_Um_undo_18 {a : Nat} {fs : List Value} {v : Value} (hh : h a = mO 6 fs) (hv : fs[1]? = some v) (k : ev G M_Um_undo R E 21 lv (v :: rest) h cells slots) : ev G M_Um_undo R E 18 lv (.ref a :: rest) h cells slots := ev_getfield (ci := 6) (kf := 1) d_Um_undo_18 rfl ck6 (by decide) w_250 hh hv k
theorem d_Um_undo_21 : decode prog_1_method_5_code 21 = .ok (.iload_n 1, 1) := by decide +kernel
theorem s_Um_undo_21 {x : Int32} (hl : lg lv 1 = some (.int x)) (k : ev G M_Um_undo R E 22 lv (.int x :: rest) h cells slots) : ev G M_Um_undo R E 21 lv rest h cells slots := ev_iload_n d_Um_undo_21 rfl hl k
theorem d_Um_undo_22 : decode prog_1_method_5_code 22 = .ok (.invokevirtual 88, 3) := by decide +kernel
theorem s_Um_undo_22 {mc ms : Nat} {P : Option Value → HP → Prop} {a0 : Nat} {a1 : Int32} {b : Nat} {fs : List Value} {v0 : Value} (hm : mt G M_Hi_takeBack 2 mc ms (.ref b :: [.ref a0, .int a1]) h P) (hb : h b = mO 1 fs) (hv0 : fs[0]? = some v0) (hR : 2 + 1 ≤ R.frames ∧ 8 + (6 + 11) + 39 * 2 ≤ R.locals) (hcs : cells + mc ≤ R.cells ∧ slots + ms ≤ R.slots) (hrest : (rest.map fun v => v.category).sum ≤ 8) (k : ∀ (r : Option Value) (h' : HP), P r h' → ev G M_Um_undo R E 25 lv (r.toList ++ rest) h' (cells + mc) (slots + ms)) : ev G M_Um_undo R E 22 lv (.int a1 :: .ref a0 :: .ref b :: rest) h cells slots := ev_callV (as := [.ref a0, .int a1]) (ci := 1) d_Um_undo_22 hm hb hv0 rfl w_581 w_582 w_583 w_66 w_584 hy_Hi_takeBack hR hcs hrest k
theorem d_Um_undo_25 : decode prog_1_method_5_code 25 = .ok (.ireturn, 1) := by decide +kernel
theorem s_Um_undo_25 {P : Option Value → HP → Prop} {mc ms : Nat} {v : Int32} (hP : P (some (.int v)) h) (hc : cells ≤ mc ∧ slots ≤ ms) : ev G M_Um_undo R (Er M_Um_undo P mc ms) 25 lv [.int v] h cells slots := ev_exit ⟨hc.1, hc.2, Or.inr (Or.inl ⟨v, .int, rfl, rfl, d_Um_undo_25, rfl, hP⟩)⟩
abbrev M_Um_register : MW := (⟨"UseOnceMachine", "register", "(II)I"⟩, prog_1_method_6_code, 3, (some .int))
theorem hy_Um_register : M_Um_register.1.cls ≠ "java/lang/invoke/MethodHandle" ∧ M_Um_register.1.cls ≠ "java/lang/invoke/VarHandle" ∧ (parseMethodDescriptor M_Um_register.1.desc).map (fun d => d.parameters.length) = some 2 := by decide +kernel
theorem d_Um_register_0 : decode prog_1_method_6_code 0 = .ok (.iload_n 1, 1) := by decide +kernel
theorem s_Um_register_0 {x : Int32} (hl : lg lv 1 = some (.int x)) (k : ev G M_Um_register R E 1 lv (.int x :: rest) h cells slots) : ev G M_Um_register R E 0 lv rest h cells slots := ev_iload_n d_Um_register_0 rfl hl k
theorem d_Um_register_1 : decode prog_1_method_6_code 1 = .ok (.ifCond .lt 18, 3) := by decide +kernel
theorem s_Um_register_1 {x : Int32} (kt : x < 0 → ev G M_Um_register R E 19 lv rest h cells slots) (kf : ¬ x < 0 → ev G M_Um_register R E 4 lv rest h cells slots) : ev G M_Um_register R E 1 lv (.int x :: rest) h cells slots := ev_if_lt d_Um_register_1 (by decide) kt kf
theorem d_Um_register_4 : decode prog_1_method_6_code 4 = .ok (.iload_n 1, 1) := by decide +kernel
theorem s_Um_register_4 {x : Int32} (hl : lg lv 1 = some (.int x)) (k : ev G M_Um_register R E 5 lv (.int x :: rest) h cells slots) : ev G M_Um_register R E 4 lv rest h cells slots := ev_iload_n d_Um_register_4 rfl hl k
theorem d_Um_register_5 : decode prog_1_method_6_code 5 = .ok (.bipush 8, 2) := by decide +kernel
theorem s_Um_register_5  (k : ev G M_Um_register R E 7 lv (.int 8 :: rest) h cells slots) : ev G M_Um_register R E 5 lv rest h cells slots := ev_bipush d_Um_register_5 (by decide) k
theorem d_Um_register_7 : decode prog_1_method_6_code 7 = .ok (.if_icmp .ge 12, 3) := by decide +kernel
theorem s_Um_register_7 {x y : Int32} (kt : y ≤ x → ev G M_Um_register R E 19 lv rest h cells slots) (kf : ¬ y ≤ x → ev G M_Um_register R E 10 lv rest h cells slots) : ev G M_Um_register R E 7 lv (.int y :: .int x :: rest) h cells slots := ev_icmp_ge d_Um_register_7 (by decide) kt kf
theorem d_Um_register_10 : decode prog_1_method_6_code 10 = .ok (.iload_n 2, 1) := by decide +kernel
theorem s_Um_register_10 {x : Int32} (hl : lg lv 2 = some (.int x)) (k : ev G M_Um_register R E 11 lv (.int x :: rest) h cells slots) : ev G M_Um_register R E 10 lv rest h cells slots := ev_iload_n d_Um_register_10 rfl hl k
theorem d_Um_register_11 : decode prog_1_method_6_code 11 = .ok (.ifCond .lt 8, 3) := by decide +kernel
theorem s_Um_register_11 {x : Int32} (kt : x < 0 → ev G M_Um_register R E 19 lv rest h cells slots) (kf : ¬ x < 0 → ev G M_Um_register R E 14 lv rest h cells slots) : ev G M_Um_register R E 11 lv (.int x :: rest) h cells slots := ev_if_lt d_Um_register_11 (by decide) kt kf
theorem d_Um_register_14 : decode prog_1_method_6_code 14 = .ok (.iload_n 2, 1) := by decide +kernel
theorem s_Um_register_14 {x : Int32} (hl : lg lv 2 = some (.int x)) (k : ev G M_Um_register R E 15 lv (.int x :: rest) h cells slots) : ev G M_Um_register R E 14 lv rest h cells slots := ev_iload_n d_Um_register_14 rfl hl k
theorem d_Um_register_15 : decode prog_1_method_6_code 15 = .ok (.iconst 5, 1) := by decide +kernel
theorem s_Um_register_15  (k : ev G M_Um_register R E 16 lv (.int 5 :: rest) h cells slots) : ev G M_Um_register R E 15 lv rest h cells slots := ev_iconst d_Um_register_15 (by decide) k
theorem d_Um_register_16 : decode prog_1_method_6_code 16 = .ok (.if_icmp .lt 5, 3) := by decide +kernel
theorem s_Um_register_16 {x y : Int32} (kt : x < y → ev G M_Um_register R E 21 lv rest h cells slots) (kf : ¬ x < y → ev G M_Um_register R E 19 lv rest h cells slots) : ev G M_Um_register R E 16 lv (.int y :: .int x :: rest) h cells slots := ev_icmp_lt d_Um_register_16 (by decide) kt kf
theorem d_Um_register_19 : decode prog_1_method_6_code 19 = .ok (.iconst (-1), 1) := by decide +kernel
theorem s_Um_register_19  (k : ev G M_Um_register R E 20 lv (.int (-1) :: rest) h cells slots) : ev G M_Um_register R E 19 lv rest h cells slots := ev_iconst d_Um_register_19 (by decide) k
theorem d_Um_register_20 : decode prog_1_method_6_code 20 = .ok (.ireturn, 1) := by decide +kernel
theorem s_Um_register_20 {P : Option Value → HP → Prop} {mc ms : Nat} {v : Int32} (hP : P (some (.int v)) h) (hc : cells ≤ mc ∧ slots ≤ ms) : ev G M_Um_register R (Er M_Um_register P mc ms) 20 lv [.int v] h cells slots := ev_exit ⟨hc.1, hc.2, Or.inr (Or.inl ⟨v, .int, rfl, rfl, d_Um_register_20, rfl, hP⟩)⟩
theorem d_Um_register_21 : decode prog_1_method_6_code 21 = .ok (.aload_n 0, 1) := by decide +kernel
theorem s_Um_register_21 {x : Nat} (hl : lg lv 0 = some (.ref x)) (k : ev G M_Um_register R E 22 lv (.ref x :: rest) h cells slots) : ev G M_Um_register R E 21 lv rest h cells slots := ev_aload_n d_Um_register_21 rfl hl k
theorem d_Um_register_22 : decode prog_1_method_6_code 22 = .ok (.getfield 19, 3) := by decide +kernel
theorem s_Um_register_22 {a : Nat} {fs : List Value} {v : Value} (hh : h a = mO 6 fs) (hv : fs[1]? = some v) (k : ev G M_Um_register R E 25 lv (v :: rest) h cells slots) : ev G M_Um_register R E 22 lv (.ref a :: rest) h cells slots := ev_getfield (ci := 6) (kf := 1) d_Um_register_22 rfl ck6 (by decide) w_250 hh hv k
theorem d_Um_register_25 : decode prog_1_method_6_code 25 = .ok (.iload_n 1, 1) := by decide +kernel
theorem s_Um_register_25 {x : Int32} (hl : lg lv 1 = some (.int x)) (k : ev G M_Um_register R E 26 lv (.int x :: rest) h cells slots) : ev G M_Um_register R E 25 lv rest h cells slots := ev_iload_n d_Um_register_25 rfl hl k
theorem d_Um_register_26 : decode prog_1_method_6_code 26 = .ok (.invokevirtual 92, 3) := by decide +kernel
theorem s_Um_register_26 {mc ms : Nat} {P : Option Value → HP → Prop} {a0 : Int32} {b : Nat} {fs : List Value} {v0 : Value} (hm : mt G M_St_held 0 mc ms (.ref b :: [.int a0]) h P) (hb : h b = mO 5 fs) (hv0 : fs[0]? = some v0) (hR : 0 + 1 ≤ R.frames ∧ 8 + (2 + 11) + 39 * 0 ≤ R.locals) (hcs : cells + mc ≤ R.cells ∧ slots + ms ≤ R.slots) (hrest : (rest.map fun v => v.category).sum ≤ 8) (k : ∀ (r : Option Value) (h' : HP), P r h' → ev G M_Um_register R E 29 lv (r.toList ++ rest) h' (cells + mc) (slots + ms)) : ev G M_Um_register R E 26 lv (.int a0 :: .ref b :: rest) h cells slots := ev_callV (as := [.int a0]) (ci := 5) d_Um_register_26 hm hb hv0 rfl w_592 w_374 w_375 w_65 w_376 hy_St_held hR hcs hrest k
theorem d_Um_register_29 : decode prog_1_method_6_code 29 = .ok (.iload_n 2, 1) := by decide +kernel
theorem s_Um_register_29 {x : Int32} (hl : lg lv 2 = some (.int x)) (k : ev G M_Um_register R E 30 lv (.int x :: rest) h cells slots) : ev G M_Um_register R E 29 lv rest h cells slots := ev_iload_n d_Um_register_29 rfl hl k
theorem d_Um_register_30 : decode prog_1_method_6_code 30 = .ok (.invokestatic 96, 3) := by decide +kernel
theorem s_Um_register_30 {mc ms : Nat} {P : Option Value → HP → Prop} {a0 : Int64} {a1 : Int32} (hm : mt G M_Va_field 2 mc ms [.long a0, .int a1] h P) (hR : 2 + 1 ≤ R.frames ∧ 8 + (3 + 11) + 39 * 2 ≤ R.locals) (hcs : cells + mc ≤ R.cells ∧ slots + ms ≤ R.slots) (hrest : (rest.map fun v => v.category).sum ≤ 8) (k : ∀ (r : Option Value) (h' : HP), P r h' → ev G M_Um_register R E 33 lv (r.toList ++ rest) h' (cells + mc) (slots + ms)) : ev G M_Um_register R E 30 lv (.int a1 :: .long a0 :: rest) h cells slots := ev_callS (as := [.long a0, .int a1]) d_Um_register_30 hm w_593 w_594 w_72 w_595 hy_Va_field hR hcs hrest k
theorem d_Um_register_33 : decode prog_1_method_6_code 33 = .ok (.ireturn, 1) := by decide +kernel
theorem s_Um_register_33 {P : Option Value → HP → Prop} {mc ms : Nat} {v : Int32} (hP : P (some (.int v)) h) (hc : cells ≤ mc ∧ slots ≤ ms) : ev G M_Um_register R (Er M_Um_register P mc ms) 33 lv [.int v] h cells slots := ev_exit ⟨hc.1, hc.2, Or.inr (Or.inl ⟨v, .int, rfl, rfl, d_Um_register_33, rfl, hP⟩)⟩
abbrev M_Um_word : MW := (⟨"UseOnceMachine", "word", "(II)I"⟩, prog_1_method_7_code, 3, (some .int))
theorem hy_Um_word : M_Um_word.1.cls ≠ "java/lang/invoke/MethodHandle" ∧ M_Um_word.1.cls ≠ "java/lang/invoke/VarHandle" ∧ (parseMethodDescriptor M_Um_word.1.desc).map (fun d => d.parameters.length) = some 2 := by decide +kernel
theorem d_Um_word_0 : decode prog_1_method_7_code 0 = .ok (.iload_n 1, 1) := by decide +kernel
theorem s_Um_word_0 {x : Int32} (hl : lg lv 1 = some (.int x)) (k : ev G M_Um_word R E 1 lv (.int x :: rest) h cells slots) : ev G M_Um_word R E 0 lv rest h cells slots := ev_iload_n d_Um_word_0 rfl hl k
theorem d_Um_word_1 : decode prog_1_method_7_code 1 = .ok (.ifCond .lt 18, 3) := by decide +kernel
theorem s_Um_word_1 {x : Int32} (kt : x < 0 → ev G M_Um_word R E 19 lv rest h cells slots) (kf : ¬ x < 0 → ev G M_Um_word R E 4 lv rest h cells slots) : ev G M_Um_word R E 1 lv (.int x :: rest) h cells slots := ev_if_lt d_Um_word_1 (by decide) kt kf
theorem d_Um_word_4 : decode prog_1_method_7_code 4 = .ok (.iload_n 1, 1) := by decide +kernel
theorem s_Um_word_4 {x : Int32} (hl : lg lv 1 = some (.int x)) (k : ev G M_Um_word R E 5 lv (.int x :: rest) h cells slots) : ev G M_Um_word R E 4 lv rest h cells slots := ev_iload_n d_Um_word_4 rfl hl k
theorem d_Um_word_5 : decode prog_1_method_7_code 5 = .ok (.bipush 48, 2) := by decide +kernel
theorem s_Um_word_5  (k : ev G M_Um_word R E 7 lv (.int 48 :: rest) h cells slots) : ev G M_Um_word R E 5 lv rest h cells slots := ev_bipush d_Um_word_5 (by decide) k
theorem d_Um_word_7 : decode prog_1_method_7_code 7 = .ok (.if_icmp .ge 12, 3) := by decide +kernel
theorem s_Um_word_7 {x y : Int32} (kt : y ≤ x → ev G M_Um_word R E 19 lv rest h cells slots) (kf : ¬ y ≤ x → ev G M_Um_word R E 10 lv rest h cells slots) : ev G M_Um_word R E 7 lv (.int y :: .int x :: rest) h cells slots := ev_icmp_ge d_Um_word_7 (by decide) kt kf
theorem d_Um_word_10 : decode prog_1_method_7_code 10 = .ok (.iload_n 2, 1) := by decide +kernel
theorem s_Um_word_10 {x : Int32} (hl : lg lv 2 = some (.int x)) (k : ev G M_Um_word R E 11 lv (.int x :: rest) h cells slots) : ev G M_Um_word R E 10 lv rest h cells slots := ev_iload_n d_Um_word_10 rfl hl k
theorem d_Um_word_11 : decode prog_1_method_7_code 11 = .ok (.ifCond .lt 8, 3) := by decide +kernel
theorem s_Um_word_11 {x : Int32} (kt : x < 0 → ev G M_Um_word R E 19 lv rest h cells slots) (kf : ¬ x < 0 → ev G M_Um_word R E 14 lv rest h cells slots) : ev G M_Um_word R E 11 lv (.int x :: rest) h cells slots := ev_if_lt d_Um_word_11 (by decide) kt kf
theorem d_Um_word_14 : decode prog_1_method_7_code 14 = .ok (.iload_n 2, 1) := by decide +kernel
theorem s_Um_word_14 {x : Int32} (hl : lg lv 2 = some (.int x)) (k : ev G M_Um_word R E 15 lv (.int x :: rest) h cells slots) : ev G M_Um_word R E 14 lv rest h cells slots := ev_iload_n d_Um_word_14 rfl hl k
theorem d_Um_word_15 : decode prog_1_method_7_code 15 = .ok (.iconst 5, 1) := by decide +kernel
theorem s_Um_word_15  (k : ev G M_Um_word R E 16 lv (.int 5 :: rest) h cells slots) : ev G M_Um_word R E 15 lv rest h cells slots := ev_iconst d_Um_word_15 (by decide) k
theorem d_Um_word_16 : decode prog_1_method_7_code 16 = .ok (.if_icmp .lt 5, 3) := by decide +kernel
theorem s_Um_word_16 {x y : Int32} (kt : x < y → ev G M_Um_word R E 21 lv rest h cells slots) (kf : ¬ x < y → ev G M_Um_word R E 19 lv rest h cells slots) : ev G M_Um_word R E 16 lv (.int y :: .int x :: rest) h cells slots := ev_icmp_lt d_Um_word_16 (by decide) kt kf
theorem d_Um_word_19 : decode prog_1_method_7_code 19 = .ok (.iconst (-1), 1) := by decide +kernel
theorem s_Um_word_19  (k : ev G M_Um_word R E 20 lv (.int (-1) :: rest) h cells slots) : ev G M_Um_word R E 19 lv rest h cells slots := ev_iconst d_Um_word_19 (by decide) k
theorem d_Um_word_20 : decode prog_1_method_7_code 20 = .ok (.ireturn, 1) := by decide +kernel
theorem s_Um_word_20 {P : Option Value → HP → Prop} {mc ms : Nat} {v : Int32} (hP : P (some (.int v)) h) (hc : cells ≤ mc ∧ slots ≤ ms) : ev G M_Um_word R (Er M_Um_word P mc ms) 20 lv [.int v] h cells slots := ev_exit ⟨hc.1, hc.2, Or.inr (Or.inl ⟨v, .int, rfl, rfl, d_Um_word_20, rfl, hP⟩)⟩
theorem d_Um_word_21 : decode prog_1_method_7_code 21 = .ok (.aload_n 0, 1) := by decide +kernel
theorem s_Um_word_21 {x : Nat} (hl : lg lv 0 = some (.ref x)) (k : ev G M_Um_word R E 22 lv (.ref x :: rest) h cells slots) : ev G M_Um_word R E 21 lv rest h cells slots := ev_aload_n d_Um_word_21 rfl hl k
theorem d_Um_word_22 : decode prog_1_method_7_code 22 = .ok (.getfield 19, 3) := by decide +kernel
theorem s_Um_word_22 {a : Nat} {fs : List Value} {v : Value} (hh : h a = mO 6 fs) (hv : fs[1]? = some v) (k : ev G M_Um_word R E 25 lv (v :: rest) h cells slots) : ev G M_Um_word R E 22 lv (.ref a :: rest) h cells slots := ev_getfield (ci := 6) (kf := 1) d_Um_word_22 rfl ck6 (by decide) w_250 hh hv k
theorem d_Um_word_25 : decode prog_1_method_7_code 25 = .ok (.bipush 8, 2) := by decide +kernel
theorem s_Um_word_25  (k : ev G M_Um_word R E 27 lv (.int 8 :: rest) h cells slots) : ev G M_Um_word R E 25 lv rest h cells slots := ev_bipush d_Um_word_25 (by decide) k
theorem d_Um_word_27 : decode prog_1_method_7_code 27 = .ok (.iload_n 1, 1) := by decide +kernel
theorem s_Um_word_27 {x : Int32} (hl : lg lv 1 = some (.int x)) (k : ev G M_Um_word R E 28 lv (.int x :: rest) h cells slots) : ev G M_Um_word R E 27 lv rest h cells slots := ev_iload_n d_Um_word_27 rfl hl k
theorem d_Um_word_28 : decode prog_1_method_7_code 28 = .ok (.iadd, 1) := by decide +kernel
theorem s_Um_word_28 {x y : Int32} (k : ev G M_Um_word R E 29 lv (.int (x + y) :: rest) h cells slots) : ev G M_Um_word R E 28 lv (.int y :: .int x :: rest) h cells slots := ev_iadd d_Um_word_28 k
theorem d_Um_word_29 : decode prog_1_method_7_code 29 = .ok (.invokevirtual 92, 3) := by decide +kernel
theorem s_Um_word_29 {mc ms : Nat} {P : Option Value → HP → Prop} {a0 : Int32} {b : Nat} {fs : List Value} {v0 : Value} (hm : mt G M_St_held 0 mc ms (.ref b :: [.int a0]) h P) (hb : h b = mO 5 fs) (hv0 : fs[0]? = some v0) (hR : 0 + 1 ≤ R.frames ∧ 8 + (2 + 11) + 39 * 0 ≤ R.locals) (hcs : cells + mc ≤ R.cells ∧ slots + ms ≤ R.slots) (hrest : (rest.map fun v => v.category).sum ≤ 8) (k : ∀ (r : Option Value) (h' : HP), P r h' → ev G M_Um_word R E 32 lv (r.toList ++ rest) h' (cells + mc) (slots + ms)) : ev G M_Um_word R E 29 lv (.int a0 :: .ref b :: rest) h cells slots := ev_callV (as := [.int a0]) (ci := 5) d_Um_word_29 hm hb hv0 rfl w_592 w_374 w_375 w_65 w_376 hy_St_held hR hcs hrest k
theorem d_Um_word_32 : decode prog_1_method_7_code 32 = .ok (.iload_n 2, 1) := by decide +kernel
theorem s_Um_word_32 {x : Int32} (hl : lg lv 2 = some (.int x)) (k : ev G M_Um_word R E 33 lv (.int x :: rest) h cells slots) : ev G M_Um_word R E 32 lv rest h cells slots := ev_iload_n d_Um_word_32 rfl hl k
theorem d_Um_word_33 : decode prog_1_method_7_code 33 = .ok (.invokestatic 96, 3) := by decide +kernel
theorem s_Um_word_33 {mc ms : Nat} {P : Option Value → HP → Prop} {a0 : Int64} {a1 : Int32} (hm : mt G M_Va_field 2 mc ms [.long a0, .int a1] h P) (hR : 2 + 1 ≤ R.frames ∧ 8 + (3 + 11) + 39 * 2 ≤ R.locals) (hcs : cells + mc ≤ R.cells ∧ slots + ms ≤ R.slots) (hrest : (rest.map fun v => v.category).sum ≤ 8) (k : ∀ (r : Option Value) (h' : HP), P r h' → ev G M_Um_word R E 36 lv (r.toList ++ rest) h' (cells + mc) (slots + ms)) : ev G M_Um_word R E 33 lv (.int a1 :: .long a0 :: rest) h cells slots := ev_callS (as := [.long a0, .int a1]) d_Um_word_33 hm w_593 w_594 w_72 w_595 hy_Va_field hR hcs hrest k
theorem d_Um_word_36 : decode prog_1_method_7_code 36 = .ok (.ireturn, 1) := by decide +kernel
theorem s_Um_word_36 {P : Option Value → HP → Prop} {mc ms : Nat} {v : Int32} (hP : P (some (.int v)) h) (hc : cells ≤ mc ∧ slots ≤ ms) : ev G M_Um_word R (Er M_Um_word P mc ms) 36 lv [.int v] h cells slots := ev_exit ⟨hc.1, hc.2, Or.inr (Or.inl ⟨v, .int, rfl, rfl, d_Um_word_36, rfl, hP⟩)⟩
abbrev M_Um_look : MW := (⟨"UseOnceMachine", "look", "(I)I"⟩, prog_1_method_8_code, 2, (some .int))
theorem hy_Um_look : M_Um_look.1.cls ≠ "java/lang/invoke/MethodHandle" ∧ M_Um_look.1.cls ≠ "java/lang/invoke/VarHandle" ∧ (parseMethodDescriptor M_Um_look.1.desc).map (fun d => d.parameters.length) = some 1 := by decide +kernel
theorem d_Um_look_0 : decode prog_1_method_8_code 0 = .ok (.iload_n 1, 1) := by decide +kernel
theorem s_Um_look_0 {x : Int32} (hl : lg lv 1 = some (.int x)) (k : ev G M_Um_look R E 1 lv (.int x :: rest) h cells slots) : ev G M_Um_look R E 0 lv rest h cells slots := ev_iload_n d_Um_look_0 rfl hl k
theorem d_Um_look_1 : decode prog_1_method_8_code 1 = .ok (.tableswitch 114 0 7 #[47, 55, 63, 71, 79, 87, 96, 105], 47) := by decide +kernel
theorem s_Um_look_1_0  (k : ev G M_Um_look R E 48 lv rest h cells slots) : ev G M_Um_look R E 1 lv (.int 0 :: rest) h cells slots := ev_tableIn (off := 47) d_Um_look_1 (by decide) (by decide) (by decide +kernel) (by decide) k
theorem s_Um_look_1_1  (k : ev G M_Um_look R E 56 lv rest h cells slots) : ev G M_Um_look R E 1 lv (.int 1 :: rest) h cells slots := ev_tableIn (off := 55) d_Um_look_1 (by decide) (by decide) (by decide +kernel) (by decide) k
theorem s_Um_look_1_2  (k : ev G M_Um_look R E 64 lv rest h cells slots) : ev G M_Um_look R E 1 lv (.int 2 :: rest) h cells slots := ev_tableIn (off := 63) d_Um_look_1 (by decide) (by decide) (by decide +kernel) (by decide) k
theorem s_Um_look_1_3  (k : ev G M_Um_look R E 72 lv rest h cells slots) : ev G M_Um_look R E 1 lv (.int 3 :: rest) h cells slots := ev_tableIn (off := 71) d_Um_look_1 (by decide) (by decide) (by decide +kernel) (by decide) k
theorem s_Um_look_1_4  (k : ev G M_Um_look R E 80 lv rest h cells slots) : ev G M_Um_look R E 1 lv (.int 4 :: rest) h cells slots := ev_tableIn (off := 79) d_Um_look_1 (by decide) (by decide) (by decide +kernel) (by decide) k
theorem s_Um_look_1_5  (k : ev G M_Um_look R E 88 lv rest h cells slots) : ev G M_Um_look R E 1 lv (.int 5 :: rest) h cells slots := ev_tableIn (off := 87) d_Um_look_1 (by decide) (by decide) (by decide +kernel) (by decide) k
theorem s_Um_look_1_6  (k : ev G M_Um_look R E 97 lv rest h cells slots) : ev G M_Um_look R E 1 lv (.int 6 :: rest) h cells slots := ev_tableIn (off := 96) d_Um_look_1 (by decide) (by decide) (by decide +kernel) (by decide) k
theorem s_Um_look_1_7  (k : ev G M_Um_look R E 106 lv rest h cells slots) : ev G M_Um_look R E 1 lv (.int 7 :: rest) h cells slots := ev_tableIn (off := 105) d_Um_look_1 (by decide) (by decide) (by decide +kernel) (by decide) k
theorem s_Um_look_1_d {x : Int32} (hx : x.toInt < 0 ∨ 7 < x.toInt) (k : ev G M_Um_look R E 115 lv rest h cells slots) : ev G M_Um_look R E 1 lv (.int x :: rest) h cells slots := ev_tableOut d_Um_look_1 hx (by decide) k
theorem d_Um_look_48 : decode prog_1_method_8_code 48 = .ok (.aload_n 0, 1) := by decide +kernel
theorem s_Um_look_48 {x : Nat} (hl : lg lv 0 = some (.ref x)) (k : ev G M_Um_look R E 49 lv (.ref x :: rest) h cells slots) : ev G M_Um_look R E 48 lv rest h cells slots := ev_aload_n d_Um_look_48 rfl hl k
theorem d_Um_look_49 : decode prog_1_method_8_code 49 = .ok (.getfield 19, 3) := by decide +kernel
theorem s_Um_look_49 {a : Nat} {fs : List Value} {v : Value} (hh : h a = mO 6 fs) (hv : fs[1]? = some v) (k : ev G M_Um_look R E 52 lv (v :: rest) h cells slots) : ev G M_Um_look R E 49 lv (.ref a :: rest) h cells slots := ev_getfield (ci := 6) (kf := 1) d_Um_look_49 rfl ck6 (by decide) w_250 hh hv k
theorem d_Um_look_52 : decode prog_1_method_8_code 52 = .ok (.getfield 100, 3) := by decide +kernel
theorem s_Um_look_52 {a : Nat} {fs : List Value} {v : Value} (hh : h a = mO 5 fs) (hv : fs[10]? = some v) (k : ev G M_Um_look R E 55 lv (v :: rest) h cells slots) : ev G M_Um_look R E 52 lv (.ref a :: rest) h cells slots := ev_getfield (ci := 5) (kf := 10) d_Um_look_52 rfl ck5 (by decide) w_119 hh hv k
theorem d_Um_look_55 : decode prog_1_method_8_code 55 = .ok (.ireturn, 1) := by decide +kernel
theorem s_Um_look_55 {P : Option Value → HP → Prop} {mc ms : Nat} {v : Int32} (hP : P (some (.int v)) h) (hc : cells ≤ mc ∧ slots ≤ ms) : ev G M_Um_look R (Er M_Um_look P mc ms) 55 lv [.int v] h cells slots := ev_exit ⟨hc.1, hc.2, Or.inr (Or.inl ⟨v, .int, rfl, rfl, d_Um_look_55, rfl, hP⟩)⟩
theorem d_Um_look_56 : decode prog_1_method_8_code 56 = .ok (.aload_n 0, 1) := by decide +kernel
theorem s_Um_look_56 {x : Nat} (hl : lg lv 0 = some (.ref x)) (k : ev G M_Um_look R E 57 lv (.ref x :: rest) h cells slots) : ev G M_Um_look R E 56 lv rest h cells slots := ev_aload_n d_Um_look_56 rfl hl k
theorem d_Um_look_57 : decode prog_1_method_8_code 57 = .ok (.getfield 19, 3) := by decide +kernel
theorem s_Um_look_57 {a : Nat} {fs : List Value} {v : Value} (hh : h a = mO 6 fs) (hv : fs[1]? = some v) (k : ev G M_Um_look R E 60 lv (v :: rest) h cells slots) : ev G M_Um_look R E 57 lv (.ref a :: rest) h cells slots := ev_getfield (ci := 6) (kf := 1) d_Um_look_57 rfl ck6 (by decide) w_250 hh hv k
theorem d_Um_look_60 : decode prog_1_method_8_code 60 = .ok (.getfield 103, 3) := by decide +kernel
theorem s_Um_look_60 {a : Nat} {fs : List Value} {v : Value} (hh : h a = mO 5 fs) (hv : fs[11]? = some v) (k : ev G M_Um_look R E 63 lv (v :: rest) h cells slots) : ev G M_Um_look R E 60 lv (.ref a :: rest) h cells slots := ev_getfield (ci := 5) (kf := 11) d_Um_look_60 rfl ck5 (by decide) w_122 hh hv k
theorem d_Um_look_63 : decode prog_1_method_8_code 63 = .ok (.ireturn, 1) := by decide +kernel
theorem s_Um_look_63 {P : Option Value → HP → Prop} {mc ms : Nat} {v : Int32} (hP : P (some (.int v)) h) (hc : cells ≤ mc ∧ slots ≤ ms) : ev G M_Um_look R (Er M_Um_look P mc ms) 63 lv [.int v] h cells slots := ev_exit ⟨hc.1, hc.2, Or.inr (Or.inl ⟨v, .int, rfl, rfl, d_Um_look_63, rfl, hP⟩)⟩
theorem d_Um_look_64 : decode prog_1_method_8_code 64 = .ok (.aload_n 0, 1) := by decide +kernel
theorem s_Um_look_64 {x : Nat} (hl : lg lv 0 = some (.ref x)) (k : ev G M_Um_look R E 65 lv (.ref x :: rest) h cells slots) : ev G M_Um_look R E 64 lv rest h cells slots := ev_aload_n d_Um_look_64 rfl hl k
theorem d_Um_look_65 : decode prog_1_method_8_code 65 = .ok (.getfield 19, 3) := by decide +kernel
theorem s_Um_look_65 {a : Nat} {fs : List Value} {v : Value} (hh : h a = mO 6 fs) (hv : fs[1]? = some v) (k : ev G M_Um_look R E 68 lv (v :: rest) h cells slots) : ev G M_Um_look R E 65 lv (.ref a :: rest) h cells slots := ev_getfield (ci := 6) (kf := 1) d_Um_look_65 rfl ck6 (by decide) w_250 hh hv k
theorem d_Um_look_68 : decode prog_1_method_8_code 68 = .ok (.getfield 106, 3) := by decide +kernel
theorem s_Um_look_68 {a : Nat} {fs : List Value} {v : Value} (hh : h a = mO 5 fs) (hv : fs[12]? = some v) (k : ev G M_Um_look R E 71 lv (v :: rest) h cells slots) : ev G M_Um_look R E 68 lv (.ref a :: rest) h cells slots := ev_getfield (ci := 5) (kf := 12) d_Um_look_68 rfl ck5 (by decide) w_125 hh hv k
theorem d_Um_look_71 : decode prog_1_method_8_code 71 = .ok (.ireturn, 1) := by decide +kernel
theorem s_Um_look_71 {P : Option Value → HP → Prop} {mc ms : Nat} {v : Int32} (hP : P (some (.int v)) h) (hc : cells ≤ mc ∧ slots ≤ ms) : ev G M_Um_look R (Er M_Um_look P mc ms) 71 lv [.int v] h cells slots := ev_exit ⟨hc.1, hc.2, Or.inr (Or.inl ⟨v, .int, rfl, rfl, d_Um_look_71, rfl, hP⟩)⟩
theorem d_Um_look_72 : decode prog_1_method_8_code 72 = .ok (.aload_n 0, 1) := by decide +kernel
theorem s_Um_look_72 {x : Nat} (hl : lg lv 0 = some (.ref x)) (k : ev G M_Um_look R E 73 lv (.ref x :: rest) h cells slots) : ev G M_Um_look R E 72 lv rest h cells slots := ev_aload_n d_Um_look_72 rfl hl k
theorem d_Um_look_73 : decode prog_1_method_8_code 73 = .ok (.getfield 19, 3) := by decide +kernel
theorem s_Um_look_73 {a : Nat} {fs : List Value} {v : Value} (hh : h a = mO 6 fs) (hv : fs[1]? = some v) (k : ev G M_Um_look R E 76 lv (v :: rest) h cells slots) : ev G M_Um_look R E 73 lv (.ref a :: rest) h cells slots := ev_getfield (ci := 6) (kf := 1) d_Um_look_73 rfl ck6 (by decide) w_250 hh hv k
theorem d_Um_look_76 : decode prog_1_method_8_code 76 = .ok (.getfield 109, 3) := by decide +kernel
theorem s_Um_look_76 {a : Nat} {fs : List Value} {v : Value} (hh : h a = mO 5 fs) (hv : fs[13]? = some v) (k : ev G M_Um_look R E 79 lv (v :: rest) h cells slots) : ev G M_Um_look R E 76 lv (.ref a :: rest) h cells slots := ev_getfield (ci := 5) (kf := 13) d_Um_look_76 rfl ck5 (by decide) w_128 hh hv k
theorem d_Um_look_79 : decode prog_1_method_8_code 79 = .ok (.ireturn, 1) := by decide +kernel
theorem s_Um_look_79 {P : Option Value → HP → Prop} {mc ms : Nat} {v : Int32} (hP : P (some (.int v)) h) (hc : cells ≤ mc ∧ slots ≤ ms) : ev G M_Um_look R (Er M_Um_look P mc ms) 79 lv [.int v] h cells slots := ev_exit ⟨hc.1, hc.2, Or.inr (Or.inl ⟨v, .int, rfl, rfl, d_Um_look_79, rfl, hP⟩)⟩
theorem d_Um_look_80 : decode prog_1_method_8_code 80 = .ok (.aload_n 0, 1) := by decide +kernel
theorem s_Um_look_80 {x : Nat} (hl : lg lv 0 = some (.ref x)) (k : ev G M_Um_look R E 81 lv (.ref x :: rest) h cells slots) : ev G M_Um_look R E 80 lv rest h cells slots := ev_aload_n d_Um_look_80 rfl hl k
theorem d_Um_look_81 : decode prog_1_method_8_code 81 = .ok (.getfield 19, 3) := by decide +kernel
theorem s_Um_look_81 {a : Nat} {fs : List Value} {v : Value} (hh : h a = mO 6 fs) (hv : fs[1]? = some v) (k : ev G M_Um_look R E 84 lv (v :: rest) h cells slots) : ev G M_Um_look R E 81 lv (.ref a :: rest) h cells slots := ev_getfield (ci := 6) (kf := 1) d_Um_look_81 rfl ck6 (by decide) w_250 hh hv k
theorem d_Um_look_84 : decode prog_1_method_8_code 84 = .ok (.getfield 78, 3) := by decide +kernel
theorem s_Um_look_84 {a : Nat} {fs : List Value} {v : Value} (hh : h a = mO 5 fs) (hv : fs[14]? = some v) (k : ev G M_Um_look R E 87 lv (v :: rest) h cells slots) : ev G M_Um_look R E 84 lv (.ref a :: rest) h cells slots := ev_getfield (ci := 5) (kf := 14) d_Um_look_84 rfl ck5 (by decide) w_131 hh hv k
theorem d_Um_look_87 : decode prog_1_method_8_code 87 = .ok (.ireturn, 1) := by decide +kernel
theorem s_Um_look_87 {P : Option Value → HP → Prop} {mc ms : Nat} {v : Int32} (hP : P (some (.int v)) h) (hc : cells ≤ mc ∧ slots ≤ ms) : ev G M_Um_look R (Er M_Um_look P mc ms) 87 lv [.int v] h cells slots := ev_exit ⟨hc.1, hc.2, Or.inr (Or.inl ⟨v, .int, rfl, rfl, d_Um_look_87, rfl, hP⟩)⟩
theorem d_Um_look_88 : decode prog_1_method_8_code 88 = .ok (.aload_n 0, 1) := by decide +kernel
theorem s_Um_look_88 {x : Nat} (hl : lg lv 0 = some (.ref x)) (k : ev G M_Um_look R E 89 lv (.ref x :: rest) h cells slots) : ev G M_Um_look R E 88 lv rest h cells slots := ev_aload_n d_Um_look_88 rfl hl k
theorem d_Um_look_89 : decode prog_1_method_8_code 89 = .ok (.getfield 12, 3) := by decide +kernel
theorem s_Um_look_89 {a : Nat} {fs : List Value} {v : Value} (hh : h a = mO 6 fs) (hv : fs[0]? = some v) (k : ev G M_Um_look R E 92 lv (v :: rest) h cells slots) : ev G M_Um_look R E 89 lv (.ref a :: rest) h cells slots := ev_getfield (ci := 6) (kf := 0) d_Um_look_89 rfl ck6 (by decide) w_249 hh hv k
theorem d_Um_look_92 : decode prog_1_method_8_code 92 = .ok (.iconst 0, 1) := by decide +kernel
theorem s_Um_look_92  (k : ev G M_Um_look R E 93 lv (.int 0 :: rest) h cells slots) : ev G M_Um_look R E 92 lv rest h cells slots := ev_iconst d_Um_look_92 (by decide) k
theorem d_Um_look_93 : decode prog_1_method_8_code 93 = .ok (.invokevirtual 112, 3) := by decide +kernel
theorem s_Um_look_93 {mc ms : Nat} {P : Option Value → HP → Prop} {a0 : Int32} {b : Nat} {fs : List Value} {v0 : Value} (hm : mt G M_Co_size 0 mc ms (.ref b :: [.int a0]) h P) (hb : h b = mO 0 fs) (hv0 : fs[0]? = some v0) (hR : 0 + 1 ≤ R.frames ∧ 8 + (2 + 11) + 39 * 0 ≤ R.locals) (hcs : cells + mc ≤ R.cells ∧ slots + ms ≤ R.slots) (hrest : (rest.map fun v => v.category).sum ≤ 8) (k : ∀ (r : Option Value) (h' : HP), P r h' → ev G M_Um_look R E 96 lv (r.toList ++ rest) h' (cells + mc) (slots + ms)) : ev G M_Um_look R E 93 lv (.int a0 :: .ref b :: rest) h cells slots := ev_callV (as := [.int a0]) (ci := 0) d_Um_look_93 hm hb hv0 rfl w_606 w_348 w_349 w_64 w_350 hy_Co_size hR hcs hrest k
theorem d_Um_look_96 : decode prog_1_method_8_code 96 = .ok (.ireturn, 1) := by decide +kernel
theorem s_Um_look_96 {P : Option Value → HP → Prop} {mc ms : Nat} {v : Int32} (hP : P (some (.int v)) h) (hc : cells ≤ mc ∧ slots ≤ ms) : ev G M_Um_look R (Er M_Um_look P mc ms) 96 lv [.int v] h cells slots := ev_exit ⟨hc.1, hc.2, Or.inr (Or.inl ⟨v, .int, rfl, rfl, d_Um_look_96, rfl, hP⟩)⟩
theorem d_Um_look_97 : decode prog_1_method_8_code 97 = .ok (.aload_n 0, 1) := by decide +kernel
theorem s_Um_look_97 {x : Nat} (hl : lg lv 0 = some (.ref x)) (k : ev G M_Um_look R E 98 lv (.ref x :: rest) h cells slots) : ev G M_Um_look R E 97 lv rest h cells slots := ev_aload_n d_Um_look_97 rfl hl k
theorem d_Um_look_98 : decode prog_1_method_8_code 98 = .ok (.getfield 12, 3) := by decide +kernel
theorem s_Um_look_98 {a : Nat} {fs : List Value} {v : Value} (hh : h a = mO 6 fs) (hv : fs[0]? = some v) (k : ev G M_Um_look R E 101 lv (v :: rest) h cells slots) : ev G M_Um_look R E 98 lv (.ref a :: rest) h cells slots := ev_getfield (ci := 6) (kf := 0) d_Um_look_98 rfl ck6 (by decide) w_249 hh hv k
theorem d_Um_look_101 : decode prog_1_method_8_code 101 = .ok (.iconst 1, 1) := by decide +kernel
theorem s_Um_look_101  (k : ev G M_Um_look R E 102 lv (.int 1 :: rest) h cells slots) : ev G M_Um_look R E 101 lv rest h cells slots := ev_iconst d_Um_look_101 (by decide) k
theorem d_Um_look_102 : decode prog_1_method_8_code 102 = .ok (.invokevirtual 112, 3) := by decide +kernel
theorem s_Um_look_102 {mc ms : Nat} {P : Option Value → HP → Prop} {a0 : Int32} {b : Nat} {fs : List Value} {v0 : Value} (hm : mt G M_Co_size 0 mc ms (.ref b :: [.int a0]) h P) (hb : h b = mO 0 fs) (hv0 : fs[0]? = some v0) (hR : 0 + 1 ≤ R.frames ∧ 8 + (2 + 11) + 39 * 0 ≤ R.locals) (hcs : cells + mc ≤ R.cells ∧ slots + ms ≤ R.slots) (hrest : (rest.map fun v => v.category).sum ≤ 8) (k : ∀ (r : Option Value) (h' : HP), P r h' → ev G M_Um_look R E 105 lv (r.toList ++ rest) h' (cells + mc) (slots + ms)) : ev G M_Um_look R E 102 lv (.int a0 :: .ref b :: rest) h cells slots := ev_callV (as := [.int a0]) (ci := 0) d_Um_look_102 hm hb hv0 rfl w_606 w_348 w_349 w_64 w_350 hy_Co_size hR hcs hrest k
theorem d_Um_look_105 : decode prog_1_method_8_code 105 = .ok (.ireturn, 1) := by decide +kernel
theorem s_Um_look_105 {P : Option Value → HP → Prop} {mc ms : Nat} {v : Int32} (hP : P (some (.int v)) h) (hc : cells ≤ mc ∧ slots ≤ ms) : ev G M_Um_look R (Er M_Um_look P mc ms) 105 lv [.int v] h cells slots := ev_exit ⟨hc.1, hc.2, Or.inr (Or.inl ⟨v, .int, rfl, rfl, d_Um_look_105, rfl, hP⟩)⟩
theorem d_Um_look_106 : decode prog_1_method_8_code 106 = .ok (.aload_n 0, 1) := by decide +kernel
theorem s_Um_look_106 {x : Nat} (hl : lg lv 0 = some (.ref x)) (k : ev G M_Um_look R E 107 lv (.ref x :: rest) h cells slots) : ev G M_Um_look R E 106 lv rest h cells slots := ev_aload_n d_Um_look_106 rfl hl k
theorem d_Um_look_107 : decode prog_1_method_8_code 107 = .ok (.getfield 12, 3) := by decide +kernel
theorem s_Um_look_107 {a : Nat} {fs : List Value} {v : Value} (hh : h a = mO 6 fs) (hv : fs[0]? = some v) (k : ev G M_Um_look R E 110 lv (v :: rest) h cells slots) : ev G M_Um_look R E 107 lv (.ref a :: rest) h cells slots := ev_getfield (ci := 6) (kf := 0) d_Um_look_107 rfl ck6 (by decide) w_249 hh hv k
theorem d_Um_look_110 : decode prog_1_method_8_code 110 = .ok (.iconst 2, 1) := by decide +kernel
theorem s_Um_look_110  (k : ev G M_Um_look R E 111 lv (.int 2 :: rest) h cells slots) : ev G M_Um_look R E 110 lv rest h cells slots := ev_iconst d_Um_look_110 (by decide) k
theorem d_Um_look_111 : decode prog_1_method_8_code 111 = .ok (.invokevirtual 112, 3) := by decide +kernel
theorem s_Um_look_111 {mc ms : Nat} {P : Option Value → HP → Prop} {a0 : Int32} {b : Nat} {fs : List Value} {v0 : Value} (hm : mt G M_Co_size 0 mc ms (.ref b :: [.int a0]) h P) (hb : h b = mO 0 fs) (hv0 : fs[0]? = some v0) (hR : 0 + 1 ≤ R.frames ∧ 8 + (2 + 11) + 39 * 0 ≤ R.locals) (hcs : cells + mc ≤ R.cells ∧ slots + ms ≤ R.slots) (hrest : (rest.map fun v => v.category).sum ≤ 8) (k : ∀ (r : Option Value) (h' : HP), P r h' → ev G M_Um_look R E 114 lv (r.toList ++ rest) h' (cells + mc) (slots + ms)) : ev G M_Um_look R E 111 lv (.int a0 :: .ref b :: rest) h cells slots := ev_callV (as := [.int a0]) (ci := 0) d_Um_look_111 hm hb hv0 rfl w_606 w_348 w_349 w_64 w_350 hy_Co_size hR hcs hrest k
theorem d_Um_look_114 : decode prog_1_method_8_code 114 = .ok (.ireturn, 1) := by decide +kernel
theorem s_Um_look_114 {P : Option Value → HP → Prop} {mc ms : Nat} {v : Int32} (hP : P (some (.int v)) h) (hc : cells ≤ mc ∧ slots ≤ ms) : ev G M_Um_look R (Er M_Um_look P mc ms) 114 lv [.int v] h cells slots := ev_exit ⟨hc.1, hc.2, Or.inr (Or.inl ⟨v, .int, rfl, rfl, d_Um_look_114, rfl, hP⟩)⟩
theorem d_Um_look_115 : decode prog_1_method_8_code 115 = .ok (.iconst (-1), 1) := by decide +kernel
theorem s_Um_look_115  (k : ev G M_Um_look R E 116 lv (.int (-1) :: rest) h cells slots) : ev G M_Um_look R E 115 lv rest h cells slots := ev_iconst d_Um_look_115 (by decide) k
theorem d_Um_look_116 : decode prog_1_method_8_code 116 = .ok (.ireturn, 1) := by decide +kernel
theorem s_Um_look_116 {P : Option Value → HP → Prop} {mc ms : Nat} {v : Int32} (hP : P (some (.int v)) h) (hc : cells ≤ mc ∧ slots ≤ ms) : ev G M_Um_look R (Er M_Um_look P mc ms) 116 lv [.int v] h cells slots := ev_exit ⟨hc.1, hc.2, Or.inr (Or.inl ⟨v, .int, rfl, rfl, d_Um_look_116, rfl, hP⟩)⟩
abbrev M_Ow_ownerNumber : MW := (⟨"UseOnceMachine$Owners", "ownerNumber", "(I)I"⟩, prog_4_method_3_code, 2, (some .int))
theorem hy_Ow_ownerNumber : M_Ow_ownerNumber.1.cls ≠ "java/lang/invoke/MethodHandle" ∧ M_Ow_ownerNumber.1.cls ≠ "java/lang/invoke/VarHandle" ∧ (parseMethodDescriptor M_Ow_ownerNumber.1.desc).map (fun d => d.parameters.length) = some 1 := by decide +kernel
theorem d_Ow_ownerNumber_0 : decode prog_4_method_3_code 0 = .ok (.iload_n 0, 1) := by decide +kernel
theorem s_Ow_ownerNumber_0 {x : Int32} (hl : lg lv 0 = some (.int x)) (k : ev G M_Ow_ownerNumber R E 1 lv (.int x :: rest) h cells slots) : ev G M_Ow_ownerNumber R E 0 lv rest h cells slots := ev_iload_n d_Ow_ownerNumber_0 rfl hl k
theorem d_Ow_ownerNumber_1 : decode prog_4_method_3_code 1 = .ok (.bipush 8, 2) := by decide +kernel
theorem s_Ow_ownerNumber_1  (k : ev G M_Ow_ownerNumber R E 3 lv (.int 8 :: rest) h cells slots) : ev G M_Ow_ownerNumber R E 1 lv rest h cells slots := ev_bipush d_Ow_ownerNumber_1 (by decide) k
theorem d_Ow_ownerNumber_3 : decode prog_4_method_3_code 3 = .ok (.if_icmp .ge 5, 3) := by decide +kernel
theorem s_Ow_ownerNumber_3 {x y : Int32} (kt : y ≤ x → ev G M_Ow_ownerNumber R E 8 lv rest h cells slots) (kf : ¬ y ≤ x → ev G M_Ow_ownerNumber R E 6 lv rest h cells slots) : ev G M_Ow_ownerNumber R E 3 lv (.int y :: .int x :: rest) h cells slots := ev_icmp_ge d_Ow_ownerNumber_3 (by decide) kt kf
theorem d_Ow_ownerNumber_6 : decode prog_4_method_3_code 6 = .ok (.iload_n 0, 1) := by decide +kernel
theorem s_Ow_ownerNumber_6 {x : Int32} (hl : lg lv 0 = some (.int x)) (k : ev G M_Ow_ownerNumber R E 7 lv (.int x :: rest) h cells slots) : ev G M_Ow_ownerNumber R E 6 lv rest h cells slots := ev_iload_n d_Ow_ownerNumber_6 rfl hl k
theorem d_Ow_ownerNumber_7 : decode prog_4_method_3_code 7 = .ok (.ireturn, 1) := by decide +kernel
theorem s_Ow_ownerNumber_7 {P : Option Value → HP → Prop} {mc ms : Nat} {v : Int32} (hP : P (some (.int v)) h) (hc : cells ≤ mc ∧ slots ≤ ms) : ev G M_Ow_ownerNumber R (Er M_Ow_ownerNumber P mc ms) 7 lv [.int v] h cells slots := ev_exit ⟨hc.1, hc.2, Or.inr (Or.inl ⟨v, .int, rfl, rfl, d_Ow_ownerNumber_7, rfl, hP⟩)⟩
theorem d_Ow_ownerNumber_8 : decode prog_4_method_3_code 8 = .ok (.iload_n 0, 1) := by decide +kernel
theorem s_Ow_ownerNumber_8 {x : Int32} (hl : lg lv 0 = some (.int x)) (k : ev G M_Ow_ownerNumber R E 9 lv (.int x :: rest) h cells slots) : ev G M_Ow_ownerNumber R E 8 lv rest h cells slots := ev_iload_n d_Ow_ownerNumber_8 rfl hl k
theorem d_Ow_ownerNumber_9 : decode prog_4_method_3_code 9 = .ok (.bipush 56, 2) := by decide +kernel
theorem s_Ow_ownerNumber_9  (k : ev G M_Ow_ownerNumber R E 11 lv (.int 56 :: rest) h cells slots) : ev G M_Ow_ownerNumber R E 9 lv rest h cells slots := ev_bipush d_Ow_ownerNumber_9 (by decide) k
theorem d_Ow_ownerNumber_11 : decode prog_4_method_3_code 11 = .ok (.if_icmp .ge 11, 3) := by decide +kernel
theorem s_Ow_ownerNumber_11 {x y : Int32} (kt : y ≤ x → ev G M_Ow_ownerNumber R E 22 lv rest h cells slots) (kf : ¬ y ≤ x → ev G M_Ow_ownerNumber R E 14 lv rest h cells slots) : ev G M_Ow_ownerNumber R E 11 lv (.int y :: .int x :: rest) h cells slots := ev_icmp_ge d_Ow_ownerNumber_11 (by decide) kt kf
theorem d_Ow_ownerNumber_14 : decode prog_4_method_3_code 14 = .ok (.bipush 100, 2) := by decide +kernel
theorem s_Ow_ownerNumber_14  (k : ev G M_Ow_ownerNumber R E 16 lv (.int 100 :: rest) h cells slots) : ev G M_Ow_ownerNumber R E 14 lv rest h cells slots := ev_bipush d_Ow_ownerNumber_14 (by decide) k
theorem d_Ow_ownerNumber_16 : decode prog_4_method_3_code 16 = .ok (.iload_n 0, 1) := by decide +kernel
theorem s_Ow_ownerNumber_16 {x : Int32} (hl : lg lv 0 = some (.int x)) (k : ev G M_Ow_ownerNumber R E 17 lv (.int x :: rest) h cells slots) : ev G M_Ow_ownerNumber R E 16 lv rest h cells slots := ev_iload_n d_Ow_ownerNumber_16 rfl hl k
theorem d_Ow_ownerNumber_17 : decode prog_4_method_3_code 17 = .ok (.iadd, 1) := by decide +kernel
theorem s_Ow_ownerNumber_17 {x y : Int32} (k : ev G M_Ow_ownerNumber R E 18 lv (.int (x + y) :: rest) h cells slots) : ev G M_Ow_ownerNumber R E 17 lv (.int y :: .int x :: rest) h cells slots := ev_iadd d_Ow_ownerNumber_17 k
theorem d_Ow_ownerNumber_18 : decode prog_4_method_3_code 18 = .ok (.bipush 8, 2) := by decide +kernel
theorem s_Ow_ownerNumber_18  (k : ev G M_Ow_ownerNumber R E 20 lv (.int 8 :: rest) h cells slots) : ev G M_Ow_ownerNumber R E 18 lv rest h cells slots := ev_bipush d_Ow_ownerNumber_18 (by decide) k
theorem d_Ow_ownerNumber_20 : decode prog_4_method_3_code 20 = .ok (.isub, 1) := by decide +kernel
theorem s_Ow_ownerNumber_20 {x y : Int32} (k : ev G M_Ow_ownerNumber R E 21 lv (.int (x - y) :: rest) h cells slots) : ev G M_Ow_ownerNumber R E 20 lv (.int y :: .int x :: rest) h cells slots := ev_isub d_Ow_ownerNumber_20 k
theorem d_Ow_ownerNumber_21 : decode prog_4_method_3_code 21 = .ok (.ireturn, 1) := by decide +kernel
theorem s_Ow_ownerNumber_21 {P : Option Value → HP → Prop} {mc ms : Nat} {v : Int32} (hP : P (some (.int v)) h) (hc : cells ≤ mc ∧ slots ≤ ms) : ev G M_Ow_ownerNumber R (Er M_Ow_ownerNumber P mc ms) 21 lv [.int v] h cells slots := ev_exit ⟨hc.1, hc.2, Or.inr (Or.inl ⟨v, .int, rfl, rfl, d_Ow_ownerNumber_21, rfl, hP⟩)⟩
theorem d_Ow_ownerNumber_22 : decode prog_4_method_3_code 22 = .ok (.iload_n 0, 1) := by decide +kernel
theorem s_Ow_ownerNumber_22 {x : Int32} (hl : lg lv 0 = some (.int x)) (k : ev G M_Ow_ownerNumber R E 23 lv (.int x :: rest) h cells slots) : ev G M_Ow_ownerNumber R E 22 lv rest h cells slots := ev_iload_n d_Ow_ownerNumber_22 rfl hl k
theorem d_Ow_ownerNumber_23 : decode prog_4_method_3_code 23 = .ok (.bipush 96, 2) := by decide +kernel
theorem s_Ow_ownerNumber_23  (k : ev G M_Ow_ownerNumber R E 25 lv (.int 96 :: rest) h cells slots) : ev G M_Ow_ownerNumber R E 23 lv rest h cells slots := ev_bipush d_Ow_ownerNumber_23 (by decide) k
theorem d_Ow_ownerNumber_25 : decode prog_4_method_3_code 25 = .ok (.if_icmp .ge 25, 3) := by decide +kernel
theorem s_Ow_ownerNumber_25 {x y : Int32} (kt : y ≤ x → ev G M_Ow_ownerNumber R E 50 lv rest h cells slots) (kf : ¬ y ≤ x → ev G M_Ow_ownerNumber R E 28 lv rest h cells slots) : ev G M_Ow_ownerNumber R E 25 lv (.int y :: .int x :: rest) h cells slots := ev_icmp_ge d_Ow_ownerNumber_25 (by decide) kt kf
theorem d_Ow_ownerNumber_28 : decode prog_4_method_3_code 28 = .ok (.iload_n 0, 1) := by decide +kernel
theorem s_Ow_ownerNumber_28 {x : Int32} (hl : lg lv 0 = some (.int x)) (k : ev G M_Ow_ownerNumber R E 29 lv (.int x :: rest) h cells slots) : ev G M_Ow_ownerNumber R E 28 lv rest h cells slots := ev_iload_n d_Ow_ownerNumber_28 rfl hl k
theorem d_Ow_ownerNumber_29 : decode prog_4_method_3_code 29 = .ok (.bipush 56, 2) := by decide +kernel
theorem s_Ow_ownerNumber_29  (k : ev G M_Ow_ownerNumber R E 31 lv (.int 56 :: rest) h cells slots) : ev G M_Ow_ownerNumber R E 29 lv rest h cells slots := ev_bipush d_Ow_ownerNumber_29 (by decide) k
theorem d_Ow_ownerNumber_31 : decode prog_4_method_3_code 31 = .ok (.isub, 1) := by decide +kernel
theorem s_Ow_ownerNumber_31 {x y : Int32} (k : ev G M_Ow_ownerNumber R E 32 lv (.int (x - y) :: rest) h cells slots) : ev G M_Ow_ownerNumber R E 31 lv (.int y :: .int x :: rest) h cells slots := ev_isub d_Ow_ownerNumber_31 k
theorem d_Ow_ownerNumber_32 : decode prog_4_method_3_code 32 = .ok (.istore_n 1, 1) := by decide +kernel
theorem s_Ow_ownerNumber_32 {x : Int32} (k : ev G M_Ow_ownerNumber R E 33 (ls1 lv 1 (.int x)) rest h cells slots) : ev G M_Ow_ownerNumber R E 32 lv (.int x :: rest) h cells slots := ev_istore_n d_Ow_ownerNumber_32 rfl (by decide) k
theorem d_Ow_ownerNumber_33 : decode prog_4_method_3_code 33 = .ok (.sipush 200, 3) := by decide +kernel
theorem s_Ow_ownerNumber_33  (k : ev G M_Ow_ownerNumber R E 36 lv (.int 200 :: rest) h cells slots) : ev G M_Ow_ownerNumber R E 33 lv rest h cells slots := ev_sipush d_Ow_ownerNumber_33 (by decide) k
theorem d_Ow_ownerNumber_36 : decode prog_4_method_3_code 36 = .ok (.bipush 10, 2) := by decide +kernel
theorem s_Ow_ownerNumber_36  (k : ev G M_Ow_ownerNumber R E 38 lv (.int 10 :: rest) h cells slots) : ev G M_Ow_ownerNumber R E 36 lv rest h cells slots := ev_bipush d_Ow_ownerNumber_36 (by decide) k
theorem d_Ow_ownerNumber_38 : decode prog_4_method_3_code 38 = .ok (.iload_n 1, 1) := by decide +kernel
theorem s_Ow_ownerNumber_38 {x : Int32} (hl : lg lv 1 = some (.int x)) (k : ev G M_Ow_ownerNumber R E 39 lv (.int x :: rest) h cells slots) : ev G M_Ow_ownerNumber R E 38 lv rest h cells slots := ev_iload_n d_Ow_ownerNumber_38 rfl hl k
theorem d_Ow_ownerNumber_39 : decode prog_4_method_3_code 39 = .ok (.bipush 8, 2) := by decide +kernel
theorem s_Ow_ownerNumber_39  (k : ev G M_Ow_ownerNumber R E 41 lv (.int 8 :: rest) h cells slots) : ev G M_Ow_ownerNumber R E 39 lv rest h cells slots := ev_bipush d_Ow_ownerNumber_39 (by decide) k
theorem d_Ow_ownerNumber_41 : decode prog_4_method_3_code 41 = .ok (.idiv, 1) := by decide +kernel
theorem s_Ow_ownerNumber_41 {x y : Int32} (hne : ¬ y = 0) (k : ev G M_Ow_ownerNumber R E 42 lv (.int (x / y) :: rest) h cells slots) : ev G M_Ow_ownerNumber R E 41 lv (.int y :: .int x :: rest) h cells slots := ev_idiv d_Ow_ownerNumber_41 hne k
theorem d_Ow_ownerNumber_42 : decode prog_4_method_3_code 42 = .ok (.imul, 1) := by decide +kernel
theorem s_Ow_ownerNumber_42 {x y : Int32} (k : ev G M_Ow_ownerNumber R E 43 lv (.int (x * y) :: rest) h cells slots) : ev G M_Ow_ownerNumber R E 42 lv (.int y :: .int x :: rest) h cells slots := ev_imul d_Ow_ownerNumber_42 k
theorem d_Ow_ownerNumber_43 : decode prog_4_method_3_code 43 = .ok (.iadd, 1) := by decide +kernel
theorem s_Ow_ownerNumber_43 {x y : Int32} (k : ev G M_Ow_ownerNumber R E 44 lv (.int (x + y) :: rest) h cells slots) : ev G M_Ow_ownerNumber R E 43 lv (.int y :: .int x :: rest) h cells slots := ev_iadd d_Ow_ownerNumber_43 k
theorem d_Ow_ownerNumber_44 : decode prog_4_method_3_code 44 = .ok (.iload_n 1, 1) := by decide +kernel
theorem s_Ow_ownerNumber_44 {x : Int32} (hl : lg lv 1 = some (.int x)) (k : ev G M_Ow_ownerNumber R E 45 lv (.int x :: rest) h cells slots) : ev G M_Ow_ownerNumber R E 44 lv rest h cells slots := ev_iload_n d_Ow_ownerNumber_44 rfl hl k
theorem d_Ow_ownerNumber_45 : decode prog_4_method_3_code 45 = .ok (.bipush 8, 2) := by decide +kernel
theorem s_Ow_ownerNumber_45  (k : ev G M_Ow_ownerNumber R E 47 lv (.int 8 :: rest) h cells slots) : ev G M_Ow_ownerNumber R E 45 lv rest h cells slots := ev_bipush d_Ow_ownerNumber_45 (by decide) k
theorem d_Ow_ownerNumber_47 : decode prog_4_method_3_code 47 = .ok (.irem, 1) := by decide +kernel
theorem s_Ow_ownerNumber_47 {x y : Int32} (hne : ¬ y = 0) (k : ev G M_Ow_ownerNumber R E 48 lv (.int (x - x / y * y) :: rest) h cells slots) : ev G M_Ow_ownerNumber R E 47 lv (.int y :: .int x :: rest) h cells slots := ev_irem d_Ow_ownerNumber_47 hne k
theorem d_Ow_ownerNumber_48 : decode prog_4_method_3_code 48 = .ok (.iadd, 1) := by decide +kernel
theorem s_Ow_ownerNumber_48 {x y : Int32} (k : ev G M_Ow_ownerNumber R E 49 lv (.int (x + y) :: rest) h cells slots) : ev G M_Ow_ownerNumber R E 48 lv (.int y :: .int x :: rest) h cells slots := ev_iadd d_Ow_ownerNumber_48 k
theorem d_Ow_ownerNumber_49 : decode prog_4_method_3_code 49 = .ok (.ireturn, 1) := by decide +kernel
theorem s_Ow_ownerNumber_49 {P : Option Value → HP → Prop} {mc ms : Nat} {v : Int32} (hP : P (some (.int v)) h) (hc : cells ≤ mc ∧ slots ≤ ms) : ev G M_Ow_ownerNumber R (Er M_Ow_ownerNumber P mc ms) 49 lv [.int v] h cells slots := ev_exit ⟨hc.1, hc.2, Or.inr (Or.inl ⟨v, .int, rfl, rfl, d_Ow_ownerNumber_49, rfl, hP⟩)⟩
theorem d_Ow_ownerNumber_50 : decode prog_4_method_3_code 50 = .ok (.sipush 300, 3) := by decide +kernel
theorem s_Ow_ownerNumber_50  (k : ev G M_Ow_ownerNumber R E 53 lv (.int 300 :: rest) h cells slots) : ev G M_Ow_ownerNumber R E 50 lv rest h cells slots := ev_sipush d_Ow_ownerNumber_50 (by decide) k
theorem d_Ow_ownerNumber_53 : decode prog_4_method_3_code 53 = .ok (.iload_n 0, 1) := by decide +kernel
theorem s_Ow_ownerNumber_53 {x : Int32} (hl : lg lv 0 = some (.int x)) (k : ev G M_Ow_ownerNumber R E 54 lv (.int x :: rest) h cells slots) : ev G M_Ow_ownerNumber R E 53 lv rest h cells slots := ev_iload_n d_Ow_ownerNumber_53 rfl hl k
theorem d_Ow_ownerNumber_54 : decode prog_4_method_3_code 54 = .ok (.iadd, 1) := by decide +kernel
theorem s_Ow_ownerNumber_54 {x y : Int32} (k : ev G M_Ow_ownerNumber R E 55 lv (.int (x + y) :: rest) h cells slots) : ev G M_Ow_ownerNumber R E 54 lv (.int y :: .int x :: rest) h cells slots := ev_iadd d_Ow_ownerNumber_54 k
theorem d_Ow_ownerNumber_55 : decode prog_4_method_3_code 55 = .ok (.bipush 96, 2) := by decide +kernel
theorem s_Ow_ownerNumber_55  (k : ev G M_Ow_ownerNumber R E 57 lv (.int 96 :: rest) h cells slots) : ev G M_Ow_ownerNumber R E 55 lv rest h cells slots := ev_bipush d_Ow_ownerNumber_55 (by decide) k
theorem d_Ow_ownerNumber_57 : decode prog_4_method_3_code 57 = .ok (.isub, 1) := by decide +kernel
theorem s_Ow_ownerNumber_57 {x y : Int32} (k : ev G M_Ow_ownerNumber R E 58 lv (.int (x - y) :: rest) h cells slots) : ev G M_Ow_ownerNumber R E 57 lv (.int y :: .int x :: rest) h cells slots := ev_isub d_Ow_ownerNumber_57 k
theorem d_Ow_ownerNumber_58 : decode prog_4_method_3_code 58 = .ok (.ireturn, 1) := by decide +kernel
theorem s_Ow_ownerNumber_58 {P : Option Value → HP → Prop} {mc ms : Nat} {v : Int32} (hP : P (some (.int v)) h) (hc : cells ≤ mc ∧ slots ≤ ms) : ev G M_Ow_ownerNumber R (Er M_Ow_ownerNumber P mc ms) 58 lv [.int v] h cells slots := ev_exit ⟨hc.1, hc.2, Or.inr (Or.inl ⟨v, .int, rfl, rfl, d_Ow_ownerNumber_58, rfl, hP⟩)⟩
abbrev M_Ow_least : MW := (⟨"UseOnceMachine$Owners", "least", "(II)I"⟩, prog_4_method_2_code, 7, (some .int))
theorem hy_Ow_least : M_Ow_least.1.cls ≠ "java/lang/invoke/MethodHandle" ∧ M_Ow_least.1.cls ≠ "java/lang/invoke/VarHandle" ∧ (parseMethodDescriptor M_Ow_least.1.desc).map (fun d => d.parameters.length) = some 2 := by decide +kernel
theorem d_Ow_least_0 : decode prog_4_method_2_code 0 = .ok (.bipush 6, 2) := by decide +kernel
theorem s_Ow_least_0  (k : ev G M_Ow_least R E 2 lv (.int 6 :: rest) h cells slots) : ev G M_Ow_least R E 0 lv rest h cells slots := ev_bipush d_Ow_least_0 (by decide) k
theorem d_Ow_least_2 : decode prog_4_method_2_code 2 = .ok (.istore_n 3, 1) := by decide +kernel
theorem s_Ow_least_2 {x : Int32} (k : ev G M_Ow_least R E 3 (ls1 lv 3 (.int x)) rest h cells slots) : ev G M_Ow_least R E 2 lv (.int x :: rest) h cells slots := ev_istore_n d_Ow_least_2 rfl (by decide) k
theorem d_Ow_least_3 : decode prog_4_method_2_code 3 = .ok (.iconst 0, 1) := by decide +kernel
theorem s_Ow_least_3  (k : ev G M_Ow_least R E 4 lv (.int 0 :: rest) h cells slots) : ev G M_Ow_least R E 3 lv rest h cells slots := ev_iconst d_Ow_least_3 (by decide) k
theorem d_Ow_least_4 : decode prog_4_method_2_code 4 = .ok (.istore 4, 2) := by decide +kernel
theorem s_Ow_least_4 {x : Int32} (k : ev G M_Ow_least R E 6 (ls1 lv 4 (.int x)) rest h cells slots) : ev G M_Ow_least R E 4 lv (.int x :: rest) h cells slots := ev_istore d_Ow_least_4 (by decide) k
theorem d_Ow_least_6 : decode prog_4_method_2_code 6 = .ok (.iload 4, 2) := by decide +kernel
theorem s_Ow_least_6 {x : Int32} (hl : lg lv 4 = some (.int x)) (k : ev G M_Ow_least R E 8 lv (.int x :: rest) h cells slots) : ev G M_Ow_least R E 6 lv rest h cells slots := ev_iload d_Ow_least_6 hl k
theorem d_Ow_least_8 : decode prog_4_method_2_code 8 = .ok (.bipush 102, 2) := by decide +kernel
theorem s_Ow_least_8  (k : ev G M_Ow_least R E 10 lv (.int 102 :: rest) h cells slots) : ev G M_Ow_least R E 8 lv rest h cells slots := ev_bipush d_Ow_least_8 (by decide) k
theorem d_Ow_least_10 : decode prog_4_method_2_code 10 = .ok (.if_icmp .ge 66, 3) := by decide +kernel
theorem s_Ow_least_10 {x y : Int32} (kt : y ≤ x → ev G M_Ow_least R E 76 lv rest h cells slots) (kf : ¬ y ≤ x → ev G M_Ow_least R E 13 lv rest h cells slots) : ev G M_Ow_least R E 10 lv (.int y :: .int x :: rest) h cells slots := ev_icmp_ge d_Ow_least_10 (by decide) kt kf
theorem d_Ow_least_13 : decode prog_4_method_2_code 13 = .ok (.aload_n 0, 1) := by decide +kernel
theorem s_Ow_least_13 {x : Nat} (hl : lg lv 0 = some (.ref x)) (k : ev G M_Ow_least R E 14 lv (.ref x :: rest) h cells slots) : ev G M_Ow_least R E 13 lv rest h cells slots := ev_aload_n d_Ow_least_13 rfl hl k
theorem d_Ow_least_14 : decode prog_4_method_2_code 14 = .ok (.getfield 21, 3) := by decide +kernel
theorem s_Ow_least_14 {a : Nat} {fs : List Value} {v : Value} (hh : h a = mO 2 fs) (hv : fs[0]? = some v) (k : ev G M_Ow_least R E 17 lv (v :: rest) h cells slots) : ev G M_Ow_least R E 14 lv (.ref a :: rest) h cells slots := ev_getfield (ci := 2) (kf := 0) d_Ow_least_14 rfl ck2 (by decide) w_213 hh hv k
theorem d_Ow_least_17 : decode prog_4_method_2_code 17 = .ok (.iload 4, 2) := by decide +kernel
theorem s_Ow_least_17 {x : Int32} (hl : lg lv 4 = some (.int x)) (k : ev G M_Ow_least R E 19 lv (.int x :: rest) h cells slots) : ev G M_Ow_least R E 17 lv rest h cells slots := ev_iload d_Ow_least_17 hl k
theorem d_Ow_least_19 : decode prog_4_method_2_code 19 = .ok (.invokevirtual 25, 3) := by decide +kernel
theorem s_Ow_least_19 {mc ms : Nat} {P : Option Value → HP → Prop} {a0 : Int32} {b : Nat} {fs : List Value} {v0 : Value} (hm : mt G M_St_held 0 mc ms (.ref b :: [.int a0]) h P) (hb : h b = mO 5 fs) (hv0 : fs[0]? = some v0) (hR : 0 + 1 ≤ R.frames ∧ 8 + (2 + 11) + 39 * 0 ≤ R.locals) (hcs : cells + mc ≤ R.cells ∧ slots + ms ≤ R.slots) (hrest : (rest.map fun v => v.category).sum ≤ 8) (k : ∀ (r : Option Value) (h' : HP), P r h' → ev G M_Ow_least R E 22 lv (r.toList ++ rest) h' (cells + mc) (slots + ms)) : ev G M_Ow_least R E 19 lv (.int a0 :: .ref b :: rest) h cells slots := ev_callV (as := [.int a0]) (ci := 5) d_Ow_least_19 hm hb hv0 rfl w_615 w_374 w_375 w_65 w_376 hy_St_held hR hcs hrest k
theorem d_Ow_least_22 : decode prog_4_method_2_code 22 = .ok (.lstore 5, 2) := by decide +kernel
theorem s_Ow_least_22 {x : Int64} (k : ev G M_Ow_least R E 24 (ls2 lv 5 (.long x)) rest h cells slots) : ev G M_Ow_least R E 22 lv (.long x :: rest) h cells slots := ev_lstore d_Ow_least_22 (by decide) k
theorem d_Ow_least_24 : decode prog_4_method_2_code 24 = .ok (.lload 5, 2) := by decide +kernel
theorem s_Ow_least_24 {x : Int64} (hl : lg lv 5 = some (.long x)) (k : ev G M_Ow_least R E 26 lv (.long x :: rest) h cells slots) : ev G M_Ow_least R E 24 lv rest h cells slots := ev_lload d_Ow_least_24 hl k
theorem d_Ow_least_26 : decode prog_4_method_2_code 26 = .ok (.iload_n 1, 1) := by decide +kernel
theorem s_Ow_least_26 {x : Int32} (hl : lg lv 1 = some (.int x)) (k : ev G M_Ow_least R E 27 lv (.int x :: rest) h cells slots) : ev G M_Ow_least R E 26 lv rest h cells slots := ev_iload_n d_Ow_least_26 rfl hl k
theorem d_Ow_least_27 : decode prog_4_method_2_code 27 = .ok (.invokestatic 31, 3) := by decide +kernel
theorem s_Ow_least_27 {mc ms : Nat} {P : Option Value → HP → Prop} {a0 : Int64} {a1 : Int32} (hm : mt G M_Va_covers 2 mc ms [.long a0, .int a1] h P) (hR : 2 + 1 ≤ R.frames ∧ 8 + (3 + 11) + 39 * 2 ≤ R.locals) (hcs : cells + mc ≤ R.cells ∧ slots + ms ≤ R.slots) (hrest : (rest.map fun v => v.category).sum ≤ 8) (k : ∀ (r : Option Value) (h' : HP), P r h' → ev G M_Ow_least R E 30 lv (r.toList ++ rest) h' (cells + mc) (slots + ms)) : ev G M_Ow_least R E 27 lv (.int a1 :: .long a0 :: rest) h cells slots := ev_callS (as := [.long a0, .int a1]) d_Ow_least_27 hm w_616 w_617 w_72 w_618 hy_Va_covers hR hcs hrest k
theorem d_Ow_least_30 : decode prog_4_method_2_code 30 = .ok (.ifCond .eq 40, 3) := by decide +kernel
theorem s_Ow_least_30 {x : Int32} (kt : x = 0 → ev G M_Ow_least R E 70 lv rest h cells slots) (kf : ¬ x = 0 → ev G M_Ow_least R E 33 lv rest h cells slots) : ev G M_Ow_least R E 30 lv (.int x :: rest) h cells slots := ev_if_eq d_Ow_least_30 (by decide) kt kf
theorem d_Ow_least_33 : decode prog_4_method_2_code 33 = .ok (.lload 5, 2) := by decide +kernel
theorem s_Ow_least_33 {x : Int64} (hl : lg lv 5 = some (.long x)) (k : ev G M_Ow_least R E 35 lv (.long x :: rest) h cells slots) : ev G M_Ow_least R E 33 lv rest h cells slots := ev_lload d_Ow_least_33 hl k
theorem d_Ow_least_35 : decode prog_4_method_2_code 35 = .ok (.iload_n 2, 1) := by decide +kernel
theorem s_Ow_least_35 {x : Int32} (hl : lg lv 2 = some (.int x)) (k : ev G M_Ow_least R E 36 lv (.int x :: rest) h cells slots) : ev G M_Ow_least R E 35 lv rest h cells slots := ev_iload_n d_Ow_least_35 rfl hl k
theorem d_Ow_least_36 : decode prog_4_method_2_code 36 = .ok (.invokestatic 37, 3) := by decide +kernel
theorem s_Ow_least_36 {mc ms : Nat} {P : Option Value → HP → Prop} {a0 : Int64} {a1 : Int32} (hm : mt G M_Va_hasRight 2 mc ms [.long a0, .int a1] h P) (hR : 2 + 1 ≤ R.frames ∧ 8 + (3 + 11) + 39 * 2 ≤ R.locals) (hcs : cells + mc ≤ R.cells ∧ slots + ms ≤ R.slots) (hrest : (rest.map fun v => v.category).sum ≤ 8) (k : ∀ (r : Option Value) (h' : HP), P r h' → ev G M_Ow_least R E 39 lv (r.toList ++ rest) h' (cells + mc) (slots + ms)) : ev G M_Ow_least R E 36 lv (.int a1 :: .long a0 :: rest) h cells slots := ev_callS (as := [.long a0, .int a1]) d_Ow_least_36 hm w_619 w_508 w_72 w_509 hy_Va_hasRight hR hcs hrest k
theorem d_Ow_least_39 : decode prog_4_method_2_code 39 = .ok (.ifCond .ne 6, 3) := by decide +kernel
theorem s_Ow_least_39 {x : Int32} (kt : ¬ x = 0 → ev G M_Ow_least R E 45 lv rest h cells slots) (kf : x = 0 → ev G M_Ow_least R E 42 lv rest h cells slots) : ev G M_Ow_least R E 39 lv (.int x :: rest) h cells slots := ev_if_ne d_Ow_least_39 (by decide) kt kf
theorem d_Ow_least_42 : decode prog_4_method_2_code 42 = .ok (.goto 28, 3) := by decide +kernel
theorem s_Ow_least_42  (k : ev G M_Ow_least R E 70 lv rest h cells slots) : ev G M_Ow_least R E 42 lv rest h cells slots := ev_goto d_Ow_least_42 (by decide) k
theorem d_Ow_least_45 : decode prog_4_method_2_code 45 = .ok (.lload 5, 2) := by decide +kernel
theorem s_Ow_least_45 {x : Int64} (hl : lg lv 5 = some (.long x)) (k : ev G M_Ow_least R E 47 lv (.long x :: rest) h cells slots) : ev G M_Ow_least R E 45 lv rest h cells slots := ev_lload d_Ow_least_45 hl k
theorem d_Ow_least_47 : decode prog_4_method_2_code 47 = .ok (.invokestatic 40, 3) := by decide +kernel
theorem s_Ow_least_47 {mc ms : Nat} {P : Option Value → HP → Prop} {a0 : Int64} (hm : mt G M_Va_kind 0 mc ms [.long a0] h P) (hR : 0 + 1 ≤ R.frames ∧ 8 + (2 + 11) + 39 * 0 ≤ R.locals) (hcs : cells + mc ≤ R.cells ∧ slots + ms ≤ R.slots) (hrest : (rest.map fun v => v.category).sum ≤ 8) (k : ∀ (r : Option Value) (h' : HP), P r h' → ev G M_Ow_least R E 50 lv (r.toList ++ rest) h' (cells + mc) (slots + ms)) : ev G M_Ow_least R E 47 lv (.long a0 :: rest) h cells slots := ev_callS (as := [.long a0]) d_Ow_least_47 hm w_620 w_381 w_72 w_382 hy_Va_kind hR hcs hrest k
theorem d_Ow_least_50 : decode prog_4_method_2_code 50 = .ok (.iconst 1, 1) := by decide +kernel
theorem s_Ow_least_50  (k : ev G M_Ow_least R E 51 lv (.int 1 :: rest) h cells slots) : ev G M_Ow_least R E 50 lv rest h cells slots := ev_iconst d_Ow_least_50 (by decide) k
theorem d_Ow_least_51 : decode prog_4_method_2_code 51 = .ok (.if_icmp .ne 9, 3) := by decide +kernel
theorem s_Ow_least_51 {x y : Int32} (kt : ¬ x = y → ev G M_Ow_least R E 60 lv rest h cells slots) (kf : x = y → ev G M_Ow_least R E 54 lv rest h cells slots) : ev G M_Ow_least R E 51 lv (.int y :: .int x :: rest) h cells slots := ev_icmp_ne d_Ow_least_51 (by decide) kt kf
theorem d_Ow_least_54 : decode prog_4_method_2_code 54 = .ok (.iload 4, 2) := by decide +kernel
theorem s_Ow_least_54 {x : Int32} (hl : lg lv 4 = some (.int x)) (k : ev G M_Ow_least R E 56 lv (.int x :: rest) h cells slots) : ev G M_Ow_least R E 54 lv rest h cells slots := ev_iload d_Ow_least_54 hl k
theorem d_Ow_least_56 : decode prog_4_method_2_code 56 = .ok (.invokestatic 44, 3) := by decide +kernel
theorem s_Ow_least_56 {mc ms : Nat} {P : Option Value → HP → Prop} {a0 : Int32} (hm : mt G M_Ow_ownerNumber 0 mc ms [.int a0] h P) (hR : 0 + 1 ≤ R.frames ∧ 8 + (2 + 11) + 39 * 0 ≤ R.locals) (hcs : cells + mc ≤ R.cells ∧ slots + ms ≤ R.slots) (hrest : (rest.map fun v => v.category).sum ≤ 8) (k : ∀ (r : Option Value) (h' : HP), P r h' → ev G M_Ow_least R E 59 lv (r.toList ++ rest) h' (cells + mc) (slots + ms)) : ev G M_Ow_least R E 56 lv (.int a0 :: rest) h cells slots := ev_callS (as := [.int a0]) d_Ow_least_56 hm w_621 w_622 w_68 w_623 hy_Ow_ownerNumber hR hcs hrest k
theorem d_Ow_least_59 : decode prog_4_method_2_code 59 = .ok (.ireturn, 1) := by decide +kernel
theorem s_Ow_least_59 {P : Option Value → HP → Prop} {mc ms : Nat} {v : Int32} (hP : P (some (.int v)) h) (hc : cells ≤ mc ∧ slots ≤ ms) : ev G M_Ow_least R (Er M_Ow_least P mc ms) 59 lv [.int v] h cells slots := ev_exit ⟨hc.1, hc.2, Or.inr (Or.inl ⟨v, .int, rfl, rfl, d_Ow_least_59, rfl, hP⟩)⟩
theorem d_Ow_least_60 : decode prog_4_method_2_code 60 = .ok (.iload_n 3, 1) := by decide +kernel
theorem s_Ow_least_60 {x : Int32} (hl : lg lv 3 = some (.int x)) (k : ev G M_Ow_least R E 61 lv (.int x :: rest) h cells slots) : ev G M_Ow_least R E 60 lv rest h cells slots := ev_iload_n d_Ow_least_60 rfl hl k
theorem d_Ow_least_61 : decode prog_4_method_2_code 61 = .ok (.lload 5, 2) := by decide +kernel
theorem s_Ow_least_61 {x : Int64} (hl : lg lv 5 = some (.long x)) (k : ev G M_Ow_least R E 63 lv (.long x :: rest) h cells slots) : ev G M_Ow_least R E 61 lv rest h cells slots := ev_lload d_Ow_least_61 hl k
theorem d_Ow_least_63 : decode prog_4_method_2_code 63 = .ok (.invokestatic 48, 3) := by decide +kernel
theorem s_Ow_least_63 {mc ms : Nat} {P : Option Value → HP → Prop} {a0 : Int64} (hm : mt G M_Va_link 0 mc ms [.long a0] h P) (hR : 0 + 1 ≤ R.frames ∧ 8 + (2 + 11) + 39 * 0 ≤ R.locals) (hcs : cells + mc ≤ R.cells ∧ slots + ms ≤ R.slots) (hrest : (rest.map fun v => v.category).sum ≤ 8) (k : ∀ (r : Option Value) (h' : HP), P r h' → ev G M_Ow_least R E 66 lv (r.toList ++ rest) h' (cells + mc) (slots + ms)) : ev G M_Ow_least R E 63 lv (.long a0 :: rest) h cells slots := ev_callS (as := [.long a0]) d_Ow_least_63 hm w_624 w_415 w_72 w_416 hy_Va_link hR hcs hrest k
theorem d_Ow_least_66 : decode prog_4_method_2_code 66 = .ok (.invokestatic 51, 3) := by decide +kernel
theorem s_Ow_least_66 {mc ms : Nat} {P : Option Value → HP → Prop} {a0 : Int32} {a1 : Int32} (hm : mt G M_Jm_min 0 mc ms [.int a0, .int a1] h P) (hR : 0 + 1 ≤ R.frames ∧ 8 + (2 + 11) + 39 * 0 ≤ R.locals) (hcs : cells + mc ≤ R.cells ∧ slots + ms ≤ R.slots) (hrest : (rest.map fun v => v.category).sum ≤ 8) (k : ∀ (r : Option Value) (h' : HP), P r h' → ev G M_Ow_least R E 69 lv (r.toList ++ rest) h' (cells + mc) (slots + ms)) : ev G M_Ow_least R E 66 lv (.int a1 :: .int a0 :: rest) h cells slots := ev_callS (as := [.int a0, .int a1]) d_Ow_least_66 hm w_625 w_329 w_74 w_330 hy_Jm_min hR hcs hrest k
theorem d_Ow_least_69 : decode prog_4_method_2_code 69 = .ok (.istore_n 3, 1) := by decide +kernel
theorem s_Ow_least_69 {x : Int32} (k : ev G M_Ow_least R E 70 (ls1 lv 3 (.int x)) rest h cells slots) : ev G M_Ow_least R E 69 lv (.int x :: rest) h cells slots := ev_istore_n d_Ow_least_69 rfl (by decide) k
theorem d_Ow_least_70 : decode prog_4_method_2_code 70 = .ok (.iinc 4 1, 3) := by decide +kernel
theorem s_Ow_least_70 {x : Int32} (hl : lg lv 4 = some (.int x)) (k : ev G M_Ow_least R E 73 (ls1 lv 4 (.int (x + 1))) rest h cells slots) : ev G M_Ow_least R E 70 lv rest h cells slots := ev_iinc d_Ow_least_70 (by decide) hl (by decide) k
theorem d_Ow_least_73 : decode prog_4_method_2_code 73 = .ok (.goto (-67), 3) := by decide +kernel
theorem s_Ow_least_73  (k : ev G M_Ow_least R E 6 lv rest h cells slots) : ev G M_Ow_least R E 73 lv rest h cells slots := ev_goto d_Ow_least_73 (by decide) k
theorem d_Ow_least_76 : decode prog_4_method_2_code 76 = .ok (.iload_n 3, 1) := by decide +kernel
theorem s_Ow_least_76 {x : Int32} (hl : lg lv 3 = some (.int x)) (k : ev G M_Ow_least R E 77 lv (.int x :: rest) h cells slots) : ev G M_Ow_least R E 76 lv rest h cells slots := ev_iload_n d_Ow_least_76 rfl hl k
theorem d_Ow_least_77 : decode prog_4_method_2_code 77 = .ok (.bipush 6, 2) := by decide +kernel
theorem s_Ow_least_77  (k : ev G M_Ow_least R E 79 lv (.int 6 :: rest) h cells slots) : ev G M_Ow_least R E 77 lv rest h cells slots := ev_bipush d_Ow_least_77 (by decide) k
theorem d_Ow_least_79 : decode prog_4_method_2_code 79 = .ok (.if_icmp .ge 11, 3) := by decide +kernel
theorem s_Ow_least_79 {x y : Int32} (kt : y ≤ x → ev G M_Ow_least R E 90 lv rest h cells slots) (kf : ¬ y ≤ x → ev G M_Ow_least R E 82 lv rest h cells slots) : ev G M_Ow_least R E 79 lv (.int y :: .int x :: rest) h cells slots := ev_icmp_ge d_Ow_least_79 (by decide) kt kf
theorem d_Ow_least_82 : decode prog_4_method_2_code 82 = .ok (.sipush 400, 3) := by decide +kernel
theorem s_Ow_least_82  (k : ev G M_Ow_least R E 85 lv (.int 400 :: rest) h cells slots) : ev G M_Ow_least R E 82 lv rest h cells slots := ev_sipush d_Ow_least_82 (by decide) k
theorem d_Ow_least_85 : decode prog_4_method_2_code 85 = .ok (.iload_n 3, 1) := by decide +kernel
theorem s_Ow_least_85 {x : Int32} (hl : lg lv 3 = some (.int x)) (k : ev G M_Ow_least R E 86 lv (.int x :: rest) h cells slots) : ev G M_Ow_least R E 85 lv rest h cells slots := ev_iload_n d_Ow_least_85 rfl hl k
theorem d_Ow_least_86 : decode prog_4_method_2_code 86 = .ok (.iadd, 1) := by decide +kernel
theorem s_Ow_least_86 {x y : Int32} (k : ev G M_Ow_least R E 87 lv (.int (x + y) :: rest) h cells slots) : ev G M_Ow_least R E 86 lv (.int y :: .int x :: rest) h cells slots := ev_iadd d_Ow_least_86 k
theorem d_Ow_least_87 : decode prog_4_method_2_code 87 = .ok (.goto 4, 3) := by decide +kernel
theorem s_Ow_least_87  (k : ev G M_Ow_least R E 91 lv rest h cells slots) : ev G M_Ow_least R E 87 lv rest h cells slots := ev_goto d_Ow_least_87 (by decide) k
theorem d_Ow_least_90 : decode prog_4_method_2_code 90 = .ok (.iconst (-1), 1) := by decide +kernel
theorem s_Ow_least_90  (k : ev G M_Ow_least R E 91 lv (.int (-1) :: rest) h cells slots) : ev G M_Ow_least R E 90 lv rest h cells slots := ev_iconst d_Ow_least_90 (by decide) k
theorem d_Ow_least_91 : decode prog_4_method_2_code 91 = .ok (.ireturn, 1) := by decide +kernel
theorem s_Ow_least_91 {P : Option Value → HP → Prop} {mc ms : Nat} {v : Int32} (hP : P (some (.int v)) h) (hc : cells ≤ mc ∧ slots ≤ ms) : ev G M_Ow_least R (Er M_Ow_least P mc ms) 91 lv [.int v] h cells slots := ev_exit ⟨hc.1, hc.2, Or.inr (Or.inl ⟨v, .int, rfl, rfl, d_Ow_least_91, rfl, hP⟩)⟩
abbrev M_Um_owner : MW := (⟨"UseOnceMachine", "owner", "(II)I"⟩, prog_1_method_9_code, 4, (some .int))
theorem hy_Um_owner : M_Um_owner.1.cls ≠ "java/lang/invoke/MethodHandle" ∧ M_Um_owner.1.cls ≠ "java/lang/invoke/VarHandle" ∧ (parseMethodDescriptor M_Um_owner.1.desc).map (fun d => d.parameters.length) = some 2 := by decide +kernel
theorem d_Um_owner_0 : decode prog_1_method_9_code 0 = .ok (.iload_n 2, 1) := by decide +kernel
theorem s_Um_owner_0 {x : Int32} (hl : lg lv 2 = some (.int x)) (k : ev G M_Um_owner R E 1 lv (.int x :: rest) h cells slots) : ev G M_Um_owner R E 0 lv rest h cells slots := ev_iload_n d_Um_owner_0 rfl hl k
theorem d_Um_owner_1 : decode prog_1_method_9_code 1 = .ok (.iconst 1, 1) := by decide +kernel
theorem s_Um_owner_1  (k : ev G M_Um_owner R E 2 lv (.int 1 :: rest) h cells slots) : ev G M_Um_owner R E 1 lv rest h cells slots := ev_iconst d_Um_owner_1 (by decide) k
theorem d_Um_owner_2 : decode prog_1_method_9_code 2 = .ok (.if_icmp .eq 19, 3) := by decide +kernel
theorem s_Um_owner_2 {x y : Int32} (kt : x = y → ev G M_Um_owner R E 21 lv rest h cells slots) (kf : ¬ x = y → ev G M_Um_owner R E 5 lv rest h cells slots) : ev G M_Um_owner R E 2 lv (.int y :: .int x :: rest) h cells slots := ev_icmp_eq d_Um_owner_2 (by decide) kt kf
theorem d_Um_owner_5 : decode prog_1_method_9_code 5 = .ok (.iload_n 2, 1) := by decide +kernel
theorem s_Um_owner_5 {x : Int32} (hl : lg lv 2 = some (.int x)) (k : ev G M_Um_owner R E 6 lv (.int x :: rest) h cells slots) : ev G M_Um_owner R E 5 lv rest h cells slots := ev_iload_n d_Um_owner_5 rfl hl k
theorem d_Um_owner_6 : decode prog_1_method_9_code 6 = .ok (.iconst 2, 1) := by decide +kernel
theorem s_Um_owner_6  (k : ev G M_Um_owner R E 7 lv (.int 2 :: rest) h cells slots) : ev G M_Um_owner R E 6 lv rest h cells slots := ev_iconst d_Um_owner_6 (by decide) k
theorem d_Um_owner_7 : decode prog_1_method_9_code 7 = .ok (.if_icmp .eq 14, 3) := by decide +kernel
theorem s_Um_owner_7 {x y : Int32} (kt : x = y → ev G M_Um_owner R E 21 lv rest h cells slots) (kf : ¬ x = y → ev G M_Um_owner R E 10 lv rest h cells slots) : ev G M_Um_owner R E 7 lv (.int y :: .int x :: rest) h cells slots := ev_icmp_eq d_Um_owner_7 (by decide) kt kf
theorem d_Um_owner_10 : decode prog_1_method_9_code 10 = .ok (.iload_n 2, 1) := by decide +kernel
theorem s_Um_owner_10 {x : Int32} (hl : lg lv 2 = some (.int x)) (k : ev G M_Um_owner R E 11 lv (.int x :: rest) h cells slots) : ev G M_Um_owner R E 10 lv rest h cells slots := ev_iload_n d_Um_owner_10 rfl hl k
theorem d_Um_owner_11 : decode prog_1_method_9_code 11 = .ok (.iconst 4, 1) := by decide +kernel
theorem s_Um_owner_11  (k : ev G M_Um_owner R E 12 lv (.int 4 :: rest) h cells slots) : ev G M_Um_owner R E 11 lv rest h cells slots := ev_iconst d_Um_owner_11 (by decide) k
theorem d_Um_owner_12 : decode prog_1_method_9_code 12 = .ok (.if_icmp .eq 9, 3) := by decide +kernel
theorem s_Um_owner_12 {x y : Int32} (kt : x = y → ev G M_Um_owner R E 21 lv rest h cells slots) (kf : ¬ x = y → ev G M_Um_owner R E 15 lv rest h cells slots) : ev G M_Um_owner R E 12 lv (.int y :: .int x :: rest) h cells slots := ev_icmp_eq d_Um_owner_12 (by decide) kt kf
theorem d_Um_owner_15 : decode prog_1_method_9_code 15 = .ok (.iload_n 2, 1) := by decide +kernel
theorem s_Um_owner_15 {x : Int32} (hl : lg lv 2 = some (.int x)) (k : ev G M_Um_owner R E 16 lv (.int x :: rest) h cells slots) : ev G M_Um_owner R E 15 lv rest h cells slots := ev_iload_n d_Um_owner_15 rfl hl k
theorem d_Um_owner_16 : decode prog_1_method_9_code 16 = .ok (.bipush 8, 2) := by decide +kernel
theorem s_Um_owner_16  (k : ev G M_Um_owner R E 18 lv (.int 8 :: rest) h cells slots) : ev G M_Um_owner R E 16 lv rest h cells slots := ev_bipush d_Um_owner_16 (by decide) k
theorem d_Um_owner_18 : decode prog_1_method_9_code 18 = .ok (.if_icmp .ne 7, 3) := by decide +kernel
theorem s_Um_owner_18 {x y : Int32} (kt : ¬ x = y → ev G M_Um_owner R E 25 lv rest h cells slots) (kf : x = y → ev G M_Um_owner R E 21 lv rest h cells slots) : ev G M_Um_owner R E 18 lv (.int y :: .int x :: rest) h cells slots := ev_icmp_ne d_Um_owner_18 (by decide) kt kf
theorem d_Um_owner_21 : decode prog_1_method_9_code 21 = .ok (.iconst 1, 1) := by decide +kernel
theorem s_Um_owner_21  (k : ev G M_Um_owner R E 22 lv (.int 1 :: rest) h cells slots) : ev G M_Um_owner R E 21 lv rest h cells slots := ev_iconst d_Um_owner_21 (by decide) k
theorem d_Um_owner_22 : decode prog_1_method_9_code 22 = .ok (.goto 4, 3) := by decide +kernel
theorem s_Um_owner_22  (k : ev G M_Um_owner R E 26 lv rest h cells slots) : ev G M_Um_owner R E 22 lv rest h cells slots := ev_goto d_Um_owner_22 (by decide) k
theorem d_Um_owner_25 : decode prog_1_method_9_code 25 = .ok (.iconst 0, 1) := by decide +kernel
theorem s_Um_owner_25  (k : ev G M_Um_owner R E 26 lv (.int 0 :: rest) h cells slots) : ev G M_Um_owner R E 25 lv rest h cells slots := ev_iconst d_Um_owner_25 (by decide) k
theorem d_Um_owner_26 : decode prog_1_method_9_code 26 = .ok (.istore_n 3, 1) := by decide +kernel
theorem s_Um_owner_26 {x : Int32} (k : ev G M_Um_owner R E 27 (ls1 lv 3 (.int x)) rest h cells slots) : ev G M_Um_owner R E 26 lv (.int x :: rest) h cells slots := ev_istore_n d_Um_owner_26 rfl (by decide) k
theorem d_Um_owner_27 : decode prog_1_method_9_code 27 = .ok (.iload_n 1, 1) := by decide +kernel
theorem s_Um_owner_27 {x : Int32} (hl : lg lv 1 = some (.int x)) (k : ev G M_Um_owner R E 28 lv (.int x :: rest) h cells slots) : ev G M_Um_owner R E 27 lv rest h cells slots := ev_iload_n d_Um_owner_27 rfl hl k
theorem d_Um_owner_28 : decode prog_1_method_9_code 28 = .ok (.ifCond .lt 13, 3) := by decide +kernel
theorem s_Um_owner_28 {x : Int32} (kt : x < 0 → ev G M_Um_owner R E 41 lv rest h cells slots) (kf : ¬ x < 0 → ev G M_Um_owner R E 31 lv rest h cells slots) : ev G M_Um_owner R E 28 lv (.int x :: rest) h cells slots := ev_if_lt d_Um_owner_28 (by decide) kt kf
theorem d_Um_owner_31 : decode prog_1_method_9_code 31 = .ok (.iload_n 1, 1) := by decide +kernel
theorem s_Um_owner_31 {x : Int32} (hl : lg lv 1 = some (.int x)) (k : ev G M_Um_owner R E 32 lv (.int x :: rest) h cells slots) : ev G M_Um_owner R E 31 lv rest h cells slots := ev_iload_n d_Um_owner_31 rfl hl k
theorem d_Um_owner_32 : decode prog_1_method_9_code 32 = .ok (.bipush 48, 2) := by decide +kernel
theorem s_Um_owner_32  (k : ev G M_Um_owner R E 34 lv (.int 48 :: rest) h cells slots) : ev G M_Um_owner R E 32 lv rest h cells slots := ev_bipush d_Um_owner_32 (by decide) k
theorem d_Um_owner_34 : decode prog_1_method_9_code 34 = .ok (.if_icmp .ge 7, 3) := by decide +kernel
theorem s_Um_owner_34 {x y : Int32} (kt : y ≤ x → ev G M_Um_owner R E 41 lv rest h cells slots) (kf : ¬ y ≤ x → ev G M_Um_owner R E 37 lv rest h cells slots) : ev G M_Um_owner R E 34 lv (.int y :: .int x :: rest) h cells slots := ev_icmp_ge d_Um_owner_34 (by decide) kt kf
theorem d_Um_owner_37 : decode prog_1_method_9_code 37 = .ok (.iload_n 3, 1) := by decide +kernel
theorem s_Um_owner_37 {x : Int32} (hl : lg lv 3 = some (.int x)) (k : ev G M_Um_owner R E 38 lv (.int x :: rest) h cells slots) : ev G M_Um_owner R E 37 lv rest h cells slots := ev_iload_n d_Um_owner_37 rfl hl k
theorem d_Um_owner_38 : decode prog_1_method_9_code 38 = .ok (.ifCond .ne 5, 3) := by decide +kernel
theorem s_Um_owner_38 {x : Int32} (kt : ¬ x = 0 → ev G M_Um_owner R E 43 lv rest h cells slots) (kf : x = 0 → ev G M_Um_owner R E 41 lv rest h cells slots) : ev G M_Um_owner R E 38 lv (.int x :: rest) h cells slots := ev_if_ne d_Um_owner_38 (by decide) kt kf
theorem d_Um_owner_41 : decode prog_1_method_9_code 41 = .ok (.iconst (-1), 1) := by decide +kernel
theorem s_Um_owner_41  (k : ev G M_Um_owner R E 42 lv (.int (-1) :: rest) h cells slots) : ev G M_Um_owner R E 41 lv rest h cells slots := ev_iconst d_Um_owner_41 (by decide) k
theorem d_Um_owner_42 : decode prog_1_method_9_code 42 = .ok (.ireturn, 1) := by decide +kernel
theorem s_Um_owner_42 {P : Option Value → HP → Prop} {mc ms : Nat} {v : Int32} (hP : P (some (.int v)) h) (hc : cells ≤ mc ∧ slots ≤ ms) : ev G M_Um_owner R (Er M_Um_owner P mc ms) 42 lv [.int v] h cells slots := ev_exit ⟨hc.1, hc.2, Or.inr (Or.inl ⟨v, .int, rfl, rfl, d_Um_owner_42, rfl, hP⟩)⟩
theorem d_Um_owner_43 : decode prog_1_method_9_code 43 = .ok (.aload_n 0, 1) := by decide +kernel
theorem s_Um_owner_43 {x : Nat} (hl : lg lv 0 = some (.ref x)) (k : ev G M_Um_owner R E 44 lv (.ref x :: rest) h cells slots) : ev G M_Um_owner R E 43 lv rest h cells slots := ev_aload_n d_Um_owner_43 rfl hl k
theorem d_Um_owner_44 : decode prog_1_method_9_code 44 = .ok (.getfield 44, 3) := by decide +kernel
theorem s_Um_owner_44 {a : Nat} {fs : List Value} {v : Value} (hh : h a = mO 6 fs) (hv : fs[4]? = some v) (k : ev G M_Um_owner R E 47 lv (v :: rest) h cells slots) : ev G M_Um_owner R E 44 lv (.ref a :: rest) h cells slots := ev_getfield (ci := 6) (kf := 4) d_Um_owner_44 rfl ck6 (by decide) w_253 hh hv k
theorem d_Um_owner_47 : decode prog_1_method_9_code 47 = .ok (.iload_n 1, 1) := by decide +kernel
theorem s_Um_owner_47 {x : Int32} (hl : lg lv 1 = some (.int x)) (k : ev G M_Um_owner R E 48 lv (.int x :: rest) h cells slots) : ev G M_Um_owner R E 47 lv rest h cells slots := ev_iload_n d_Um_owner_47 rfl hl k
theorem d_Um_owner_48 : decode prog_1_method_9_code 48 = .ok (.iload_n 2, 1) := by decide +kernel
theorem s_Um_owner_48 {x : Int32} (hl : lg lv 2 = some (.int x)) (k : ev G M_Um_owner R E 49 lv (.int x :: rest) h cells slots) : ev G M_Um_owner R E 48 lv rest h cells slots := ev_iload_n d_Um_owner_48 rfl hl k
theorem d_Um_owner_49 : decode prog_1_method_9_code 49 = .ok (.invokevirtual 116, 3) := by decide +kernel
theorem s_Um_owner_49 {mc ms : Nat} {P : Option Value → HP → Prop} {a0 : Int32} {a1 : Int32} {b : Nat} {fs : List Value} {v0 : Value} (hm : mt G M_Ow_least 3 mc ms (.ref b :: [.int a0, .int a1]) h P) (hb : h b = mO 2 fs) (hv0 : fs[0]? = some v0) (hR : 3 + 1 ≤ R.frames ∧ 8 + (7 + 11) + 39 * 3 ≤ R.locals) (hcs : cells + mc ≤ R.cells ∧ slots + ms ≤ R.slots) (hrest : (rest.map fun v => v.category).sum ≤ 8) (k : ∀ (r : Option Value) (h' : HP), P r h' → ev G M_Um_owner R E 52 lv (r.toList ++ rest) h' (cells + mc) (slots + ms)) : ev G M_Um_owner R E 49 lv (.int a1 :: .int a0 :: .ref b :: rest) h cells slots := ev_callV (as := [.int a0, .int a1]) (ci := 2) d_Um_owner_49 hm hb hv0 rfl w_611 w_612 w_613 w_68 w_614 hy_Ow_least hR hcs hrest k
theorem d_Um_owner_52 : decode prog_1_method_9_code 52 = .ok (.ireturn, 1) := by decide +kernel
theorem s_Um_owner_52 {P : Option Value → HP → Prop} {mc ms : Nat} {v : Int32} (hP : P (some (.int v)) h) (hc : cells ≤ mc ∧ slots ≤ ms) : ev G M_Um_owner R (Er M_Um_owner P mc ms) 52 lv [.int v] h cells slots := ev_exit ⟨hc.1, hc.2, Or.inr (Or.inl ⟨v, .int, rfl, rfl, d_Um_owner_52, rfl, hP⟩)⟩
abbrev M_Um_count : MW := (⟨"UseOnceMachine", "count", "(I)I"⟩, prog_1_method_10_code, 2, (some .int))
theorem hy_Um_count : M_Um_count.1.cls ≠ "java/lang/invoke/MethodHandle" ∧ M_Um_count.1.cls ≠ "java/lang/invoke/VarHandle" ∧ (parseMethodDescriptor M_Um_count.1.desc).map (fun d => d.parameters.length) = some 1 := by decide +kernel
theorem d_Um_count_0 : decode prog_1_method_10_code 0 = .ok (.iload_n 1, 1) := by decide +kernel
theorem s_Um_count_0 {x : Int32} (hl : lg lv 1 = some (.int x)) (k : ev G M_Um_count R E 1 lv (.int x :: rest) h cells slots) : ev G M_Um_count R E 0 lv rest h cells slots := ev_iload_n d_Um_count_0 rfl hl k
theorem d_Um_count_1 : decode prog_1_method_10_code 1 = .ok (.ifCond .lt 9, 3) := by decide +kernel
theorem s_Um_count_1 {x : Int32} (kt : x < 0 → ev G M_Um_count R E 10 lv rest h cells slots) (kf : ¬ x < 0 → ev G M_Um_count R E 4 lv rest h cells slots) : ev G M_Um_count R E 1 lv (.int x :: rest) h cells slots := ev_if_lt d_Um_count_1 (by decide) kt kf
theorem d_Um_count_4 : decode prog_1_method_10_code 4 = .ok (.iload_n 1, 1) := by decide +kernel
theorem s_Um_count_4 {x : Int32} (hl : lg lv 1 = some (.int x)) (k : ev G M_Um_count R E 5 lv (.int x :: rest) h cells slots) : ev G M_Um_count R E 4 lv rest h cells slots := ev_iload_n d_Um_count_4 rfl hl k
theorem d_Um_count_5 : decode prog_1_method_10_code 5 = .ok (.bipush 6, 2) := by decide +kernel
theorem s_Um_count_5  (k : ev G M_Um_count R E 7 lv (.int 6 :: rest) h cells slots) : ev G M_Um_count R E 5 lv rest h cells slots := ev_bipush d_Um_count_5 (by decide) k
theorem d_Um_count_7 : decode prog_1_method_10_code 7 = .ok (.if_icmp .lt 7, 3) := by decide +kernel
theorem s_Um_count_7 {x y : Int32} (kt : x < y → ev G M_Um_count R E 14 lv rest h cells slots) (kf : ¬ x < y → ev G M_Um_count R E 10 lv rest h cells slots) : ev G M_Um_count R E 7 lv (.int y :: .int x :: rest) h cells slots := ev_icmp_lt d_Um_count_7 (by decide) kt kf
theorem d_Um_count_10 : decode prog_1_method_10_code 10 = .ok (.iconst (-1), 1) := by decide +kernel
theorem s_Um_count_10  (k : ev G M_Um_count R E 11 lv (.int (-1) :: rest) h cells slots) : ev G M_Um_count R E 10 lv rest h cells slots := ev_iconst d_Um_count_10 (by decide) k
theorem d_Um_count_11 : decode prog_1_method_10_code 11 = .ok (.goto 12, 3) := by decide +kernel
theorem s_Um_count_11  (k : ev G M_Um_count R E 23 lv rest h cells slots) : ev G M_Um_count R E 11 lv rest h cells slots := ev_goto d_Um_count_11 (by decide) k
theorem d_Um_count_14 : decode prog_1_method_10_code 14 = .ok (.aload_n 0, 1) := by decide +kernel
theorem s_Um_count_14 {x : Nat} (hl : lg lv 0 = some (.ref x)) (k : ev G M_Um_count R E 15 lv (.ref x :: rest) h cells slots) : ev G M_Um_count R E 14 lv rest h cells slots := ev_aload_n d_Um_count_14 rfl hl k
theorem d_Um_count_15 : decode prog_1_method_10_code 15 = .ok (.getfield 19, 3) := by decide +kernel
theorem s_Um_count_15 {a : Nat} {fs : List Value} {v : Value} (hh : h a = mO 6 fs) (hv : fs[1]? = some v) (k : ev G M_Um_count R E 18 lv (v :: rest) h cells slots) : ev G M_Um_count R E 15 lv (.ref a :: rest) h cells slots := ev_getfield (ci := 6) (kf := 1) d_Um_count_15 rfl ck6 (by decide) w_250 hh hv k
theorem d_Um_count_18 : decode prog_1_method_10_code 18 = .ok (.getfield 120, 3) := by decide +kernel
theorem s_Um_count_18 {a : Nat} {fs : List Value} {v : Value} (hh : h a = mO 5 fs) (hv : fs[2]? = some v) (k : ev G M_Um_count R E 21 lv (v :: rest) h cells slots) : ev G M_Um_count R E 18 lv (.ref a :: rest) h cells slots := ev_getfield (ci := 5) (kf := 2) d_Um_count_18 rfl ck5 (by decide) w_107 hh hv k
theorem d_Um_count_21 : decode prog_1_method_10_code 21 = .ok (.iload_n 1, 1) := by decide +kernel
theorem s_Um_count_21 {x : Int32} (hl : lg lv 1 = some (.int x)) (k : ev G M_Um_count R E 22 lv (.int x :: rest) h cells slots) : ev G M_Um_count R E 21 lv rest h cells slots := ev_iload_n d_Um_count_21 rfl hl k
theorem d_Um_count_22 : decode prog_1_method_10_code 22 = .ok (.iaload, 1) := by decide +kernel
theorem s_Um_count_22 {a n : Nat} {f : Nat → Int32} {i : Int32} (hh : h a = mI 0 n f) (hin : vp_in i n) (k : ev G M_Um_count R E 23 lv (.int (f i.toNatClampNeg) :: rest) h cells slots) : ev G M_Um_count R E 22 lv (.int i :: .ref a :: rest) h cells slots := ev_iaload d_Um_count_22 rfl hh hin k
theorem d_Um_count_23 : decode prog_1_method_10_code 23 = .ok (.ireturn, 1) := by decide +kernel
theorem s_Um_count_23 {P : Option Value → HP → Prop} {mc ms : Nat} {v : Int32} (hP : P (some (.int v)) h) (hc : cells ≤ mc ∧ slots ≤ ms) : ev G M_Um_count R (Er M_Um_count P mc ms) 23 lv [.int v] h cells slots := ev_exit ⟨hc.1, hc.2, Or.inr (Or.inl ⟨v, .int, rfl, rfl, d_Um_count_23, rfl, hP⟩)⟩
abbrev M_Um_gate : MW := (⟨"UseOnceMachine", "gate", "(II)I"⟩, prog_1_method_11_code, 3, (some .int))
theorem hy_Um_gate : M_Um_gate.1.cls ≠ "java/lang/invoke/MethodHandle" ∧ M_Um_gate.1.cls ≠ "java/lang/invoke/VarHandle" ∧ (parseMethodDescriptor M_Um_gate.1.desc).map (fun d => d.parameters.length) = some 2 := by decide +kernel
theorem d_Um_gate_0 : decode prog_1_method_11_code 0 = .ok (.iload_n 1, 1) := by decide +kernel
theorem s_Um_gate_0 {x : Int32} (hl : lg lv 1 = some (.int x)) (k : ev G M_Um_gate R E 1 lv (.int x :: rest) h cells slots) : ev G M_Um_gate R E 0 lv rest h cells slots := ev_iload_n d_Um_gate_0 rfl hl k
theorem d_Um_gate_1 : decode prog_1_method_11_code 1 = .ok (.ifCond .lt 9, 3) := by decide +kernel
theorem s_Um_gate_1 {x : Int32} (kt : x < 0 → ev G M_Um_gate R E 10 lv rest h cells slots) (kf : ¬ x < 0 → ev G M_Um_gate R E 4 lv rest h cells slots) : ev G M_Um_gate R E 1 lv (.int x :: rest) h cells slots := ev_if_lt d_Um_gate_1 (by decide) kt kf
theorem d_Um_gate_4 : decode prog_1_method_11_code 4 = .ok (.iload_n 1, 1) := by decide +kernel
theorem s_Um_gate_4 {x : Int32} (hl : lg lv 1 = some (.int x)) (k : ev G M_Um_gate R E 5 lv (.int x :: rest) h cells slots) : ev G M_Um_gate R E 4 lv rest h cells slots := ev_iload_n d_Um_gate_4 rfl hl k
theorem d_Um_gate_5 : decode prog_1_method_11_code 5 = .ok (.bipush 6, 2) := by decide +kernel
theorem s_Um_gate_5  (k : ev G M_Um_gate R E 7 lv (.int 6 :: rest) h cells slots) : ev G M_Um_gate R E 5 lv rest h cells slots := ev_bipush d_Um_gate_5 (by decide) k
theorem d_Um_gate_7 : decode prog_1_method_11_code 7 = .ok (.if_icmp .lt 5, 3) := by decide +kernel
theorem s_Um_gate_7 {x y : Int32} (kt : x < y → ev G M_Um_gate R E 12 lv rest h cells slots) (kf : ¬ x < y → ev G M_Um_gate R E 10 lv rest h cells slots) : ev G M_Um_gate R E 7 lv (.int y :: .int x :: rest) h cells slots := ev_icmp_lt d_Um_gate_7 (by decide) kt kf
theorem d_Um_gate_10 : decode prog_1_method_11_code 10 = .ok (.iconst (-1), 1) := by decide +kernel
theorem s_Um_gate_10  (k : ev G M_Um_gate R E 11 lv (.int (-1) :: rest) h cells slots) : ev G M_Um_gate R E 10 lv rest h cells slots := ev_iconst d_Um_gate_10 (by decide) k
theorem d_Um_gate_11 : decode prog_1_method_11_code 11 = .ok (.ireturn, 1) := by decide +kernel
theorem s_Um_gate_11 {P : Option Value → HP → Prop} {mc ms : Nat} {v : Int32} (hP : P (some (.int v)) h) (hc : cells ≤ mc ∧ slots ≤ ms) : ev G M_Um_gate R (Er M_Um_gate P mc ms) 11 lv [.int v] h cells slots := ev_exit ⟨hc.1, hc.2, Or.inr (Or.inl ⟨v, .int, rfl, rfl, d_Um_gate_11, rfl, hP⟩)⟩
theorem d_Um_gate_12 : decode prog_1_method_11_code 12 = .ok (.iload_n 2, 1) := by decide +kernel
theorem s_Um_gate_12 {x : Int32} (hl : lg lv 2 = some (.int x)) (k : ev G M_Um_gate R E 13 lv (.int x :: rest) h cells slots) : ev G M_Um_gate R E 12 lv rest h cells slots := ev_iload_n d_Um_gate_12 rfl hl k
theorem d_Um_gate_13 : decode prog_1_method_11_code 13 = .ok (.tableswitch 57 0 2 #[27, 37, 47], 27) := by decide +kernel
theorem s_Um_gate_13_0  (k : ev G M_Um_gate R E 40 lv rest h cells slots) : ev G M_Um_gate R E 13 lv (.int 0 :: rest) h cells slots := ev_tableIn (off := 27) d_Um_gate_13 (by decide) (by decide) (by decide +kernel) (by decide) k
theorem s_Um_gate_13_1  (k : ev G M_Um_gate R E 50 lv rest h cells slots) : ev G M_Um_gate R E 13 lv (.int 1 :: rest) h cells slots := ev_tableIn (off := 37) d_Um_gate_13 (by decide) (by decide) (by decide +kernel) (by decide) k
theorem s_Um_gate_13_2  (k : ev G M_Um_gate R E 60 lv rest h cells slots) : ev G M_Um_gate R E 13 lv (.int 2 :: rest) h cells slots := ev_tableIn (off := 47) d_Um_gate_13 (by decide) (by decide) (by decide +kernel) (by decide) k
theorem s_Um_gate_13_d {x : Int32} (hx : x.toInt < 0 ∨ 2 < x.toInt) (k : ev G M_Um_gate R E 70 lv rest h cells slots) : ev G M_Um_gate R E 13 lv (.int x :: rest) h cells slots := ev_tableOut d_Um_gate_13 hx (by decide) k
theorem d_Um_gate_40 : decode prog_1_method_11_code 40 = .ok (.aload_n 0, 1) := by decide +kernel
theorem s_Um_gate_40 {x : Nat} (hl : lg lv 0 = some (.ref x)) (k : ev G M_Um_gate R E 41 lv (.ref x :: rest) h cells slots) : ev G M_Um_gate R E 40 lv rest h cells slots := ev_aload_n d_Um_gate_40 rfl hl k
theorem d_Um_gate_41 : decode prog_1_method_11_code 41 = .ok (.getfield 19, 3) := by decide +kernel
theorem s_Um_gate_41 {a : Nat} {fs : List Value} {v : Value} (hh : h a = mO 6 fs) (hv : fs[1]? = some v) (k : ev G M_Um_gate R E 44 lv (v :: rest) h cells slots) : ev G M_Um_gate R E 41 lv (.ref a :: rest) h cells slots := ev_getfield (ci := 6) (kf := 1) d_Um_gate_41 rfl ck6 (by decide) w_250 hh hv k
theorem d_Um_gate_44 : decode prog_1_method_11_code 44 = .ok (.getfield 124, 3) := by decide +kernel
theorem s_Um_gate_44 {a : Nat} {fs : List Value} {v : Value} (hh : h a = mO 5 fs) (hv : fs[3]? = some v) (k : ev G M_Um_gate R E 47 lv (v :: rest) h cells slots) : ev G M_Um_gate R E 44 lv (.ref a :: rest) h cells slots := ev_getfield (ci := 5) (kf := 3) d_Um_gate_44 rfl ck5 (by decide) w_109 hh hv k
theorem d_Um_gate_47 : decode prog_1_method_11_code 47 = .ok (.iload_n 1, 1) := by decide +kernel
theorem s_Um_gate_47 {x : Int32} (hl : lg lv 1 = some (.int x)) (k : ev G M_Um_gate R E 48 lv (.int x :: rest) h cells slots) : ev G M_Um_gate R E 47 lv rest h cells slots := ev_iload_n d_Um_gate_47 rfl hl k
theorem d_Um_gate_48 : decode prog_1_method_11_code 48 = .ok (.iaload, 1) := by decide +kernel
theorem s_Um_gate_48 {a n : Nat} {f : Nat → Int32} {i : Int32} (hh : h a = mI 0 n f) (hin : vp_in i n) (k : ev G M_Um_gate R E 49 lv (.int (f i.toNatClampNeg) :: rest) h cells slots) : ev G M_Um_gate R E 48 lv (.int i :: .ref a :: rest) h cells slots := ev_iaload d_Um_gate_48 rfl hh hin k
theorem d_Um_gate_49 : decode prog_1_method_11_code 49 = .ok (.ireturn, 1) := by decide +kernel
theorem s_Um_gate_49 {P : Option Value → HP → Prop} {mc ms : Nat} {v : Int32} (hP : P (some (.int v)) h) (hc : cells ≤ mc ∧ slots ≤ ms) : ev G M_Um_gate R (Er M_Um_gate P mc ms) 49 lv [.int v] h cells slots := ev_exit ⟨hc.1, hc.2, Or.inr (Or.inl ⟨v, .int, rfl, rfl, d_Um_gate_49, rfl, hP⟩)⟩
theorem d_Um_gate_50 : decode prog_1_method_11_code 50 = .ok (.aload_n 0, 1) := by decide +kernel
theorem s_Um_gate_50 {x : Nat} (hl : lg lv 0 = some (.ref x)) (k : ev G M_Um_gate R E 51 lv (.ref x :: rest) h cells slots) : ev G M_Um_gate R E 50 lv rest h cells slots := ev_aload_n d_Um_gate_50 rfl hl k
theorem d_Um_gate_51 : decode prog_1_method_11_code 51 = .ok (.getfield 19, 3) := by decide +kernel
theorem s_Um_gate_51 {a : Nat} {fs : List Value} {v : Value} (hh : h a = mO 6 fs) (hv : fs[1]? = some v) (k : ev G M_Um_gate R E 54 lv (v :: rest) h cells slots) : ev G M_Um_gate R E 51 lv (.ref a :: rest) h cells slots := ev_getfield (ci := 6) (kf := 1) d_Um_gate_51 rfl ck6 (by decide) w_250 hh hv k
theorem d_Um_gate_54 : decode prog_1_method_11_code 54 = .ok (.getfield 127, 3) := by decide +kernel
theorem s_Um_gate_54 {a : Nat} {fs : List Value} {v : Value} (hh : h a = mO 5 fs) (hv : fs[4]? = some v) (k : ev G M_Um_gate R E 57 lv (v :: rest) h cells slots) : ev G M_Um_gate R E 54 lv (.ref a :: rest) h cells slots := ev_getfield (ci := 5) (kf := 4) d_Um_gate_54 rfl ck5 (by decide) w_111 hh hv k
theorem d_Um_gate_57 : decode prog_1_method_11_code 57 = .ok (.iload_n 1, 1) := by decide +kernel
theorem s_Um_gate_57 {x : Int32} (hl : lg lv 1 = some (.int x)) (k : ev G M_Um_gate R E 58 lv (.int x :: rest) h cells slots) : ev G M_Um_gate R E 57 lv rest h cells slots := ev_iload_n d_Um_gate_57 rfl hl k
theorem d_Um_gate_58 : decode prog_1_method_11_code 58 = .ok (.iaload, 1) := by decide +kernel
theorem s_Um_gate_58 {a n : Nat} {f : Nat → Int32} {i : Int32} (hh : h a = mI 0 n f) (hin : vp_in i n) (k : ev G M_Um_gate R E 59 lv (.int (f i.toNatClampNeg) :: rest) h cells slots) : ev G M_Um_gate R E 58 lv (.int i :: .ref a :: rest) h cells slots := ev_iaload d_Um_gate_58 rfl hh hin k
theorem d_Um_gate_59 : decode prog_1_method_11_code 59 = .ok (.ireturn, 1) := by decide +kernel
theorem s_Um_gate_59 {P : Option Value → HP → Prop} {mc ms : Nat} {v : Int32} (hP : P (some (.int v)) h) (hc : cells ≤ mc ∧ slots ≤ ms) : ev G M_Um_gate R (Er M_Um_gate P mc ms) 59 lv [.int v] h cells slots := ev_exit ⟨hc.1, hc.2, Or.inr (Or.inl ⟨v, .int, rfl, rfl, d_Um_gate_59, rfl, hP⟩)⟩
theorem d_Um_gate_60 : decode prog_1_method_11_code 60 = .ok (.aload_n 0, 1) := by decide +kernel
theorem s_Um_gate_60 {x : Nat} (hl : lg lv 0 = some (.ref x)) (k : ev G M_Um_gate R E 61 lv (.ref x :: rest) h cells slots) : ev G M_Um_gate R E 60 lv rest h cells slots := ev_aload_n d_Um_gate_60 rfl hl k
theorem d_Um_gate_61 : decode prog_1_method_11_code 61 = .ok (.getfield 19, 3) := by decide +kernel
theorem s_Um_gate_61 {a : Nat} {fs : List Value} {v : Value} (hh : h a = mO 6 fs) (hv : fs[1]? = some v) (k : ev G M_Um_gate R E 64 lv (v :: rest) h cells slots) : ev G M_Um_gate R E 61 lv (.ref a :: rest) h cells slots := ev_getfield (ci := 6) (kf := 1) d_Um_gate_61 rfl ck6 (by decide) w_250 hh hv k
theorem d_Um_gate_64 : decode prog_1_method_11_code 64 = .ok (.getfield 130, 3) := by decide +kernel
theorem s_Um_gate_64 {a : Nat} {fs : List Value} {v : Value} (hh : h a = mO 5 fs) (hv : fs[5]? = some v) (k : ev G M_Um_gate R E 67 lv (v :: rest) h cells slots) : ev G M_Um_gate R E 64 lv (.ref a :: rest) h cells slots := ev_getfield (ci := 5) (kf := 5) d_Um_gate_64 rfl ck5 (by decide) w_113 hh hv k
theorem d_Um_gate_67 : decode prog_1_method_11_code 67 = .ok (.iload_n 1, 1) := by decide +kernel
theorem s_Um_gate_67 {x : Int32} (hl : lg lv 1 = some (.int x)) (k : ev G M_Um_gate R E 68 lv (.int x :: rest) h cells slots) : ev G M_Um_gate R E 67 lv rest h cells slots := ev_iload_n d_Um_gate_67 rfl hl k
theorem d_Um_gate_68 : decode prog_1_method_11_code 68 = .ok (.iaload, 1) := by decide +kernel
theorem s_Um_gate_68 {a n : Nat} {f : Nat → Int32} {i : Int32} (hh : h a = mI 0 n f) (hin : vp_in i n) (k : ev G M_Um_gate R E 69 lv (.int (f i.toNatClampNeg) :: rest) h cells slots) : ev G M_Um_gate R E 68 lv (.int i :: .ref a :: rest) h cells slots := ev_iaload d_Um_gate_68 rfl hh hin k
theorem d_Um_gate_69 : decode prog_1_method_11_code 69 = .ok (.ireturn, 1) := by decide +kernel
theorem s_Um_gate_69 {P : Option Value → HP → Prop} {mc ms : Nat} {v : Int32} (hP : P (some (.int v)) h) (hc : cells ≤ mc ∧ slots ≤ ms) : ev G M_Um_gate R (Er M_Um_gate P mc ms) 69 lv [.int v] h cells slots := ev_exit ⟨hc.1, hc.2, Or.inr (Or.inl ⟨v, .int, rfl, rfl, d_Um_gate_69, rfl, hP⟩)⟩
theorem d_Um_gate_70 : decode prog_1_method_11_code 70 = .ok (.iconst (-1), 1) := by decide +kernel
theorem s_Um_gate_70  (k : ev G M_Um_gate R E 71 lv (.int (-1) :: rest) h cells slots) : ev G M_Um_gate R E 70 lv rest h cells slots := ev_iconst d_Um_gate_70 (by decide) k
theorem d_Um_gate_71 : decode prog_1_method_11_code 71 = .ok (.ireturn, 1) := by decide +kernel
theorem s_Um_gate_71 {P : Option Value → HP → Prop} {mc ms : Nat} {v : Int32} (hP : P (some (.int v)) h) (hc : cells ≤ mc ∧ slots ≤ ms) : ev G M_Um_gate R (Er M_Um_gate P mc ms) 71 lv [.int v] h cells slots := ev_exit ⟨hc.1, hc.2, Or.inr (Or.inl ⟨v, .int, rfl, rfl, d_Um_gate_71, rfl, hP⟩)⟩
abbrev M_Re_mark : MW := (⟨"UseOnceMachine$Reach", "mark", "(J)V"⟩, prog_6_method_5_code, 4, none)
theorem hy_Re_mark : M_Re_mark.1.cls ≠ "java/lang/invoke/MethodHandle" ∧ M_Re_mark.1.cls ≠ "java/lang/invoke/VarHandle" ∧ (parseMethodDescriptor M_Re_mark.1.desc).map (fun d => d.parameters.length) = some 1 := by decide +kernel
theorem d_Re_mark_0 : decode prog_6_method_5_code 0 = .ok (.lload_n 1, 1) := by decide +kernel
theorem s_Re_mark_0 {x : Int64} (hl : lg lv 1 = some (.long x)) (k : ev G M_Re_mark R E 1 lv (.long x :: rest) h cells slots) : ev G M_Re_mark R E 0 lv rest h cells slots := ev_lload_n d_Re_mark_0 rfl hl k
theorem d_Re_mark_1 : decode prog_6_method_5_code 1 = .ok (.invokestatic 43, 3) := by decide +kernel
theorem s_Re_mark_1 {mc ms : Nat} {P : Option Value → HP → Prop} {a0 : Int64} (hm : mt G M_Va_isCapability 1 mc ms [.long a0] h P) (hR : 1 + 1 ≤ R.frames ∧ 8 + (2 + 11) + 39 * 1 ≤ R.locals) (hcs : cells + mc ≤ R.cells ∧ slots + ms ≤ R.slots) (hrest : (rest.map fun v => v.category).sum ≤ 8) (k : ∀ (r : Option Value) (h' : HP), P r h' → ev G M_Re_mark R E 4 lv (r.toList ++ rest) h' (cells + mc) (slots + ms)) : ev G M_Re_mark R E 1 lv (.long a0 :: rest) h cells slots := ev_callS (as := [.long a0]) d_Re_mark_1 hm w_651 w_501 w_72 w_502 hy_Va_isCapability hR hcs hrest k
theorem d_Re_mark_4 : decode prog_6_method_5_code 4 = .ok (.ifCond .ne 4, 3) := by decide +kernel
theorem s_Re_mark_4 {x : Int32} (kt : ¬ x = 0 → ev G M_Re_mark R E 8 lv rest h cells slots) (kf : x = 0 → ev G M_Re_mark R E 7 lv rest h cells slots) : ev G M_Re_mark R E 4 lv (.int x :: rest) h cells slots := ev_if_ne d_Re_mark_4 (by decide) kt kf
theorem d_Re_mark_7 : decode prog_6_method_5_code 7 = .ok (.return_, 1) := by decide +kernel
theorem s_Re_mark_7 {P : Option Value → HP → Prop} {mc ms : Nat} (hP : P none h) (hc : cells ≤ mc ∧ slots ≤ ms) : ev G M_Re_mark R (Er M_Re_mark P mc ms) 7 lv [] h cells slots := ev_exit ⟨hc.1, hc.2, Or.inl ⟨rfl, d_Re_mark_7, rfl, hP⟩⟩
theorem d_Re_mark_8 : decode prog_6_method_5_code 8 = .ok (.lload_n 1, 1) := by decide +kernel
theorem s_Re_mark_8 {x : Int64} (hl : lg lv 1 = some (.long x)) (k : ev G M_Re_mark R E 9 lv (.long x :: rest) h cells slots) : ev G M_Re_mark R E 8 lv rest h cells slots := ev_lload_n d_Re_mark_8 rfl hl k
theorem d_Re_mark_9 : decode prog_6_method_5_code 9 = .ok (.invokestatic 49, 3) := by decide +kernel
theorem s_Re_mark_9 {mc ms : Nat} {P : Option Value → HP → Prop} {a0 : Int64} (hm : mt G M_Va_from 0 mc ms [.long a0] h P) (hR : 0 + 1 ≤ R.frames ∧ 8 + (2 + 11) + 39 * 0 ≤ R.locals) (hcs : cells + mc ≤ R.cells ∧ slots + ms ≤ R.slots) (hrest : (rest.map fun v => v.category).sum ≤ 8) (k : ∀ (r : Option Value) (h' : HP), P r h' → ev G M_Re_mark R E 12 lv (r.toList ++ rest) h' (cells + mc) (slots + ms)) : ev G M_Re_mark R E 9 lv (.long a0 :: rest) h cells slots := ev_callS (as := [.long a0]) d_Re_mark_9 hm w_652 w_441 w_72 w_442 hy_Va_from hR hcs hrest k
theorem d_Re_mark_12 : decode prog_6_method_5_code 12 = .ok (.istore_n 3, 1) := by decide +kernel
theorem s_Re_mark_12 {x : Int32} (k : ev G M_Re_mark R E 13 (ls1 lv 3 (.int x)) rest h cells slots) : ev G M_Re_mark R E 12 lv (.int x :: rest) h cells slots := ev_istore_n d_Re_mark_12 rfl (by decide) k
theorem d_Re_mark_13 : decode prog_6_method_5_code 13 = .ok (.iload_n 3, 1) := by decide +kernel
theorem s_Re_mark_13 {x : Int32} (hl : lg lv 3 = some (.int x)) (k : ev G M_Re_mark R E 14 lv (.int x :: rest) h cells slots) : ev G M_Re_mark R E 13 lv rest h cells slots := ev_iload_n d_Re_mark_13 rfl hl k
theorem d_Re_mark_14 : decode prog_6_method_5_code 14 = .ok (.lload_n 1, 1) := by decide +kernel
theorem s_Re_mark_14 {x : Int64} (hl : lg lv 1 = some (.long x)) (k : ev G M_Re_mark R E 15 lv (.long x :: rest) h cells slots) : ev G M_Re_mark R E 14 lv rest h cells slots := ev_lload_n d_Re_mark_14 rfl hl k
theorem d_Re_mark_15 : decode prog_6_method_5_code 15 = .ok (.invokestatic 53, 3) := by decide +kernel
theorem s_Re_mark_15 {mc ms : Nat} {P : Option Value → HP → Prop} {a0 : Int64} (hm : mt G M_Va_end 0 mc ms [.long a0] h P) (hR : 0 + 1 ≤ R.frames ∧ 8 + (2 + 11) + 39 * 0 ≤ R.locals) (hcs : cells + mc ≤ R.cells ∧ slots + ms ≤ R.slots) (hrest : (rest.map fun v => v.category).sum ≤ 8) (k : ∀ (r : Option Value) (h' : HP), P r h' → ev G M_Re_mark R E 18 lv (r.toList ++ rest) h' (cells + mc) (slots + ms)) : ev G M_Re_mark R E 15 lv (.long a0 :: rest) h cells slots := ev_callS (as := [.long a0]) d_Re_mark_15 hm w_653 w_438 w_72 w_439 hy_Va_end hR hcs hrest k
theorem d_Re_mark_18 : decode prog_6_method_5_code 18 = .ok (.if_icmp .ge 75, 3) := by decide +kernel
theorem s_Re_mark_18 {x y : Int32} (kt : y ≤ x → ev G M_Re_mark R E 93 lv rest h cells slots) (kf : ¬ y ≤ x → ev G M_Re_mark R E 21 lv rest h cells slots) : ev G M_Re_mark R E 18 lv (.int y :: .int x :: rest) h cells slots := ev_icmp_ge d_Re_mark_18 (by decide) kt kf
theorem d_Re_mark_21 : decode prog_6_method_5_code 21 = .ok (.iload_n 3, 1) := by decide +kernel
theorem s_Re_mark_21 {x : Int32} (hl : lg lv 3 = some (.int x)) (k : ev G M_Re_mark R E 22 lv (.int x :: rest) h cells slots) : ev G M_Re_mark R E 21 lv rest h cells slots := ev_iload_n d_Re_mark_21 rfl hl k
theorem d_Re_mark_22 : decode prog_6_method_5_code 22 = .ok (.bipush 48, 2) := by decide +kernel
theorem s_Re_mark_22  (k : ev G M_Re_mark R E 24 lv (.int 48 :: rest) h cells slots) : ev G M_Re_mark R E 22 lv rest h cells slots := ev_bipush d_Re_mark_22 (by decide) k
theorem d_Re_mark_24 : decode prog_6_method_5_code 24 = .ok (.if_icmp .ge 69, 3) := by decide +kernel
theorem s_Re_mark_24 {x y : Int32} (kt : y ≤ x → ev G M_Re_mark R E 93 lv rest h cells slots) (kf : ¬ y ≤ x → ev G M_Re_mark R E 27 lv rest h cells slots) : ev G M_Re_mark R E 24 lv (.int y :: .int x :: rest) h cells slots := ev_icmp_ge d_Re_mark_24 (by decide) kt kf
theorem d_Re_mark_27 : decode prog_6_method_5_code 27 = .ok (.aload_n 0, 1) := by decide +kernel
theorem s_Re_mark_27 {x : Nat} (hl : lg lv 0 = some (.ref x)) (k : ev G M_Re_mark R E 28 lv (.ref x :: rest) h cells slots) : ev G M_Re_mark R E 27 lv rest h cells slots := ev_aload_n d_Re_mark_27 rfl hl k
theorem d_Re_mark_28 : decode prog_6_method_5_code 28 = .ok (.getfield 9, 3) := by decide +kernel
theorem s_Re_mark_28 {a : Nat} {fs : List Value} {v : Value} (hh : h a = mO 4 fs) (hv : fs[1]? = some v) (k : ev G M_Re_mark R E 31 lv (v :: rest) h cells slots) : ev G M_Re_mark R E 28 lv (.ref a :: rest) h cells slots := ev_getfield (ci := 4) (kf := 1) d_Re_mark_28 rfl ck4 (by decide) w_233 hh hv k
theorem d_Re_mark_31 : decode prog_6_method_5_code 31 = .ok (.iload_n 3, 1) := by decide +kernel
theorem s_Re_mark_31 {x : Int32} (hl : lg lv 3 = some (.int x)) (k : ev G M_Re_mark R E 32 lv (.int x :: rest) h cells slots) : ev G M_Re_mark R E 31 lv rest h cells slots := ev_iload_n d_Re_mark_31 rfl hl k
theorem d_Re_mark_32 : decode prog_6_method_5_code 32 = .ok (.iconst 1, 1) := by decide +kernel
theorem s_Re_mark_32  (k : ev G M_Re_mark R E 33 lv (.int 1 :: rest) h cells slots) : ev G M_Re_mark R E 32 lv rest h cells slots := ev_iconst d_Re_mark_32 (by decide) k
theorem d_Re_mark_33 : decode prog_6_method_5_code 33 = .ok (.bastore, 1) := by decide +kernel
theorem s_Re_mark_33 {a n : Nat} {f : Nat → Int32} {i : Int32} {x : Int32} (hh : h a = mI 2 n f) (hin : vp_in i n) (k : ev G M_Re_mark R E 34 lv rest (va_up h a (mI 2 n (upd f i.toNatClampNeg (vp_nar .boolean x)))) cells slots) : ev G M_Re_mark R E 33 lv (.int x :: .int i :: .ref a :: rest) h cells slots := ev_zastore d_Re_mark_33 rfl hh hin k
theorem d_Re_mark_34 : decode prog_6_method_5_code 34 = .ok (.lload_n 1, 1) := by decide +kernel
theorem s_Re_mark_34 {x : Int64} (hl : lg lv 1 = some (.long x)) (k : ev G M_Re_mark R E 35 lv (.long x :: rest) h cells slots) : ev G M_Re_mark R E 34 lv rest h cells slots := ev_lload_n d_Re_mark_34 rfl hl k
theorem d_Re_mark_35 : decode prog_6_method_5_code 35 = .ok (.iconst 1, 1) := by decide +kernel
theorem s_Re_mark_35  (k : ev G M_Re_mark R E 36 lv (.int 1 :: rest) h cells slots) : ev G M_Re_mark R E 35 lv rest h cells slots := ev_iconst d_Re_mark_35 (by decide) k
theorem d_Re_mark_36 : decode prog_6_method_5_code 36 = .ok (.invokestatic 56, 3) := by decide +kernel
theorem s_Re_mark_36 {mc ms : Nat} {P : Option Value → HP → Prop} {a0 : Int64} {a1 : Int32} (hm : mt G M_Va_hasRight 2 mc ms [.long a0, .int a1] h P) (hR : 2 + 1 ≤ R.frames ∧ 8 + (3 + 11) + 39 * 2 ≤ R.locals) (hcs : cells + mc ≤ R.cells ∧ slots + ms ≤ R.slots) (hrest : (rest.map fun v => v.category).sum ≤ 8) (k : ∀ (r : Option Value) (h' : HP), P r h' → ev G M_Re_mark R E 39 lv (r.toList ++ rest) h' (cells + mc) (slots + ms)) : ev G M_Re_mark R E 36 lv (.int a1 :: .long a0 :: rest) h cells slots := ev_callS (as := [.long a0, .int a1]) d_Re_mark_36 hm w_654 w_508 w_72 w_509 hy_Va_hasRight hR hcs hrest k
theorem d_Re_mark_39 : decode prog_6_method_5_code 39 = .ok (.ifCond .eq 48, 3) := by decide +kernel
theorem s_Re_mark_39 {x : Int32} (kt : x = 0 → ev G M_Re_mark R E 87 lv rest h cells slots) (kf : ¬ x = 0 → ev G M_Re_mark R E 42 lv rest h cells slots) : ev G M_Re_mark R E 39 lv (.int x :: rest) h cells slots := ev_if_eq d_Re_mark_39 (by decide) kt kf
theorem d_Re_mark_42 : decode prog_6_method_5_code 42 = .ok (.aload_n 0, 1) := by decide +kernel
theorem s_Re_mark_42 {x : Nat} (hl : lg lv 0 = some (.ref x)) (k : ev G M_Re_mark R E 43 lv (.ref x :: rest) h cells slots) : ev G M_Re_mark R E 42 lv rest h cells slots := ev_aload_n d_Re_mark_42 rfl hl k
theorem d_Re_mark_43 : decode prog_6_method_5_code 43 = .ok (.getfield 15, 3) := by decide +kernel
theorem s_Re_mark_43 {a : Nat} {fs : List Value} {v : Value} (hh : h a = mO 4 fs) (hv : fs[2]? = some v) (k : ev G M_Re_mark R E 46 lv (v :: rest) h cells slots) : ev G M_Re_mark R E 43 lv (.ref a :: rest) h cells slots := ev_getfield (ci := 4) (kf := 2) d_Re_mark_43 rfl ck4 (by decide) w_234 hh hv k
theorem d_Re_mark_46 : decode prog_6_method_5_code 46 = .ok (.iload_n 3, 1) := by decide +kernel
theorem s_Re_mark_46 {x : Int32} (hl : lg lv 3 = some (.int x)) (k : ev G M_Re_mark R E 47 lv (.int x :: rest) h cells slots) : ev G M_Re_mark R E 46 lv rest h cells slots := ev_iload_n d_Re_mark_46 rfl hl k
theorem d_Re_mark_47 : decode prog_6_method_5_code 47 = .ok (.baload, 1) := by decide +kernel
theorem s_Re_mark_47 {a n : Nat} {f : Nat → Int32} {i : Int32} (hh : h a = mI 2 n f) (hin : vp_in i n) (k : ev G M_Re_mark R E 48 lv (.int (f i.toNatClampNeg) :: rest) h cells slots) : ev G M_Re_mark R E 47 lv (.int i :: .ref a :: rest) h cells slots := ev_zaload d_Re_mark_47 rfl hh hin k
theorem d_Re_mark_48 : decode prog_6_method_5_code 48 = .ok (.ifCond .ne 39, 3) := by decide +kernel
theorem s_Re_mark_48 {x : Int32} (kt : ¬ x = 0 → ev G M_Re_mark R E 87 lv rest h cells slots) (kf : x = 0 → ev G M_Re_mark R E 51 lv rest h cells slots) : ev G M_Re_mark R E 48 lv (.int x :: rest) h cells slots := ev_if_ne d_Re_mark_48 (by decide) kt kf
theorem d_Re_mark_51 : decode prog_6_method_5_code 51 = .ok (.aload_n 0, 1) := by decide +kernel
theorem s_Re_mark_51 {x : Nat} (hl : lg lv 0 = some (.ref x)) (k : ev G M_Re_mark R E 52 lv (.ref x :: rest) h cells slots) : ev G M_Re_mark R E 51 lv rest h cells slots := ev_aload_n d_Re_mark_51 rfl hl k
theorem d_Re_mark_52 : decode prog_6_method_5_code 52 = .ok (.getfield 22, 3) := by decide +kernel
theorem s_Re_mark_52 {a : Nat} {fs : List Value} {v : Value} (hh : h a = mO 4 fs) (hv : fs[4]? = some v) (k : ev G M_Re_mark R E 55 lv (v :: rest) h cells slots) : ev G M_Re_mark R E 52 lv (.ref a :: rest) h cells slots := ev_getfield (ci := 4) (kf := 4) d_Re_mark_52 rfl ck4 (by decide) w_236 hh hv k
theorem d_Re_mark_55 : decode prog_6_method_5_code 55 = .ok (.bipush 48, 2) := by decide +kernel
theorem s_Re_mark_55  (k : ev G M_Re_mark R E 57 lv (.int 48 :: rest) h cells slots) : ev G M_Re_mark R E 55 lv rest h cells slots := ev_bipush d_Re_mark_55 (by decide) k
theorem d_Re_mark_57 : decode prog_6_method_5_code 57 = .ok (.if_icmp .ge 30, 3) := by decide +kernel
theorem s_Re_mark_57 {x y : Int32} (kt : y ≤ x → ev G M_Re_mark R E 87 lv rest h cells slots) (kf : ¬ y ≤ x → ev G M_Re_mark R E 60 lv rest h cells slots) : ev G M_Re_mark R E 57 lv (.int y :: .int x :: rest) h cells slots := ev_icmp_ge d_Re_mark_57 (by decide) kt kf
theorem d_Re_mark_60 : decode prog_6_method_5_code 60 = .ok (.aload_n 0, 1) := by decide +kernel
theorem s_Re_mark_60 {x : Nat} (hl : lg lv 0 = some (.ref x)) (k : ev G M_Re_mark R E 61 lv (.ref x :: rest) h cells slots) : ev G M_Re_mark R E 60 lv rest h cells slots := ev_aload_n d_Re_mark_60 rfl hl k
theorem d_Re_mark_61 : decode prog_6_method_5_code 61 = .ok (.getfield 15, 3) := by decide +kernel
theorem s_Re_mark_61 {a : Nat} {fs : List Value} {v : Value} (hh : h a = mO 4 fs) (hv : fs[2]? = some v) (k : ev G M_Re_mark R E 64 lv (v :: rest) h cells slots) : ev G M_Re_mark R E 61 lv (.ref a :: rest) h cells slots := ev_getfield (ci := 4) (kf := 2) d_Re_mark_61 rfl ck4 (by decide) w_234 hh hv k
theorem d_Re_mark_64 : decode prog_6_method_5_code 64 = .ok (.iload_n 3, 1) := by decide +kernel
theorem s_Re_mark_64 {x : Int32} (hl : lg lv 3 = some (.int x)) (k : ev G M_Re_mark R E 65 lv (.int x :: rest) h cells slots) : ev G M_Re_mark R E 64 lv rest h cells slots := ev_iload_n d_Re_mark_64 rfl hl k
theorem d_Re_mark_65 : decode prog_6_method_5_code 65 = .ok (.iconst 1, 1) := by decide +kernel
theorem s_Re_mark_65  (k : ev G M_Re_mark R E 66 lv (.int 1 :: rest) h cells slots) : ev G M_Re_mark R E 65 lv rest h cells slots := ev_iconst d_Re_mark_65 (by decide) k
theorem d_Re_mark_66 : decode prog_6_method_5_code 66 = .ok (.bastore, 1) := by decide +kernel
theorem s_Re_mark_66 {a n : Nat} {f : Nat → Int32} {i : Int32} {x : Int32} (hh : h a = mI 2 n f) (hin : vp_in i n) (k : ev G M_Re_mark R E 67 lv rest (va_up h a (mI 2 n (upd f i.toNatClampNeg (vp_nar .boolean x)))) cells slots) : ev G M_Re_mark R E 66 lv (.int x :: .int i :: .ref a :: rest) h cells slots := ev_zastore d_Re_mark_66 rfl hh hin k
theorem d_Re_mark_67 : decode prog_6_method_5_code 67 = .ok (.aload_n 0, 1) := by decide +kernel
theorem s_Re_mark_67 {x : Nat} (hl : lg lv 0 = some (.ref x)) (k : ev G M_Re_mark R E 68 lv (.ref x :: rest) h cells slots) : ev G M_Re_mark R E 67 lv rest h cells slots := ev_aload_n d_Re_mark_67 rfl hl k
theorem d_Re_mark_68 : decode prog_6_method_5_code 68 = .ok (.getfield 18, 3) := by decide +kernel
theorem s_Re_mark_68 {a : Nat} {fs : List Value} {v : Value} (hh : h a = mO 4 fs) (hv : fs[3]? = some v) (k : ev G M_Re_mark R E 71 lv (v :: rest) h cells slots) : ev G M_Re_mark R E 68 lv (.ref a :: rest) h cells slots := ev_getfield (ci := 4) (kf := 3) d_Re_mark_68 rfl ck4 (by decide) w_235 hh hv k
theorem d_Re_mark_71 : decode prog_6_method_5_code 71 = .ok (.aload_n 0, 1) := by decide +kernel
theorem s_Re_mark_71 {x : Nat} (hl : lg lv 0 = some (.ref x)) (k : ev G M_Re_mark R E 72 lv (.ref x :: rest) h cells slots) : ev G M_Re_mark R E 71 lv rest h cells slots := ev_aload_n d_Re_mark_71 rfl hl k
theorem d_Re_mark_72 : decode prog_6_method_5_code 72 = .ok (.getfield 22, 3) := by decide +kernel
theorem s_Re_mark_72 {a : Nat} {fs : List Value} {v : Value} (hh : h a = mO 4 fs) (hv : fs[4]? = some v) (k : ev G M_Re_mark R E 75 lv (v :: rest) h cells slots) : ev G M_Re_mark R E 72 lv (.ref a :: rest) h cells slots := ev_getfield (ci := 4) (kf := 4) d_Re_mark_72 rfl ck4 (by decide) w_236 hh hv k
theorem d_Re_mark_75 : decode prog_6_method_5_code 75 = .ok (.iload_n 3, 1) := by decide +kernel
theorem s_Re_mark_75 {x : Int32} (hl : lg lv 3 = some (.int x)) (k : ev G M_Re_mark R E 76 lv (.int x :: rest) h cells slots) : ev G M_Re_mark R E 75 lv rest h cells slots := ev_iload_n d_Re_mark_75 rfl hl k
theorem d_Re_mark_76 : decode prog_6_method_5_code 76 = .ok (.iastore, 1) := by decide +kernel
theorem s_Re_mark_76 {a n : Nat} {f : Nat → Int32} {i : Int32} {x : Int32} (hh : h a = mI 0 n f) (hin : vp_in i n) (k : ev G M_Re_mark R E 77 lv rest (va_up h a (mI 0 n (upd f i.toNatClampNeg x))) cells slots) : ev G M_Re_mark R E 76 lv (.int x :: .int i :: .ref a :: rest) h cells slots := ev_iastore d_Re_mark_76 rfl hh hin k
theorem d_Re_mark_77 : decode prog_6_method_5_code 77 = .ok (.aload_n 0, 1) := by decide +kernel
theorem s_Re_mark_77 {x : Nat} (hl : lg lv 0 = some (.ref x)) (k : ev G M_Re_mark R E 78 lv (.ref x :: rest) h cells slots) : ev G M_Re_mark R E 77 lv rest h cells slots := ev_aload_n d_Re_mark_77 rfl hl k
theorem d_Re_mark_78 : decode prog_6_method_5_code 78 = .ok (.dup, 1) := by decide +kernel
theorem s_Re_mark_78 {va : Value} (hva : va.category = 1) (k : ev G M_Re_mark R E 79 lv (va :: va :: rest) h cells slots) : ev G M_Re_mark R E 78 lv (va :: rest) h cells slots := ev_dup d_Re_mark_78 hva k
theorem d_Re_mark_79 : decode prog_6_method_5_code 79 = .ok (.getfield 22, 3) := by decide +kernel
theorem s_Re_mark_79 {a : Nat} {fs : List Value} {v : Value} (hh : h a = mO 4 fs) (hv : fs[4]? = some v) (k : ev G M_Re_mark R E 82 lv (v :: rest) h cells slots) : ev G M_Re_mark R E 79 lv (.ref a :: rest) h cells slots := ev_getfield (ci := 4) (kf := 4) d_Re_mark_79 rfl ck4 (by decide) w_236 hh hv k
theorem d_Re_mark_82 : decode prog_6_method_5_code 82 = .ok (.iconst 1, 1) := by decide +kernel
theorem s_Re_mark_82  (k : ev G M_Re_mark R E 83 lv (.int 1 :: rest) h cells slots) : ev G M_Re_mark R E 82 lv rest h cells slots := ev_iconst d_Re_mark_82 (by decide) k
theorem d_Re_mark_83 : decode prog_6_method_5_code 83 = .ok (.iadd, 1) := by decide +kernel
theorem s_Re_mark_83 {x y : Int32} (k : ev G M_Re_mark R E 84 lv (.int (x + y) :: rest) h cells slots) : ev G M_Re_mark R E 83 lv (.int y :: .int x :: rest) h cells slots := ev_iadd d_Re_mark_83 k
theorem d_Re_mark_84 : decode prog_6_method_5_code 84 = .ok (.putfield 22, 3) := by decide +kernel
theorem s_Re_mark_84 {x : Int32} {a : Nat} {fs : List Value} (hh : h a = mO 4 fs) (hlen : 4 < fs.length) (k : ev G M_Re_mark R E 87 lv rest (va_up h a (mO 4 (fs.set 4 (.int x)))) cells slots) : ev G M_Re_mark R E 84 lv (.int x :: .ref a :: rest) h cells slots := ev_putfield (ci := 4) (kf := 4) d_Re_mark_84 rfl ck4 (by decide) w_236 rfl hh hlen (fun _ _ => rfl) (fun _ _ => rfl) k
theorem d_Re_mark_87 : decode prog_6_method_5_code 87 = .ok (.iinc 3 1, 3) := by decide +kernel
theorem s_Re_mark_87 {x : Int32} (hl : lg lv 3 = some (.int x)) (k : ev G M_Re_mark R E 90 (ls1 lv 3 (.int (x + 1))) rest h cells slots) : ev G M_Re_mark R E 87 lv rest h cells slots := ev_iinc d_Re_mark_87 (by decide) hl (by decide) k
theorem d_Re_mark_90 : decode prog_6_method_5_code 90 = .ok (.goto (-77), 3) := by decide +kernel
theorem s_Re_mark_90  (k : ev G M_Re_mark R E 13 lv rest h cells slots) : ev G M_Re_mark R E 90 lv rest h cells slots := ev_goto d_Re_mark_90 (by decide) k
theorem d_Re_mark_93 : decode prog_6_method_5_code 93 = .ok (.return_, 1) := by decide +kernel
theorem s_Re_mark_93 {P : Option Value → HP → Prop} {mc ms : Nat} (hP : P none h) (hc : cells ≤ mc ∧ slots ≤ ms) : ev G M_Re_mark R (Er M_Re_mark P mc ms) 93 lv [] h cells slots := ev_exit ⟨hc.1, hc.2, Or.inl ⟨rfl, d_Re_mark_93, rfl, hP⟩⟩
abbrev M_Re_follow : MW := (⟨"UseOnceMachine$Reach", "follow", "()V"⟩, prog_6_method_4_code, 2, none)
theorem hy_Re_follow : M_Re_follow.1.cls ≠ "java/lang/invoke/MethodHandle" ∧ M_Re_follow.1.cls ≠ "java/lang/invoke/VarHandle" ∧ (parseMethodDescriptor M_Re_follow.1.desc).map (fun d => d.parameters.length) = some 0 := by decide +kernel
theorem d_Re_follow_0 : decode prog_6_method_4_code 0 = .ok (.iconst 0, 1) := by decide +kernel
theorem s_Re_follow_0  (k : ev G M_Re_follow R E 1 lv (.int 0 :: rest) h cells slots) : ev G M_Re_follow R E 0 lv rest h cells slots := ev_iconst d_Re_follow_0 (by decide) k
theorem d_Re_follow_1 : decode prog_6_method_4_code 1 = .ok (.istore_n 1, 1) := by decide +kernel
theorem s_Re_follow_1 {x : Int32} (k : ev G M_Re_follow R E 2 (ls1 lv 1 (.int x)) rest h cells slots) : ev G M_Re_follow R E 1 lv (.int x :: rest) h cells slots := ev_istore_n d_Re_follow_1 rfl (by decide) k
theorem d_Re_follow_2 : decode prog_6_method_4_code 2 = .ok (.iload_n 1, 1) := by decide +kernel
theorem s_Re_follow_2 {x : Int32} (hl : lg lv 1 = some (.int x)) (k : ev G M_Re_follow R E 3 lv (.int x :: rest) h cells slots) : ev G M_Re_follow R E 2 lv rest h cells slots := ev_iload_n d_Re_follow_2 rfl hl k
theorem d_Re_follow_3 : decode prog_6_method_4_code 3 = .ok (.bipush 48, 2) := by decide +kernel
theorem s_Re_follow_3  (k : ev G M_Re_follow R E 5 lv (.int 48 :: rest) h cells slots) : ev G M_Re_follow R E 3 lv rest h cells slots := ev_bipush d_Re_follow_3 (by decide) k
theorem d_Re_follow_5 : decode prog_6_method_4_code 5 = .ok (.if_icmp .ge 23, 3) := by decide +kernel
theorem s_Re_follow_5 {x y : Int32} (kt : y ≤ x → ev G M_Re_follow R E 28 lv rest h cells slots) (kf : ¬ y ≤ x → ev G M_Re_follow R E 8 lv rest h cells slots) : ev G M_Re_follow R E 5 lv (.int y :: .int x :: rest) h cells slots := ev_icmp_ge d_Re_follow_5 (by decide) kt kf
theorem d_Re_follow_8 : decode prog_6_method_4_code 8 = .ok (.aload_n 0, 1) := by decide +kernel
theorem s_Re_follow_8 {x : Nat} (hl : lg lv 0 = some (.ref x)) (k : ev G M_Re_follow R E 9 lv (.ref x :: rest) h cells slots) : ev G M_Re_follow R E 8 lv rest h cells slots := ev_aload_n d_Re_follow_8 rfl hl k
theorem d_Re_follow_9 : decode prog_6_method_4_code 9 = .ok (.getfield 9, 3) := by decide +kernel
theorem s_Re_follow_9 {a : Nat} {fs : List Value} {v : Value} (hh : h a = mO 4 fs) (hv : fs[1]? = some v) (k : ev G M_Re_follow R E 12 lv (v :: rest) h cells slots) : ev G M_Re_follow R E 9 lv (.ref a :: rest) h cells slots := ev_getfield (ci := 4) (kf := 1) d_Re_follow_9 rfl ck4 (by decide) w_233 hh hv k
theorem d_Re_follow_12 : decode prog_6_method_4_code 12 = .ok (.iload_n 1, 1) := by decide +kernel
theorem s_Re_follow_12 {x : Int32} (hl : lg lv 1 = some (.int x)) (k : ev G M_Re_follow R E 13 lv (.int x :: rest) h cells slots) : ev G M_Re_follow R E 12 lv rest h cells slots := ev_iload_n d_Re_follow_12 rfl hl k
theorem d_Re_follow_13 : decode prog_6_method_4_code 13 = .ok (.iconst 0, 1) := by decide +kernel
theorem s_Re_follow_13  (k : ev G M_Re_follow R E 14 lv (.int 0 :: rest) h cells slots) : ev G M_Re_follow R E 13 lv rest h cells slots := ev_iconst d_Re_follow_13 (by decide) k
theorem d_Re_follow_14 : decode prog_6_method_4_code 14 = .ok (.bastore, 1) := by decide +kernel
theorem s_Re_follow_14 {a n : Nat} {f : Nat → Int32} {i : Int32} {x : Int32} (hh : h a = mI 2 n f) (hin : vp_in i n) (k : ev G M_Re_follow R E 15 lv rest (va_up h a (mI 2 n (upd f i.toNatClampNeg (vp_nar .boolean x)))) cells slots) : ev G M_Re_follow R E 14 lv (.int x :: .int i :: .ref a :: rest) h cells slots := ev_zastore d_Re_follow_14 rfl hh hin k
theorem d_Re_follow_15 : decode prog_6_method_4_code 15 = .ok (.aload_n 0, 1) := by decide +kernel
theorem s_Re_follow_15 {x : Nat} (hl : lg lv 0 = some (.ref x)) (k : ev G M_Re_follow R E 16 lv (.ref x :: rest) h cells slots) : ev G M_Re_follow R E 15 lv rest h cells slots := ev_aload_n d_Re_follow_15 rfl hl k
theorem d_Re_follow_16 : decode prog_6_method_4_code 16 = .ok (.getfield 15, 3) := by decide +kernel
theorem s_Re_follow_16 {a : Nat} {fs : List Value} {v : Value} (hh : h a = mO 4 fs) (hv : fs[2]? = some v) (k : ev G M_Re_follow R E 19 lv (v :: rest) h cells slots) : ev G M_Re_follow R E 16 lv (.ref a :: rest) h cells slots := ev_getfield (ci := 4) (kf := 2) d_Re_follow_16 rfl ck4 (by decide) w_234 hh hv k
theorem d_Re_follow_19 : decode prog_6_method_4_code 19 = .ok (.iload_n 1, 1) := by decide +kernel
theorem s_Re_follow_19 {x : Int32} (hl : lg lv 1 = some (.int x)) (k : ev G M_Re_follow R E 20 lv (.int x :: rest) h cells slots) : ev G M_Re_follow R E 19 lv rest h cells slots := ev_iload_n d_Re_follow_19 rfl hl k
theorem d_Re_follow_20 : decode prog_6_method_4_code 20 = .ok (.iconst 0, 1) := by decide +kernel
theorem s_Re_follow_20  (k : ev G M_Re_follow R E 21 lv (.int 0 :: rest) h cells slots) : ev G M_Re_follow R E 20 lv rest h cells slots := ev_iconst d_Re_follow_20 (by decide) k
theorem d_Re_follow_21 : decode prog_6_method_4_code 21 = .ok (.bastore, 1) := by decide +kernel
theorem s_Re_follow_21 {a n : Nat} {f : Nat → Int32} {i : Int32} {x : Int32} (hh : h a = mI 2 n f) (hin : vp_in i n) (k : ev G M_Re_follow R E 22 lv rest (va_up h a (mI 2 n (upd f i.toNatClampNeg (vp_nar .boolean x)))) cells slots) : ev G M_Re_follow R E 21 lv (.int x :: .int i :: .ref a :: rest) h cells slots := ev_zastore d_Re_follow_21 rfl hh hin k
theorem d_Re_follow_22 : decode prog_6_method_4_code 22 = .ok (.iinc 1 1, 3) := by decide +kernel
theorem s_Re_follow_22 {x : Int32} (hl : lg lv 1 = some (.int x)) (k : ev G M_Re_follow R E 25 (ls1 lv 1 (.int (x + 1))) rest h cells slots) : ev G M_Re_follow R E 22 lv rest h cells slots := ev_iinc d_Re_follow_22 (by decide) hl (by decide) k
theorem d_Re_follow_25 : decode prog_6_method_4_code 25 = .ok (.goto (-23), 3) := by decide +kernel
theorem s_Re_follow_25  (k : ev G M_Re_follow R E 2 lv rest h cells slots) : ev G M_Re_follow R E 25 lv rest h cells slots := ev_goto d_Re_follow_25 (by decide) k
theorem d_Re_follow_28 : decode prog_6_method_4_code 28 = .ok (.aload_n 0, 1) := by decide +kernel
theorem s_Re_follow_28 {x : Nat} (hl : lg lv 0 = some (.ref x)) (k : ev G M_Re_follow R E 29 lv (.ref x :: rest) h cells slots) : ev G M_Re_follow R E 28 lv rest h cells slots := ev_aload_n d_Re_follow_28 rfl hl k
theorem d_Re_follow_29 : decode prog_6_method_4_code 29 = .ok (.iconst 0, 1) := by decide +kernel
theorem s_Re_follow_29  (k : ev G M_Re_follow R E 30 lv (.int 0 :: rest) h cells slots) : ev G M_Re_follow R E 29 lv rest h cells slots := ev_iconst d_Re_follow_29 (by decide) k
theorem d_Re_follow_30 : decode prog_6_method_4_code 30 = .ok (.putfield 22, 3) := by decide +kernel
theorem s_Re_follow_30 {x : Int32} {a : Nat} {fs : List Value} (hh : h a = mO 4 fs) (hlen : 4 < fs.length) (k : ev G M_Re_follow R E 33 lv rest (va_up h a (mO 4 (fs.set 4 (.int x)))) cells slots) : ev G M_Re_follow R E 30 lv (.int x :: .ref a :: rest) h cells slots := ev_putfield (ci := 4) (kf := 4) d_Re_follow_30 rfl ck4 (by decide) w_236 rfl hh hlen (fun _ _ => rfl) (fun _ _ => rfl) k
theorem d_Re_follow_33 : decode prog_6_method_4_code 33 = .ok (.iconst 0, 1) := by decide +kernel
theorem s_Re_follow_33  (k : ev G M_Re_follow R E 34 lv (.int 0 :: rest) h cells slots) : ev G M_Re_follow R E 33 lv rest h cells slots := ev_iconst d_Re_follow_33 (by decide) k
theorem d_Re_follow_34 : decode prog_6_method_4_code 34 = .ok (.istore_n 1, 1) := by decide +kernel
theorem s_Re_follow_34 {x : Int32} (k : ev G M_Re_follow R E 35 (ls1 lv 1 (.int x)) rest h cells slots) : ev G M_Re_follow R E 34 lv (.int x :: rest) h cells slots := ev_istore_n d_Re_follow_34 rfl (by decide) k
theorem d_Re_follow_35 : decode prog_6_method_4_code 35 = .ok (.iload_n 1, 1) := by decide +kernel
theorem s_Re_follow_35 {x : Int32} (hl : lg lv 1 = some (.int x)) (k : ev G M_Re_follow R E 36 lv (.int x :: rest) h cells slots) : ev G M_Re_follow R E 35 lv rest h cells slots := ev_iload_n d_Re_follow_35 rfl hl k
theorem d_Re_follow_36 : decode prog_6_method_4_code 36 = .ok (.bipush 8, 2) := by decide +kernel
theorem s_Re_follow_36  (k : ev G M_Re_follow R E 38 lv (.int 8 :: rest) h cells slots) : ev G M_Re_follow R E 36 lv rest h cells slots := ev_bipush d_Re_follow_36 (by decide) k
theorem d_Re_follow_38 : decode prog_6_method_4_code 38 = .ok (.if_icmp .ge 21, 3) := by decide +kernel
theorem s_Re_follow_38 {x y : Int32} (kt : y ≤ x → ev G M_Re_follow R E 59 lv rest h cells slots) (kf : ¬ y ≤ x → ev G M_Re_follow R E 41 lv rest h cells slots) : ev G M_Re_follow R E 38 lv (.int y :: .int x :: rest) h cells slots := ev_icmp_ge d_Re_follow_38 (by decide) kt kf
theorem d_Re_follow_41 : decode prog_6_method_4_code 41 = .ok (.aload_n 0, 1) := by decide +kernel
theorem s_Re_follow_41 {x : Nat} (hl : lg lv 0 = some (.ref x)) (k : ev G M_Re_follow R E 42 lv (.ref x :: rest) h cells slots) : ev G M_Re_follow R E 41 lv rest h cells slots := ev_aload_n d_Re_follow_41 rfl hl k
theorem d_Re_follow_42 : decode prog_6_method_4_code 42 = .ok (.aload_n 0, 1) := by decide +kernel
theorem s_Re_follow_42 {x : Nat} (hl : lg lv 0 = some (.ref x)) (k : ev G M_Re_follow R E 43 lv (.ref x :: rest) h cells slots) : ev G M_Re_follow R E 42 lv rest h cells slots := ev_aload_n d_Re_follow_42 rfl hl k
theorem d_Re_follow_43 : decode prog_6_method_4_code 43 = .ok (.getfield 26, 3) := by decide +kernel
theorem s_Re_follow_43 {a : Nat} {fs : List Value} {v : Value} (hh : h a = mO 4 fs) (hv : fs[0]? = some v) (k : ev G M_Re_follow R E 46 lv (v :: rest) h cells slots) : ev G M_Re_follow R E 43 lv (.ref a :: rest) h cells slots := ev_getfield (ci := 4) (kf := 0) d_Re_follow_43 rfl ck4 (by decide) w_232 hh hv k
theorem d_Re_follow_46 : decode prog_6_method_4_code 46 = .ok (.iload_n 1, 1) := by decide +kernel
theorem s_Re_follow_46 {x : Int32} (hl : lg lv 1 = some (.int x)) (k : ev G M_Re_follow R E 47 lv (.int x :: rest) h cells slots) : ev G M_Re_follow R E 46 lv rest h cells slots := ev_iload_n d_Re_follow_46 rfl hl k
theorem d_Re_follow_47 : decode prog_6_method_4_code 47 = .ok (.invokevirtual 33, 3) := by decide +kernel
theorem s_Re_follow_47 {mc ms : Nat} {P : Option Value → HP → Prop} {a0 : Int32} {b : Nat} {fs : List Value} {v0 : Value} (hm : mt G M_St_held 0 mc ms (.ref b :: [.int a0]) h P) (hb : h b = mO 5 fs) (hv0 : fs[0]? = some v0) (hR : 0 + 1 ≤ R.frames ∧ 8 + (2 + 11) + 39 * 0 ≤ R.locals) (hcs : cells + mc ≤ R.cells ∧ slots + ms ≤ R.slots) (hrest : (rest.map fun v => v.category).sum ≤ 8) (k : ∀ (r : Option Value) (h' : HP), P r h' → ev G M_Re_follow R E 50 lv (r.toList ++ rest) h' (cells + mc) (slots + ms)) : ev G M_Re_follow R E 47 lv (.int a0 :: .ref b :: rest) h cells slots := ev_callV (as := [.int a0]) (ci := 5) d_Re_follow_47 hm hb hv0 rfl w_646 w_374 w_375 w_65 w_376 hy_St_held hR hcs hrest k
theorem d_Re_follow_50 : decode prog_6_method_4_code 50 = .ok (.invokevirtual 39, 3) := by decide +kernel
theorem s_Re_follow_50 {mc ms : Nat} {P : Option Value → HP → Prop} {a0 : Int64} {b : Nat} {fs : List Value} {v0 : Value} (hm : mt G M_Re_mark 3 mc ms (.ref b :: [.long a0]) h P) (hb : h b = mO 4 fs) (hv0 : fs[0]? = some v0) (hR : 3 + 1 ≤ R.frames ∧ 8 + (4 + 11) + 39 * 3 ≤ R.locals) (hcs : cells + mc ≤ R.cells ∧ slots + ms ≤ R.slots) (hrest : (rest.map fun v => v.category).sum ≤ 8) (k : ∀ (r : Option Value) (h' : HP), P r h' → ev G M_Re_follow R E 53 lv (r.toList ++ rest) h' (cells + mc) (slots + ms)) : ev G M_Re_follow R E 50 lv (.long a0 :: .ref b :: rest) h cells slots := ev_callV (as := [.long a0]) (ci := 4) d_Re_follow_50 hm hb hv0 rfl w_647 w_649 w_28 w_69 w_650 hy_Re_mark hR hcs hrest k
theorem d_Re_follow_53 : decode prog_6_method_4_code 53 = .ok (.iinc 1 1, 3) := by decide +kernel
theorem s_Re_follow_53 {x : Int32} (hl : lg lv 1 = some (.int x)) (k : ev G M_Re_follow R E 56 (ls1 lv 1 (.int (x + 1))) rest h cells slots) : ev G M_Re_follow R E 53 lv rest h cells slots := ev_iinc d_Re_follow_53 (by decide) hl (by decide) k
theorem d_Re_follow_56 : decode prog_6_method_4_code 56 = .ok (.goto (-21), 3) := by decide +kernel
theorem s_Re_follow_56  (k : ev G M_Re_follow R E 35 lv rest h cells slots) : ev G M_Re_follow R E 56 lv rest h cells slots := ev_goto d_Re_follow_56 (by decide) k
theorem d_Re_follow_59 : decode prog_6_method_4_code 59 = .ok (.iconst 0, 1) := by decide +kernel
theorem s_Re_follow_59  (k : ev G M_Re_follow R E 60 lv (.int 0 :: rest) h cells slots) : ev G M_Re_follow R E 59 lv rest h cells slots := ev_iconst d_Re_follow_59 (by decide) k
theorem d_Re_follow_60 : decode prog_6_method_4_code 60 = .ok (.istore_n 1, 1) := by decide +kernel
theorem s_Re_follow_60 {x : Int32} (k : ev G M_Re_follow R E 61 (ls1 lv 1 (.int x)) rest h cells slots) : ev G M_Re_follow R E 60 lv (.int x :: rest) h cells slots := ev_istore_n d_Re_follow_60 rfl (by decide) k
theorem d_Re_follow_61 : decode prog_6_method_4_code 61 = .ok (.iload_n 1, 1) := by decide +kernel
theorem s_Re_follow_61 {x : Int32} (hl : lg lv 1 = some (.int x)) (k : ev G M_Re_follow R E 62 lv (.int x :: rest) h cells slots) : ev G M_Re_follow R E 61 lv rest h cells slots := ev_iload_n d_Re_follow_61 rfl hl k
theorem d_Re_follow_62 : decode prog_6_method_4_code 62 = .ok (.aload_n 0, 1) := by decide +kernel
theorem s_Re_follow_62 {x : Nat} (hl : lg lv 0 = some (.ref x)) (k : ev G M_Re_follow R E 63 lv (.ref x :: rest) h cells slots) : ev G M_Re_follow R E 62 lv rest h cells slots := ev_aload_n d_Re_follow_62 rfl hl k
theorem d_Re_follow_63 : decode prog_6_method_4_code 63 = .ok (.getfield 22, 3) := by decide +kernel
theorem s_Re_follow_63 {a : Nat} {fs : List Value} {v : Value} (hh : h a = mO 4 fs) (hv : fs[4]? = some v) (k : ev G M_Re_follow R E 66 lv (v :: rest) h cells slots) : ev G M_Re_follow R E 63 lv (.ref a :: rest) h cells slots := ev_getfield (ci := 4) (kf := 4) d_Re_follow_63 rfl ck4 (by decide) w_236 hh hv k
theorem d_Re_follow_66 : decode prog_6_method_4_code 66 = .ok (.if_icmp .ge 35, 3) := by decide +kernel
theorem s_Re_follow_66 {x y : Int32} (kt : y ≤ x → ev G M_Re_follow R E 101 lv rest h cells slots) (kf : ¬ y ≤ x → ev G M_Re_follow R E 69 lv rest h cells slots) : ev G M_Re_follow R E 66 lv (.int y :: .int x :: rest) h cells slots := ev_icmp_ge d_Re_follow_66 (by decide) kt kf
theorem d_Re_follow_69 : decode prog_6_method_4_code 69 = .ok (.iload_n 1, 1) := by decide +kernel
theorem s_Re_follow_69 {x : Int32} (hl : lg lv 1 = some (.int x)) (k : ev G M_Re_follow R E 70 lv (.int x :: rest) h cells slots) : ev G M_Re_follow R E 69 lv rest h cells slots := ev_iload_n d_Re_follow_69 rfl hl k
theorem d_Re_follow_70 : decode prog_6_method_4_code 70 = .ok (.bipush 48, 2) := by decide +kernel
theorem s_Re_follow_70  (k : ev G M_Re_follow R E 72 lv (.int 48 :: rest) h cells slots) : ev G M_Re_follow R E 70 lv rest h cells slots := ev_bipush d_Re_follow_70 (by decide) k
theorem d_Re_follow_72 : decode prog_6_method_4_code 72 = .ok (.if_icmp .ge 29, 3) := by decide +kernel
theorem s_Re_follow_72 {x y : Int32} (kt : y ≤ x → ev G M_Re_follow R E 101 lv rest h cells slots) (kf : ¬ y ≤ x → ev G M_Re_follow R E 75 lv rest h cells slots) : ev G M_Re_follow R E 72 lv (.int y :: .int x :: rest) h cells slots := ev_icmp_ge d_Re_follow_72 (by decide) kt kf
theorem d_Re_follow_75 : decode prog_6_method_4_code 75 = .ok (.aload_n 0, 1) := by decide +kernel
theorem s_Re_follow_75 {x : Nat} (hl : lg lv 0 = some (.ref x)) (k : ev G M_Re_follow R E 76 lv (.ref x :: rest) h cells slots) : ev G M_Re_follow R E 75 lv rest h cells slots := ev_aload_n d_Re_follow_75 rfl hl k
theorem d_Re_follow_76 : decode prog_6_method_4_code 76 = .ok (.aload_n 0, 1) := by decide +kernel
theorem s_Re_follow_76 {x : Nat} (hl : lg lv 0 = some (.ref x)) (k : ev G M_Re_follow R E 77 lv (.ref x :: rest) h cells slots) : ev G M_Re_follow R E 76 lv rest h cells slots := ev_aload_n d_Re_follow_76 rfl hl k
theorem d_Re_follow_77 : decode prog_6_method_4_code 77 = .ok (.getfield 26, 3) := by decide +kernel
theorem s_Re_follow_77 {a : Nat} {fs : List Value} {v : Value} (hh : h a = mO 4 fs) (hv : fs[0]? = some v) (k : ev G M_Re_follow R E 80 lv (v :: rest) h cells slots) : ev G M_Re_follow R E 77 lv (.ref a :: rest) h cells slots := ev_getfield (ci := 4) (kf := 0) d_Re_follow_77 rfl ck4 (by decide) w_232 hh hv k
theorem d_Re_follow_80 : decode prog_6_method_4_code 80 = .ok (.bipush 8, 2) := by decide +kernel
theorem s_Re_follow_80  (k : ev G M_Re_follow R E 82 lv (.int 8 :: rest) h cells slots) : ev G M_Re_follow R E 80 lv rest h cells slots := ev_bipush d_Re_follow_80 (by decide) k
theorem d_Re_follow_82 : decode prog_6_method_4_code 82 = .ok (.aload_n 0, 1) := by decide +kernel
theorem s_Re_follow_82 {x : Nat} (hl : lg lv 0 = some (.ref x)) (k : ev G M_Re_follow R E 83 lv (.ref x :: rest) h cells slots) : ev G M_Re_follow R E 82 lv rest h cells slots := ev_aload_n d_Re_follow_82 rfl hl k
theorem d_Re_follow_83 : decode prog_6_method_4_code 83 = .ok (.getfield 18, 3) := by decide +kernel
theorem s_Re_follow_83 {a : Nat} {fs : List Value} {v : Value} (hh : h a = mO 4 fs) (hv : fs[3]? = some v) (k : ev G M_Re_follow R E 86 lv (v :: rest) h cells slots) : ev G M_Re_follow R E 83 lv (.ref a :: rest) h cells slots := ev_getfield (ci := 4) (kf := 3) d_Re_follow_83 rfl ck4 (by decide) w_235 hh hv k
theorem d_Re_follow_86 : decode prog_6_method_4_code 86 = .ok (.iload_n 1, 1) := by decide +kernel
theorem s_Re_follow_86 {x : Int32} (hl : lg lv 1 = some (.int x)) (k : ev G M_Re_follow R E 87 lv (.int x :: rest) h cells slots) : ev G M_Re_follow R E 86 lv rest h cells slots := ev_iload_n d_Re_follow_86 rfl hl k
theorem d_Re_follow_87 : decode prog_6_method_4_code 87 = .ok (.iaload, 1) := by decide +kernel
theorem s_Re_follow_87 {a n : Nat} {f : Nat → Int32} {i : Int32} (hh : h a = mI 0 n f) (hin : vp_in i n) (k : ev G M_Re_follow R E 88 lv (.int (f i.toNatClampNeg) :: rest) h cells slots) : ev G M_Re_follow R E 87 lv (.int i :: .ref a :: rest) h cells slots := ev_iaload d_Re_follow_87 rfl hh hin k
theorem d_Re_follow_88 : decode prog_6_method_4_code 88 = .ok (.iadd, 1) := by decide +kernel
theorem s_Re_follow_88 {x y : Int32} (k : ev G M_Re_follow R E 89 lv (.int (x + y) :: rest) h cells slots) : ev G M_Re_follow R E 88 lv (.int y :: .int x :: rest) h cells slots := ev_iadd d_Re_follow_88 k
theorem d_Re_follow_89 : decode prog_6_method_4_code 89 = .ok (.invokevirtual 33, 3) := by decide +kernel
theorem s_Re_follow_89 {mc ms : Nat} {P : Option Value → HP → Prop} {a0 : Int32} {b : Nat} {fs : List Value} {v0 : Value} (hm : mt G M_St_held 0 mc ms (.ref b :: [.int a0]) h P) (hb : h b = mO 5 fs) (hv0 : fs[0]? = some v0) (hR : 0 + 1 ≤ R.frames ∧ 8 + (2 + 11) + 39 * 0 ≤ R.locals) (hcs : cells + mc ≤ R.cells ∧ slots + ms ≤ R.slots) (hrest : (rest.map fun v => v.category).sum ≤ 8) (k : ∀ (r : Option Value) (h' : HP), P r h' → ev G M_Re_follow R E 92 lv (r.toList ++ rest) h' (cells + mc) (slots + ms)) : ev G M_Re_follow R E 89 lv (.int a0 :: .ref b :: rest) h cells slots := ev_callV (as := [.int a0]) (ci := 5) d_Re_follow_89 hm hb hv0 rfl w_646 w_374 w_375 w_65 w_376 hy_St_held hR hcs hrest k
theorem d_Re_follow_92 : decode prog_6_method_4_code 92 = .ok (.invokevirtual 39, 3) := by decide +kernel
theorem s_Re_follow_92 {mc ms : Nat} {P : Option Value → HP → Prop} {a0 : Int64} {b : Nat} {fs : List Value} {v0 : Value} (hm : mt G M_Re_mark 3 mc ms (.ref b :: [.long a0]) h P) (hb : h b = mO 4 fs) (hv0 : fs[0]? = some v0) (hR : 3 + 1 ≤ R.frames ∧ 8 + (4 + 11) + 39 * 3 ≤ R.locals) (hcs : cells + mc ≤ R.cells ∧ slots + ms ≤ R.slots) (hrest : (rest.map fun v => v.category).sum ≤ 8) (k : ∀ (r : Option Value) (h' : HP), P r h' → ev G M_Re_follow R E 95 lv (r.toList ++ rest) h' (cells + mc) (slots + ms)) : ev G M_Re_follow R E 92 lv (.long a0 :: .ref b :: rest) h cells slots := ev_callV (as := [.long a0]) (ci := 4) d_Re_follow_92 hm hb hv0 rfl w_647 w_649 w_28 w_69 w_650 hy_Re_mark hR hcs hrest k
theorem d_Re_follow_95 : decode prog_6_method_4_code 95 = .ok (.iinc 1 1, 3) := by decide +kernel
theorem s_Re_follow_95 {x : Int32} (hl : lg lv 1 = some (.int x)) (k : ev G M_Re_follow R E 98 (ls1 lv 1 (.int (x + 1))) rest h cells slots) : ev G M_Re_follow R E 95 lv rest h cells slots := ev_iinc d_Re_follow_95 (by decide) hl (by decide) k
theorem d_Re_follow_98 : decode prog_6_method_4_code 98 = .ok (.goto (-37), 3) := by decide +kernel
theorem s_Re_follow_98  (k : ev G M_Re_follow R E 61 lv rest h cells slots) : ev G M_Re_follow R E 98 lv rest h cells slots := ev_goto d_Re_follow_98 (by decide) k
theorem d_Re_follow_101 : decode prog_6_method_4_code 101 = .ok (.return_, 1) := by decide +kernel
theorem s_Re_follow_101 {P : Option Value → HP → Prop} {mc ms : Nat} (hP : P none h) (hc : cells ≤ mc ∧ slots ≤ ms) : ev G M_Re_follow R (Er M_Re_follow P mc ms) 101 lv [] h cells slots := ev_exit ⟨hc.1, hc.2, Or.inl ⟨rfl, d_Re_follow_101, rfl, hP⟩⟩
abbrev M_Re_size : MW := (⟨"UseOnceMachine$Reach", "size", "()I"⟩, prog_6_method_2_code, 3, (some .int))
theorem hy_Re_size : M_Re_size.1.cls ≠ "java/lang/invoke/MethodHandle" ∧ M_Re_size.1.cls ≠ "java/lang/invoke/VarHandle" ∧ (parseMethodDescriptor M_Re_size.1.desc).map (fun d => d.parameters.length) = some 0 := by decide +kernel
theorem d_Re_size_0 : decode prog_6_method_2_code 0 = .ok (.aload_n 0, 1) := by decide +kernel
theorem s_Re_size_0 {x : Nat} (hl : lg lv 0 = some (.ref x)) (k : ev G M_Re_size R E 1 lv (.ref x :: rest) h cells slots) : ev G M_Re_size R E 0 lv rest h cells slots := ev_aload_n d_Re_size_0 rfl hl k
theorem d_Re_size_1 : decode prog_6_method_2_code 1 = .ok (.invokevirtual 30, 3) := by decide +kernel
theorem s_Re_size_1 {mc ms : Nat} {P : Option Value → HP → Prop}  {b : Nat} {fs : List Value} {v0 : Value} (hm : mt G M_Re_follow 4 mc ms (.ref b :: []) h P) (hb : h b = mO 4 fs) (hv0 : fs[0]? = some v0) (hR : 4 + 1 ≤ R.frames ∧ 8 + (2 + 11) + 39 * 4 ≤ R.locals) (hcs : cells + mc ≤ R.cells ∧ slots + ms ≤ R.slots) (hrest : (rest.map fun v => v.category).sum ≤ 8) (k : ∀ (r : Option Value) (h' : HP), P r h' → ev G M_Re_size R E 4 lv (r.toList ++ rest) h' (cells + mc) (slots + ms)) : ev G M_Re_size R E 1 lv (.ref b :: rest) h cells slots := ev_callV (as := []) (ci := 4) d_Re_size_1 hm hb hv0 rfl w_642 w_644 w_27 w_69 w_645 hy_Re_follow hR hcs hrest k
theorem d_Re_size_4 : decode prog_6_method_2_code 4 = .ok (.iconst 0, 1) := by decide +kernel
theorem s_Re_size_4  (k : ev G M_Re_size R E 5 lv (.int 0 :: rest) h cells slots) : ev G M_Re_size R E 4 lv rest h cells slots := ev_iconst d_Re_size_4 (by decide) k
theorem d_Re_size_5 : decode prog_6_method_2_code 5 = .ok (.istore_n 1, 1) := by decide +kernel
theorem s_Re_size_5 {x : Int32} (k : ev G M_Re_size R E 6 (ls1 lv 1 (.int x)) rest h cells slots) : ev G M_Re_size R E 5 lv (.int x :: rest) h cells slots := ev_istore_n d_Re_size_5 rfl (by decide) k
theorem d_Re_size_6 : decode prog_6_method_2_code 6 = .ok (.iconst 0, 1) := by decide +kernel
theorem s_Re_size_6  (k : ev G M_Re_size R E 7 lv (.int 0 :: rest) h cells slots) : ev G M_Re_size R E 6 lv rest h cells slots := ev_iconst d_Re_size_6 (by decide) k
theorem d_Re_size_7 : decode prog_6_method_2_code 7 = .ok (.istore_n 2, 1) := by decide +kernel
theorem s_Re_size_7 {x : Int32} (k : ev G M_Re_size R E 8 (ls1 lv 2 (.int x)) rest h cells slots) : ev G M_Re_size R E 7 lv (.int x :: rest) h cells slots := ev_istore_n d_Re_size_7 rfl (by decide) k
theorem d_Re_size_8 : decode prog_6_method_2_code 8 = .ok (.iload_n 2, 1) := by decide +kernel
theorem s_Re_size_8 {x : Int32} (hl : lg lv 2 = some (.int x)) (k : ev G M_Re_size R E 9 lv (.int x :: rest) h cells slots) : ev G M_Re_size R E 8 lv rest h cells slots := ev_iload_n d_Re_size_8 rfl hl k
theorem d_Re_size_9 : decode prog_6_method_2_code 9 = .ok (.bipush 48, 2) := by decide +kernel
theorem s_Re_size_9  (k : ev G M_Re_size R E 11 lv (.int 48 :: rest) h cells slots) : ev G M_Re_size R E 9 lv rest h cells slots := ev_bipush d_Re_size_9 (by decide) k
theorem d_Re_size_11 : decode prog_6_method_2_code 11 = .ok (.if_icmp .ge 26, 3) := by decide +kernel
theorem s_Re_size_11 {x y : Int32} (kt : y ≤ x → ev G M_Re_size R E 37 lv rest h cells slots) (kf : ¬ y ≤ x → ev G M_Re_size R E 14 lv rest h cells slots) : ev G M_Re_size R E 11 lv (.int y :: .int x :: rest) h cells slots := ev_icmp_ge d_Re_size_11 (by decide) kt kf
theorem d_Re_size_14 : decode prog_6_method_2_code 14 = .ok (.iload_n 1, 1) := by decide +kernel
theorem s_Re_size_14 {x : Int32} (hl : lg lv 1 = some (.int x)) (k : ev G M_Re_size R E 15 lv (.int x :: rest) h cells slots) : ev G M_Re_size R E 14 lv rest h cells slots := ev_iload_n d_Re_size_14 rfl hl k
theorem d_Re_size_15 : decode prog_6_method_2_code 15 = .ok (.aload_n 0, 1) := by decide +kernel
theorem s_Re_size_15 {x : Nat} (hl : lg lv 0 = some (.ref x)) (k : ev G M_Re_size R E 16 lv (.ref x :: rest) h cells slots) : ev G M_Re_size R E 15 lv rest h cells slots := ev_aload_n d_Re_size_15 rfl hl k
theorem d_Re_size_16 : decode prog_6_method_2_code 16 = .ok (.getfield 9, 3) := by decide +kernel
theorem s_Re_size_16 {a : Nat} {fs : List Value} {v : Value} (hh : h a = mO 4 fs) (hv : fs[1]? = some v) (k : ev G M_Re_size R E 19 lv (v :: rest) h cells slots) : ev G M_Re_size R E 16 lv (.ref a :: rest) h cells slots := ev_getfield (ci := 4) (kf := 1) d_Re_size_16 rfl ck4 (by decide) w_233 hh hv k
theorem d_Re_size_19 : decode prog_6_method_2_code 19 = .ok (.iload_n 2, 1) := by decide +kernel
theorem s_Re_size_19 {x : Int32} (hl : lg lv 2 = some (.int x)) (k : ev G M_Re_size R E 20 lv (.int x :: rest) h cells slots) : ev G M_Re_size R E 19 lv rest h cells slots := ev_iload_n d_Re_size_19 rfl hl k
theorem d_Re_size_20 : decode prog_6_method_2_code 20 = .ok (.baload, 1) := by decide +kernel
theorem s_Re_size_20 {a n : Nat} {f : Nat → Int32} {i : Int32} (hh : h a = mI 2 n f) (hin : vp_in i n) (k : ev G M_Re_size R E 21 lv (.int (f i.toNatClampNeg) :: rest) h cells slots) : ev G M_Re_size R E 20 lv (.int i :: .ref a :: rest) h cells slots := ev_zaload d_Re_size_20 rfl hh hin k
theorem d_Re_size_21 : decode prog_6_method_2_code 21 = .ok (.ifCond .eq 7, 3) := by decide +kernel
theorem s_Re_size_21 {x : Int32} (kt : x = 0 → ev G M_Re_size R E 28 lv rest h cells slots) (kf : ¬ x = 0 → ev G M_Re_size R E 24 lv rest h cells slots) : ev G M_Re_size R E 21 lv (.int x :: rest) h cells slots := ev_if_eq d_Re_size_21 (by decide) kt kf
theorem d_Re_size_24 : decode prog_6_method_2_code 24 = .ok (.iconst 1, 1) := by decide +kernel
theorem s_Re_size_24  (k : ev G M_Re_size R E 25 lv (.int 1 :: rest) h cells slots) : ev G M_Re_size R E 24 lv rest h cells slots := ev_iconst d_Re_size_24 (by decide) k
theorem d_Re_size_25 : decode prog_6_method_2_code 25 = .ok (.goto 4, 3) := by decide +kernel
theorem s_Re_size_25  (k : ev G M_Re_size R E 29 lv rest h cells slots) : ev G M_Re_size R E 25 lv rest h cells slots := ev_goto d_Re_size_25 (by decide) k
theorem d_Re_size_28 : decode prog_6_method_2_code 28 = .ok (.iconst 0, 1) := by decide +kernel
theorem s_Re_size_28  (k : ev G M_Re_size R E 29 lv (.int 0 :: rest) h cells slots) : ev G M_Re_size R E 28 lv rest h cells slots := ev_iconst d_Re_size_28 (by decide) k
theorem d_Re_size_29 : decode prog_6_method_2_code 29 = .ok (.iadd, 1) := by decide +kernel
theorem s_Re_size_29 {x y : Int32} (k : ev G M_Re_size R E 30 lv (.int (x + y) :: rest) h cells slots) : ev G M_Re_size R E 29 lv (.int y :: .int x :: rest) h cells slots := ev_iadd d_Re_size_29 k
theorem d_Re_size_30 : decode prog_6_method_2_code 30 = .ok (.istore_n 1, 1) := by decide +kernel
theorem s_Re_size_30 {x : Int32} (k : ev G M_Re_size R E 31 (ls1 lv 1 (.int x)) rest h cells slots) : ev G M_Re_size R E 30 lv (.int x :: rest) h cells slots := ev_istore_n d_Re_size_30 rfl (by decide) k
theorem d_Re_size_31 : decode prog_6_method_2_code 31 = .ok (.iinc 2 1, 3) := by decide +kernel
theorem s_Re_size_31 {x : Int32} (hl : lg lv 2 = some (.int x)) (k : ev G M_Re_size R E 34 (ls1 lv 2 (.int (x + 1))) rest h cells slots) : ev G M_Re_size R E 31 lv rest h cells slots := ev_iinc d_Re_size_31 (by decide) hl (by decide) k
theorem d_Re_size_34 : decode prog_6_method_2_code 34 = .ok (.goto (-26), 3) := by decide +kernel
theorem s_Re_size_34  (k : ev G M_Re_size R E 8 lv rest h cells slots) : ev G M_Re_size R E 34 lv rest h cells slots := ev_goto d_Re_size_34 (by decide) k
theorem d_Re_size_37 : decode prog_6_method_2_code 37 = .ok (.iload_n 1, 1) := by decide +kernel
theorem s_Re_size_37 {x : Int32} (hl : lg lv 1 = some (.int x)) (k : ev G M_Re_size R E 38 lv (.int x :: rest) h cells slots) : ev G M_Re_size R E 37 lv rest h cells slots := ev_iload_n d_Re_size_37 rfl hl k
theorem d_Re_size_38 : decode prog_6_method_2_code 38 = .ok (.ireturn, 1) := by decide +kernel
theorem s_Re_size_38 {P : Option Value → HP → Prop} {mc ms : Nat} {v : Int32} (hP : P (some (.int v)) h) (hc : cells ≤ mc ∧ slots ≤ ms) : ev G M_Re_size R (Er M_Re_size P mc ms) 38 lv [.int v] h cells slots := ev_exit ⟨hc.1, hc.2, Or.inr (Or.inl ⟨v, .int, rfl, rfl, d_Re_size_38, rfl, hP⟩)⟩
abbrev M_Um_reach : MW := (⟨"UseOnceMachine", "reach", "()I"⟩, prog_1_method_12_code, 1, (some .int))
theorem hy_Um_reach : M_Um_reach.1.cls ≠ "java/lang/invoke/MethodHandle" ∧ M_Um_reach.1.cls ≠ "java/lang/invoke/VarHandle" ∧ (parseMethodDescriptor M_Um_reach.1.desc).map (fun d => d.parameters.length) = some 0 := by decide +kernel
theorem d_Um_reach_0 : decode prog_1_method_12_code 0 = .ok (.aload_n 0, 1) := by decide +kernel
theorem s_Um_reach_0 {x : Nat} (hl : lg lv 0 = some (.ref x)) (k : ev G M_Um_reach R E 1 lv (.ref x :: rest) h cells slots) : ev G M_Um_reach R E 0 lv rest h cells slots := ev_aload_n d_Um_reach_0 rfl hl k
theorem d_Um_reach_1 : decode prog_1_method_12_code 1 = .ok (.getfield 51, 3) := by decide +kernel
theorem s_Um_reach_1 {a : Nat} {fs : List Value} {v : Value} (hh : h a = mO 6 fs) (hv : fs[5]? = some v) (k : ev G M_Um_reach R E 4 lv (v :: rest) h cells slots) : ev G M_Um_reach R E 1 lv (.ref a :: rest) h cells slots := ev_getfield (ci := 6) (kf := 5) d_Um_reach_1 rfl ck6 (by decide) w_254 hh hv k
theorem d_Um_reach_4 : decode prog_1_method_12_code 4 = .ok (.invokevirtual 133, 3) := by decide +kernel
theorem s_Um_reach_4 {mc ms : Nat} {P : Option Value → HP → Prop}  {b : Nat} {fs : List Value} {v0 : Value} (hm : mt G M_Re_size 5 mc ms (.ref b :: []) h P) (hb : h b = mO 4 fs) (hv0 : fs[0]? = some v0) (hR : 5 + 1 ≤ R.frames ∧ 8 + (3 + 11) + 39 * 5 ≤ R.locals) (hcs : cells + mc ≤ R.cells ∧ slots + ms ≤ R.slots) (hrest : (rest.map fun v => v.category).sum ≤ 8) (k : ∀ (r : Option Value) (h' : HP), P r h' → ev G M_Um_reach R E 7 lv (r.toList ++ rest) h' (cells + mc) (slots + ms)) : ev G M_Um_reach R E 4 lv (.ref b :: rest) h cells slots := ev_callV (as := []) (ci := 4) d_Um_reach_4 hm hb hv0 rfl w_638 w_639 w_640 w_69 w_641 hy_Re_size hR hcs hrest k
theorem d_Um_reach_7 : decode prog_1_method_12_code 7 = .ok (.ireturn, 1) := by decide +kernel
theorem s_Um_reach_7 {P : Option Value → HP → Prop} {mc ms : Nat} {v : Int32} (hP : P (some (.int v)) h) (hc : cells ≤ mc ∧ slots ≤ ms) : ev G M_Um_reach R (Er M_Um_reach P mc ms) 7 lv [.int v] h cells slots := ev_exit ⟨hc.1, hc.2, Or.inr (Or.inl ⟨v, .int, rfl, rfl, d_Um_reach_7, rfl, hP⟩)⟩
abbrev M_Re_contains : MW := (⟨"UseOnceMachine$Reach", "contains", "(I)Z"⟩, prog_6_method_3_code, 2, (some .boolean))
theorem hy_Re_contains : M_Re_contains.1.cls ≠ "java/lang/invoke/MethodHandle" ∧ M_Re_contains.1.cls ≠ "java/lang/invoke/VarHandle" ∧ (parseMethodDescriptor M_Re_contains.1.desc).map (fun d => d.parameters.length) = some 1 := by decide +kernel
theorem d_Re_contains_0 : decode prog_6_method_3_code 0 = .ok (.iload_n 1, 1) := by decide +kernel
theorem s_Re_contains_0 {x : Int32} (hl : lg lv 1 = some (.int x)) (k : ev G M_Re_contains R E 1 lv (.int x :: rest) h cells slots) : ev G M_Re_contains R E 0 lv rest h cells slots := ev_iload_n d_Re_contains_0 rfl hl k
theorem d_Re_contains_1 : decode prog_6_method_3_code 1 = .ok (.ifCond .lt 9, 3) := by decide +kernel
theorem s_Re_contains_1 {x : Int32} (kt : x < 0 → ev G M_Re_contains R E 10 lv rest h cells slots) (kf : ¬ x < 0 → ev G M_Re_contains R E 4 lv rest h cells slots) : ev G M_Re_contains R E 1 lv (.int x :: rest) h cells slots := ev_if_lt d_Re_contains_1 (by decide) kt kf
theorem d_Re_contains_4 : decode prog_6_method_3_code 4 = .ok (.iload_n 1, 1) := by decide +kernel
theorem s_Re_contains_4 {x : Int32} (hl : lg lv 1 = some (.int x)) (k : ev G M_Re_contains R E 5 lv (.int x :: rest) h cells slots) : ev G M_Re_contains R E 4 lv rest h cells slots := ev_iload_n d_Re_contains_4 rfl hl k
theorem d_Re_contains_5 : decode prog_6_method_3_code 5 = .ok (.bipush 48, 2) := by decide +kernel
theorem s_Re_contains_5  (k : ev G M_Re_contains R E 7 lv (.int 48 :: rest) h cells slots) : ev G M_Re_contains R E 5 lv rest h cells slots := ev_bipush d_Re_contains_5 (by decide) k
theorem d_Re_contains_7 : decode prog_6_method_3_code 7 = .ok (.if_icmp .lt 5, 3) := by decide +kernel
theorem s_Re_contains_7 {x y : Int32} (kt : x < y → ev G M_Re_contains R E 12 lv rest h cells slots) (kf : ¬ x < y → ev G M_Re_contains R E 10 lv rest h cells slots) : ev G M_Re_contains R E 7 lv (.int y :: .int x :: rest) h cells slots := ev_icmp_lt d_Re_contains_7 (by decide) kt kf
theorem d_Re_contains_10 : decode prog_6_method_3_code 10 = .ok (.iconst 0, 1) := by decide +kernel
theorem s_Re_contains_10  (k : ev G M_Re_contains R E 11 lv (.int 0 :: rest) h cells slots) : ev G M_Re_contains R E 10 lv rest h cells slots := ev_iconst d_Re_contains_10 (by decide) k
theorem d_Re_contains_11 : decode prog_6_method_3_code 11 = .ok (.ireturn, 1) := by decide +kernel
theorem s_Re_contains_11 {P : Option Value → HP → Prop} {mc ms : Nat} {v : Int32} (hz : v = 0 ∨ v = 1) (hP : P (some (.int v)) h) (hc : cells ≤ mc ∧ slots ≤ ms) : ev G M_Re_contains R (Er M_Re_contains P mc ms) 11 lv [.int v] h cells slots := ev_exit ⟨hc.1, hc.2, Or.inr (Or.inl ⟨v, .boolean, rfl, (nar_z hz), d_Re_contains_11, rfl, hP⟩)⟩
theorem d_Re_contains_12 : decode prog_6_method_3_code 12 = .ok (.aload_n 0, 1) := by decide +kernel
theorem s_Re_contains_12 {x : Nat} (hl : lg lv 0 = some (.ref x)) (k : ev G M_Re_contains R E 13 lv (.ref x :: rest) h cells slots) : ev G M_Re_contains R E 12 lv rest h cells slots := ev_aload_n d_Re_contains_12 rfl hl k
theorem d_Re_contains_13 : decode prog_6_method_3_code 13 = .ok (.invokevirtual 30, 3) := by decide +kernel
theorem s_Re_contains_13 {mc ms : Nat} {P : Option Value → HP → Prop}  {b : Nat} {fs : List Value} {v0 : Value} (hm : mt G M_Re_follow 4 mc ms (.ref b :: []) h P) (hb : h b = mO 4 fs) (hv0 : fs[0]? = some v0) (hR : 4 + 1 ≤ R.frames ∧ 8 + (2 + 11) + 39 * 4 ≤ R.locals) (hcs : cells + mc ≤ R.cells ∧ slots + ms ≤ R.slots) (hrest : (rest.map fun v => v.category).sum ≤ 8) (k : ∀ (r : Option Value) (h' : HP), P r h' → ev G M_Re_contains R E 16 lv (r.toList ++ rest) h' (cells + mc) (slots + ms)) : ev G M_Re_contains R E 13 lv (.ref b :: rest) h cells slots := ev_callV (as := []) (ci := 4) d_Re_contains_13 hm hb hv0 rfl w_642 w_644 w_27 w_69 w_645 hy_Re_follow hR hcs hrest k
theorem d_Re_contains_16 : decode prog_6_method_3_code 16 = .ok (.aload_n 0, 1) := by decide +kernel
theorem s_Re_contains_16 {x : Nat} (hl : lg lv 0 = some (.ref x)) (k : ev G M_Re_contains R E 17 lv (.ref x :: rest) h cells slots) : ev G M_Re_contains R E 16 lv rest h cells slots := ev_aload_n d_Re_contains_16 rfl hl k
theorem d_Re_contains_17 : decode prog_6_method_3_code 17 = .ok (.getfield 9, 3) := by decide +kernel
theorem s_Re_contains_17 {a : Nat} {fs : List Value} {v : Value} (hh : h a = mO 4 fs) (hv : fs[1]? = some v) (k : ev G M_Re_contains R E 20 lv (v :: rest) h cells slots) : ev G M_Re_contains R E 17 lv (.ref a :: rest) h cells slots := ev_getfield (ci := 4) (kf := 1) d_Re_contains_17 rfl ck4 (by decide) w_233 hh hv k
theorem d_Re_contains_20 : decode prog_6_method_3_code 20 = .ok (.iload_n 1, 1) := by decide +kernel
theorem s_Re_contains_20 {x : Int32} (hl : lg lv 1 = some (.int x)) (k : ev G M_Re_contains R E 21 lv (.int x :: rest) h cells slots) : ev G M_Re_contains R E 20 lv rest h cells slots := ev_iload_n d_Re_contains_20 rfl hl k
theorem d_Re_contains_21 : decode prog_6_method_3_code 21 = .ok (.baload, 1) := by decide +kernel
theorem s_Re_contains_21 {a n : Nat} {f : Nat → Int32} {i : Int32} (hh : h a = mI 2 n f) (hin : vp_in i n) (k : ev G M_Re_contains R E 22 lv (.int (f i.toNatClampNeg) :: rest) h cells slots) : ev G M_Re_contains R E 21 lv (.int i :: .ref a :: rest) h cells slots := ev_zaload d_Re_contains_21 rfl hh hin k
theorem d_Re_contains_22 : decode prog_6_method_3_code 22 = .ok (.ireturn, 1) := by decide +kernel
theorem s_Re_contains_22 {P : Option Value → HP → Prop} {mc ms : Nat} {v : Int32} (hz : v = 0 ∨ v = 1) (hP : P (some (.int v)) h) (hc : cells ≤ mc ∧ slots ≤ ms) : ev G M_Re_contains R (Er M_Re_contains P mc ms) 22 lv [.int v] h cells slots := ev_exit ⟨hc.1, hc.2, Or.inr (Or.inl ⟨v, .boolean, rfl, (nar_z hz), d_Re_contains_22, rfl, hP⟩)⟩
abbrev M_Um_reaches : MW := (⟨"UseOnceMachine", "reaches", "(I)Z"⟩, prog_1_method_13_code, 2, (some .boolean))
theorem hy_Um_reaches : M_Um_reaches.1.cls ≠ "java/lang/invoke/MethodHandle" ∧ M_Um_reaches.1.cls ≠ "java/lang/invoke/VarHandle" ∧ (parseMethodDescriptor M_Um_reaches.1.desc).map (fun d => d.parameters.length) = some 1 := by decide +kernel
theorem d_Um_reaches_0 : decode prog_1_method_13_code 0 = .ok (.aload_n 0, 1) := by decide +kernel
theorem s_Um_reaches_0 {x : Nat} (hl : lg lv 0 = some (.ref x)) (k : ev G M_Um_reaches R E 1 lv (.ref x :: rest) h cells slots) : ev G M_Um_reaches R E 0 lv rest h cells slots := ev_aload_n d_Um_reaches_0 rfl hl k
theorem d_Um_reaches_1 : decode prog_1_method_13_code 1 = .ok (.getfield 51, 3) := by decide +kernel
theorem s_Um_reaches_1 {a : Nat} {fs : List Value} {v : Value} (hh : h a = mO 6 fs) (hv : fs[5]? = some v) (k : ev G M_Um_reaches R E 4 lv (v :: rest) h cells slots) : ev G M_Um_reaches R E 1 lv (.ref a :: rest) h cells slots := ev_getfield (ci := 6) (kf := 5) d_Um_reaches_1 rfl ck6 (by decide) w_254 hh hv k
theorem d_Um_reaches_4 : decode prog_1_method_13_code 4 = .ok (.iload_n 1, 1) := by decide +kernel
theorem s_Um_reaches_4 {x : Int32} (hl : lg lv 1 = some (.int x)) (k : ev G M_Um_reaches R E 5 lv (.int x :: rest) h cells slots) : ev G M_Um_reaches R E 4 lv rest h cells slots := ev_iload_n d_Um_reaches_4 rfl hl k
theorem d_Um_reaches_5 : decode prog_1_method_13_code 5 = .ok (.invokevirtual 136, 3) := by decide +kernel
theorem s_Um_reaches_5 {mc ms : Nat} {P : Option Value → HP → Prop} {a0 : Int32} {b : Nat} {fs : List Value} {v0 : Value} (hm : mt G M_Re_contains 5 mc ms (.ref b :: [.int a0]) h P) (hb : h b = mO 4 fs) (hv0 : fs[0]? = some v0) (hR : 5 + 1 ≤ R.frames ∧ 8 + (2 + 11) + 39 * 5 ≤ R.locals) (hcs : cells + mc ≤ R.cells ∧ slots + ms ≤ R.slots) (hrest : (rest.map fun v => v.category).sum ≤ 8) (k : ∀ (r : Option Value) (h' : HP), P r h' → ev G M_Um_reaches R E 8 lv (r.toList ++ rest) h' (cells + mc) (slots + ms)) : ev G M_Um_reaches R E 5 lv (.int a0 :: .ref b :: rest) h cells slots := ev_callV (as := [.int a0]) (ci := 4) d_Um_reaches_5 hm hb hv0 rfl w_659 w_660 w_661 w_69 w_662 hy_Re_contains hR hcs hrest k
theorem d_Um_reaches_8 : decode prog_1_method_13_code 8 = .ok (.ireturn, 1) := by decide +kernel
theorem s_Um_reaches_8 {P : Option Value → HP → Prop} {mc ms : Nat} {v : Int32} (hz : v = 0 ∨ v = 1) (hP : P (some (.int v)) h) (hc : cells ≤ mc ∧ slots ≤ ms) : ev G M_Um_reaches R (Er M_Um_reaches P mc ms) 8 lv [.int v] h cells slots := ev_exit ⟨hc.1, hc.2, Or.inr (Or.inl ⟨v, .boolean, rfl, (nar_z hz), d_Um_reaches_8, rfl, hP⟩)⟩
abbrev M_Ow_tallyExclusive : MW := (⟨"UseOnceMachine$Owners", "tallyExclusive", "(J)V"⟩, prog_4_method_7_code, 5, none)
theorem hy_Ow_tallyExclusive : M_Ow_tallyExclusive.1.cls ≠ "java/lang/invoke/MethodHandle" ∧ M_Ow_tallyExclusive.1.cls ≠ "java/lang/invoke/VarHandle" ∧ (parseMethodDescriptor M_Ow_tallyExclusive.1.desc).map (fun d => d.parameters.length) = some 1 := by decide +kernel
theorem d_Ow_tallyExclusive_0 : decode prog_4_method_7_code 0 = .ok (.lload_n 1, 1) := by decide +kernel
theorem s_Ow_tallyExclusive_0 {x : Int64} (hl : lg lv 1 = some (.long x)) (k : ev G M_Ow_tallyExclusive R E 1 lv (.long x :: rest) h cells slots) : ev G M_Ow_tallyExclusive R E 0 lv rest h cells slots := ev_lload_n d_Ow_tallyExclusive_0 rfl hl k
theorem d_Ow_tallyExclusive_1 : decode prog_4_method_7_code 1 = .ok (.invokestatic 85, 3) := by decide +kernel
theorem s_Ow_tallyExclusive_1 {mc ms : Nat} {P : Option Value → HP → Prop} {a0 : Int64} (hm : mt G M_Va_from 0 mc ms [.long a0] h P) (hR : 0 + 1 ≤ R.frames ∧ 8 + (2 + 11) + 39 * 0 ≤ R.locals) (hcs : cells + mc ≤ R.cells ∧ slots + ms ≤ R.slots) (hrest : (rest.map fun v => v.category).sum ≤ 8) (k : ∀ (r : Option Value) (h' : HP), P r h' → ev G M_Ow_tallyExclusive R E 4 lv (r.toList ++ rest) h' (cells + mc) (slots + ms)) : ev G M_Ow_tallyExclusive R E 1 lv (.long a0 :: rest) h cells slots := ev_callS (as := [.long a0]) d_Ow_tallyExclusive_1 hm w_680 w_441 w_72 w_442 hy_Va_from hR hcs hrest k
theorem d_Ow_tallyExclusive_4 : decode prog_4_method_7_code 4 = .ok (.istore_n 3, 1) := by decide +kernel
theorem s_Ow_tallyExclusive_4 {x : Int32} (k : ev G M_Ow_tallyExclusive R E 5 (ls1 lv 3 (.int x)) rest h cells slots) : ev G M_Ow_tallyExclusive R E 4 lv (.int x :: rest) h cells slots := ev_istore_n d_Ow_tallyExclusive_4 rfl (by decide) k
theorem d_Ow_tallyExclusive_5 : decode prog_4_method_7_code 5 = .ok (.iload_n 3, 1) := by decide +kernel
theorem s_Ow_tallyExclusive_5 {x : Int32} (hl : lg lv 3 = some (.int x)) (k : ev G M_Ow_tallyExclusive R E 6 lv (.int x :: rest) h cells slots) : ev G M_Ow_tallyExclusive R E 5 lv rest h cells slots := ev_iload_n d_Ow_tallyExclusive_5 rfl hl k
theorem d_Ow_tallyExclusive_6 : decode prog_4_method_7_code 6 = .ok (.lload_n 1, 1) := by decide +kernel
theorem s_Ow_tallyExclusive_6 {x : Int64} (hl : lg lv 1 = some (.long x)) (k : ev G M_Ow_tallyExclusive R E 7 lv (.long x :: rest) h cells slots) : ev G M_Ow_tallyExclusive R E 6 lv rest h cells slots := ev_lload_n d_Ow_tallyExclusive_6 rfl hl k
theorem d_Ow_tallyExclusive_7 : decode prog_4_method_7_code 7 = .ok (.invokestatic 88, 3) := by decide +kernel
theorem s_Ow_tallyExclusive_7 {mc ms : Nat} {P : Option Value → HP → Prop} {a0 : Int64} (hm : mt G M_Va_end 0 mc ms [.long a0] h P) (hR : 0 + 1 ≤ R.frames ∧ 8 + (2 + 11) + 39 * 0 ≤ R.locals) (hcs : cells + mc ≤ R.cells ∧ slots + ms ≤ R.slots) (hrest : (rest.map fun v => v.category).sum ≤ 8) (k : ∀ (r : Option Value) (h' : HP), P r h' → ev G M_Ow_tallyExclusive R E 10 lv (r.toList ++ rest) h' (cells + mc) (slots + ms)) : ev G M_Ow_tallyExclusive R E 7 lv (.long a0 :: rest) h cells slots := ev_callS (as := [.long a0]) d_Ow_tallyExclusive_7 hm w_681 w_438 w_72 w_439 hy_Va_end hR hcs hrest k
theorem d_Ow_tallyExclusive_10 : decode prog_4_method_7_code 10 = .ok (.if_icmp .ge 53, 3) := by decide +kernel
theorem s_Ow_tallyExclusive_10 {x y : Int32} (kt : y ≤ x → ev G M_Ow_tallyExclusive R E 63 lv rest h cells slots) (kf : ¬ y ≤ x → ev G M_Ow_tallyExclusive R E 13 lv rest h cells slots) : ev G M_Ow_tallyExclusive R E 10 lv (.int y :: .int x :: rest) h cells slots := ev_icmp_ge d_Ow_tallyExclusive_10 (by decide) kt kf
theorem d_Ow_tallyExclusive_13 : decode prog_4_method_7_code 13 = .ok (.iload_n 3, 1) := by decide +kernel
theorem s_Ow_tallyExclusive_13 {x : Int32} (hl : lg lv 3 = some (.int x)) (k : ev G M_Ow_tallyExclusive R E 14 lv (.int x :: rest) h cells slots) : ev G M_Ow_tallyExclusive R E 13 lv rest h cells slots := ev_iload_n d_Ow_tallyExclusive_13 rfl hl k
theorem d_Ow_tallyExclusive_14 : decode prog_4_method_7_code 14 = .ok (.bipush 48, 2) := by decide +kernel
theorem s_Ow_tallyExclusive_14  (k : ev G M_Ow_tallyExclusive R E 16 lv (.int 48 :: rest) h cells slots) : ev G M_Ow_tallyExclusive R E 14 lv rest h cells slots := ev_bipush d_Ow_tallyExclusive_14 (by decide) k
theorem d_Ow_tallyExclusive_16 : decode prog_4_method_7_code 16 = .ok (.if_icmp .ge 47, 3) := by decide +kernel
theorem s_Ow_tallyExclusive_16 {x y : Int32} (kt : y ≤ x → ev G M_Ow_tallyExclusive R E 63 lv rest h cells slots) (kf : ¬ y ≤ x → ev G M_Ow_tallyExclusive R E 19 lv rest h cells slots) : ev G M_Ow_tallyExclusive R E 16 lv (.int y :: .int x :: rest) h cells slots := ev_icmp_ge d_Ow_tallyExclusive_16 (by decide) kt kf
theorem d_Ow_tallyExclusive_19 : decode prog_4_method_7_code 19 = .ok (.iconst 0, 1) := by decide +kernel
theorem s_Ow_tallyExclusive_19  (k : ev G M_Ow_tallyExclusive R E 20 lv (.int 0 :: rest) h cells slots) : ev G M_Ow_tallyExclusive R E 19 lv rest h cells slots := ev_iconst d_Ow_tallyExclusive_19 (by decide) k
theorem d_Ow_tallyExclusive_20 : decode prog_4_method_7_code 20 = .ok (.istore 4, 2) := by decide +kernel
theorem s_Ow_tallyExclusive_20 {x : Int32} (k : ev G M_Ow_tallyExclusive R E 22 (ls1 lv 4 (.int x)) rest h cells slots) : ev G M_Ow_tallyExclusive R E 20 lv (.int x :: rest) h cells slots := ev_istore d_Ow_tallyExclusive_20 (by decide) k
theorem d_Ow_tallyExclusive_22 : decode prog_4_method_7_code 22 = .ok (.iload 4, 2) := by decide +kernel
theorem s_Ow_tallyExclusive_22 {x : Int32} (hl : lg lv 4 = some (.int x)) (k : ev G M_Ow_tallyExclusive R E 24 lv (.int x :: rest) h cells slots) : ev G M_Ow_tallyExclusive R E 22 lv rest h cells slots := ev_iload d_Ow_tallyExclusive_22 hl k
theorem d_Ow_tallyExclusive_24 : decode prog_4_method_7_code 24 = .ok (.iconst 4, 1) := by decide +kernel
theorem s_Ow_tallyExclusive_24  (k : ev G M_Ow_tallyExclusive R E 25 lv (.int 4 :: rest) h cells slots) : ev G M_Ow_tallyExclusive R E 24 lv rest h cells slots := ev_iconst d_Ow_tallyExclusive_24 (by decide) k
theorem d_Ow_tallyExclusive_25 : decode prog_4_method_7_code 25 = .ok (.if_icmp .ge 32, 3) := by decide +kernel
theorem s_Ow_tallyExclusive_25 {x y : Int32} (kt : y ≤ x → ev G M_Ow_tallyExclusive R E 57 lv rest h cells slots) (kf : ¬ y ≤ x → ev G M_Ow_tallyExclusive R E 28 lv rest h cells slots) : ev G M_Ow_tallyExclusive R E 25 lv (.int y :: .int x :: rest) h cells slots := ev_icmp_ge d_Ow_tallyExclusive_25 (by decide) kt kf
theorem d_Ow_tallyExclusive_28 : decode prog_4_method_7_code 28 = .ok (.aload_n 0, 1) := by decide +kernel
theorem s_Ow_tallyExclusive_28 {x : Nat} (hl : lg lv 0 = some (.ref x)) (k : ev G M_Ow_tallyExclusive R E 29 lv (.ref x :: rest) h cells slots) : ev G M_Ow_tallyExclusive R E 28 lv rest h cells slots := ev_aload_n d_Ow_tallyExclusive_28 rfl hl k
theorem d_Ow_tallyExclusive_29 : decode prog_4_method_7_code 29 = .ok (.getfield 9, 3) := by decide +kernel
theorem s_Ow_tallyExclusive_29 {a : Nat} {fs : List Value} {v : Value} (hh : h a = mO 2 fs) (hv : fs[1]? = some v) (k : ev G M_Ow_tallyExclusive R E 32 lv (v :: rest) h cells slots) : ev G M_Ow_tallyExclusive R E 29 lv (.ref a :: rest) h cells slots := ev_getfield (ci := 2) (kf := 1) d_Ow_tallyExclusive_29 rfl ck2 (by decide) w_214 hh hv k
theorem d_Ow_tallyExclusive_32 : decode prog_4_method_7_code 32 = .ok (.iload_n 3, 1) := by decide +kernel
theorem s_Ow_tallyExclusive_32 {x : Int32} (hl : lg lv 3 = some (.int x)) (k : ev G M_Ow_tallyExclusive R E 33 lv (.int x :: rest) h cells slots) : ev G M_Ow_tallyExclusive R E 32 lv rest h cells slots := ev_iload_n d_Ow_tallyExclusive_32 rfl hl k
theorem d_Ow_tallyExclusive_33 : decode prog_4_method_7_code 33 = .ok (.iconst 4, 1) := by decide +kernel
theorem s_Ow_tallyExclusive_33  (k : ev G M_Ow_tallyExclusive R E 34 lv (.int 4 :: rest) h cells slots) : ev G M_Ow_tallyExclusive R E 33 lv rest h cells slots := ev_iconst d_Ow_tallyExclusive_33 (by decide) k
theorem d_Ow_tallyExclusive_34 : decode prog_4_method_7_code 34 = .ok (.imul, 1) := by decide +kernel
theorem s_Ow_tallyExclusive_34 {x y : Int32} (k : ev G M_Ow_tallyExclusive R E 35 lv (.int (x * y) :: rest) h cells slots) : ev G M_Ow_tallyExclusive R E 34 lv (.int y :: .int x :: rest) h cells slots := ev_imul d_Ow_tallyExclusive_34 k
theorem d_Ow_tallyExclusive_35 : decode prog_4_method_7_code 35 = .ok (.iload 4, 2) := by decide +kernel
theorem s_Ow_tallyExclusive_35 {x : Int32} (hl : lg lv 4 = some (.int x)) (k : ev G M_Ow_tallyExclusive R E 37 lv (.int x :: rest) h cells slots) : ev G M_Ow_tallyExclusive R E 35 lv rest h cells slots := ev_iload d_Ow_tallyExclusive_35 hl k
theorem d_Ow_tallyExclusive_37 : decode prog_4_method_7_code 37 = .ok (.iadd, 1) := by decide +kernel
theorem s_Ow_tallyExclusive_37 {x y : Int32} (k : ev G M_Ow_tallyExclusive R E 38 lv (.int (x + y) :: rest) h cells slots) : ev G M_Ow_tallyExclusive R E 37 lv (.int y :: .int x :: rest) h cells slots := ev_iadd d_Ow_tallyExclusive_37 k
theorem d_Ow_tallyExclusive_38 : decode prog_4_method_7_code 38 = .ok (.dup2, 1) := by decide +kernel
theorem s_Ow_tallyExclusive_38 {va vb : Value} (hva : va.category = 1) (hvb : vb.category = 1) (k : ev G M_Ow_tallyExclusive R E 39 lv (va :: vb :: va :: vb :: rest) h cells slots) : ev G M_Ow_tallyExclusive R E 38 lv (va :: vb :: rest) h cells slots := ev_dup2 d_Ow_tallyExclusive_38 hva hvb k
theorem d_Ow_tallyExclusive_39 : decode prog_4_method_7_code 39 = .ok (.iaload, 1) := by decide +kernel
theorem s_Ow_tallyExclusive_39 {a n : Nat} {f : Nat → Int32} {i : Int32} (hh : h a = mI 0 n f) (hin : vp_in i n) (k : ev G M_Ow_tallyExclusive R E 40 lv (.int (f i.toNatClampNeg) :: rest) h cells slots) : ev G M_Ow_tallyExclusive R E 39 lv (.int i :: .ref a :: rest) h cells slots := ev_iaload d_Ow_tallyExclusive_39 rfl hh hin k
theorem d_Ow_tallyExclusive_40 : decode prog_4_method_7_code 40 = .ok (.lload_n 1, 1) := by decide +kernel
theorem s_Ow_tallyExclusive_40 {x : Int64} (hl : lg lv 1 = some (.long x)) (k : ev G M_Ow_tallyExclusive R E 41 lv (.long x :: rest) h cells slots) : ev G M_Ow_tallyExclusive R E 40 lv rest h cells slots := ev_lload_n d_Ow_tallyExclusive_40 rfl hl k
theorem d_Ow_tallyExclusive_41 : decode prog_4_method_7_code 41 = .ok (.invokestatic 91, 3) := by decide +kernel
theorem s_Ow_tallyExclusive_41 {mc ms : Nat} {P : Option Value → HP → Prop} {a0 : Int64} (hm : mt G M_Va_rights 0 mc ms [.long a0] h P) (hR : 0 + 1 ≤ R.frames ∧ 8 + (2 + 11) + 39 * 0 ≤ R.locals) (hcs : cells + mc ≤ R.cells ∧ slots + ms ≤ R.slots) (hrest : (rest.map fun v => v.category).sum ≤ 8) (k : ∀ (r : Option Value) (h' : HP), P r h' → ev G M_Ow_tallyExclusive R E 44 lv (r.toList ++ rest) h' (cells + mc) (slots + ms)) : ev G M_Ow_tallyExclusive R E 41 lv (.long a0 :: rest) h cells slots := ev_callS (as := [.long a0]) d_Ow_tallyExclusive_41 hm w_682 w_445 w_72 w_446 hy_Va_rights hR hcs hrest k
theorem d_Ow_tallyExclusive_44 : decode prog_4_method_7_code 44 = .ok (.iload 4, 2) := by decide +kernel
theorem s_Ow_tallyExclusive_44 {x : Int32} (hl : lg lv 4 = some (.int x)) (k : ev G M_Ow_tallyExclusive R E 46 lv (.int x :: rest) h cells slots) : ev G M_Ow_tallyExclusive R E 44 lv rest h cells slots := ev_iload d_Ow_tallyExclusive_44 hl k
theorem d_Ow_tallyExclusive_46 : decode prog_4_method_7_code 46 = .ok (.ishr, 1) := by decide +kernel
theorem s_Ow_tallyExclusive_46 {x y : Int32} (k : ev G M_Ow_tallyExclusive R E 47 lv (.int (x >>> (y &&& 31)) :: rest) h cells slots) : ev G M_Ow_tallyExclusive R E 46 lv (.int y :: .int x :: rest) h cells slots := ev_ishr d_Ow_tallyExclusive_46 k
theorem d_Ow_tallyExclusive_47 : decode prog_4_method_7_code 47 = .ok (.iconst 1, 1) := by decide +kernel
theorem s_Ow_tallyExclusive_47  (k : ev G M_Ow_tallyExclusive R E 48 lv (.int 1 :: rest) h cells slots) : ev G M_Ow_tallyExclusive R E 47 lv rest h cells slots := ev_iconst d_Ow_tallyExclusive_47 (by decide) k
theorem d_Ow_tallyExclusive_48 : decode prog_4_method_7_code 48 = .ok (.iand, 1) := by decide +kernel
theorem s_Ow_tallyExclusive_48 {x y : Int32} (k : ev G M_Ow_tallyExclusive R E 49 lv (.int (x &&& y) :: rest) h cells slots) : ev G M_Ow_tallyExclusive R E 48 lv (.int y :: .int x :: rest) h cells slots := ev_iand d_Ow_tallyExclusive_48 k
theorem d_Ow_tallyExclusive_49 : decode prog_4_method_7_code 49 = .ok (.iadd, 1) := by decide +kernel
theorem s_Ow_tallyExclusive_49 {x y : Int32} (k : ev G M_Ow_tallyExclusive R E 50 lv (.int (x + y) :: rest) h cells slots) : ev G M_Ow_tallyExclusive R E 49 lv (.int y :: .int x :: rest) h cells slots := ev_iadd d_Ow_tallyExclusive_49 k
theorem d_Ow_tallyExclusive_50 : decode prog_4_method_7_code 50 = .ok (.iastore, 1) := by decide +kernel
theorem s_Ow_tallyExclusive_50 {a n : Nat} {f : Nat → Int32} {i : Int32} {x : Int32} (hh : h a = mI 0 n f) (hin : vp_in i n) (k : ev G M_Ow_tallyExclusive R E 51 lv rest (va_up h a (mI 0 n (upd f i.toNatClampNeg x))) cells slots) : ev G M_Ow_tallyExclusive R E 50 lv (.int x :: .int i :: .ref a :: rest) h cells slots := ev_iastore d_Ow_tallyExclusive_50 rfl hh hin k
theorem d_Ow_tallyExclusive_51 : decode prog_4_method_7_code 51 = .ok (.iinc 4 1, 3) := by decide +kernel
theorem s_Ow_tallyExclusive_51 {x : Int32} (hl : lg lv 4 = some (.int x)) (k : ev G M_Ow_tallyExclusive R E 54 (ls1 lv 4 (.int (x + 1))) rest h cells slots) : ev G M_Ow_tallyExclusive R E 51 lv rest h cells slots := ev_iinc d_Ow_tallyExclusive_51 (by decide) hl (by decide) k
theorem d_Ow_tallyExclusive_54 : decode prog_4_method_7_code 54 = .ok (.goto (-32), 3) := by decide +kernel
theorem s_Ow_tallyExclusive_54  (k : ev G M_Ow_tallyExclusive R E 22 lv rest h cells slots) : ev G M_Ow_tallyExclusive R E 54 lv rest h cells slots := ev_goto d_Ow_tallyExclusive_54 (by decide) k
theorem d_Ow_tallyExclusive_57 : decode prog_4_method_7_code 57 = .ok (.iinc 3 1, 3) := by decide +kernel
theorem s_Ow_tallyExclusive_57 {x : Int32} (hl : lg lv 3 = some (.int x)) (k : ev G M_Ow_tallyExclusive R E 60 (ls1 lv 3 (.int (x + 1))) rest h cells slots) : ev G M_Ow_tallyExclusive R E 57 lv rest h cells slots := ev_iinc d_Ow_tallyExclusive_57 (by decide) hl (by decide) k
theorem d_Ow_tallyExclusive_60 : decode prog_4_method_7_code 60 = .ok (.goto (-55), 3) := by decide +kernel
theorem s_Ow_tallyExclusive_60  (k : ev G M_Ow_tallyExclusive R E 5 lv rest h cells slots) : ev G M_Ow_tallyExclusive R E 60 lv rest h cells slots := ev_goto d_Ow_tallyExclusive_60 (by decide) k
theorem d_Ow_tallyExclusive_63 : decode prog_4_method_7_code 63 = .ok (.return_, 1) := by decide +kernel
theorem s_Ow_tallyExclusive_63 {P : Option Value → HP → Prop} {mc ms : Nat} (hP : P none h) (hc : cells ≤ mc ∧ slots ≤ ms) : ev G M_Ow_tallyExclusive R (Er M_Ow_tallyExclusive P mc ms) 63 lv [] h cells slots := ev_exit ⟨hc.1, hc.2, Or.inl ⟨rfl, d_Ow_tallyExclusive_63, rfl, hP⟩⟩
abbrev M_Ow_tallyShared : MW := (⟨"UseOnceMachine$Owners", "tallyShared", "(J)V"⟩, prog_4_method_8_code, 5, none)
theorem hy_Ow_tallyShared : M_Ow_tallyShared.1.cls ≠ "java/lang/invoke/MethodHandle" ∧ M_Ow_tallyShared.1.cls ≠ "java/lang/invoke/VarHandle" ∧ (parseMethodDescriptor M_Ow_tallyShared.1.desc).map (fun d => d.parameters.length) = some 1 := by decide +kernel
theorem d_Ow_tallyShared_0 : decode prog_4_method_8_code 0 = .ok (.lload_n 1, 1) := by decide +kernel
theorem s_Ow_tallyShared_0 {x : Int64} (hl : lg lv 1 = some (.long x)) (k : ev G M_Ow_tallyShared R E 1 lv (.long x :: rest) h cells slots) : ev G M_Ow_tallyShared R E 0 lv rest h cells slots := ev_lload_n d_Ow_tallyShared_0 rfl hl k
theorem d_Ow_tallyShared_1 : decode prog_4_method_8_code 1 = .ok (.invokestatic 48, 3) := by decide +kernel
theorem s_Ow_tallyShared_1 {mc ms : Nat} {P : Option Value → HP → Prop} {a0 : Int64} (hm : mt G M_Va_link 0 mc ms [.long a0] h P) (hR : 0 + 1 ≤ R.frames ∧ 8 + (2 + 11) + 39 * 0 ≤ R.locals) (hcs : cells + mc ≤ R.cells ∧ slots + ms ≤ R.slots) (hrest : (rest.map fun v => v.category).sum ≤ 8) (k : ∀ (r : Option Value) (h' : HP), P r h' → ev G M_Ow_tallyShared R E 4 lv (r.toList ++ rest) h' (cells + mc) (slots + ms)) : ev G M_Ow_tallyShared R E 1 lv (.long a0 :: rest) h cells slots := ev_callS (as := [.long a0]) d_Ow_tallyShared_1 hm w_624 w_415 w_72 w_416 hy_Va_link hR hcs hrest k
theorem d_Ow_tallyShared_4 : decode prog_4_method_8_code 4 = .ok (.istore_n 3, 1) := by decide +kernel
theorem s_Ow_tallyShared_4 {x : Int32} (k : ev G M_Ow_tallyShared R E 5 (ls1 lv 3 (.int x)) rest h cells slots) : ev G M_Ow_tallyShared R E 4 lv (.int x :: rest) h cells slots := ev_istore_n d_Ow_tallyShared_4 rfl (by decide) k
theorem d_Ow_tallyShared_5 : decode prog_4_method_8_code 5 = .ok (.iload_n 3, 1) := by decide +kernel
theorem s_Ow_tallyShared_5 {x : Int32} (hl : lg lv 3 = some (.int x)) (k : ev G M_Ow_tallyShared R E 6 lv (.int x :: rest) h cells slots) : ev G M_Ow_tallyShared R E 5 lv rest h cells slots := ev_iload_n d_Ow_tallyShared_5 rfl hl k
theorem d_Ow_tallyShared_6 : decode prog_4_method_8_code 6 = .ok (.bipush 6, 2) := by decide +kernel
theorem s_Ow_tallyShared_6  (k : ev G M_Ow_tallyShared R E 8 lv (.int 6 :: rest) h cells slots) : ev G M_Ow_tallyShared R E 6 lv rest h cells slots := ev_bipush d_Ow_tallyShared_6 (by decide) k
theorem d_Ow_tallyShared_8 : decode prog_4_method_8_code 8 = .ok (.if_icmp .lt 4, 3) := by decide +kernel
theorem s_Ow_tallyShared_8 {x y : Int32} (kt : x < y → ev G M_Ow_tallyShared R E 12 lv rest h cells slots) (kf : ¬ x < y → ev G M_Ow_tallyShared R E 11 lv rest h cells slots) : ev G M_Ow_tallyShared R E 8 lv (.int y :: .int x :: rest) h cells slots := ev_icmp_lt d_Ow_tallyShared_8 (by decide) kt kf
theorem d_Ow_tallyShared_11 : decode prog_4_method_8_code 11 = .ok (.return_, 1) := by decide +kernel
theorem s_Ow_tallyShared_11 {P : Option Value → HP → Prop} {mc ms : Nat} (hP : P none h) (hc : cells ≤ mc ∧ slots ≤ ms) : ev G M_Ow_tallyShared R (Er M_Ow_tallyShared P mc ms) 11 lv [] h cells slots := ev_exit ⟨hc.1, hc.2, Or.inl ⟨rfl, d_Ow_tallyShared_11, rfl, hP⟩⟩
theorem d_Ow_tallyShared_12 : decode prog_4_method_8_code 12 = .ok (.aload_n 0, 1) := by decide +kernel
theorem s_Ow_tallyShared_12 {x : Nat} (hl : lg lv 0 = some (.ref x)) (k : ev G M_Ow_tallyShared R E 13 lv (.ref x :: rest) h cells slots) : ev G M_Ow_tallyShared R E 12 lv rest h cells slots := ev_aload_n d_Ow_tallyShared_12 rfl hl k
theorem d_Ow_tallyShared_13 : decode prog_4_method_8_code 13 = .ok (.getfield 18, 3) := by decide +kernel
theorem s_Ow_tallyShared_13 {a : Nat} {fs : List Value} {v : Value} (hh : h a = mO 2 fs) (hv : fs[3]? = some v) (k : ev G M_Ow_tallyShared R E 16 lv (v :: rest) h cells slots) : ev G M_Ow_tallyShared R E 13 lv (.ref a :: rest) h cells slots := ev_getfield (ci := 2) (kf := 3) d_Ow_tallyShared_13 rfl ck2 (by decide) w_216 hh hv k
theorem d_Ow_tallyShared_16 : decode prog_4_method_8_code 16 = .ok (.iload_n 3, 1) := by decide +kernel
theorem s_Ow_tallyShared_16 {x : Int32} (hl : lg lv 3 = some (.int x)) (k : ev G M_Ow_tallyShared R E 17 lv (.int x :: rest) h cells slots) : ev G M_Ow_tallyShared R E 16 lv rest h cells slots := ev_iload_n d_Ow_tallyShared_16 rfl hl k
theorem d_Ow_tallyShared_17 : decode prog_4_method_8_code 17 = .ok (.dup2, 1) := by decide +kernel
theorem s_Ow_tallyShared_17 {va vb : Value} (hva : va.category = 1) (hvb : vb.category = 1) (k : ev G M_Ow_tallyShared R E 18 lv (va :: vb :: va :: vb :: rest) h cells slots) : ev G M_Ow_tallyShared R E 17 lv (va :: vb :: rest) h cells slots := ev_dup2 d_Ow_tallyShared_17 hva hvb k
theorem d_Ow_tallyShared_18 : decode prog_4_method_8_code 18 = .ok (.iaload, 1) := by decide +kernel
theorem s_Ow_tallyShared_18 {a n : Nat} {f : Nat → Int32} {i : Int32} (hh : h a = mI 0 n f) (hin : vp_in i n) (k : ev G M_Ow_tallyShared R E 19 lv (.int (f i.toNatClampNeg) :: rest) h cells slots) : ev G M_Ow_tallyShared R E 18 lv (.int i :: .ref a :: rest) h cells slots := ev_iaload d_Ow_tallyShared_18 rfl hh hin k
theorem d_Ow_tallyShared_19 : decode prog_4_method_8_code 19 = .ok (.iconst 1, 1) := by decide +kernel
theorem s_Ow_tallyShared_19  (k : ev G M_Ow_tallyShared R E 20 lv (.int 1 :: rest) h cells slots) : ev G M_Ow_tallyShared R E 19 lv rest h cells slots := ev_iconst d_Ow_tallyShared_19 (by decide) k
theorem d_Ow_tallyShared_20 : decode prog_4_method_8_code 20 = .ok (.iadd, 1) := by decide +kernel
theorem s_Ow_tallyShared_20 {x y : Int32} (k : ev G M_Ow_tallyShared R E 21 lv (.int (x + y) :: rest) h cells slots) : ev G M_Ow_tallyShared R E 20 lv (.int y :: .int x :: rest) h cells slots := ev_iadd d_Ow_tallyShared_20 k
theorem d_Ow_tallyShared_21 : decode prog_4_method_8_code 21 = .ok (.iastore, 1) := by decide +kernel
theorem s_Ow_tallyShared_21 {a n : Nat} {f : Nat → Int32} {i : Int32} {x : Int32} (hh : h a = mI 0 n f) (hin : vp_in i n) (k : ev G M_Ow_tallyShared R E 22 lv rest (va_up h a (mI 0 n (upd f i.toNatClampNeg x))) cells slots) : ev G M_Ow_tallyShared R E 21 lv (.int x :: .int i :: .ref a :: rest) h cells slots := ev_iastore d_Ow_tallyShared_21 rfl hh hin k
theorem d_Ow_tallyShared_22 : decode prog_4_method_8_code 22 = .ok (.lload_n 1, 1) := by decide +kernel
theorem s_Ow_tallyShared_22 {x : Int64} (hl : lg lv 1 = some (.long x)) (k : ev G M_Ow_tallyShared R E 23 lv (.long x :: rest) h cells slots) : ev G M_Ow_tallyShared R E 22 lv rest h cells slots := ev_lload_n d_Ow_tallyShared_22 rfl hl k
theorem d_Ow_tallyShared_23 : decode prog_4_method_8_code 23 = .ok (.invokestatic 85, 3) := by decide +kernel
theorem s_Ow_tallyShared_23 {mc ms : Nat} {P : Option Value → HP → Prop} {a0 : Int64} (hm : mt G M_Va_from 0 mc ms [.long a0] h P) (hR : 0 + 1 ≤ R.frames ∧ 8 + (2 + 11) + 39 * 0 ≤ R.locals) (hcs : cells + mc ≤ R.cells ∧ slots + ms ≤ R.slots) (hrest : (rest.map fun v => v.category).sum ≤ 8) (k : ∀ (r : Option Value) (h' : HP), P r h' → ev G M_Ow_tallyShared R E 26 lv (r.toList ++ rest) h' (cells + mc) (slots + ms)) : ev G M_Ow_tallyShared R E 23 lv (.long a0 :: rest) h cells slots := ev_callS (as := [.long a0]) d_Ow_tallyShared_23 hm w_680 w_441 w_72 w_442 hy_Va_from hR hcs hrest k
theorem d_Ow_tallyShared_26 : decode prog_4_method_8_code 26 = .ok (.istore 4, 2) := by decide +kernel
theorem s_Ow_tallyShared_26 {x : Int32} (k : ev G M_Ow_tallyShared R E 28 (ls1 lv 4 (.int x)) rest h cells slots) : ev G M_Ow_tallyShared R E 26 lv (.int x :: rest) h cells slots := ev_istore d_Ow_tallyShared_26 (by decide) k
theorem d_Ow_tallyShared_28 : decode prog_4_method_8_code 28 = .ok (.iload 4, 2) := by decide +kernel
theorem s_Ow_tallyShared_28 {x : Int32} (hl : lg lv 4 = some (.int x)) (k : ev G M_Ow_tallyShared R E 30 lv (.int x :: rest) h cells slots) : ev G M_Ow_tallyShared R E 28 lv rest h cells slots := ev_iload d_Ow_tallyShared_28 hl k
theorem d_Ow_tallyShared_30 : decode prog_4_method_8_code 30 = .ok (.lload_n 1, 1) := by decide +kernel
theorem s_Ow_tallyShared_30 {x : Int64} (hl : lg lv 1 = some (.long x)) (k : ev G M_Ow_tallyShared R E 31 lv (.long x :: rest) h cells slots) : ev G M_Ow_tallyShared R E 30 lv rest h cells slots := ev_lload_n d_Ow_tallyShared_30 rfl hl k
theorem d_Ow_tallyShared_31 : decode prog_4_method_8_code 31 = .ok (.invokestatic 88, 3) := by decide +kernel
theorem s_Ow_tallyShared_31 {mc ms : Nat} {P : Option Value → HP → Prop} {a0 : Int64} (hm : mt G M_Va_end 0 mc ms [.long a0] h P) (hR : 0 + 1 ≤ R.frames ∧ 8 + (2 + 11) + 39 * 0 ≤ R.locals) (hcs : cells + mc ≤ R.cells ∧ slots + ms ≤ R.slots) (hrest : (rest.map fun v => v.category).sum ≤ 8) (k : ∀ (r : Option Value) (h' : HP), P r h' → ev G M_Ow_tallyShared R E 34 lv (r.toList ++ rest) h' (cells + mc) (slots + ms)) : ev G M_Ow_tallyShared R E 31 lv (.long a0 :: rest) h cells slots := ev_callS (as := [.long a0]) d_Ow_tallyShared_31 hm w_681 w_438 w_72 w_439 hy_Va_end hR hcs hrest k
theorem d_Ow_tallyShared_34 : decode prog_4_method_8_code 34 = .ok (.if_icmp .ge 29, 3) := by decide +kernel
theorem s_Ow_tallyShared_34 {x y : Int32} (kt : y ≤ x → ev G M_Ow_tallyShared R E 63 lv rest h cells slots) (kf : ¬ y ≤ x → ev G M_Ow_tallyShared R E 37 lv rest h cells slots) : ev G M_Ow_tallyShared R E 34 lv (.int y :: .int x :: rest) h cells slots := ev_icmp_ge d_Ow_tallyShared_34 (by decide) kt kf
theorem d_Ow_tallyShared_37 : decode prog_4_method_8_code 37 = .ok (.iload 4, 2) := by decide +kernel
theorem s_Ow_tallyShared_37 {x : Int32} (hl : lg lv 4 = some (.int x)) (k : ev G M_Ow_tallyShared R E 39 lv (.int x :: rest) h cells slots) : ev G M_Ow_tallyShared R E 37 lv rest h cells slots := ev_iload d_Ow_tallyShared_37 hl k
theorem d_Ow_tallyShared_39 : decode prog_4_method_8_code 39 = .ok (.bipush 48, 2) := by decide +kernel
theorem s_Ow_tallyShared_39  (k : ev G M_Ow_tallyShared R E 41 lv (.int 48 :: rest) h cells slots) : ev G M_Ow_tallyShared R E 39 lv rest h cells slots := ev_bipush d_Ow_tallyShared_39 (by decide) k
theorem d_Ow_tallyShared_41 : decode prog_4_method_8_code 41 = .ok (.if_icmp .ge 22, 3) := by decide +kernel
theorem s_Ow_tallyShared_41 {x y : Int32} (kt : y ≤ x → ev G M_Ow_tallyShared R E 63 lv rest h cells slots) (kf : ¬ y ≤ x → ev G M_Ow_tallyShared R E 44 lv rest h cells slots) : ev G M_Ow_tallyShared R E 41 lv (.int y :: .int x :: rest) h cells slots := ev_icmp_ge d_Ow_tallyShared_41 (by decide) kt kf
theorem d_Ow_tallyShared_44 : decode prog_4_method_8_code 44 = .ok (.aload_n 0, 1) := by decide +kernel
theorem s_Ow_tallyShared_44 {x : Nat} (hl : lg lv 0 = some (.ref x)) (k : ev G M_Ow_tallyShared R E 45 lv (.ref x :: rest) h cells slots) : ev G M_Ow_tallyShared R E 44 lv rest h cells slots := ev_aload_n d_Ow_tallyShared_44 rfl hl k
theorem d_Ow_tallyShared_45 : decode prog_4_method_8_code 45 = .ok (.getfield 15, 3) := by decide +kernel
theorem s_Ow_tallyShared_45 {a : Nat} {fs : List Value} {v : Value} (hh : h a = mO 2 fs) (hv : fs[2]? = some v) (k : ev G M_Ow_tallyShared R E 48 lv (v :: rest) h cells slots) : ev G M_Ow_tallyShared R E 45 lv (.ref a :: rest) h cells slots := ev_getfield (ci := 2) (kf := 2) d_Ow_tallyShared_45 rfl ck2 (by decide) w_215 hh hv k
theorem d_Ow_tallyShared_48 : decode prog_4_method_8_code 48 = .ok (.iload 4, 2) := by decide +kernel
theorem s_Ow_tallyShared_48 {x : Int32} (hl : lg lv 4 = some (.int x)) (k : ev G M_Ow_tallyShared R E 50 lv (.int x :: rest) h cells slots) : ev G M_Ow_tallyShared R E 48 lv rest h cells slots := ev_iload d_Ow_tallyShared_48 hl k
theorem d_Ow_tallyShared_50 : decode prog_4_method_8_code 50 = .ok (.dup2, 1) := by decide +kernel
theorem s_Ow_tallyShared_50 {va vb : Value} (hva : va.category = 1) (hvb : vb.category = 1) (k : ev G M_Ow_tallyShared R E 51 lv (va :: vb :: va :: vb :: rest) h cells slots) : ev G M_Ow_tallyShared R E 50 lv (va :: vb :: rest) h cells slots := ev_dup2 d_Ow_tallyShared_50 hva hvb k
theorem d_Ow_tallyShared_51 : decode prog_4_method_8_code 51 = .ok (.iaload, 1) := by decide +kernel
theorem s_Ow_tallyShared_51 {a n : Nat} {f : Nat → Int32} {i : Int32} (hh : h a = mI 0 n f) (hin : vp_in i n) (k : ev G M_Ow_tallyShared R E 52 lv (.int (f i.toNatClampNeg) :: rest) h cells slots) : ev G M_Ow_tallyShared R E 51 lv (.int i :: .ref a :: rest) h cells slots := ev_iaload d_Ow_tallyShared_51 rfl hh hin k
theorem d_Ow_tallyShared_52 : decode prog_4_method_8_code 52 = .ok (.iconst 1, 1) := by decide +kernel
theorem s_Ow_tallyShared_52  (k : ev G M_Ow_tallyShared R E 53 lv (.int 1 :: rest) h cells slots) : ev G M_Ow_tallyShared R E 52 lv rest h cells slots := ev_iconst d_Ow_tallyShared_52 (by decide) k
theorem d_Ow_tallyShared_53 : decode prog_4_method_8_code 53 = .ok (.iload_n 3, 1) := by decide +kernel
theorem s_Ow_tallyShared_53 {x : Int32} (hl : lg lv 3 = some (.int x)) (k : ev G M_Ow_tallyShared R E 54 lv (.int x :: rest) h cells slots) : ev G M_Ow_tallyShared R E 53 lv rest h cells slots := ev_iload_n d_Ow_tallyShared_53 rfl hl k
theorem d_Ow_tallyShared_54 : decode prog_4_method_8_code 54 = .ok (.ishl, 1) := by decide +kernel
theorem s_Ow_tallyShared_54 {x y : Int32} (k : ev G M_Ow_tallyShared R E 55 lv (.int (x <<< (y &&& 31)) :: rest) h cells slots) : ev G M_Ow_tallyShared R E 54 lv (.int y :: .int x :: rest) h cells slots := ev_ishl d_Ow_tallyShared_54 k
theorem d_Ow_tallyShared_55 : decode prog_4_method_8_code 55 = .ok (.ior, 1) := by decide +kernel
theorem s_Ow_tallyShared_55 {x y : Int32} (k : ev G M_Ow_tallyShared R E 56 lv (.int (x ||| y) :: rest) h cells slots) : ev G M_Ow_tallyShared R E 55 lv (.int y :: .int x :: rest) h cells slots := ev_ior d_Ow_tallyShared_55 k
theorem d_Ow_tallyShared_56 : decode prog_4_method_8_code 56 = .ok (.iastore, 1) := by decide +kernel
theorem s_Ow_tallyShared_56 {a n : Nat} {f : Nat → Int32} {i : Int32} {x : Int32} (hh : h a = mI 0 n f) (hin : vp_in i n) (k : ev G M_Ow_tallyShared R E 57 lv rest (va_up h a (mI 0 n (upd f i.toNatClampNeg x))) cells slots) : ev G M_Ow_tallyShared R E 56 lv (.int x :: .int i :: .ref a :: rest) h cells slots := ev_iastore d_Ow_tallyShared_56 rfl hh hin k
theorem d_Ow_tallyShared_57 : decode prog_4_method_8_code 57 = .ok (.iinc 4 1, 3) := by decide +kernel
theorem s_Ow_tallyShared_57 {x : Int32} (hl : lg lv 4 = some (.int x)) (k : ev G M_Ow_tallyShared R E 60 (ls1 lv 4 (.int (x + 1))) rest h cells slots) : ev G M_Ow_tallyShared R E 57 lv rest h cells slots := ev_iinc d_Ow_tallyShared_57 (by decide) hl (by decide) k
theorem d_Ow_tallyShared_60 : decode prog_4_method_8_code 60 = .ok (.goto (-32), 3) := by decide +kernel
theorem s_Ow_tallyShared_60  (k : ev G M_Ow_tallyShared R E 28 lv rest h cells slots) : ev G M_Ow_tallyShared R E 60 lv rest h cells slots := ev_goto d_Ow_tallyShared_60 (by decide) k
theorem d_Ow_tallyShared_63 : decode prog_4_method_8_code 63 = .ok (.return_, 1) := by decide +kernel
theorem s_Ow_tallyShared_63 {P : Option Value → HP → Prop} {mc ms : Nat} (hP : P none h) (hc : cells ≤ mc ∧ slots ≤ ms) : ev G M_Ow_tallyShared R (Er M_Ow_tallyShared P mc ms) 63 lv [] h cells slots := ev_exit ⟨hc.1, hc.2, Or.inl ⟨rfl, d_Ow_tallyShared_63, rfl, hP⟩⟩
abbrev M_Ow_tallyAll : MW := (⟨"UseOnceMachine$Owners", "tallyAll", "()V"⟩, prog_4_method_6_code, 4, none)
theorem hy_Ow_tallyAll : M_Ow_tallyAll.1.cls ≠ "java/lang/invoke/MethodHandle" ∧ M_Ow_tallyAll.1.cls ≠ "java/lang/invoke/VarHandle" ∧ (parseMethodDescriptor M_Ow_tallyAll.1.desc).map (fun d => d.parameters.length) = some 0 := by decide +kernel
theorem d_Ow_tallyAll_0 : decode prog_4_method_6_code 0 = .ok (.aload_n 0, 1) := by decide +kernel
theorem s_Ow_tallyAll_0 {x : Nat} (hl : lg lv 0 = some (.ref x)) (k : ev G M_Ow_tallyAll R E 1 lv (.ref x :: rest) h cells slots) : ev G M_Ow_tallyAll R E 0 lv rest h cells slots := ev_aload_n d_Ow_tallyAll_0 rfl hl k
theorem d_Ow_tallyAll_1 : decode prog_4_method_6_code 1 = .ok (.getfield 9, 3) := by decide +kernel
theorem s_Ow_tallyAll_1 {a : Nat} {fs : List Value} {v : Value} (hh : h a = mO 2 fs) (hv : fs[1]? = some v) (k : ev G M_Ow_tallyAll R E 4 lv (v :: rest) h cells slots) : ev G M_Ow_tallyAll R E 1 lv (.ref a :: rest) h cells slots := ev_getfield (ci := 2) (kf := 1) d_Ow_tallyAll_1 rfl ck2 (by decide) w_214 hh hv k
theorem d_Ow_tallyAll_4 : decode prog_4_method_6_code 4 = .ok (.iconst 0, 1) := by decide +kernel
theorem s_Ow_tallyAll_4  (k : ev G M_Ow_tallyAll R E 5 lv (.int 0 :: rest) h cells slots) : ev G M_Ow_tallyAll R E 4 lv rest h cells slots := ev_iconst d_Ow_tallyAll_4 (by decide) k
theorem d_Ow_tallyAll_5 : decode prog_4_method_6_code 5 = .ok (.invokestatic 72, 3) := by decide +kernel
theorem s_Ow_tallyAll_5 {mc ms : Nat} {P : Option Value → HP → Prop} {a0 : Nat} {a1 : Int32} (hm : mt G M_Ja_fillI 0 mc ms [.ref a0, .int a1] h P) (hR : 0 + 1 ≤ R.frames ∧ 8 + (4 + 11) + 39 * 0 ≤ R.locals) (hcs : cells + mc ≤ R.cells ∧ slots + ms ≤ R.slots) (hrest : (rest.map fun v => v.category).sum ≤ 8) (k : ∀ (r : Option Value) (h' : HP), P r h' → ev G M_Ow_tallyAll R E 8 lv (r.toList ++ rest) h' (cells + mc) (slots + ms)) : ev G M_Ow_tallyAll R E 5 lv (.int a1 :: .ref a0 :: rest) h cells slots := ev_callS (as := [.ref a0, .int a1]) d_Ow_tallyAll_5 hm w_675 w_295 w_71 w_296 hy_Ja_fillI hR hcs hrest k
theorem d_Ow_tallyAll_8 : decode prog_4_method_6_code 8 = .ok (.aload_n 0, 1) := by decide +kernel
theorem s_Ow_tallyAll_8 {x : Nat} (hl : lg lv 0 = some (.ref x)) (k : ev G M_Ow_tallyAll R E 9 lv (.ref x :: rest) h cells slots) : ev G M_Ow_tallyAll R E 8 lv rest h cells slots := ev_aload_n d_Ow_tallyAll_8 rfl hl k
theorem d_Ow_tallyAll_9 : decode prog_4_method_6_code 9 = .ok (.getfield 15, 3) := by decide +kernel
theorem s_Ow_tallyAll_9 {a : Nat} {fs : List Value} {v : Value} (hh : h a = mO 2 fs) (hv : fs[2]? = some v) (k : ev G M_Ow_tallyAll R E 12 lv (v :: rest) h cells slots) : ev G M_Ow_tallyAll R E 9 lv (.ref a :: rest) h cells slots := ev_getfield (ci := 2) (kf := 2) d_Ow_tallyAll_9 rfl ck2 (by decide) w_215 hh hv k
theorem d_Ow_tallyAll_12 : decode prog_4_method_6_code 12 = .ok (.iconst 0, 1) := by decide +kernel
theorem s_Ow_tallyAll_12  (k : ev G M_Ow_tallyAll R E 13 lv (.int 0 :: rest) h cells slots) : ev G M_Ow_tallyAll R E 12 lv rest h cells slots := ev_iconst d_Ow_tallyAll_12 (by decide) k
theorem d_Ow_tallyAll_13 : decode prog_4_method_6_code 13 = .ok (.invokestatic 72, 3) := by decide +kernel
theorem s_Ow_tallyAll_13 {mc ms : Nat} {P : Option Value → HP → Prop} {a0 : Nat} {a1 : Int32} (hm : mt G M_Ja_fillI 0 mc ms [.ref a0, .int a1] h P) (hR : 0 + 1 ≤ R.frames ∧ 8 + (4 + 11) + 39 * 0 ≤ R.locals) (hcs : cells + mc ≤ R.cells ∧ slots + ms ≤ R.slots) (hrest : (rest.map fun v => v.category).sum ≤ 8) (k : ∀ (r : Option Value) (h' : HP), P r h' → ev G M_Ow_tallyAll R E 16 lv (r.toList ++ rest) h' (cells + mc) (slots + ms)) : ev G M_Ow_tallyAll R E 13 lv (.int a1 :: .ref a0 :: rest) h cells slots := ev_callS (as := [.ref a0, .int a1]) d_Ow_tallyAll_13 hm w_675 w_295 w_71 w_296 hy_Ja_fillI hR hcs hrest k
theorem d_Ow_tallyAll_16 : decode prog_4_method_6_code 16 = .ok (.aload_n 0, 1) := by decide +kernel
theorem s_Ow_tallyAll_16 {x : Nat} (hl : lg lv 0 = some (.ref x)) (k : ev G M_Ow_tallyAll R E 17 lv (.ref x :: rest) h cells slots) : ev G M_Ow_tallyAll R E 16 lv rest h cells slots := ev_aload_n d_Ow_tallyAll_16 rfl hl k
theorem d_Ow_tallyAll_17 : decode prog_4_method_6_code 17 = .ok (.getfield 18, 3) := by decide +kernel
theorem s_Ow_tallyAll_17 {a : Nat} {fs : List Value} {v : Value} (hh : h a = mO 2 fs) (hv : fs[3]? = some v) (k : ev G M_Ow_tallyAll R E 20 lv (v :: rest) h cells slots) : ev G M_Ow_tallyAll R E 17 lv (.ref a :: rest) h cells slots := ev_getfield (ci := 2) (kf := 3) d_Ow_tallyAll_17 rfl ck2 (by decide) w_216 hh hv k
theorem d_Ow_tallyAll_20 : decode prog_4_method_6_code 20 = .ok (.iconst 0, 1) := by decide +kernel
theorem s_Ow_tallyAll_20  (k : ev G M_Ow_tallyAll R E 21 lv (.int 0 :: rest) h cells slots) : ev G M_Ow_tallyAll R E 20 lv rest h cells slots := ev_iconst d_Ow_tallyAll_20 (by decide) k
theorem d_Ow_tallyAll_21 : decode prog_4_method_6_code 21 = .ok (.invokestatic 72, 3) := by decide +kernel
theorem s_Ow_tallyAll_21 {mc ms : Nat} {P : Option Value → HP → Prop} {a0 : Nat} {a1 : Int32} (hm : mt G M_Ja_fillI 0 mc ms [.ref a0, .int a1] h P) (hR : 0 + 1 ≤ R.frames ∧ 8 + (4 + 11) + 39 * 0 ≤ R.locals) (hcs : cells + mc ≤ R.cells ∧ slots + ms ≤ R.slots) (hrest : (rest.map fun v => v.category).sum ≤ 8) (k : ∀ (r : Option Value) (h' : HP), P r h' → ev G M_Ow_tallyAll R E 24 lv (r.toList ++ rest) h' (cells + mc) (slots + ms)) : ev G M_Ow_tallyAll R E 21 lv (.int a1 :: .ref a0 :: rest) h cells slots := ev_callS (as := [.ref a0, .int a1]) d_Ow_tallyAll_21 hm w_675 w_295 w_71 w_296 hy_Ja_fillI hR hcs hrest k
theorem d_Ow_tallyAll_24 : decode prog_4_method_6_code 24 = .ok (.iconst 0, 1) := by decide +kernel
theorem s_Ow_tallyAll_24  (k : ev G M_Ow_tallyAll R E 25 lv (.int 0 :: rest) h cells slots) : ev G M_Ow_tallyAll R E 24 lv rest h cells slots := ev_iconst d_Ow_tallyAll_24 (by decide) k
theorem d_Ow_tallyAll_25 : decode prog_4_method_6_code 25 = .ok (.istore_n 1, 1) := by decide +kernel
theorem s_Ow_tallyAll_25 {x : Int32} (k : ev G M_Ow_tallyAll R E 26 (ls1 lv 1 (.int x)) rest h cells slots) : ev G M_Ow_tallyAll R E 25 lv (.int x :: rest) h cells slots := ev_istore_n d_Ow_tallyAll_25 rfl (by decide) k
theorem d_Ow_tallyAll_26 : decode prog_4_method_6_code 26 = .ok (.iload_n 1, 1) := by decide +kernel
theorem s_Ow_tallyAll_26 {x : Int32} (hl : lg lv 1 = some (.int x)) (k : ev G M_Ow_tallyAll R E 27 lv (.int x :: rest) h cells slots) : ev G M_Ow_tallyAll R E 26 lv rest h cells slots := ev_iload_n d_Ow_tallyAll_26 rfl hl k
theorem d_Ow_tallyAll_27 : decode prog_4_method_6_code 27 = .ok (.bipush 102, 2) := by decide +kernel
theorem s_Ow_tallyAll_27  (k : ev G M_Ow_tallyAll R E 29 lv (.int 102 :: rest) h cells slots) : ev G M_Ow_tallyAll R E 27 lv rest h cells slots := ev_bipush d_Ow_tallyAll_27 (by decide) k
theorem d_Ow_tallyAll_29 : decode prog_4_method_6_code 29 = .ok (.if_icmp .ge 47, 3) := by decide +kernel
theorem s_Ow_tallyAll_29 {x y : Int32} (kt : y ≤ x → ev G M_Ow_tallyAll R E 76 lv rest h cells slots) (kf : ¬ y ≤ x → ev G M_Ow_tallyAll R E 32 lv rest h cells slots) : ev G M_Ow_tallyAll R E 29 lv (.int y :: .int x :: rest) h cells slots := ev_icmp_ge d_Ow_tallyAll_29 (by decide) kt kf
theorem d_Ow_tallyAll_32 : decode prog_4_method_6_code 32 = .ok (.aload_n 0, 1) := by decide +kernel
theorem s_Ow_tallyAll_32 {x : Nat} (hl : lg lv 0 = some (.ref x)) (k : ev G M_Ow_tallyAll R E 33 lv (.ref x :: rest) h cells slots) : ev G M_Ow_tallyAll R E 32 lv rest h cells slots := ev_aload_n d_Ow_tallyAll_32 rfl hl k
theorem d_Ow_tallyAll_33 : decode prog_4_method_6_code 33 = .ok (.getfield 21, 3) := by decide +kernel
theorem s_Ow_tallyAll_33 {a : Nat} {fs : List Value} {v : Value} (hh : h a = mO 2 fs) (hv : fs[0]? = some v) (k : ev G M_Ow_tallyAll R E 36 lv (v :: rest) h cells slots) : ev G M_Ow_tallyAll R E 33 lv (.ref a :: rest) h cells slots := ev_getfield (ci := 2) (kf := 0) d_Ow_tallyAll_33 rfl ck2 (by decide) w_213 hh hv k
theorem d_Ow_tallyAll_36 : decode prog_4_method_6_code 36 = .ok (.iload_n 1, 1) := by decide +kernel
theorem s_Ow_tallyAll_36 {x : Int32} (hl : lg lv 1 = some (.int x)) (k : ev G M_Ow_tallyAll R E 37 lv (.int x :: rest) h cells slots) : ev G M_Ow_tallyAll R E 36 lv rest h cells slots := ev_iload_n d_Ow_tallyAll_36 rfl hl k
theorem d_Ow_tallyAll_37 : decode prog_4_method_6_code 37 = .ok (.invokevirtual 25, 3) := by decide +kernel
theorem s_Ow_tallyAll_37 {mc ms : Nat} {P : Option Value → HP → Prop} {a0 : Int32} {b : Nat} {fs : List Value} {v0 : Value} (hm : mt G M_St_held 0 mc ms (.ref b :: [.int a0]) h P) (hb : h b = mO 5 fs) (hv0 : fs[0]? = some v0) (hR : 0 + 1 ≤ R.frames ∧ 8 + (2 + 11) + 39 * 0 ≤ R.locals) (hcs : cells + mc ≤ R.cells ∧ slots + ms ≤ R.slots) (hrest : (rest.map fun v => v.category).sum ≤ 8) (k : ∀ (r : Option Value) (h' : HP), P r h' → ev G M_Ow_tallyAll R E 40 lv (r.toList ++ rest) h' (cells + mc) (slots + ms)) : ev G M_Ow_tallyAll R E 37 lv (.int a0 :: .ref b :: rest) h cells slots := ev_callV (as := [.int a0]) (ci := 5) d_Ow_tallyAll_37 hm hb hv0 rfl w_615 w_374 w_375 w_65 w_376 hy_St_held hR hcs hrest k
theorem d_Ow_tallyAll_40 : decode prog_4_method_6_code 40 = .ok (.lstore_n 2, 1) := by decide +kernel
theorem s_Ow_tallyAll_40 {x : Int64} (k : ev G M_Ow_tallyAll R E 41 (ls2 lv 2 (.long x)) rest h cells slots) : ev G M_Ow_tallyAll R E 40 lv (.long x :: rest) h cells slots := ev_lstore_n d_Ow_tallyAll_40 rfl (by decide) k
theorem d_Ow_tallyAll_41 : decode prog_4_method_6_code 41 = .ok (.lload_n 2, 1) := by decide +kernel
theorem s_Ow_tallyAll_41 {x : Int64} (hl : lg lv 2 = some (.long x)) (k : ev G M_Ow_tallyAll R E 42 lv (.long x :: rest) h cells slots) : ev G M_Ow_tallyAll R E 41 lv rest h cells slots := ev_lload_n d_Ow_tallyAll_41 rfl hl k
theorem d_Ow_tallyAll_42 : decode prog_4_method_6_code 42 = .ok (.invokestatic 40, 3) := by decide +kernel
theorem s_Ow_tallyAll_42 {mc ms : Nat} {P : Option Value → HP → Prop} {a0 : Int64} (hm : mt G M_Va_kind 0 mc ms [.long a0] h P) (hR : 0 + 1 ≤ R.frames ∧ 8 + (2 + 11) + 39 * 0 ≤ R.locals) (hcs : cells + mc ≤ R.cells ∧ slots + ms ≤ R.slots) (hrest : (rest.map fun v => v.category).sum ≤ 8) (k : ∀ (r : Option Value) (h' : HP), P r h' → ev G M_Ow_tallyAll R E 45 lv (r.toList ++ rest) h' (cells + mc) (slots + ms)) : ev G M_Ow_tallyAll R E 42 lv (.long a0 :: rest) h cells slots := ev_callS (as := [.long a0]) d_Ow_tallyAll_42 hm w_620 w_381 w_72 w_382 hy_Va_kind hR hcs hrest k
theorem d_Ow_tallyAll_45 : decode prog_4_method_6_code 45 = .ok (.iconst 1, 1) := by decide +kernel
theorem s_Ow_tallyAll_45  (k : ev G M_Ow_tallyAll R E 46 lv (.int 1 :: rest) h cells slots) : ev G M_Ow_tallyAll R E 45 lv rest h cells slots := ev_iconst d_Ow_tallyAll_45 (by decide) k
theorem d_Ow_tallyAll_46 : decode prog_4_method_6_code 46 = .ok (.if_icmp .ne 11, 3) := by decide +kernel
theorem s_Ow_tallyAll_46 {x y : Int32} (kt : ¬ x = y → ev G M_Ow_tallyAll R E 57 lv rest h cells slots) (kf : x = y → ev G M_Ow_tallyAll R E 49 lv rest h cells slots) : ev G M_Ow_tallyAll R E 46 lv (.int y :: .int x :: rest) h cells slots := ev_icmp_ne d_Ow_tallyAll_46 (by decide) kt kf
theorem d_Ow_tallyAll_49 : decode prog_4_method_6_code 49 = .ok (.aload_n 0, 1) := by decide +kernel
theorem s_Ow_tallyAll_49 {x : Nat} (hl : lg lv 0 = some (.ref x)) (k : ev G M_Ow_tallyAll R E 50 lv (.ref x :: rest) h cells slots) : ev G M_Ow_tallyAll R E 49 lv rest h cells slots := ev_aload_n d_Ow_tallyAll_49 rfl hl k
theorem d_Ow_tallyAll_50 : decode prog_4_method_6_code 50 = .ok (.lload_n 2, 1) := by decide +kernel
theorem s_Ow_tallyAll_50 {x : Int64} (hl : lg lv 2 = some (.long x)) (k : ev G M_Ow_tallyAll R E 51 lv (.long x :: rest) h cells slots) : ev G M_Ow_tallyAll R E 50 lv rest h cells slots := ev_lload_n d_Ow_tallyAll_50 rfl hl k
theorem d_Ow_tallyAll_51 : decode prog_4_method_6_code 51 = .ok (.invokevirtual 78, 3) := by decide +kernel
theorem s_Ow_tallyAll_51 {mc ms : Nat} {P : Option Value → HP → Prop} {a0 : Int64} {b : Nat} {fs : List Value} {v0 : Value} (hm : mt G M_Ow_tallyExclusive 1 mc ms (.ref b :: [.long a0]) h P) (hb : h b = mO 2 fs) (hv0 : fs[0]? = some v0) (hR : 1 + 1 ≤ R.frames ∧ 8 + (5 + 11) + 39 * 1 ≤ R.locals) (hcs : cells + mc ≤ R.cells ∧ slots + ms ≤ R.slots) (hrest : (rest.map fun v => v.category).sum ≤ 8) (k : ∀ (r : Option Value) (h' : HP), P r h' → ev G M_Ow_tallyAll R E 54 lv (r.toList ++ rest) h' (cells + mc) (slots + ms)) : ev G M_Ow_tallyAll R E 51 lv (.long a0 :: .ref b :: rest) h cells slots := ev_callV (as := [.long a0]) (ci := 2) d_Ow_tallyAll_51 hm hb hv0 rfl w_676 w_678 w_30 w_68 w_679 hy_Ow_tallyExclusive hR hcs hrest k
theorem d_Ow_tallyAll_54 : decode prog_4_method_6_code 54 = .ok (.goto 16, 3) := by decide +kernel
theorem s_Ow_tallyAll_54  (k : ev G M_Ow_tallyAll R E 70 lv rest h cells slots) : ev G M_Ow_tallyAll R E 54 lv rest h cells slots := ev_goto d_Ow_tallyAll_54 (by decide) k
theorem d_Ow_tallyAll_57 : decode prog_4_method_6_code 57 = .ok (.lload_n 2, 1) := by decide +kernel
theorem s_Ow_tallyAll_57 {x : Int64} (hl : lg lv 2 = some (.long x)) (k : ev G M_Ow_tallyAll R E 58 lv (.long x :: rest) h cells slots) : ev G M_Ow_tallyAll R E 57 lv rest h cells slots := ev_lload_n d_Ow_tallyAll_57 rfl hl k
theorem d_Ow_tallyAll_58 : decode prog_4_method_6_code 58 = .ok (.invokestatic 40, 3) := by decide +kernel
theorem s_Ow_tallyAll_58 {mc ms : Nat} {P : Option Value → HP → Prop} {a0 : Int64} (hm : mt G M_Va_kind 0 mc ms [.long a0] h P) (hR : 0 + 1 ≤ R.frames ∧ 8 + (2 + 11) + 39 * 0 ≤ R.locals) (hcs : cells + mc ≤ R.cells ∧ slots + ms ≤ R.slots) (hrest : (rest.map fun v => v.category).sum ≤ 8) (k : ∀ (r : Option Value) (h' : HP), P r h' → ev G M_Ow_tallyAll R E 61 lv (r.toList ++ rest) h' (cells + mc) (slots + ms)) : ev G M_Ow_tallyAll R E 58 lv (.long a0 :: rest) h cells slots := ev_callS (as := [.long a0]) d_Ow_tallyAll_58 hm w_620 w_381 w_72 w_382 hy_Va_kind hR hcs hrest k
theorem d_Ow_tallyAll_61 : decode prog_4_method_6_code 61 = .ok (.iconst 2, 1) := by decide +kernel
theorem s_Ow_tallyAll_61  (k : ev G M_Ow_tallyAll R E 62 lv (.int 2 :: rest) h cells slots) : ev G M_Ow_tallyAll R E 61 lv rest h cells slots := ev_iconst d_Ow_tallyAll_61 (by decide) k
theorem d_Ow_tallyAll_62 : decode prog_4_method_6_code 62 = .ok (.if_icmp .ne 8, 3) := by decide +kernel
theorem s_Ow_tallyAll_62 {x y : Int32} (kt : ¬ x = y → ev G M_Ow_tallyAll R E 70 lv rest h cells slots) (kf : x = y → ev G M_Ow_tallyAll R E 65 lv rest h cells slots) : ev G M_Ow_tallyAll R E 62 lv (.int y :: .int x :: rest) h cells slots := ev_icmp_ne d_Ow_tallyAll_62 (by decide) kt kf
theorem d_Ow_tallyAll_65 : decode prog_4_method_6_code 65 = .ok (.aload_n 0, 1) := by decide +kernel
theorem s_Ow_tallyAll_65 {x : Nat} (hl : lg lv 0 = some (.ref x)) (k : ev G M_Ow_tallyAll R E 66 lv (.ref x :: rest) h cells slots) : ev G M_Ow_tallyAll R E 65 lv rest h cells slots := ev_aload_n d_Ow_tallyAll_65 rfl hl k
theorem d_Ow_tallyAll_66 : decode prog_4_method_6_code 66 = .ok (.lload_n 2, 1) := by decide +kernel
theorem s_Ow_tallyAll_66 {x : Int64} (hl : lg lv 2 = some (.long x)) (k : ev G M_Ow_tallyAll R E 67 lv (.long x :: rest) h cells slots) : ev G M_Ow_tallyAll R E 66 lv rest h cells slots := ev_lload_n d_Ow_tallyAll_66 rfl hl k
theorem d_Ow_tallyAll_67 : decode prog_4_method_6_code 67 = .ok (.invokevirtual 82, 3) := by decide +kernel
theorem s_Ow_tallyAll_67 {mc ms : Nat} {P : Option Value → HP → Prop} {a0 : Int64} {b : Nat} {fs : List Value} {v0 : Value} (hm : mt G M_Ow_tallyShared 1 mc ms (.ref b :: [.long a0]) h P) (hb : h b = mO 2 fs) (hv0 : fs[0]? = some v0) (hR : 1 + 1 ≤ R.frames ∧ 8 + (5 + 11) + 39 * 1 ≤ R.locals) (hcs : cells + mc ≤ R.cells ∧ slots + ms ≤ R.slots) (hrest : (rest.map fun v => v.category).sum ≤ 8) (k : ∀ (r : Option Value) (h' : HP), P r h' → ev G M_Ow_tallyAll R E 70 lv (r.toList ++ rest) h' (cells + mc) (slots + ms)) : ev G M_Ow_tallyAll R E 67 lv (.long a0 :: .ref b :: rest) h cells slots := ev_callV (as := [.long a0]) (ci := 2) d_Ow_tallyAll_67 hm hb hv0 rfl w_683 w_685 w_31 w_68 w_686 hy_Ow_tallyShared hR hcs hrest k
theorem d_Ow_tallyAll_70 : decode prog_4_method_6_code 70 = .ok (.iinc 1 1, 3) := by decide +kernel
theorem s_Ow_tallyAll_70 {x : Int32} (hl : lg lv 1 = some (.int x)) (k : ev G M_Ow_tallyAll R E 73 (ls1 lv 1 (.int (x + 1))) rest h cells slots) : ev G M_Ow_tallyAll R E 70 lv rest h cells slots := ev_iinc d_Ow_tallyAll_70 (by decide) hl (by decide) k
theorem d_Ow_tallyAll_73 : decode prog_4_method_6_code 73 = .ok (.goto (-47), 3) := by decide +kernel
theorem s_Ow_tallyAll_73  (k : ev G M_Ow_tallyAll R E 26 lv rest h cells slots) : ev G M_Ow_tallyAll R E 73 lv rest h cells slots := ev_goto d_Ow_tallyAll_73 (by decide) k
theorem d_Ow_tallyAll_76 : decode prog_4_method_6_code 76 = .ok (.return_, 1) := by decide +kernel
theorem s_Ow_tallyAll_76 {P : Option Value → HP → Prop} {mc ms : Nat} (hP : P none h) (hc : cells ≤ mc ∧ slots ≤ ms) : ev G M_Ow_tallyAll R (Er M_Ow_tallyAll P mc ms) 76 lv [] h cells slots := ev_exit ⟨hc.1, hc.2, Or.inl ⟨rfl, d_Ow_tallyAll_76, rfl, hP⟩⟩
abbrev M_Ow_hasOneOwnerEach : MW := (⟨"UseOnceMachine$Owners", "hasOneOwnerEach", "(I)Z"⟩, prog_4_method_5_code, 5, (some .boolean))
theorem hy_Ow_hasOneOwnerEach : M_Ow_hasOneOwnerEach.1.cls ≠ "java/lang/invoke/MethodHandle" ∧ M_Ow_hasOneOwnerEach.1.cls ≠ "java/lang/invoke/VarHandle" ∧ (parseMethodDescriptor M_Ow_hasOneOwnerEach.1.desc).map (fun d => d.parameters.length) = some 1 := by decide +kernel
theorem d_Ow_hasOneOwnerEach_0 : decode prog_4_method_5_code 0 = .ok (.iconst 1, 1) := by decide +kernel
theorem s_Ow_hasOneOwnerEach_0  (k : ev G M_Ow_hasOneOwnerEach R E 1 lv (.int 1 :: rest) h cells slots) : ev G M_Ow_hasOneOwnerEach R E 0 lv rest h cells slots := ev_iconst d_Ow_hasOneOwnerEach_0 (by decide) k
theorem d_Ow_hasOneOwnerEach_1 : decode prog_4_method_5_code 1 = .ok (.istore_n 2, 1) := by decide +kernel
theorem s_Ow_hasOneOwnerEach_1 {x : Int32} (k : ev G M_Ow_hasOneOwnerEach R E 2 (ls1 lv 2 (.int x)) rest h cells slots) : ev G M_Ow_hasOneOwnerEach R E 1 lv (.int x :: rest) h cells slots := ev_istore_n d_Ow_hasOneOwnerEach_1 rfl (by decide) k
theorem d_Ow_hasOneOwnerEach_2 : decode prog_4_method_5_code 2 = .ok (.iconst 0, 1) := by decide +kernel
theorem s_Ow_hasOneOwnerEach_2  (k : ev G M_Ow_hasOneOwnerEach R E 3 lv (.int 0 :: rest) h cells slots) : ev G M_Ow_hasOneOwnerEach R E 2 lv rest h cells slots := ev_iconst d_Ow_hasOneOwnerEach_2 (by decide) k
theorem d_Ow_hasOneOwnerEach_3 : decode prog_4_method_5_code 3 = .ok (.istore_n 3, 1) := by decide +kernel
theorem s_Ow_hasOneOwnerEach_3 {x : Int32} (k : ev G M_Ow_hasOneOwnerEach R E 4 (ls1 lv 3 (.int x)) rest h cells slots) : ev G M_Ow_hasOneOwnerEach R E 3 lv (.int x :: rest) h cells slots := ev_istore_n d_Ow_hasOneOwnerEach_3 rfl (by decide) k
theorem d_Ow_hasOneOwnerEach_4 : decode prog_4_method_5_code 4 = .ok (.iload_n 3, 1) := by decide +kernel
theorem s_Ow_hasOneOwnerEach_4 {x : Int32} (hl : lg lv 3 = some (.int x)) (k : ev G M_Ow_hasOneOwnerEach R E 5 lv (.int x :: rest) h cells slots) : ev G M_Ow_hasOneOwnerEach R E 4 lv rest h cells slots := ev_iload_n d_Ow_hasOneOwnerEach_4 rfl hl k
theorem d_Ow_hasOneOwnerEach_5 : decode prog_4_method_5_code 5 = .ok (.iconst 4, 1) := by decide +kernel
theorem s_Ow_hasOneOwnerEach_5  (k : ev G M_Ow_hasOneOwnerEach R E 6 lv (.int 4 :: rest) h cells slots) : ev G M_Ow_hasOneOwnerEach R E 5 lv rest h cells slots := ev_iconst d_Ow_hasOneOwnerEach_5 (by decide) k
theorem d_Ow_hasOneOwnerEach_6 : decode prog_4_method_5_code 6 = .ok (.if_icmp .ge 58, 3) := by decide +kernel
theorem s_Ow_hasOneOwnerEach_6 {x y : Int32} (kt : y ≤ x → ev G M_Ow_hasOneOwnerEach R E 64 lv rest h cells slots) (kf : ¬ y ≤ x → ev G M_Ow_hasOneOwnerEach R E 9 lv rest h cells slots) : ev G M_Ow_hasOneOwnerEach R E 6 lv (.int y :: .int x :: rest) h cells slots := ev_icmp_ge d_Ow_hasOneOwnerEach_6 (by decide) kt kf
theorem d_Ow_hasOneOwnerEach_9 : decode prog_4_method_5_code 9 = .ok (.iconst 1, 1) := by decide +kernel
theorem s_Ow_hasOneOwnerEach_9  (k : ev G M_Ow_hasOneOwnerEach R E 10 lv (.int 1 :: rest) h cells slots) : ev G M_Ow_hasOneOwnerEach R E 9 lv rest h cells slots := ev_iconst d_Ow_hasOneOwnerEach_9 (by decide) k
theorem d_Ow_hasOneOwnerEach_10 : decode prog_4_method_5_code 10 = .ok (.iload_n 3, 1) := by decide +kernel
theorem s_Ow_hasOneOwnerEach_10 {x : Int32} (hl : lg lv 3 = some (.int x)) (k : ev G M_Ow_hasOneOwnerEach R E 11 lv (.int x :: rest) h cells slots) : ev G M_Ow_hasOneOwnerEach R E 10 lv rest h cells slots := ev_iload_n d_Ow_hasOneOwnerEach_10 rfl hl k
theorem d_Ow_hasOneOwnerEach_11 : decode prog_4_method_5_code 11 = .ok (.ishl, 1) := by decide +kernel
theorem s_Ow_hasOneOwnerEach_11 {x y : Int32} (k : ev G M_Ow_hasOneOwnerEach R E 12 lv (.int (x <<< (y &&& 31)) :: rest) h cells slots) : ev G M_Ow_hasOneOwnerEach R E 11 lv (.int y :: .int x :: rest) h cells slots := ev_ishl d_Ow_hasOneOwnerEach_11 k
theorem d_Ow_hasOneOwnerEach_12 : decode prog_4_method_5_code 12 = .ok (.iconst 1, 1) := by decide +kernel
theorem s_Ow_hasOneOwnerEach_12  (k : ev G M_Ow_hasOneOwnerEach R E 13 lv (.int 1 :: rest) h cells slots) : ev G M_Ow_hasOneOwnerEach R E 12 lv rest h cells slots := ev_iconst d_Ow_hasOneOwnerEach_12 (by decide) k
theorem d_Ow_hasOneOwnerEach_13 : decode prog_4_method_5_code 13 = .ok (.if_icmp .ne 15, 3) := by decide +kernel
theorem s_Ow_hasOneOwnerEach_13 {x y : Int32} (kt : ¬ x = y → ev G M_Ow_hasOneOwnerEach R E 28 lv rest h cells slots) (kf : x = y → ev G M_Ow_hasOneOwnerEach R E 16 lv rest h cells slots) : ev G M_Ow_hasOneOwnerEach R E 13 lv (.int y :: .int x :: rest) h cells slots := ev_icmp_ne d_Ow_hasOneOwnerEach_13 (by decide) kt kf
theorem d_Ow_hasOneOwnerEach_16 : decode prog_4_method_5_code 16 = .ok (.aload_n 0, 1) := by decide +kernel
theorem s_Ow_hasOneOwnerEach_16 {x : Nat} (hl : lg lv 0 = some (.ref x)) (k : ev G M_Ow_hasOneOwnerEach R E 17 lv (.ref x :: rest) h cells slots) : ev G M_Ow_hasOneOwnerEach R E 16 lv rest h cells slots := ev_aload_n d_Ow_hasOneOwnerEach_16 rfl hl k
theorem d_Ow_hasOneOwnerEach_17 : decode prog_4_method_5_code 17 = .ok (.getfield 15, 3) := by decide +kernel
theorem s_Ow_hasOneOwnerEach_17 {a : Nat} {fs : List Value} {v : Value} (hh : h a = mO 2 fs) (hv : fs[2]? = some v) (k : ev G M_Ow_hasOneOwnerEach R E 20 lv (v :: rest) h cells slots) : ev G M_Ow_hasOneOwnerEach R E 17 lv (.ref a :: rest) h cells slots := ev_getfield (ci := 2) (kf := 2) d_Ow_hasOneOwnerEach_17 rfl ck2 (by decide) w_215 hh hv k
theorem d_Ow_hasOneOwnerEach_20 : decode prog_4_method_5_code 20 = .ok (.iload_n 1, 1) := by decide +kernel
theorem s_Ow_hasOneOwnerEach_20 {x : Int32} (hl : lg lv 1 = some (.int x)) (k : ev G M_Ow_hasOneOwnerEach R E 21 lv (.int x :: rest) h cells slots) : ev G M_Ow_hasOneOwnerEach R E 20 lv rest h cells slots := ev_iload_n d_Ow_hasOneOwnerEach_20 rfl hl k
theorem d_Ow_hasOneOwnerEach_21 : decode prog_4_method_5_code 21 = .ok (.iaload, 1) := by decide +kernel
theorem s_Ow_hasOneOwnerEach_21 {a n : Nat} {f : Nat → Int32} {i : Int32} (hh : h a = mI 0 n f) (hin : vp_in i n) (k : ev G M_Ow_hasOneOwnerEach R E 22 lv (.int (f i.toNatClampNeg) :: rest) h cells slots) : ev G M_Ow_hasOneOwnerEach R E 21 lv (.int i :: .ref a :: rest) h cells slots := ev_iaload d_Ow_hasOneOwnerEach_21 rfl hh hin k
theorem d_Ow_hasOneOwnerEach_22 : decode prog_4_method_5_code 22 = .ok (.invokestatic 67, 3) := by decide +kernel
theorem s_Ow_hasOneOwnerEach_22 {mc ms : Nat} {P : Option Value → HP → Prop} {a0 : Int32} (hm : mt G M_Ji_bitCount 0 mc ms [.int a0] h P) (hR : 0 + 1 ≤ R.frames ∧ 8 + (1 + 11) + 39 * 0 ≤ R.locals) (hcs : cells + mc ≤ R.cells ∧ slots + ms ≤ R.slots) (hrest : (rest.map fun v => v.category).sum ≤ 8) (k : ∀ (r : Option Value) (h' : HP), P r h' → ev G M_Ow_hasOneOwnerEach R E 25 lv (r.toList ++ rest) h' (cells + mc) (slots + ms)) : ev G M_Ow_hasOneOwnerEach R E 22 lv (.int a0 :: rest) h cells slots := ev_callS (as := [.int a0]) d_Ow_hasOneOwnerEach_22 hm w_691 w_692 w_75 w_693 hy_Ji_bitCount hR hcs hrest k
theorem d_Ow_hasOneOwnerEach_25 : decode prog_4_method_5_code 25 = .ok (.goto 4, 3) := by decide +kernel
theorem s_Ow_hasOneOwnerEach_25  (k : ev G M_Ow_hasOneOwnerEach R E 29 lv rest h cells slots) : ev G M_Ow_hasOneOwnerEach R E 25 lv rest h cells slots := ev_goto d_Ow_hasOneOwnerEach_25 (by decide) k
theorem d_Ow_hasOneOwnerEach_28 : decode prog_4_method_5_code 28 = .ok (.iconst 0, 1) := by decide +kernel
theorem s_Ow_hasOneOwnerEach_28  (k : ev G M_Ow_hasOneOwnerEach R E 29 lv (.int 0 :: rest) h cells slots) : ev G M_Ow_hasOneOwnerEach R E 28 lv rest h cells slots := ev_iconst d_Ow_hasOneOwnerEach_28 (by decide) k
theorem d_Ow_hasOneOwnerEach_29 : decode prog_4_method_5_code 29 = .ok (.istore 4, 2) := by decide +kernel
theorem s_Ow_hasOneOwnerEach_29 {x : Int32} (k : ev G M_Ow_hasOneOwnerEach R E 31 (ls1 lv 4 (.int x)) rest h cells slots) : ev G M_Ow_hasOneOwnerEach R E 29 lv (.int x :: rest) h cells slots := ev_istore d_Ow_hasOneOwnerEach_29 (by decide) k
theorem d_Ow_hasOneOwnerEach_31 : decode prog_4_method_5_code 31 = .ok (.iload_n 2, 1) := by decide +kernel
theorem s_Ow_hasOneOwnerEach_31 {x : Int32} (hl : lg lv 2 = some (.int x)) (k : ev G M_Ow_hasOneOwnerEach R E 32 lv (.int x :: rest) h cells slots) : ev G M_Ow_hasOneOwnerEach R E 31 lv rest h cells slots := ev_iload_n d_Ow_hasOneOwnerEach_31 rfl hl k
theorem d_Ow_hasOneOwnerEach_32 : decode prog_4_method_5_code 32 = .ok (.ifCond .eq 24, 3) := by decide +kernel
theorem s_Ow_hasOneOwnerEach_32 {x : Int32} (kt : x = 0 → ev G M_Ow_hasOneOwnerEach R E 56 lv rest h cells slots) (kf : ¬ x = 0 → ev G M_Ow_hasOneOwnerEach R E 35 lv rest h cells slots) : ev G M_Ow_hasOneOwnerEach R E 32 lv (.int x :: rest) h cells slots := ev_if_eq d_Ow_hasOneOwnerEach_32 (by decide) kt kf
theorem d_Ow_hasOneOwnerEach_35 : decode prog_4_method_5_code 35 = .ok (.aload_n 0, 1) := by decide +kernel
theorem s_Ow_hasOneOwnerEach_35 {x : Nat} (hl : lg lv 0 = some (.ref x)) (k : ev G M_Ow_hasOneOwnerEach R E 36 lv (.ref x :: rest) h cells slots) : ev G M_Ow_hasOneOwnerEach R E 35 lv rest h cells slots := ev_aload_n d_Ow_hasOneOwnerEach_35 rfl hl k
theorem d_Ow_hasOneOwnerEach_36 : decode prog_4_method_5_code 36 = .ok (.getfield 9, 3) := by decide +kernel
theorem s_Ow_hasOneOwnerEach_36 {a : Nat} {fs : List Value} {v : Value} (hh : h a = mO 2 fs) (hv : fs[1]? = some v) (k : ev G M_Ow_hasOneOwnerEach R E 39 lv (v :: rest) h cells slots) : ev G M_Ow_hasOneOwnerEach R E 36 lv (.ref a :: rest) h cells slots := ev_getfield (ci := 2) (kf := 1) d_Ow_hasOneOwnerEach_36 rfl ck2 (by decide) w_214 hh hv k
theorem d_Ow_hasOneOwnerEach_39 : decode prog_4_method_5_code 39 = .ok (.iload_n 1, 1) := by decide +kernel
theorem s_Ow_hasOneOwnerEach_39 {x : Int32} (hl : lg lv 1 = some (.int x)) (k : ev G M_Ow_hasOneOwnerEach R E 40 lv (.int x :: rest) h cells slots) : ev G M_Ow_hasOneOwnerEach R E 39 lv rest h cells slots := ev_iload_n d_Ow_hasOneOwnerEach_39 rfl hl k
theorem d_Ow_hasOneOwnerEach_40 : decode prog_4_method_5_code 40 = .ok (.iconst 4, 1) := by decide +kernel
theorem s_Ow_hasOneOwnerEach_40  (k : ev G M_Ow_hasOneOwnerEach R E 41 lv (.int 4 :: rest) h cells slots) : ev G M_Ow_hasOneOwnerEach R E 40 lv rest h cells slots := ev_iconst d_Ow_hasOneOwnerEach_40 (by decide) k
theorem d_Ow_hasOneOwnerEach_41 : decode prog_4_method_5_code 41 = .ok (.imul, 1) := by decide +kernel
theorem s_Ow_hasOneOwnerEach_41 {x y : Int32} (k : ev G M_Ow_hasOneOwnerEach R E 42 lv (.int (x * y) :: rest) h cells slots) : ev G M_Ow_hasOneOwnerEach R E 41 lv (.int y :: .int x :: rest) h cells slots := ev_imul d_Ow_hasOneOwnerEach_41 k
theorem d_Ow_hasOneOwnerEach_42 : decode prog_4_method_5_code 42 = .ok (.iload_n 3, 1) := by decide +kernel
theorem s_Ow_hasOneOwnerEach_42 {x : Int32} (hl : lg lv 3 = some (.int x)) (k : ev G M_Ow_hasOneOwnerEach R E 43 lv (.int x :: rest) h cells slots) : ev G M_Ow_hasOneOwnerEach R E 42 lv rest h cells slots := ev_iload_n d_Ow_hasOneOwnerEach_42 rfl hl k
theorem d_Ow_hasOneOwnerEach_43 : decode prog_4_method_5_code 43 = .ok (.iadd, 1) := by decide +kernel
theorem s_Ow_hasOneOwnerEach_43 {x y : Int32} (k : ev G M_Ow_hasOneOwnerEach R E 44 lv (.int (x + y) :: rest) h cells slots) : ev G M_Ow_hasOneOwnerEach R E 43 lv (.int y :: .int x :: rest) h cells slots := ev_iadd d_Ow_hasOneOwnerEach_43 k
theorem d_Ow_hasOneOwnerEach_44 : decode prog_4_method_5_code 44 = .ok (.iaload, 1) := by decide +kernel
theorem s_Ow_hasOneOwnerEach_44 {a n : Nat} {f : Nat → Int32} {i : Int32} (hh : h a = mI 0 n f) (hin : vp_in i n) (k : ev G M_Ow_hasOneOwnerEach R E 45 lv (.int (f i.toNatClampNeg) :: rest) h cells slots) : ev G M_Ow_hasOneOwnerEach R E 44 lv (.int i :: .ref a :: rest) h cells slots := ev_iaload d_Ow_hasOneOwnerEach_44 rfl hh hin k
theorem d_Ow_hasOneOwnerEach_45 : decode prog_4_method_5_code 45 = .ok (.iload 4, 2) := by decide +kernel
theorem s_Ow_hasOneOwnerEach_45 {x : Int32} (hl : lg lv 4 = some (.int x)) (k : ev G M_Ow_hasOneOwnerEach R E 47 lv (.int x :: rest) h cells slots) : ev G M_Ow_hasOneOwnerEach R E 45 lv rest h cells slots := ev_iload d_Ow_hasOneOwnerEach_45 hl k
theorem d_Ow_hasOneOwnerEach_47 : decode prog_4_method_5_code 47 = .ok (.iadd, 1) := by decide +kernel
theorem s_Ow_hasOneOwnerEach_47 {x y : Int32} (k : ev G M_Ow_hasOneOwnerEach R E 48 lv (.int (x + y) :: rest) h cells slots) : ev G M_Ow_hasOneOwnerEach R E 47 lv (.int y :: .int x :: rest) h cells slots := ev_iadd d_Ow_hasOneOwnerEach_47 k
theorem d_Ow_hasOneOwnerEach_48 : decode prog_4_method_5_code 48 = .ok (.iconst 1, 1) := by decide +kernel
theorem s_Ow_hasOneOwnerEach_48  (k : ev G M_Ow_hasOneOwnerEach R E 49 lv (.int 1 :: rest) h cells slots) : ev G M_Ow_hasOneOwnerEach R E 48 lv rest h cells slots := ev_iconst d_Ow_hasOneOwnerEach_48 (by decide) k
theorem d_Ow_hasOneOwnerEach_49 : decode prog_4_method_5_code 49 = .ok (.if_icmp .ne 7, 3) := by decide +kernel
theorem s_Ow_hasOneOwnerEach_49 {x y : Int32} (kt : ¬ x = y → ev G M_Ow_hasOneOwnerEach R E 56 lv rest h cells slots) (kf : x = y → ev G M_Ow_hasOneOwnerEach R E 52 lv rest h cells slots) : ev G M_Ow_hasOneOwnerEach R E 49 lv (.int y :: .int x :: rest) h cells slots := ev_icmp_ne d_Ow_hasOneOwnerEach_49 (by decide) kt kf
theorem d_Ow_hasOneOwnerEach_52 : decode prog_4_method_5_code 52 = .ok (.iconst 1, 1) := by decide +kernel
theorem s_Ow_hasOneOwnerEach_52  (k : ev G M_Ow_hasOneOwnerEach R E 53 lv (.int 1 :: rest) h cells slots) : ev G M_Ow_hasOneOwnerEach R E 52 lv rest h cells slots := ev_iconst d_Ow_hasOneOwnerEach_52 (by decide) k
theorem d_Ow_hasOneOwnerEach_53 : decode prog_4_method_5_code 53 = .ok (.goto 4, 3) := by decide +kernel
theorem s_Ow_hasOneOwnerEach_53  (k : ev G M_Ow_hasOneOwnerEach R E 57 lv rest h cells slots) : ev G M_Ow_hasOneOwnerEach R E 53 lv rest h cells slots := ev_goto d_Ow_hasOneOwnerEach_53 (by decide) k
theorem d_Ow_hasOneOwnerEach_56 : decode prog_4_method_5_code 56 = .ok (.iconst 0, 1) := by decide +kernel
theorem s_Ow_hasOneOwnerEach_56  (k : ev G M_Ow_hasOneOwnerEach R E 57 lv (.int 0 :: rest) h cells slots) : ev G M_Ow_hasOneOwnerEach R E 56 lv rest h cells slots := ev_iconst d_Ow_hasOneOwnerEach_56 (by decide) k
theorem d_Ow_hasOneOwnerEach_57 : decode prog_4_method_5_code 57 = .ok (.istore_n 2, 1) := by decide +kernel
theorem s_Ow_hasOneOwnerEach_57 {x : Int32} (k : ev G M_Ow_hasOneOwnerEach R E 58 (ls1 lv 2 (.int x)) rest h cells slots) : ev G M_Ow_hasOneOwnerEach R E 57 lv (.int x :: rest) h cells slots := ev_istore_n d_Ow_hasOneOwnerEach_57 rfl (by decide) k
theorem d_Ow_hasOneOwnerEach_58 : decode prog_4_method_5_code 58 = .ok (.iinc 3 1, 3) := by decide +kernel
theorem s_Ow_hasOneOwnerEach_58 {x : Int32} (hl : lg lv 3 = some (.int x)) (k : ev G M_Ow_hasOneOwnerEach R E 61 (ls1 lv 3 (.int (x + 1))) rest h cells slots) : ev G M_Ow_hasOneOwnerEach R E 58 lv rest h cells slots := ev_iinc d_Ow_hasOneOwnerEach_58 (by decide) hl (by decide) k
theorem d_Ow_hasOneOwnerEach_61 : decode prog_4_method_5_code 61 = .ok (.goto (-57), 3) := by decide +kernel
theorem s_Ow_hasOneOwnerEach_61  (k : ev G M_Ow_hasOneOwnerEach R E 4 lv rest h cells slots) : ev G M_Ow_hasOneOwnerEach R E 61 lv rest h cells slots := ev_goto d_Ow_hasOneOwnerEach_61 (by decide) k
theorem d_Ow_hasOneOwnerEach_64 : decode prog_4_method_5_code 64 = .ok (.iload_n 2, 1) := by decide +kernel
theorem s_Ow_hasOneOwnerEach_64 {x : Int32} (hl : lg lv 2 = some (.int x)) (k : ev G M_Ow_hasOneOwnerEach R E 65 lv (.int x :: rest) h cells slots) : ev G M_Ow_hasOneOwnerEach R E 64 lv rest h cells slots := ev_iload_n d_Ow_hasOneOwnerEach_64 rfl hl k
theorem d_Ow_hasOneOwnerEach_65 : decode prog_4_method_5_code 65 = .ok (.ireturn, 1) := by decide +kernel
theorem s_Ow_hasOneOwnerEach_65 {P : Option Value → HP → Prop} {mc ms : Nat} {v : Int32} (hz : v = 0 ∨ v = 1) (hP : P (some (.int v)) h) (hc : cells ≤ mc ∧ slots ≤ ms) : ev G M_Ow_hasOneOwnerEach R (Er M_Ow_hasOneOwnerEach P mc ms) 65 lv [.int v] h cells slots := ev_exit ⟨hc.1, hc.2, Or.inr (Or.inl ⟨v, .boolean, rfl, (nar_z hz), d_Ow_hasOneOwnerEach_65, rfl, hP⟩)⟩
abbrev M_Ow_firstWrong : MW := (⟨"UseOnceMachine$Owners", "firstWrong", "()I"⟩, prog_4_method_4_code, 2, (some .int))
theorem hy_Ow_firstWrong : M_Ow_firstWrong.1.cls ≠ "java/lang/invoke/MethodHandle" ∧ M_Ow_firstWrong.1.cls ≠ "java/lang/invoke/VarHandle" ∧ (parseMethodDescriptor M_Ow_firstWrong.1.desc).map (fun d => d.parameters.length) = some 0 := by decide +kernel
theorem d_Ow_firstWrong_0 : decode prog_4_method_4_code 0 = .ok (.aload_n 0, 1) := by decide +kernel
theorem s_Ow_firstWrong_0 {x : Nat} (hl : lg lv 0 = some (.ref x)) (k : ev G M_Ow_firstWrong R E 1 lv (.ref x :: rest) h cells slots) : ev G M_Ow_firstWrong R E 0 lv rest h cells slots := ev_aload_n d_Ow_firstWrong_0 rfl hl k
theorem d_Ow_firstWrong_1 : decode prog_4_method_4_code 1 = .ok (.invokevirtual 57, 3) := by decide +kernel
theorem s_Ow_firstWrong_1 {mc ms : Nat} {P : Option Value → HP → Prop}  {b : Nat} {fs : List Value} {v0 : Value} (hm : mt G M_Ow_tallyAll 2 mc ms (.ref b :: []) h P) (hb : h b = mO 2 fs) (hv0 : fs[0]? = some v0) (hR : 2 + 1 ≤ R.frames ∧ 8 + (4 + 11) + 39 * 2 ≤ R.locals) (hcs : cells + mc ≤ R.cells ∧ slots + ms ≤ R.slots) (hrest : (rest.map fun v => v.category).sum ≤ 8) (k : ∀ (r : Option Value) (h' : HP), P r h' → ev G M_Ow_firstWrong R E 4 lv (r.toList ++ rest) h' (cells + mc) (slots + ms)) : ev G M_Ow_firstWrong R E 1 lv (.ref b :: rest) h cells slots := ev_callV (as := []) (ci := 2) d_Ow_firstWrong_1 hm hb hv0 rfl w_671 w_673 w_29 w_68 w_674 hy_Ow_tallyAll hR hcs hrest k
theorem d_Ow_firstWrong_4 : decode prog_4_method_4_code 4 = .ok (.iconst 0, 1) := by decide +kernel
theorem s_Ow_firstWrong_4  (k : ev G M_Ow_firstWrong R E 5 lv (.int 0 :: rest) h cells slots) : ev G M_Ow_firstWrong R E 4 lv rest h cells slots := ev_iconst d_Ow_firstWrong_4 (by decide) k
theorem d_Ow_firstWrong_5 : decode prog_4_method_4_code 5 = .ok (.istore_n 1, 1) := by decide +kernel
theorem s_Ow_firstWrong_5 {x : Int32} (k : ev G M_Ow_firstWrong R E 6 (ls1 lv 1 (.int x)) rest h cells slots) : ev G M_Ow_firstWrong R E 5 lv (.int x :: rest) h cells slots := ev_istore_n d_Ow_firstWrong_5 rfl (by decide) k
theorem d_Ow_firstWrong_6 : decode prog_4_method_4_code 6 = .ok (.iload_n 1, 1) := by decide +kernel
theorem s_Ow_firstWrong_6 {x : Int32} (hl : lg lv 1 = some (.int x)) (k : ev G M_Ow_firstWrong R E 7 lv (.int x :: rest) h cells slots) : ev G M_Ow_firstWrong R E 6 lv rest h cells slots := ev_iload_n d_Ow_firstWrong_6 rfl hl k
theorem d_Ow_firstWrong_7 : decode prog_4_method_4_code 7 = .ok (.bipush 48, 2) := by decide +kernel
theorem s_Ow_firstWrong_7  (k : ev G M_Ow_firstWrong R E 9 lv (.int 48 :: rest) h cells slots) : ev G M_Ow_firstWrong R E 7 lv rest h cells slots := ev_bipush d_Ow_firstWrong_7 (by decide) k
theorem d_Ow_firstWrong_9 : decode prog_4_method_4_code 9 = .ok (.if_icmp .ge 21, 3) := by decide +kernel
theorem s_Ow_firstWrong_9 {x y : Int32} (kt : y ≤ x → ev G M_Ow_firstWrong R E 30 lv rest h cells slots) (kf : ¬ y ≤ x → ev G M_Ow_firstWrong R E 12 lv rest h cells slots) : ev G M_Ow_firstWrong R E 9 lv (.int y :: .int x :: rest) h cells slots := ev_icmp_ge d_Ow_firstWrong_9 (by decide) kt kf
theorem d_Ow_firstWrong_12 : decode prog_4_method_4_code 12 = .ok (.aload_n 0, 1) := by decide +kernel
theorem s_Ow_firstWrong_12 {x : Nat} (hl : lg lv 0 = some (.ref x)) (k : ev G M_Ow_firstWrong R E 13 lv (.ref x :: rest) h cells slots) : ev G M_Ow_firstWrong R E 12 lv rest h cells slots := ev_aload_n d_Ow_firstWrong_12 rfl hl k
theorem d_Ow_firstWrong_13 : decode prog_4_method_4_code 13 = .ok (.iload_n 1, 1) := by decide +kernel
theorem s_Ow_firstWrong_13 {x : Int32} (hl : lg lv 1 = some (.int x)) (k : ev G M_Ow_firstWrong R E 14 lv (.int x :: rest) h cells slots) : ev G M_Ow_firstWrong R E 13 lv rest h cells slots := ev_iload_n d_Ow_firstWrong_13 rfl hl k
theorem d_Ow_firstWrong_14 : decode prog_4_method_4_code 14 = .ok (.invokevirtual 60, 3) := by decide +kernel
theorem s_Ow_firstWrong_14 {mc ms : Nat} {P : Option Value → HP → Prop} {a0 : Int32} {b : Nat} {fs : List Value} {v0 : Value} (hm : mt G M_Ow_hasOneOwnerEach 1 mc ms (.ref b :: [.int a0]) h P) (hb : h b = mO 2 fs) (hv0 : fs[0]? = some v0) (hR : 1 + 1 ≤ R.frames ∧ 8 + (5 + 11) + 39 * 1 ≤ R.locals) (hcs : cells + mc ≤ R.cells ∧ slots + ms ≤ R.slots) (hrest : (rest.map fun v => v.category).sum ≤ 8) (k : ∀ (r : Option Value) (h' : HP), P r h' → ev G M_Ow_firstWrong R E 17 lv (r.toList ++ rest) h' (cells + mc) (slots + ms)) : ev G M_Ow_firstWrong R E 14 lv (.int a0 :: .ref b :: rest) h cells slots := ev_callV (as := [.int a0]) (ci := 2) d_Ow_firstWrong_14 hm hb hv0 rfl w_687 w_689 w_32 w_68 w_690 hy_Ow_hasOneOwnerEach hR hcs hrest k
theorem d_Ow_firstWrong_17 : decode prog_4_method_4_code 17 = .ok (.ifCond .ne 7, 3) := by decide +kernel
theorem s_Ow_firstWrong_17 {x : Int32} (kt : ¬ x = 0 → ev G M_Ow_firstWrong R E 24 lv rest h cells slots) (kf : x = 0 → ev G M_Ow_firstWrong R E 20 lv rest h cells slots) : ev G M_Ow_firstWrong R E 17 lv (.int x :: rest) h cells slots := ev_if_ne d_Ow_firstWrong_17 (by decide) kt kf
theorem d_Ow_firstWrong_20 : decode prog_4_method_4_code 20 = .ok (.iconst 1, 1) := by decide +kernel
theorem s_Ow_firstWrong_20  (k : ev G M_Ow_firstWrong R E 21 lv (.int 1 :: rest) h cells slots) : ev G M_Ow_firstWrong R E 20 lv rest h cells slots := ev_iconst d_Ow_firstWrong_20 (by decide) k
theorem d_Ow_firstWrong_21 : decode prog_4_method_4_code 21 = .ok (.iload_n 1, 1) := by decide +kernel
theorem s_Ow_firstWrong_21 {x : Int32} (hl : lg lv 1 = some (.int x)) (k : ev G M_Ow_firstWrong R E 22 lv (.int x :: rest) h cells slots) : ev G M_Ow_firstWrong R E 21 lv rest h cells slots := ev_iload_n d_Ow_firstWrong_21 rfl hl k
theorem d_Ow_firstWrong_22 : decode prog_4_method_4_code 22 = .ok (.iadd, 1) := by decide +kernel
theorem s_Ow_firstWrong_22 {x y : Int32} (k : ev G M_Ow_firstWrong R E 23 lv (.int (x + y) :: rest) h cells slots) : ev G M_Ow_firstWrong R E 22 lv (.int y :: .int x :: rest) h cells slots := ev_iadd d_Ow_firstWrong_22 k
theorem d_Ow_firstWrong_23 : decode prog_4_method_4_code 23 = .ok (.ireturn, 1) := by decide +kernel
theorem s_Ow_firstWrong_23 {P : Option Value → HP → Prop} {mc ms : Nat} {v : Int32} (hP : P (some (.int v)) h) (hc : cells ≤ mc ∧ slots ≤ ms) : ev G M_Ow_firstWrong R (Er M_Ow_firstWrong P mc ms) 23 lv [.int v] h cells slots := ev_exit ⟨hc.1, hc.2, Or.inr (Or.inl ⟨v, .int, rfl, rfl, d_Ow_firstWrong_23, rfl, hP⟩)⟩
theorem d_Ow_firstWrong_24 : decode prog_4_method_4_code 24 = .ok (.iinc 1 1, 3) := by decide +kernel
theorem s_Ow_firstWrong_24 {x : Int32} (hl : lg lv 1 = some (.int x)) (k : ev G M_Ow_firstWrong R E 27 (ls1 lv 1 (.int (x + 1))) rest h cells slots) : ev G M_Ow_firstWrong R E 24 lv rest h cells slots := ev_iinc d_Ow_firstWrong_24 (by decide) hl (by decide) k
theorem d_Ow_firstWrong_27 : decode prog_4_method_4_code 27 = .ok (.goto (-21), 3) := by decide +kernel
theorem s_Ow_firstWrong_27  (k : ev G M_Ow_firstWrong R E 6 lv rest h cells slots) : ev G M_Ow_firstWrong R E 27 lv rest h cells slots := ev_goto d_Ow_firstWrong_27 (by decide) k
theorem d_Ow_firstWrong_30 : decode prog_4_method_4_code 30 = .ok (.iconst 0, 1) := by decide +kernel
theorem s_Ow_firstWrong_30  (k : ev G M_Ow_firstWrong R E 31 lv (.int 0 :: rest) h cells slots) : ev G M_Ow_firstWrong R E 30 lv rest h cells slots := ev_iconst d_Ow_firstWrong_30 (by decide) k
theorem d_Ow_firstWrong_31 : decode prog_4_method_4_code 31 = .ok (.istore_n 1, 1) := by decide +kernel
theorem s_Ow_firstWrong_31 {x : Int32} (k : ev G M_Ow_firstWrong R E 32 (ls1 lv 1 (.int x)) rest h cells slots) : ev G M_Ow_firstWrong R E 31 lv (.int x :: rest) h cells slots := ev_istore_n d_Ow_firstWrong_31 rfl (by decide) k
theorem d_Ow_firstWrong_32 : decode prog_4_method_4_code 32 = .ok (.iload_n 1, 1) := by decide +kernel
theorem s_Ow_firstWrong_32 {x : Int32} (hl : lg lv 1 = some (.int x)) (k : ev G M_Ow_firstWrong R E 33 lv (.int x :: rest) h cells slots) : ev G M_Ow_firstWrong R E 32 lv rest h cells slots := ev_iload_n d_Ow_firstWrong_32 rfl hl k
theorem d_Ow_firstWrong_33 : decode prog_4_method_4_code 33 = .ok (.bipush 6, 2) := by decide +kernel
theorem s_Ow_firstWrong_33  (k : ev G M_Ow_firstWrong R E 35 lv (.int 6 :: rest) h cells slots) : ev G M_Ow_firstWrong R E 33 lv rest h cells slots := ev_bipush d_Ow_firstWrong_33 (by decide) k
theorem d_Ow_firstWrong_35 : decode prog_4_method_4_code 35 = .ok (.if_icmp .ge 31, 3) := by decide +kernel
theorem s_Ow_firstWrong_35 {x y : Int32} (kt : y ≤ x → ev G M_Ow_firstWrong R E 66 lv rest h cells slots) (kf : ¬ y ≤ x → ev G M_Ow_firstWrong R E 38 lv rest h cells slots) : ev G M_Ow_firstWrong R E 35 lv (.int y :: .int x :: rest) h cells slots := ev_icmp_ge d_Ow_firstWrong_35 (by decide) kt kf
theorem d_Ow_firstWrong_38 : decode prog_4_method_4_code 38 = .ok (.aload_n 0, 1) := by decide +kernel
theorem s_Ow_firstWrong_38 {x : Nat} (hl : lg lv 0 = some (.ref x)) (k : ev G M_Ow_firstWrong R E 39 lv (.ref x :: rest) h cells slots) : ev G M_Ow_firstWrong R E 38 lv rest h cells slots := ev_aload_n d_Ow_firstWrong_38 rfl hl k
theorem d_Ow_firstWrong_39 : decode prog_4_method_4_code 39 = .ok (.getfield 21, 3) := by decide +kernel
theorem s_Ow_firstWrong_39 {a : Nat} {fs : List Value} {v : Value} (hh : h a = mO 2 fs) (hv : fs[0]? = some v) (k : ev G M_Ow_firstWrong R E 42 lv (v :: rest) h cells slots) : ev G M_Ow_firstWrong R E 39 lv (.ref a :: rest) h cells slots := ev_getfield (ci := 2) (kf := 0) d_Ow_firstWrong_39 rfl ck2 (by decide) w_213 hh hv k
theorem d_Ow_firstWrong_42 : decode prog_4_method_4_code 42 = .ok (.iload_n 1, 1) := by decide +kernel
theorem s_Ow_firstWrong_42 {x : Int32} (hl : lg lv 1 = some (.int x)) (k : ev G M_Ow_firstWrong R E 43 lv (.int x :: rest) h cells slots) : ev G M_Ow_firstWrong R E 42 lv rest h cells slots := ev_iload_n d_Ow_firstWrong_42 rfl hl k
theorem d_Ow_firstWrong_43 : decode prog_4_method_4_code 43 = .ok (.invokevirtual 64, 3) := by decide +kernel
theorem s_Ow_firstWrong_43 {mc ms : Nat} {P : Option Value → HP → Prop} {a0 : Int32} {b : Nat} {fs : List Value} {v0 : Value} (hm : mt G M_St_countOf 0 mc ms (.ref b :: [.int a0]) h P) (hb : h b = mO 5 fs) (hv0 : fs[0]? = some v0) (hR : 0 + 1 ≤ R.frames ∧ 8 + (2 + 11) + 39 * 0 ≤ R.locals) (hcs : cells + mc ≤ R.cells ∧ slots + ms ≤ R.slots) (hrest : (rest.map fun v => v.category).sum ≤ 8) (k : ∀ (r : Option Value) (h' : HP), P r h' → ev G M_Ow_firstWrong R E 46 lv (r.toList ++ rest) h' (cells + mc) (slots + ms)) : ev G M_Ow_firstWrong R E 43 lv (.int a0 :: .ref b :: rest) h cells slots := ev_callV (as := [.int a0]) (ci := 5) d_Ow_firstWrong_43 hm hb hv0 rfl w_697 w_489 w_490 w_65 w_491 hy_St_countOf hR hcs hrest k
theorem d_Ow_firstWrong_46 : decode prog_4_method_4_code 46 = .ok (.aload_n 0, 1) := by decide +kernel
theorem s_Ow_firstWrong_46 {x : Nat} (hl : lg lv 0 = some (.ref x)) (k : ev G M_Ow_firstWrong R E 47 lv (.ref x :: rest) h cells slots) : ev G M_Ow_firstWrong R E 46 lv rest h cells slots := ev_aload_n d_Ow_firstWrong_46 rfl hl k
theorem d_Ow_firstWrong_47 : decode prog_4_method_4_code 47 = .ok (.getfield 18, 3) := by decide +kernel
theorem s_Ow_firstWrong_47 {a : Nat} {fs : List Value} {v : Value} (hh : h a = mO 2 fs) (hv : fs[3]? = some v) (k : ev G M_Ow_firstWrong R E 50 lv (v :: rest) h cells slots) : ev G M_Ow_firstWrong R E 47 lv (.ref a :: rest) h cells slots := ev_getfield (ci := 2) (kf := 3) d_Ow_firstWrong_47 rfl ck2 (by decide) w_216 hh hv k
theorem d_Ow_firstWrong_50 : decode prog_4_method_4_code 50 = .ok (.iload_n 1, 1) := by decide +kernel
theorem s_Ow_firstWrong_50 {x : Int32} (hl : lg lv 1 = some (.int x)) (k : ev G M_Ow_firstWrong R E 51 lv (.int x :: rest) h cells slots) : ev G M_Ow_firstWrong R E 50 lv rest h cells slots := ev_iload_n d_Ow_firstWrong_50 rfl hl k
theorem d_Ow_firstWrong_51 : decode prog_4_method_4_code 51 = .ok (.iaload, 1) := by decide +kernel
theorem s_Ow_firstWrong_51 {a n : Nat} {f : Nat → Int32} {i : Int32} (hh : h a = mI 0 n f) (hin : vp_in i n) (k : ev G M_Ow_firstWrong R E 52 lv (.int (f i.toNatClampNeg) :: rest) h cells slots) : ev G M_Ow_firstWrong R E 51 lv (.int i :: .ref a :: rest) h cells slots := ev_iaload d_Ow_firstWrong_51 rfl hh hin k
theorem d_Ow_firstWrong_52 : decode prog_4_method_4_code 52 = .ok (.if_icmp .eq 8, 3) := by decide +kernel
theorem s_Ow_firstWrong_52 {x y : Int32} (kt : x = y → ev G M_Ow_firstWrong R E 60 lv rest h cells slots) (kf : ¬ x = y → ev G M_Ow_firstWrong R E 55 lv rest h cells slots) : ev G M_Ow_firstWrong R E 52 lv (.int y :: .int x :: rest) h cells slots := ev_icmp_eq d_Ow_firstWrong_52 (by decide) kt kf
theorem d_Ow_firstWrong_55 : decode prog_4_method_4_code 55 = .ok (.bipush 100, 2) := by decide +kernel
theorem s_Ow_firstWrong_55  (k : ev G M_Ow_firstWrong R E 57 lv (.int 100 :: rest) h cells slots) : ev G M_Ow_firstWrong R E 55 lv rest h cells slots := ev_bipush d_Ow_firstWrong_55 (by decide) k
theorem d_Ow_firstWrong_57 : decode prog_4_method_4_code 57 = .ok (.iload_n 1, 1) := by decide +kernel
theorem s_Ow_firstWrong_57 {x : Int32} (hl : lg lv 1 = some (.int x)) (k : ev G M_Ow_firstWrong R E 58 lv (.int x :: rest) h cells slots) : ev G M_Ow_firstWrong R E 57 lv rest h cells slots := ev_iload_n d_Ow_firstWrong_57 rfl hl k
theorem d_Ow_firstWrong_58 : decode prog_4_method_4_code 58 = .ok (.iadd, 1) := by decide +kernel
theorem s_Ow_firstWrong_58 {x y : Int32} (k : ev G M_Ow_firstWrong R E 59 lv (.int (x + y) :: rest) h cells slots) : ev G M_Ow_firstWrong R E 58 lv (.int y :: .int x :: rest) h cells slots := ev_iadd d_Ow_firstWrong_58 k
theorem d_Ow_firstWrong_59 : decode prog_4_method_4_code 59 = .ok (.ireturn, 1) := by decide +kernel
theorem s_Ow_firstWrong_59 {P : Option Value → HP → Prop} {mc ms : Nat} {v : Int32} (hP : P (some (.int v)) h) (hc : cells ≤ mc ∧ slots ≤ ms) : ev G M_Ow_firstWrong R (Er M_Ow_firstWrong P mc ms) 59 lv [.int v] h cells slots := ev_exit ⟨hc.1, hc.2, Or.inr (Or.inl ⟨v, .int, rfl, rfl, d_Ow_firstWrong_59, rfl, hP⟩)⟩
theorem d_Ow_firstWrong_60 : decode prog_4_method_4_code 60 = .ok (.iinc 1 1, 3) := by decide +kernel
theorem s_Ow_firstWrong_60 {x : Int32} (hl : lg lv 1 = some (.int x)) (k : ev G M_Ow_firstWrong R E 63 (ls1 lv 1 (.int (x + 1))) rest h cells slots) : ev G M_Ow_firstWrong R E 60 lv rest h cells slots := ev_iinc d_Ow_firstWrong_60 (by decide) hl (by decide) k
theorem d_Ow_firstWrong_63 : decode prog_4_method_4_code 63 = .ok (.goto (-31), 3) := by decide +kernel
theorem s_Ow_firstWrong_63  (k : ev G M_Ow_firstWrong R E 32 lv rest h cells slots) : ev G M_Ow_firstWrong R E 63 lv rest h cells slots := ev_goto d_Ow_firstWrong_63 (by decide) k
theorem d_Ow_firstWrong_66 : decode prog_4_method_4_code 66 = .ok (.iconst 0, 1) := by decide +kernel
theorem s_Ow_firstWrong_66  (k : ev G M_Ow_firstWrong R E 67 lv (.int 0 :: rest) h cells slots) : ev G M_Ow_firstWrong R E 66 lv rest h cells slots := ev_iconst d_Ow_firstWrong_66 (by decide) k
theorem d_Ow_firstWrong_67 : decode prog_4_method_4_code 67 = .ok (.ireturn, 1) := by decide +kernel
theorem s_Ow_firstWrong_67 {P : Option Value → HP → Prop} {mc ms : Nat} {v : Int32} (hP : P (some (.int v)) h) (hc : cells ≤ mc ∧ slots ≤ ms) : ev G M_Ow_firstWrong R (Er M_Ow_firstWrong P mc ms) 67 lv [.int v] h cells slots := ev_exit ⟨hc.1, hc.2, Or.inr (Or.inl ⟨v, .int, rfl, rfl, d_Ow_firstWrong_67, rfl, hP⟩)⟩
abbrev M_Um_conserve : MW := (⟨"UseOnceMachine", "conserve", "()I"⟩, prog_1_method_14_code, 1, (some .int))
theorem hy_Um_conserve : M_Um_conserve.1.cls ≠ "java/lang/invoke/MethodHandle" ∧ M_Um_conserve.1.cls ≠ "java/lang/invoke/VarHandle" ∧ (parseMethodDescriptor M_Um_conserve.1.desc).map (fun d => d.parameters.length) = some 0 := by decide +kernel
theorem d_Um_conserve_0 : decode prog_1_method_14_code 0 = .ok (.aload_n 0, 1) := by decide +kernel
theorem s_Um_conserve_0 {x : Nat} (hl : lg lv 0 = some (.ref x)) (k : ev G M_Um_conserve R E 1 lv (.ref x :: rest) h cells slots) : ev G M_Um_conserve R E 0 lv rest h cells slots := ev_aload_n d_Um_conserve_0 rfl hl k
theorem d_Um_conserve_1 : decode prog_1_method_14_code 1 = .ok (.getfield 55, 3) := by decide +kernel
theorem s_Um_conserve_1 {a : Nat} {fs : List Value} {v : Value} (hh : h a = mO 6 fs) (hv : fs[6]? = some v) (k : ev G M_Um_conserve R E 4 lv (v :: rest) h cells slots) : ev G M_Um_conserve R E 1 lv (.ref a :: rest) h cells slots := ev_getfield (ci := 6) (kf := 6) d_Um_conserve_1 rfl ck6 (by decide) w_255 hh hv k
theorem d_Um_conserve_4 : decode prog_1_method_14_code 4 = .ok (.ifCond .eq 13, 3) := by decide +kernel
theorem s_Um_conserve_4 {x : Int32} (kt : x = 0 → ev G M_Um_conserve R E 17 lv rest h cells slots) (kf : ¬ x = 0 → ev G M_Um_conserve R E 7 lv rest h cells slots) : ev G M_Um_conserve R E 4 lv (.int x :: rest) h cells slots := ev_if_eq d_Um_conserve_4 (by decide) kt kf
theorem d_Um_conserve_7 : decode prog_1_method_14_code 7 = .ok (.aload_n 0, 1) := by decide +kernel
theorem s_Um_conserve_7 {x : Nat} (hl : lg lv 0 = some (.ref x)) (k : ev G M_Um_conserve R E 8 lv (.ref x :: rest) h cells slots) : ev G M_Um_conserve R E 7 lv rest h cells slots := ev_aload_n d_Um_conserve_7 rfl hl k
theorem d_Um_conserve_8 : decode prog_1_method_14_code 8 = .ok (.getfield 44, 3) := by decide +kernel
theorem s_Um_conserve_8 {a : Nat} {fs : List Value} {v : Value} (hh : h a = mO 6 fs) (hv : fs[4]? = some v) (k : ev G M_Um_conserve R E 11 lv (v :: rest) h cells slots) : ev G M_Um_conserve R E 8 lv (.ref a :: rest) h cells slots := ev_getfield (ci := 6) (kf := 4) d_Um_conserve_8 rfl ck6 (by decide) w_253 hh hv k
theorem d_Um_conserve_11 : decode prog_1_method_14_code 11 = .ok (.invokevirtual 140, 3) := by decide +kernel
theorem s_Um_conserve_11 {mc ms : Nat} {P : Option Value → HP → Prop}  {b : Nat} {fs : List Value} {v0 : Value} (hm : mt G M_Ow_firstWrong 3 mc ms (.ref b :: []) h P) (hb : h b = mO 2 fs) (hv0 : fs[0]? = some v0) (hR : 3 + 1 ≤ R.frames ∧ 8 + (2 + 11) + 39 * 3 ≤ R.locals) (hcs : cells + mc ≤ R.cells ∧ slots + ms ≤ R.slots) (hrest : (rest.map fun v => v.category).sum ≤ 8) (k : ∀ (r : Option Value) (h' : HP), P r h' → ev G M_Um_conserve R E 14 lv (r.toList ++ rest) h' (cells + mc) (slots + ms)) : ev G M_Um_conserve R E 11 lv (.ref b :: rest) h cells slots := ev_callV (as := []) (ci := 2) d_Um_conserve_11 hm hb hv0 rfl w_667 w_668 w_669 w_68 w_670 hy_Ow_firstWrong hR hcs hrest k
theorem d_Um_conserve_14 : decode prog_1_method_14_code 14 = .ok (.goto 4, 3) := by decide +kernel
theorem s_Um_conserve_14  (k : ev G M_Um_conserve R E 18 lv rest h cells slots) : ev G M_Um_conserve R E 14 lv rest h cells slots := ev_goto d_Um_conserve_14 (by decide) k
theorem d_Um_conserve_17 : decode prog_1_method_14_code 17 = .ok (.iconst 0, 1) := by decide +kernel
theorem s_Um_conserve_17  (k : ev G M_Um_conserve R E 18 lv (.int 0 :: rest) h cells slots) : ev G M_Um_conserve R E 17 lv rest h cells slots := ev_iconst d_Um_conserve_17 (by decide) k
theorem d_Um_conserve_18 : decode prog_1_method_14_code 18 = .ok (.ireturn, 1) := by decide +kernel
theorem s_Um_conserve_18 {P : Option Value → HP → Prop} {mc ms : Nat} {v : Int32} (hP : P (some (.int v)) h) (hc : cells ≤ mc ∧ slots ≤ ms) : ev G M_Um_conserve R (Er M_Um_conserve P mc ms) 18 lv [.int v] h cells slots := ev_exit ⟨hc.1, hc.2, Or.inr (Or.inl ⟨v, .int, rfl, rfl, d_Um_conserve_18, rfl, hP⟩)⟩
end SITES

/-! written by gen_sites.py: the decode rows, and one rule a place (method, pc) -/

theorem nar_z {x : Int32} (hz : x = 0 ∨ x = 1) : narrow .boolean (.int x) = .int x := by rcases hz with rfl | rfl <;> rfl
theorem fits_z {x : Int32} (hz : x = 0 ∨ x = 1) : fits .boolean (.int x) = true := by rcases hz with rfl | rfl <;> rfl
theorem okl_dec {fs : List Value} (h : fs.all (fun v => match v with | .ref _ => false | _ => true) = true) : ∀ ads : AD, okl ads fs := by
  intro ads v hv
  have := List.all_eq_true.mp h v hv
  cases v <;> first | trivial | simp at this

theorem ck0 : ckp "UseOnceMachine$Code" TT0 2 ft0 := by
  refine ⟨?_, by decide +kernel, by decide +kernel⟩
  intro w hw
  simp only [u_ws, u_lay, TT0, List.range, List.range.loop, List.map_cons, List.map_nil, List.mem_cons, List.not_mem_nil, or_false] at hw
  rcases hw with h | h <;> rw [h]
  · exact w_92
  · exact w_94
theorem ck1 : ckp "UseOnceMachine$History" TT1 3 ft1 := by
  refine ⟨?_, by decide +kernel, by decide +kernel⟩
  intro w hw
  simp only [u_ws, u_lay, TT1, List.range, List.range.loop, List.map_cons, List.map_nil, List.mem_cons, List.not_mem_nil, or_false] at hw
  rcases hw with h | h | h <;> rw [h]
  · exact w_175
  · exact w_177
  · exact w_179
theorem ck2 : ckp "UseOnceMachine$Owners" TT2 4 ft2 := by
  refine ⟨?_, by decide +kernel, by decide +kernel⟩
  intro w hw
  simp only [u_ws, u_lay, TT2, List.range, List.range.loop, List.map_cons, List.map_nil, List.mem_cons, List.not_mem_nil, or_false] at hw
  rcases hw with h | h | h | h <;> rw [h]
  · exact w_217
  · exact w_219
  · exact w_221
  · exact w_223
theorem ck3 : ckp "UseOnceMachine$Processor" TT3 6 ft3 := by
  refine ⟨?_, by decide +kernel, by decide +kernel⟩
  intro w hw
  simp only [u_ws, u_lay, TT3, List.range, List.range.loop, List.map_cons, List.map_nil, List.mem_cons, List.not_mem_nil, or_false] at hw
  rcases hw with h | h | h | h | h | h <;> rw [h]
  · exact w_194
  · exact w_196
  · exact w_198
  · exact w_200
  · exact w_202
  · exact w_204
theorem ck4 : ckp "UseOnceMachine$Reach" TT4 5 ft4 := by
  refine ⟨?_, by decide +kernel, by decide +kernel⟩
  intro w hw
  simp only [u_ws, u_lay, TT4, List.range, List.range.loop, List.map_cons, List.map_nil, List.mem_cons, List.not_mem_nil, or_false] at hw
  rcases hw with h | h | h | h | h <;> rw [h]
  · exact w_237
  · exact w_239
  · exact w_241
  · exact w_243
  · exact w_245
theorem ck5 : ckp "UseOnceMachine$State" TT5 15 ft5 := by
  refine ⟨?_, by decide +kernel, by decide +kernel⟩
  intro w hw
  simp only [u_ws, u_lay, TT5, List.range, List.range.loop, List.map_cons, List.map_nil, List.mem_cons, List.not_mem_nil, or_false] at hw
  rcases hw with h | h | h | h | h | h | h | h | h | h | h | h | h | h | h <;> rw [h]
  · exact w_132
  · exact w_134
  · exact w_136
  · exact w_138
  · exact w_140
  · exact w_142
  · exact w_144
  · exact w_146
  · exact w_148
  · exact w_150
  · exact w_152
  · exact w_154
  · exact w_156
  · exact w_158
  · exact w_160
theorem ck6 : ckp "UseOnceMachine" TT6 7 ft6 := by
  refine ⟨?_, by decide +kernel, by decide +kernel⟩
  intro w hw
  simp only [u_ws, u_lay, TT6, List.range, List.range.loop, List.map_cons, List.map_nil, List.mem_cons, List.not_mem_nil, or_false] at hw
  rcases hw with h | h | h | h | h | h | h <;> rw [h]
  · exact w_256
  · exact w_258
  · exact w_260
  · exact w_262
  · exact w_264
  · exact w_266
  · exact w_268
theorem ck7 : ckp "UseOnceMachineModel" TT7 20 ft7 := by
  refine ⟨?_, by decide +kernel, by decide +kernel⟩
  intro w hw
  simp only [u_ws, u_lay, TT7, List.range, List.range.loop, List.map_cons, List.map_nil, List.mem_cons, List.not_mem_nil, or_false] at hw
  rcases hw with h | h | h | h | h | h | h | h | h | h | h | h | h | h | h | h | h | h | h | h <;> rw [h]
  · exact w_724
  · exact w_726
  · exact w_728
  · exact w_730
  · exact w_732
  · exact w_734
  · exact w_736
  · exact w_738
  · exact w_740
  · exact w_742
  · exact w_744
  · exact w_746
  · exact w_748
  · exact w_750
  · exact w_752
  · exact w_754
  · exact w_756
  · exact w_758
  · exact w_760
  · exact w_762
section SITES
variable {G : GW} {R : Room} {E : Nat → LV → List Value → HP → Nat → Nat → Prop} {lv : LV} {rest : List Value} {h : HP} {cells slots : Nat}
abbrev M_Co_init : MW := (⟨"UseOnceMachine$Code", "<init>", "()V"⟩, prog_2_method_1_code, 1, none)
theorem hy_Co_init : M_Co_init.1.cls ≠ "java/lang/invoke/MethodHandle" ∧ M_Co_init.1.cls ≠ "java/lang/invoke/VarHandle" ∧ (parseMethodDescriptor M_Co_init.1.desc).map (fun d => d.parameters.length) = some 0 := by decide +kernel
theorem d_Co_init_0 : decode prog_2_method_1_code 0 = .ok (.aload_n 0, 1) := by decide +kernel
theorem s_Co_init_0 {x : Nat} (hl : lg lv 0 = some (.ref x)) (k : ev G M_Co_init R E 1 lv (.ref x :: rest) h cells slots) : ev G M_Co_init R E 0 lv rest h cells slots := ev_aload_n d_Co_init_0 rfl hl k
theorem d_Co_init_1 : decode prog_2_method_1_code 1 = .ok (.invokespecial 3, 3) := by decide +kernel
theorem s_Co_init_1 {b : Nat} (hfr : 1 ≤ R.frames) (hlo : (rest.map fun v => v.category).sum + 12 ≤ R.locals) (k : ev G M_Co_init R E 4 lv rest h cells slots) : ev G M_Co_init R E 1 lv (.ref b :: rest) h cells slots := ev_objInit d_Co_init_1 w_89 w_82 w_83 hfr hlo k
theorem d_Co_init_4 : decode prog_2_method_1_code 4 = .ok (.aload_n 0, 1) := by decide +kernel
theorem s_Co_init_4 {x : Nat} (hl : lg lv 0 = some (.ref x)) (k : ev G M_Co_init R E 5 lv (.ref x :: rest) h cells slots) : ev G M_Co_init R E 4 lv rest h cells slots := ev_aload_n d_Co_init_4 rfl hl k
theorem d_Co_init_5 : decode prog_2_method_1_code 5 = .ok (.sipush 288, 3) := by decide +kernel
theorem s_Co_init_5  (k : ev G M_Co_init R E 8 lv (.int 288 :: rest) h cells slots) : ev G M_Co_init R E 5 lv rest h cells slots := ev_sipush d_Co_init_5 (by decide) k
theorem d_Co_init_8 : decode prog_2_method_1_code 8 = .ok (.newarray .int, 2) := by decide +kernel
theorem s_Co_init_8 {kn : Nat} (hcl : cells + 1 ≤ R.cells) (hsl : slots + 288 ≤ R.slots) (hf : h kn = mF) (hk : kn < tB) (k : ev G M_Co_init R E 10 lv (.ref kn :: rest) (va_up h kn (mI 0 288 (fun _ => 0))) (cells + 1) (slots + 288)) : ev G M_Co_init R E 8 lv (.int 288 :: rest) h cells slots := ev_newarray (t := 0) (c0 := mI 0 288 (fun _ => 0)) (a0 := (288, .inl (fun _ => 0))) d_Co_init_8 rfl w_97 rfl (fun _ _ _ => rfl) (fun _ => rfl) (fun _ _ h => h) (fun _ => trivial) mI_ne (by decide) (by decide) (by decide) hcl hsl hf hk k
theorem d_Co_init_10 : decode prog_2_method_1_code 10 = .ok (.putfield 11, 3) := by decide +kernel
theorem s_Co_init_10 {x : Nat} {a : Nat} {fs : List Value} (hh : h a = mO 0 fs) (hlen : 0 < fs.length) (k : ev G M_Co_init R E 13 lv rest (va_up h a (mO 0 (fs.set 0 (.ref x)))) cells slots) : ev G M_Co_init R E 10 lv (.ref x :: .ref a :: rest) h cells slots := ev_putfinal (ci := 0) (kf := 0) d_Co_init_10 rfl ck0 (by decide) w_90 rfl rfl rfl hh hlen (fun _ _ => rfl) (fun _ _ => rfl) k
theorem d_Co_init_13 : decode prog_2_method_1_code 13 = .ok (.aload_n 0, 1) := by decide +kernel
theorem s_Co_init_13 {x : Nat} (hl : lg lv 0 = some (.ref x)) (k : ev G M_Co_init R E 14 lv (.ref x :: rest) h cells slots) : ev G M_Co_init R E 13 lv rest h cells slots := ev_aload_n d_Co_init_13 rfl hl k
theorem d_Co_init_14 : decode prog_2_method_1_code 14 = .ok (.iconst 3, 1) := by decide +kernel
theorem s_Co_init_14  (k : ev G M_Co_init R E 15 lv (.int 3 :: rest) h cells slots) : ev G M_Co_init R E 14 lv rest h cells slots := ev_iconst d_Co_init_14 (by decide) k
theorem d_Co_init_15 : decode prog_2_method_1_code 15 = .ok (.newarray .int, 2) := by decide +kernel
theorem s_Co_init_15 {kn : Nat} (hcl : cells + 1 ≤ R.cells) (hsl : slots + 3 ≤ R.slots) (hf : h kn = mF) (hk : kn < tB) (k : ev G M_Co_init R E 17 lv (.ref kn :: rest) (va_up h kn (mI 0 3 (fun _ => 0))) (cells + 1) (slots + 3)) : ev G M_Co_init R E 15 lv (.int 3 :: rest) h cells slots := ev_newarray (t := 0) (c0 := mI 0 3 (fun _ => 0)) (a0 := (3, .inl (fun _ => 0))) d_Co_init_15 rfl w_97 rfl (fun _ _ _ => rfl) (fun _ => rfl) (fun _ _ h => h) (fun _ => trivial) mI_ne (by decide) (by decide) (by decide) hcl hsl hf hk k
theorem d_Co_init_17 : decode prog_2_method_1_code 17 = .ok (.putfield 15, 3) := by decide +kernel
theorem s_Co_init_17 {x : Nat} {a : Nat} {fs : List Value} (hh : h a = mO 0 fs) (hlen : 1 < fs.length) (k : ev G M_Co_init R E 20 lv rest (va_up h a (mO 0 (fs.set 1 (.ref x)))) cells slots) : ev G M_Co_init R E 17 lv (.ref x :: .ref a :: rest) h cells slots := ev_putfinal (ci := 0) (kf := 1) d_Co_init_17 rfl ck0 (by decide) w_91 rfl rfl rfl hh hlen (fun _ _ => rfl) (fun _ _ => rfl) k
theorem d_Co_init_20 : decode prog_2_method_1_code 20 = .ok (.return_, 1) := by decide +kernel
theorem s_Co_init_20 {P : Option Value → HP → Prop} {mc ms : Nat} (hP : P none h) (hc : cells ≤ mc ∧ slots ≤ ms) : ev G M_Co_init R (Er M_Co_init P mc ms) 20 lv [] h cells slots := ev_exit ⟨hc.1, hc.2, Or.inl ⟨rfl, d_Co_init_20, rfl, hP⟩⟩
abbrev M_Co_append : MW := (⟨"UseOnceMachine$Code", "append", "(IIIII)I"⟩, prog_2_method_4_code, 8, (some .int))
theorem hy_Co_append : M_Co_append.1.cls ≠ "java/lang/invoke/MethodHandle" ∧ M_Co_append.1.cls ≠ "java/lang/invoke/VarHandle" ∧ (parseMethodDescriptor M_Co_append.1.desc).map (fun d => d.parameters.length) = some 5 := by decide +kernel
theorem d_Co_append_0 : decode prog_2_method_4_code 0 = .ok (.iload_n 1, 1) := by decide +kernel
theorem s_Co_append_0 {x : Int32} (hl : lg lv 1 = some (.int x)) (k : ev G M_Co_append R E 1 lv (.int x :: rest) h cells slots) : ev G M_Co_append R E 0 lv rest h cells slots := ev_iload_n d_Co_append_0 rfl hl k
theorem d_Co_append_1 : decode prog_2_method_4_code 1 = .ok (.ifCond .lt 19, 3) := by decide +kernel
theorem s_Co_append_1 {x : Int32} (kt : x < 0 → ev G M_Co_append R E 20 lv rest h cells slots) (kf : ¬ x < 0 → ev G M_Co_append R E 4 lv rest h cells slots) : ev G M_Co_append R E 1 lv (.int x :: rest) h cells slots := ev_if_lt d_Co_append_1 (by decide) kt kf
theorem d_Co_append_4 : decode prog_2_method_4_code 4 = .ok (.iload_n 1, 1) := by decide +kernel
theorem s_Co_append_4 {x : Int32} (hl : lg lv 1 = some (.int x)) (k : ev G M_Co_append R E 5 lv (.int x :: rest) h cells slots) : ev G M_Co_append R E 4 lv rest h cells slots := ev_iload_n d_Co_append_4 rfl hl k
theorem d_Co_append_5 : decode prog_2_method_4_code 5 = .ok (.iconst 3, 1) := by decide +kernel
theorem s_Co_append_5  (k : ev G M_Co_append R E 6 lv (.int 3 :: rest) h cells slots) : ev G M_Co_append R E 5 lv rest h cells slots := ev_iconst d_Co_append_5 (by decide) k
theorem d_Co_append_6 : decode prog_2_method_4_code 6 = .ok (.if_icmp .ge 14, 3) := by decide +kernel
theorem s_Co_append_6 {x y : Int32} (kt : y ≤ x → ev G M_Co_append R E 20 lv rest h cells slots) (kf : ¬ y ≤ x → ev G M_Co_append R E 9 lv rest h cells slots) : ev G M_Co_append R E 6 lv (.int y :: .int x :: rest) h cells slots := ev_icmp_ge d_Co_append_6 (by decide) kt kf
theorem d_Co_append_9 : decode prog_2_method_4_code 9 = .ok (.aload_n 0, 1) := by decide +kernel
theorem s_Co_append_9 {x : Nat} (hl : lg lv 0 = some (.ref x)) (k : ev G M_Co_append R E 10 lv (.ref x :: rest) h cells slots) : ev G M_Co_append R E 9 lv rest h cells slots := ev_aload_n d_Co_append_9 rfl hl k
theorem d_Co_append_10 : decode prog_2_method_4_code 10 = .ok (.getfield 15, 3) := by decide +kernel
theorem s_Co_append_10 {a : Nat} {fs : List Value} {v : Value} (hh : h a = mO 0 fs) (hv : fs[1]? = some v) (k : ev G M_Co_append R E 13 lv (v :: rest) h cells slots) : ev G M_Co_append R E 10 lv (.ref a :: rest) h cells slots := ev_getfield (ci := 0) (kf := 1) d_Co_append_10 rfl ck0 (by decide) w_91 hh hv k
theorem d_Co_append_13 : decode prog_2_method_4_code 13 = .ok (.iload_n 1, 1) := by decide +kernel
theorem s_Co_append_13 {x : Int32} (hl : lg lv 1 = some (.int x)) (k : ev G M_Co_append R E 14 lv (.int x :: rest) h cells slots) : ev G M_Co_append R E 13 lv rest h cells slots := ev_iload_n d_Co_append_13 rfl hl k
theorem d_Co_append_14 : decode prog_2_method_4_code 14 = .ok (.iaload, 1) := by decide +kernel
theorem s_Co_append_14 {a n : Nat} {f : Nat → Int32} {i : Int32} (hh : h a = mI 0 n f) (hin : vp_in i n) (k : ev G M_Co_append R E 15 lv (.int (f i.toNatClampNeg) :: rest) h cells slots) : ev G M_Co_append R E 14 lv (.int i :: .ref a :: rest) h cells slots := ev_iaload d_Co_append_14 rfl hh hin k
theorem d_Co_append_15 : decode prog_2_method_4_code 15 = .ok (.bipush 24, 2) := by decide +kernel
theorem s_Co_append_15  (k : ev G M_Co_append R E 17 lv (.int 24 :: rest) h cells slots) : ev G M_Co_append R E 15 lv rest h cells slots := ev_bipush d_Co_append_15 (by decide) k
theorem d_Co_append_17 : decode prog_2_method_4_code 17 = .ok (.if_icmp .lt 5, 3) := by decide +kernel
theorem s_Co_append_17 {x y : Int32} (kt : x < y → ev G M_Co_append R E 22 lv rest h cells slots) (kf : ¬ x < y → ev G M_Co_append R E 20 lv rest h cells slots) : ev G M_Co_append R E 17 lv (.int y :: .int x :: rest) h cells slots := ev_icmp_lt d_Co_append_17 (by decide) kt kf
theorem d_Co_append_20 : decode prog_2_method_4_code 20 = .ok (.iconst (-1), 1) := by decide +kernel
theorem s_Co_append_20  (k : ev G M_Co_append R E 21 lv (.int (-1) :: rest) h cells slots) : ev G M_Co_append R E 20 lv rest h cells slots := ev_iconst d_Co_append_20 (by decide) k
theorem d_Co_append_21 : decode prog_2_method_4_code 21 = .ok (.ireturn, 1) := by decide +kernel
theorem s_Co_append_21 {P : Option Value → HP → Prop} {mc ms : Nat} {v : Int32} (hP : P (some (.int v)) h) (hc : cells ≤ mc ∧ slots ≤ ms) : ev G M_Co_append R (Er M_Co_append P mc ms) 21 lv [.int v] h cells slots := ev_exit ⟨hc.1, hc.2, Or.inr (Or.inl ⟨v, .int, rfl, rfl, d_Co_append_21, rfl, hP⟩)⟩
theorem d_Co_append_22 : decode prog_2_method_4_code 22 = .ok (.aload_n 0, 1) := by decide +kernel
theorem s_Co_append_22 {x : Nat} (hl : lg lv 0 = some (.ref x)) (k : ev G M_Co_append R E 23 lv (.ref x :: rest) h cells slots) : ev G M_Co_append R E 22 lv rest h cells slots := ev_aload_n d_Co_append_22 rfl hl k
theorem d_Co_append_23 : decode prog_2_method_4_code 23 = .ok (.getfield 15, 3) := by decide +kernel
theorem s_Co_append_23 {a : Nat} {fs : List Value} {v : Value} (hh : h a = mO 0 fs) (hv : fs[1]? = some v) (k : ev G M_Co_append R E 26 lv (v :: rest) h cells slots) : ev G M_Co_append R E 23 lv (.ref a :: rest) h cells slots := ev_getfield (ci := 0) (kf := 1) d_Co_append_23 rfl ck0 (by decide) w_91 hh hv k
theorem d_Co_append_26 : decode prog_2_method_4_code 26 = .ok (.iload_n 1, 1) := by decide +kernel
theorem s_Co_append_26 {x : Int32} (hl : lg lv 1 = some (.int x)) (k : ev G M_Co_append R E 27 lv (.int x :: rest) h cells slots) : ev G M_Co_append R E 26 lv rest h cells slots := ev_iload_n d_Co_append_26 rfl hl k
theorem d_Co_append_27 : decode prog_2_method_4_code 27 = .ok (.iaload, 1) := by decide +kernel
theorem s_Co_append_27 {a n : Nat} {f : Nat → Int32} {i : Int32} (hh : h a = mI 0 n f) (hin : vp_in i n) (k : ev G M_Co_append R E 28 lv (.int (f i.toNatClampNeg) :: rest) h cells slots) : ev G M_Co_append R E 27 lv (.int i :: .ref a :: rest) h cells slots := ev_iaload d_Co_append_27 rfl hh hin k
theorem d_Co_append_28 : decode prog_2_method_4_code 28 = .ok (.istore 6, 2) := by decide +kernel
theorem s_Co_append_28 {x : Int32} (k : ev G M_Co_append R E 30 (ls1 lv 6 (.int x)) rest h cells slots) : ev G M_Co_append R E 28 lv (.int x :: rest) h cells slots := ev_istore d_Co_append_28 (by decide) k
theorem d_Co_append_30 : decode prog_2_method_4_code 30 = .ok (.iload_n 1, 1) := by decide +kernel
theorem s_Co_append_30 {x : Int32} (hl : lg lv 1 = some (.int x)) (k : ev G M_Co_append R E 31 lv (.int x :: rest) h cells slots) : ev G M_Co_append R E 30 lv rest h cells slots := ev_iload_n d_Co_append_30 rfl hl k
theorem d_Co_append_31 : decode prog_2_method_4_code 31 = .ok (.bipush 24, 2) := by decide +kernel
theorem s_Co_append_31  (k : ev G M_Co_append R E 33 lv (.int 24 :: rest) h cells slots) : ev G M_Co_append R E 31 lv rest h cells slots := ev_bipush d_Co_append_31 (by decide) k
theorem d_Co_append_33 : decode prog_2_method_4_code 33 = .ok (.imul, 1) := by decide +kernel
theorem s_Co_append_33 {x y : Int32} (k : ev G M_Co_append R E 34 lv (.int (x * y) :: rest) h cells slots) : ev G M_Co_append R E 33 lv (.int y :: .int x :: rest) h cells slots := ev_imul d_Co_append_33 k
theorem d_Co_append_34 : decode prog_2_method_4_code 34 = .ok (.iload 6, 2) := by decide +kernel
theorem s_Co_append_34 {x : Int32} (hl : lg lv 6 = some (.int x)) (k : ev G M_Co_append R E 36 lv (.int x :: rest) h cells slots) : ev G M_Co_append R E 34 lv rest h cells slots := ev_iload d_Co_append_34 hl k
theorem d_Co_append_36 : decode prog_2_method_4_code 36 = .ok (.iadd, 1) := by decide +kernel
theorem s_Co_append_36 {x y : Int32} (k : ev G M_Co_append R E 37 lv (.int (x + y) :: rest) h cells slots) : ev G M_Co_append R E 36 lv (.int y :: .int x :: rest) h cells slots := ev_iadd d_Co_append_36 k
theorem d_Co_append_37 : decode prog_2_method_4_code 37 = .ok (.iconst 4, 1) := by decide +kernel
theorem s_Co_append_37  (k : ev G M_Co_append R E 38 lv (.int 4 :: rest) h cells slots) : ev G M_Co_append R E 37 lv rest h cells slots := ev_iconst d_Co_append_37 (by decide) k
theorem d_Co_append_38 : decode prog_2_method_4_code 38 = .ok (.imul, 1) := by decide +kernel
theorem s_Co_append_38 {x y : Int32} (k : ev G M_Co_append R E 39 lv (.int (x * y) :: rest) h cells slots) : ev G M_Co_append R E 38 lv (.int y :: .int x :: rest) h cells slots := ev_imul d_Co_append_38 k
theorem d_Co_append_39 : decode prog_2_method_4_code 39 = .ok (.istore 7, 2) := by decide +kernel
theorem s_Co_append_39 {x : Int32} (k : ev G M_Co_append R E 41 (ls1 lv 7 (.int x)) rest h cells slots) : ev G M_Co_append R E 39 lv (.int x :: rest) h cells slots := ev_istore d_Co_append_39 (by decide) k
theorem d_Co_append_41 : decode prog_2_method_4_code 41 = .ok (.aload_n 0, 1) := by decide +kernel
theorem s_Co_append_41 {x : Nat} (hl : lg lv 0 = some (.ref x)) (k : ev G M_Co_append R E 42 lv (.ref x :: rest) h cells slots) : ev G M_Co_append R E 41 lv rest h cells slots := ev_aload_n d_Co_append_41 rfl hl k
theorem d_Co_append_42 : decode prog_2_method_4_code 42 = .ok (.getfield 11, 3) := by decide +kernel
theorem s_Co_append_42 {a : Nat} {fs : List Value} {v : Value} (hh : h a = mO 0 fs) (hv : fs[0]? = some v) (k : ev G M_Co_append R E 45 lv (v :: rest) h cells slots) : ev G M_Co_append R E 42 lv (.ref a :: rest) h cells slots := ev_getfield (ci := 0) (kf := 0) d_Co_append_42 rfl ck0 (by decide) w_90 hh hv k
theorem d_Co_append_45 : decode prog_2_method_4_code 45 = .ok (.iload 7, 2) := by decide +kernel
theorem s_Co_append_45 {x : Int32} (hl : lg lv 7 = some (.int x)) (k : ev G M_Co_append R E 47 lv (.int x :: rest) h cells slots) : ev G M_Co_append R E 45 lv rest h cells slots := ev_iload d_Co_append_45 hl k
theorem d_Co_append_47 : decode prog_2_method_4_code 47 = .ok (.iload_n 2, 1) := by decide +kernel
theorem s_Co_append_47 {x : Int32} (hl : lg lv 2 = some (.int x)) (k : ev G M_Co_append R E 48 lv (.int x :: rest) h cells slots) : ev G M_Co_append R E 47 lv rest h cells slots := ev_iload_n d_Co_append_47 rfl hl k
theorem d_Co_append_48 : decode prog_2_method_4_code 48 = .ok (.iastore, 1) := by decide +kernel
theorem s_Co_append_48 {a n : Nat} {f : Nat → Int32} {i : Int32} {x : Int32} (hh : h a = mI 0 n f) (hin : vp_in i n) (k : ev G M_Co_append R E 49 lv rest (va_up h a (mI 0 n (upd f i.toNatClampNeg x))) cells slots) : ev G M_Co_append R E 48 lv (.int x :: .int i :: .ref a :: rest) h cells slots := ev_iastore d_Co_append_48 rfl hh hin k
theorem d_Co_append_49 : decode prog_2_method_4_code 49 = .ok (.aload_n 0, 1) := by decide +kernel
theorem s_Co_append_49 {x : Nat} (hl : lg lv 0 = some (.ref x)) (k : ev G M_Co_append R E 50 lv (.ref x :: rest) h cells slots) : ev G M_Co_append R E 49 lv rest h cells slots := ev_aload_n d_Co_append_49 rfl hl k
theorem d_Co_append_50 : decode prog_2_method_4_code 50 = .ok (.getfield 11, 3) := by decide +kernel
theorem s_Co_append_50 {a : Nat} {fs : List Value} {v : Value} (hh : h a = mO 0 fs) (hv : fs[0]? = some v) (k : ev G M_Co_append R E 53 lv (v :: rest) h cells slots) : ev G M_Co_append R E 50 lv (.ref a :: rest) h cells slots := ev_getfield (ci := 0) (kf := 0) d_Co_append_50 rfl ck0 (by decide) w_90 hh hv k
theorem d_Co_append_53 : decode prog_2_method_4_code 53 = .ok (.iload 7, 2) := by decide +kernel
theorem s_Co_append_53 {x : Int32} (hl : lg lv 7 = some (.int x)) (k : ev G M_Co_append R E 55 lv (.int x :: rest) h cells slots) : ev G M_Co_append R E 53 lv rest h cells slots := ev_iload d_Co_append_53 hl k
theorem d_Co_append_55 : decode prog_2_method_4_code 55 = .ok (.iconst 1, 1) := by decide +kernel
theorem s_Co_append_55  (k : ev G M_Co_append R E 56 lv (.int 1 :: rest) h cells slots) : ev G M_Co_append R E 55 lv rest h cells slots := ev_iconst d_Co_append_55 (by decide) k
theorem d_Co_append_56 : decode prog_2_method_4_code 56 = .ok (.iadd, 1) := by decide +kernel
theorem s_Co_append_56 {x y : Int32} (k : ev G M_Co_append R E 57 lv (.int (x + y) :: rest) h cells slots) : ev G M_Co_append R E 56 lv (.int y :: .int x :: rest) h cells slots := ev_iadd d_Co_append_56 k
theorem d_Co_append_57 : decode prog_2_method_4_code 57 = .ok (.iload_n 3, 1) := by decide +kernel
theorem s_Co_append_57 {x : Int32} (hl : lg lv 3 = some (.int x)) (k : ev G M_Co_append R E 58 lv (.int x :: rest) h cells slots) : ev G M_Co_append R E 57 lv rest h cells slots := ev_iload_n d_Co_append_57 rfl hl k
theorem d_Co_append_58 : decode prog_2_method_4_code 58 = .ok (.iastore, 1) := by decide +kernel
theorem s_Co_append_58 {a n : Nat} {f : Nat → Int32} {i : Int32} {x : Int32} (hh : h a = mI 0 n f) (hin : vp_in i n) (k : ev G M_Co_append R E 59 lv rest (va_up h a (mI 0 n (upd f i.toNatClampNeg x))) cells slots) : ev G M_Co_append R E 58 lv (.int x :: .int i :: .ref a :: rest) h cells slots := ev_iastore d_Co_append_58 rfl hh hin k
theorem d_Co_append_59 : decode prog_2_method_4_code 59 = .ok (.aload_n 0, 1) := by decide +kernel
theorem s_Co_append_59 {x : Nat} (hl : lg lv 0 = some (.ref x)) (k : ev G M_Co_append R E 60 lv (.ref x :: rest) h cells slots) : ev G M_Co_append R E 59 lv rest h cells slots := ev_aload_n d_Co_append_59 rfl hl k
theorem d_Co_append_60 : decode prog_2_method_4_code 60 = .ok (.getfield 11, 3) := by decide +kernel
theorem s_Co_append_60 {a : Nat} {fs : List Value} {v : Value} (hh : h a = mO 0 fs) (hv : fs[0]? = some v) (k : ev G M_Co_append R E 63 lv (v :: rest) h cells slots) : ev G M_Co_append R E 60 lv (.ref a :: rest) h cells slots := ev_getfield (ci := 0) (kf := 0) d_Co_append_60 rfl ck0 (by decide) w_90 hh hv k
theorem d_Co_append_63 : decode prog_2_method_4_code 63 = .ok (.iload 7, 2) := by decide +kernel
theorem s_Co_append_63 {x : Int32} (hl : lg lv 7 = some (.int x)) (k : ev G M_Co_append R E 65 lv (.int x :: rest) h cells slots) : ev G M_Co_append R E 63 lv rest h cells slots := ev_iload d_Co_append_63 hl k
theorem d_Co_append_65 : decode prog_2_method_4_code 65 = .ok (.iconst 2, 1) := by decide +kernel
theorem s_Co_append_65  (k : ev G M_Co_append R E 66 lv (.int 2 :: rest) h cells slots) : ev G M_Co_append R E 65 lv rest h cells slots := ev_iconst d_Co_append_65 (by decide) k
theorem d_Co_append_66 : decode prog_2_method_4_code 66 = .ok (.iadd, 1) := by decide +kernel
theorem s_Co_append_66 {x y : Int32} (k : ev G M_Co_append R E 67 lv (.int (x + y) :: rest) h cells slots) : ev G M_Co_append R E 66 lv (.int y :: .int x :: rest) h cells slots := ev_iadd d_Co_append_66 k
theorem d_Co_append_67 : decode prog_2_method_4_code 67 = .ok (.iload 4, 2) := by decide +kernel
theorem s_Co_append_67 {x : Int32} (hl : lg lv 4 = some (.int x)) (k : ev G M_Co_append R E 69 lv (.int x :: rest) h cells slots) : ev G M_Co_append R E 67 lv rest h cells slots := ev_iload d_Co_append_67 hl k
theorem d_Co_append_69 : decode prog_2_method_4_code 69 = .ok (.iastore, 1) := by decide +kernel
theorem s_Co_append_69 {a n : Nat} {f : Nat → Int32} {i : Int32} {x : Int32} (hh : h a = mI 0 n f) (hin : vp_in i n) (k : ev G M_Co_append R E 70 lv rest (va_up h a (mI 0 n (upd f i.toNatClampNeg x))) cells slots) : ev G M_Co_append R E 69 lv (.int x :: .int i :: .ref a :: rest) h cells slots := ev_iastore d_Co_append_69 rfl hh hin k
theorem d_Co_append_70 : decode prog_2_method_4_code 70 = .ok (.aload_n 0, 1) := by decide +kernel
theorem s_Co_append_70 {x : Nat} (hl : lg lv 0 = some (.ref x)) (k : ev G M_Co_append R E 71 lv (.ref x :: rest) h cells slots) : ev G M_Co_append R E 70 lv rest h cells slots := ev_aload_n d_Co_append_70 rfl hl k
theorem d_Co_append_71 : decode prog_2_method_4_code 71 = .ok (.getfield 11, 3) := by decide +kernel
theorem s_Co_append_71 {a : Nat} {fs : List Value} {v : Value} (hh : h a = mO 0 fs) (hv : fs[0]? = some v) (k : ev G M_Co_append R E 74 lv (v :: rest) h cells slots) : ev G M_Co_append R E 71 lv (.ref a :: rest) h cells slots := ev_getfield (ci := 0) (kf := 0) d_Co_append_71 rfl ck0 (by decide) w_90 hh hv k
theorem d_Co_append_74 : decode prog_2_method_4_code 74 = .ok (.iload 7, 2) := by decide +kernel
theorem s_Co_append_74 {x : Int32} (hl : lg lv 7 = some (.int x)) (k : ev G M_Co_append R E 76 lv (.int x :: rest) h cells slots) : ev G M_Co_append R E 74 lv rest h cells slots := ev_iload d_Co_append_74 hl k
theorem d_Co_append_76 : decode prog_2_method_4_code 76 = .ok (.iconst 3, 1) := by decide +kernel
theorem s_Co_append_76  (k : ev G M_Co_append R E 77 lv (.int 3 :: rest) h cells slots) : ev G M_Co_append R E 76 lv rest h cells slots := ev_iconst d_Co_append_76 (by decide) k
theorem d_Co_append_77 : decode prog_2_method_4_code 77 = .ok (.iadd, 1) := by decide +kernel
theorem s_Co_append_77 {x y : Int32} (k : ev G M_Co_append R E 78 lv (.int (x + y) :: rest) h cells slots) : ev G M_Co_append R E 77 lv (.int y :: .int x :: rest) h cells slots := ev_iadd d_Co_append_77 k
theorem d_Co_append_78 : decode prog_2_method_4_code 78 = .ok (.iload 5, 2) := by decide +kernel
theorem s_Co_append_78 {x : Int32} (hl : lg lv 5 = some (.int x)) (k : ev G M_Co_append R E 80 lv (.int x :: rest) h cells slots) : ev G M_Co_append R E 78 lv rest h cells slots := ev_iload d_Co_append_78 hl k
theorem d_Co_append_80 : decode prog_2_method_4_code 80 = .ok (.iastore, 1) := by decide +kernel
theorem s_Co_append_80 {a n : Nat} {f : Nat → Int32} {i : Int32} {x : Int32} (hh : h a = mI 0 n f) (hin : vp_in i n) (k : ev G M_Co_append R E 81 lv rest (va_up h a (mI 0 n (upd f i.toNatClampNeg x))) cells slots) : ev G M_Co_append R E 80 lv (.int x :: .int i :: .ref a :: rest) h cells slots := ev_iastore d_Co_append_80 rfl hh hin k
theorem d_Co_append_81 : decode prog_2_method_4_code 81 = .ok (.aload_n 0, 1) := by decide +kernel
theorem s_Co_append_81 {x : Nat} (hl : lg lv 0 = some (.ref x)) (k : ev G M_Co_append R E 82 lv (.ref x :: rest) h cells slots) : ev G M_Co_append R E 81 lv rest h cells slots := ev_aload_n d_Co_append_81 rfl hl k
theorem d_Co_append_82 : decode prog_2_method_4_code 82 = .ok (.getfield 15, 3) := by decide +kernel
theorem s_Co_append_82 {a : Nat} {fs : List Value} {v : Value} (hh : h a = mO 0 fs) (hv : fs[1]? = some v) (k : ev G M_Co_append R E 85 lv (v :: rest) h cells slots) : ev G M_Co_append R E 82 lv (.ref a :: rest) h cells slots := ev_getfield (ci := 0) (kf := 1) d_Co_append_82 rfl ck0 (by decide) w_91 hh hv k
theorem d_Co_append_85 : decode prog_2_method_4_code 85 = .ok (.iload_n 1, 1) := by decide +kernel
theorem s_Co_append_85 {x : Int32} (hl : lg lv 1 = some (.int x)) (k : ev G M_Co_append R E 86 lv (.int x :: rest) h cells slots) : ev G M_Co_append R E 85 lv rest h cells slots := ev_iload_n d_Co_append_85 rfl hl k
theorem d_Co_append_86 : decode prog_2_method_4_code 86 = .ok (.iload 6, 2) := by decide +kernel
theorem s_Co_append_86 {x : Int32} (hl : lg lv 6 = some (.int x)) (k : ev G M_Co_append R E 88 lv (.int x :: rest) h cells slots) : ev G M_Co_append R E 86 lv rest h cells slots := ev_iload d_Co_append_86 hl k
theorem d_Co_append_88 : decode prog_2_method_4_code 88 = .ok (.iconst 1, 1) := by decide +kernel
theorem s_Co_append_88  (k : ev G M_Co_append R E 89 lv (.int 1 :: rest) h cells slots) : ev G M_Co_append R E 88 lv rest h cells slots := ev_iconst d_Co_append_88 (by decide) k
theorem d_Co_append_89 : decode prog_2_method_4_code 89 = .ok (.iadd, 1) := by decide +kernel
theorem s_Co_append_89 {x y : Int32} (k : ev G M_Co_append R E 90 lv (.int (x + y) :: rest) h cells slots) : ev G M_Co_append R E 89 lv (.int y :: .int x :: rest) h cells slots := ev_iadd d_Co_append_89 k
theorem d_Co_append_90 : decode prog_2_method_4_code 90 = .ok (.iastore, 1) := by decide +kernel
theorem s_Co_append_90 {a n : Nat} {f : Nat → Int32} {i : Int32} {x : Int32} (hh : h a = mI 0 n f) (hin : vp_in i n) (k : ev G M_Co_append R E 91 lv rest (va_up h a (mI 0 n (upd f i.toNatClampNeg x))) cells slots) : ev G M_Co_append R E 90 lv (.int x :: .int i :: .ref a :: rest) h cells slots := ev_iastore d_Co_append_90 rfl hh hin k
theorem d_Co_append_91 : decode prog_2_method_4_code 91 = .ok (.iload 6, 2) := by decide +kernel
theorem s_Co_append_91 {x : Int32} (hl : lg lv 6 = some (.int x)) (k : ev G M_Co_append R E 93 lv (.int x :: rest) h cells slots) : ev G M_Co_append R E 91 lv rest h cells slots := ev_iload d_Co_append_91 hl k
theorem d_Co_append_93 : decode prog_2_method_4_code 93 = .ok (.ireturn, 1) := by decide +kernel
theorem s_Co_append_93 {P : Option Value → HP → Prop} {mc ms : Nat} {v : Int32} (hP : P (some (.int v)) h) (hc : cells ≤ mc ∧ slots ≤ ms) : ev G M_Co_append R (Er M_Co_append P mc ms) 93 lv [.int v] h cells slots := ev_exit ⟨hc.1, hc.2, Or.inr (Or.inl ⟨v, .int, rfl, rfl, d_Co_append_93, rfl, hP⟩)⟩
abbrev M_Ja_fillJ : MW := (⟨"java/util/Arrays", "fill", "([JJ)V"⟩, prog_14_method_101_code, 5, none)
theorem hy_Ja_fillJ : M_Ja_fillJ.1.cls ≠ "java/lang/invoke/MethodHandle" ∧ M_Ja_fillJ.1.cls ≠ "java/lang/invoke/VarHandle" ∧ (parseMethodDescriptor M_Ja_fillJ.1.desc).map (fun d => d.parameters.length) = some 2 := by decide +kernel
theorem d_Ja_fillJ_0 : decode prog_14_method_101_code 0 = .ok (.iconst 0, 1) := by decide +kernel
theorem s_Ja_fillJ_0  (k : ev G M_Ja_fillJ R E 1 lv (.int 0 :: rest) h cells slots) : ev G M_Ja_fillJ R E 0 lv rest h cells slots := ev_iconst d_Ja_fillJ_0 (by decide) k
theorem d_Ja_fillJ_1 : decode prog_14_method_101_code 1 = .ok (.istore_n 3, 1) := by decide +kernel
theorem s_Ja_fillJ_1 {x : Int32} (k : ev G M_Ja_fillJ R E 2 (ls1 lv 3 (.int x)) rest h cells slots) : ev G M_Ja_fillJ R E 1 lv (.int x :: rest) h cells slots := ev_istore_n d_Ja_fillJ_1 rfl (by decide) k
theorem d_Ja_fillJ_2 : decode prog_14_method_101_code 2 = .ok (.aload_n 0, 1) := by decide +kernel
theorem s_Ja_fillJ_2 {x : Nat} (hl : lg lv 0 = some (.ref x)) (k : ev G M_Ja_fillJ R E 3 lv (.ref x :: rest) h cells slots) : ev G M_Ja_fillJ R E 2 lv rest h cells slots := ev_aload_n d_Ja_fillJ_2 rfl hl k
theorem d_Ja_fillJ_3 : decode prog_14_method_101_code 3 = .ok (.arraylength, 1) := by decide +kernel
theorem s_Ja_fillJ_3 {a n : Nat} {f : Nat → Int64} (hh : h a = mL 1 n f) (k : ev G M_Ja_fillJ R E 4 lv (.int (Int32.ofNat n) :: rest) h cells slots) : ev G M_Ja_fillJ R E 3 lv (.ref a :: rest) h cells slots := ev_llen d_Ja_fillJ_3 (t := 1) rfl hh rfl k
theorem d_Ja_fillJ_4 : decode prog_14_method_101_code 4 = .ok (.istore 4, 2) := by decide +kernel
theorem s_Ja_fillJ_4 {x : Int32} (k : ev G M_Ja_fillJ R E 6 (ls1 lv 4 (.int x)) rest h cells slots) : ev G M_Ja_fillJ R E 4 lv (.int x :: rest) h cells slots := ev_istore d_Ja_fillJ_4 (by decide) k
theorem d_Ja_fillJ_6 : decode prog_14_method_101_code 6 = .ok (.iload_n 3, 1) := by decide +kernel
theorem s_Ja_fillJ_6 {x : Int32} (hl : lg lv 3 = some (.int x)) (k : ev G M_Ja_fillJ R E 7 lv (.int x :: rest) h cells slots) : ev G M_Ja_fillJ R E 6 lv rest h cells slots := ev_iload_n d_Ja_fillJ_6 rfl hl k
theorem d_Ja_fillJ_7 : decode prog_14_method_101_code 7 = .ok (.iload 4, 2) := by decide +kernel
theorem s_Ja_fillJ_7 {x : Int32} (hl : lg lv 4 = some (.int x)) (k : ev G M_Ja_fillJ R E 9 lv (.int x :: rest) h cells slots) : ev G M_Ja_fillJ R E 7 lv rest h cells slots := ev_iload d_Ja_fillJ_7 hl k
theorem d_Ja_fillJ_9 : decode prog_14_method_101_code 9 = .ok (.if_icmp .ge 13, 3) := by decide +kernel
theorem s_Ja_fillJ_9 {x y : Int32} (kt : y ≤ x → ev G M_Ja_fillJ R E 22 lv rest h cells slots) (kf : ¬ y ≤ x → ev G M_Ja_fillJ R E 12 lv rest h cells slots) : ev G M_Ja_fillJ R E 9 lv (.int y :: .int x :: rest) h cells slots := ev_icmp_ge d_Ja_fillJ_9 (by decide) kt kf
theorem d_Ja_fillJ_12 : decode prog_14_method_101_code 12 = .ok (.aload_n 0, 1) := by decide +kernel
theorem s_Ja_fillJ_12 {x : Nat} (hl : lg lv 0 = some (.ref x)) (k : ev G M_Ja_fillJ R E 13 lv (.ref x :: rest) h cells slots) : ev G M_Ja_fillJ R E 12 lv rest h cells slots := ev_aload_n d_Ja_fillJ_12 rfl hl k
theorem d_Ja_fillJ_13 : decode prog_14_method_101_code 13 = .ok (.iload_n 3, 1) := by decide +kernel
theorem s_Ja_fillJ_13 {x : Int32} (hl : lg lv 3 = some (.int x)) (k : ev G M_Ja_fillJ R E 14 lv (.int x :: rest) h cells slots) : ev G M_Ja_fillJ R E 13 lv rest h cells slots := ev_iload_n d_Ja_fillJ_13 rfl hl k
theorem d_Ja_fillJ_14 : decode prog_14_method_101_code 14 = .ok (.lload_n 1, 1) := by decide +kernel
theorem s_Ja_fillJ_14 {x : Int64} (hl : lg lv 1 = some (.long x)) (k : ev G M_Ja_fillJ R E 15 lv (.long x :: rest) h cells slots) : ev G M_Ja_fillJ R E 14 lv rest h cells slots := ev_lload_n d_Ja_fillJ_14 rfl hl k
theorem d_Ja_fillJ_15 : decode prog_14_method_101_code 15 = .ok (.lastore, 1) := by decide +kernel
theorem s_Ja_fillJ_15 {a n : Nat} {f : Nat → Int64} {i : Int32} {x : Int64} (hh : h a = mL 1 n f) (hin : vp_in i n) (k : ev G M_Ja_fillJ R E 16 lv rest (va_up h a (mL 1 n (vp_updL f i.toNatClampNeg x))) cells slots) : ev G M_Ja_fillJ R E 15 lv (.long x :: .int i :: .ref a :: rest) h cells slots := ev_lastore d_Ja_fillJ_15 rfl hh hin k
theorem d_Ja_fillJ_16 : decode prog_14_method_101_code 16 = .ok (.iinc 3 1, 3) := by decide +kernel
theorem s_Ja_fillJ_16 {x : Int32} (hl : lg lv 3 = some (.int x)) (k : ev G M_Ja_fillJ R E 19 (ls1 lv 3 (.int (x + 1))) rest h cells slots) : ev G M_Ja_fillJ R E 16 lv rest h cells slots := ev_iinc d_Ja_fillJ_16 (by decide) hl (by decide) k
theorem d_Ja_fillJ_19 : decode prog_14_method_101_code 19 = .ok (.goto (-13), 3) := by decide +kernel
theorem s_Ja_fillJ_19  (k : ev G M_Ja_fillJ R E 6 lv rest h cells slots) : ev G M_Ja_fillJ R E 19 lv rest h cells slots := ev_goto d_Ja_fillJ_19 (by decide) k
theorem d_Ja_fillJ_22 : decode prog_14_method_101_code 22 = .ok (.return_, 1) := by decide +kernel
theorem s_Ja_fillJ_22 {P : Option Value → HP → Prop} {mc ms : Nat} (hP : P none h) (hc : cells ≤ mc ∧ slots ≤ ms) : ev G M_Ja_fillJ R (Er M_Ja_fillJ P mc ms) 22 lv [] h cells slots := ev_exit ⟨hc.1, hc.2, Or.inl ⟨rfl, d_Ja_fillJ_22, rfl, hP⟩⟩
abbrev M_Ja_fillI : MW := (⟨"java/util/Arrays", "fill", "([II)V"⟩, prog_14_method_103_code, 4, none)
theorem hy_Ja_fillI : M_Ja_fillI.1.cls ≠ "java/lang/invoke/MethodHandle" ∧ M_Ja_fillI.1.cls ≠ "java/lang/invoke/VarHandle" ∧ (parseMethodDescriptor M_Ja_fillI.1.desc).map (fun d => d.parameters.length) = some 2 := by decide +kernel
theorem d_Ja_fillI_0 : decode prog_14_method_103_code 0 = .ok (.iconst 0, 1) := by decide +kernel
theorem s_Ja_fillI_0  (k : ev G M_Ja_fillI R E 1 lv (.int 0 :: rest) h cells slots) : ev G M_Ja_fillI R E 0 lv rest h cells slots := ev_iconst d_Ja_fillI_0 (by decide) k
theorem d_Ja_fillI_1 : decode prog_14_method_103_code 1 = .ok (.istore_n 2, 1) := by decide +kernel
theorem s_Ja_fillI_1 {x : Int32} (k : ev G M_Ja_fillI R E 2 (ls1 lv 2 (.int x)) rest h cells slots) : ev G M_Ja_fillI R E 1 lv (.int x :: rest) h cells slots := ev_istore_n d_Ja_fillI_1 rfl (by decide) k
theorem d_Ja_fillI_2 : decode prog_14_method_103_code 2 = .ok (.aload_n 0, 1) := by decide +kernel
theorem s_Ja_fillI_2 {x : Nat} (hl : lg lv 0 = some (.ref x)) (k : ev G M_Ja_fillI R E 3 lv (.ref x :: rest) h cells slots) : ev G M_Ja_fillI R E 2 lv rest h cells slots := ev_aload_n d_Ja_fillI_2 rfl hl k
theorem d_Ja_fillI_3 : decode prog_14_method_103_code 3 = .ok (.arraylength, 1) := by decide +kernel
theorem s_Ja_fillI_3 {a n : Nat} {f : Nat → Int32} (hh : h a = mI 0 n f) (k : ev G M_Ja_fillI R E 4 lv (.int (Int32.ofNat n) :: rest) h cells slots) : ev G M_Ja_fillI R E 3 lv (.ref a :: rest) h cells slots := ev_ilen d_Ja_fillI_3 (t := 0) rfl hh rfl k
theorem d_Ja_fillI_4 : decode prog_14_method_103_code 4 = .ok (.istore_n 3, 1) := by decide +kernel
theorem s_Ja_fillI_4 {x : Int32} (k : ev G M_Ja_fillI R E 5 (ls1 lv 3 (.int x)) rest h cells slots) : ev G M_Ja_fillI R E 4 lv (.int x :: rest) h cells slots := ev_istore_n d_Ja_fillI_4 rfl (by decide) k
theorem d_Ja_fillI_5 : decode prog_14_method_103_code 5 = .ok (.iload_n 2, 1) := by decide +kernel
theorem s_Ja_fillI_5 {x : Int32} (hl : lg lv 2 = some (.int x)) (k : ev G M_Ja_fillI R E 6 lv (.int x :: rest) h cells slots) : ev G M_Ja_fillI R E 5 lv rest h cells slots := ev_iload_n d_Ja_fillI_5 rfl hl k
theorem d_Ja_fillI_6 : decode prog_14_method_103_code 6 = .ok (.iload_n 3, 1) := by decide +kernel
theorem s_Ja_fillI_6 {x : Int32} (hl : lg lv 3 = some (.int x)) (k : ev G M_Ja_fillI R E 7 lv (.int x :: rest) h cells slots) : ev G M_Ja_fillI R E 6 lv rest h cells slots := ev_iload_n d_Ja_fillI_6 rfl hl k
theorem d_Ja_fillI_7 : decode prog_14_method_103_code 7 = .ok (.if_icmp .ge 13, 3) := by decide +kernel
theorem s_Ja_fillI_7 {x y : Int32} (kt : y ≤ x → ev G M_Ja_fillI R E 20 lv rest h cells slots) (kf : ¬ y ≤ x → ev G M_Ja_fillI R E 10 lv rest h cells slots) : ev G M_Ja_fillI R E 7 lv (.int y :: .int x :: rest) h cells slots := ev_icmp_ge d_Ja_fillI_7 (by decide) kt kf
theorem d_Ja_fillI_10 : decode prog_14_method_103_code 10 = .ok (.aload_n 0, 1) := by decide +kernel
theorem s_Ja_fillI_10 {x : Nat} (hl : lg lv 0 = some (.ref x)) (k : ev G M_Ja_fillI R E 11 lv (.ref x :: rest) h cells slots) : ev G M_Ja_fillI R E 10 lv rest h cells slots := ev_aload_n d_Ja_fillI_10 rfl hl k
theorem d_Ja_fillI_11 : decode prog_14_method_103_code 11 = .ok (.iload_n 2, 1) := by decide +kernel
theorem s_Ja_fillI_11 {x : Int32} (hl : lg lv 2 = some (.int x)) (k : ev G M_Ja_fillI R E 12 lv (.int x :: rest) h cells slots) : ev G M_Ja_fillI R E 11 lv rest h cells slots := ev_iload_n d_Ja_fillI_11 rfl hl k
theorem d_Ja_fillI_12 : decode prog_14_method_103_code 12 = .ok (.iload_n 1, 1) := by decide +kernel
theorem s_Ja_fillI_12 {x : Int32} (hl : lg lv 1 = some (.int x)) (k : ev G M_Ja_fillI R E 13 lv (.int x :: rest) h cells slots) : ev G M_Ja_fillI R E 12 lv rest h cells slots := ev_iload_n d_Ja_fillI_12 rfl hl k
theorem d_Ja_fillI_13 : decode prog_14_method_103_code 13 = .ok (.iastore, 1) := by decide +kernel
theorem s_Ja_fillI_13 {a n : Nat} {f : Nat → Int32} {i : Int32} {x : Int32} (hh : h a = mI 0 n f) (hin : vp_in i n) (k : ev G M_Ja_fillI R E 14 lv rest (va_up h a (mI 0 n (upd f i.toNatClampNeg x))) cells slots) : ev G M_Ja_fillI R E 13 lv (.int x :: .int i :: .ref a :: rest) h cells slots := ev_iastore d_Ja_fillI_13 rfl hh hin k
theorem d_Ja_fillI_14 : decode prog_14_method_103_code 14 = .ok (.iinc 2 1, 3) := by decide +kernel
theorem s_Ja_fillI_14 {x : Int32} (hl : lg lv 2 = some (.int x)) (k : ev G M_Ja_fillI R E 17 (ls1 lv 2 (.int (x + 1))) rest h cells slots) : ev G M_Ja_fillI R E 14 lv rest h cells slots := ev_iinc d_Ja_fillI_14 (by decide) hl (by decide) k
theorem d_Ja_fillI_17 : decode prog_14_method_103_code 17 = .ok (.goto (-12), 3) := by decide +kernel
theorem s_Ja_fillI_17  (k : ev G M_Ja_fillI R E 5 lv rest h cells slots) : ev G M_Ja_fillI R E 17 lv rest h cells slots := ev_goto d_Ja_fillI_17 (by decide) k
theorem d_Ja_fillI_20 : decode prog_14_method_103_code 20 = .ok (.return_, 1) := by decide +kernel
theorem s_Ja_fillI_20 {P : Option Value → HP → Prop} {mc ms : Nat} (hP : P none h) (hc : cells ≤ mc ∧ slots ≤ ms) : ev G M_Ja_fillI R (Er M_Ja_fillI P mc ms) 20 lv [] h cells slots := ev_exit ⟨hc.1, hc.2, Or.inl ⟨rfl, d_Ja_fillI_20, rfl, hP⟩⟩
abbrev M_Va_pack : MW := (⟨"UseOnceMachine$Value", "pack", "(IIIII)J"⟩, prog_8_method_6_code, 5, (some .long))
theorem hy_Va_pack : M_Va_pack.1.cls ≠ "java/lang/invoke/MethodHandle" ∧ M_Va_pack.1.cls ≠ "java/lang/invoke/VarHandle" ∧ (parseMethodDescriptor M_Va_pack.1.desc).map (fun d => d.parameters.length) = some 5 := by decide +kernel
theorem d_Va_pack_0 : decode prog_8_method_6_code 0 = .ok (.iload_n 0, 1) := by decide +kernel
theorem s_Va_pack_0 {x : Int32} (hl : lg lv 0 = some (.int x)) (k : ev G M_Va_pack R E 1 lv (.int x :: rest) h cells slots) : ev G M_Va_pack R E 0 lv rest h cells slots := ev_iload_n d_Va_pack_0 rfl hl k
theorem d_Va_pack_1 : decode prog_8_method_6_code 1 = .ok (.i2l, 1) := by decide +kernel
theorem s_Va_pack_1 {x : Int32} (k : ev G M_Va_pack R E 2 lv (.long x.toInt64 :: rest) h cells slots) : ev G M_Va_pack R E 1 lv (.int x :: rest) h cells slots := ev_i2l d_Va_pack_1 k
theorem d_Va_pack_2 : decode prog_8_method_6_code 2 = .ok (.bipush 32, 2) := by decide +kernel
theorem s_Va_pack_2  (k : ev G M_Va_pack R E 4 lv (.int 32 :: rest) h cells slots) : ev G M_Va_pack R E 2 lv rest h cells slots := ev_bipush d_Va_pack_2 (by decide) k
theorem d_Va_pack_4 : decode prog_8_method_6_code 4 = .ok (.lshl, 1) := by decide +kernel
theorem s_Va_pack_4 {x : Int64} {y : Int32} (k : ev G M_Va_pack R E 5 lv (.long (x <<< (y.toInt64 &&& 63)) :: rest) h cells slots) : ev G M_Va_pack R E 4 lv (.int y :: .long x :: rest) h cells slots := ev_lshl d_Va_pack_4 k
theorem d_Va_pack_5 : decode prog_8_method_6_code 5 = .ok (.iload 4, 2) := by decide +kernel
theorem s_Va_pack_5 {x : Int32} (hl : lg lv 4 = some (.int x)) (k : ev G M_Va_pack R E 7 lv (.int x :: rest) h cells slots) : ev G M_Va_pack R E 5 lv rest h cells slots := ev_iload d_Va_pack_5 hl k
theorem d_Va_pack_7 : decode prog_8_method_6_code 7 = .ok (.i2l, 1) := by decide +kernel
theorem s_Va_pack_7 {x : Int32} (k : ev G M_Va_pack R E 8 lv (.long x.toInt64 :: rest) h cells slots) : ev G M_Va_pack R E 7 lv (.int x :: rest) h cells slots := ev_i2l d_Va_pack_7 k
theorem d_Va_pack_8 : decode prog_8_method_6_code 8 = .ok (.bipush 24, 2) := by decide +kernel
theorem s_Va_pack_8  (k : ev G M_Va_pack R E 10 lv (.int 24 :: rest) h cells slots) : ev G M_Va_pack R E 8 lv rest h cells slots := ev_bipush d_Va_pack_8 (by decide) k
theorem d_Va_pack_10 : decode prog_8_method_6_code 10 = .ok (.lshl, 1) := by decide +kernel
theorem s_Va_pack_10 {x : Int64} {y : Int32} (k : ev G M_Va_pack R E 11 lv (.long (x <<< (y.toInt64 &&& 63)) :: rest) h cells slots) : ev G M_Va_pack R E 10 lv (.int y :: .long x :: rest) h cells slots := ev_lshl d_Va_pack_10 k
theorem d_Va_pack_11 : decode prog_8_method_6_code 11 = .ok (.lor, 1) := by decide +kernel
theorem s_Va_pack_11 {x y : Int64} (k : ev G M_Va_pack R E 12 lv (.long (x ||| y) :: rest) h cells slots) : ev G M_Va_pack R E 11 lv (.long y :: .long x :: rest) h cells slots := ev_lor d_Va_pack_11 k
theorem d_Va_pack_12 : decode prog_8_method_6_code 12 = .ok (.iload_n 3, 1) := by decide +kernel
theorem s_Va_pack_12 {x : Int32} (hl : lg lv 3 = some (.int x)) (k : ev G M_Va_pack R E 13 lv (.int x :: rest) h cells slots) : ev G M_Va_pack R E 12 lv rest h cells slots := ev_iload_n d_Va_pack_12 rfl hl k
theorem d_Va_pack_13 : decode prog_8_method_6_code 13 = .ok (.i2l, 1) := by decide +kernel
theorem s_Va_pack_13 {x : Int32} (k : ev G M_Va_pack R E 14 lv (.long x.toInt64 :: rest) h cells slots) : ev G M_Va_pack R E 13 lv (.int x :: rest) h cells slots := ev_i2l d_Va_pack_13 k
theorem d_Va_pack_14 : decode prog_8_method_6_code 14 = .ok (.bipush 16, 2) := by decide +kernel
theorem s_Va_pack_14  (k : ev G M_Va_pack R E 16 lv (.int 16 :: rest) h cells slots) : ev G M_Va_pack R E 14 lv rest h cells slots := ev_bipush d_Va_pack_14 (by decide) k
theorem d_Va_pack_16 : decode prog_8_method_6_code 16 = .ok (.lshl, 1) := by decide +kernel
theorem s_Va_pack_16 {x : Int64} {y : Int32} (k : ev G M_Va_pack R E 17 lv (.long (x <<< (y.toInt64 &&& 63)) :: rest) h cells slots) : ev G M_Va_pack R E 16 lv (.int y :: .long x :: rest) h cells slots := ev_lshl d_Va_pack_16 k
theorem d_Va_pack_17 : decode prog_8_method_6_code 17 = .ok (.lor, 1) := by decide +kernel
theorem s_Va_pack_17 {x y : Int64} (k : ev G M_Va_pack R E 18 lv (.long (x ||| y) :: rest) h cells slots) : ev G M_Va_pack R E 17 lv (.long y :: .long x :: rest) h cells slots := ev_lor d_Va_pack_17 k
theorem d_Va_pack_18 : decode prog_8_method_6_code 18 = .ok (.iload_n 2, 1) := by decide +kernel
theorem s_Va_pack_18 {x : Int32} (hl : lg lv 2 = some (.int x)) (k : ev G M_Va_pack R E 19 lv (.int x :: rest) h cells slots) : ev G M_Va_pack R E 18 lv rest h cells slots := ev_iload_n d_Va_pack_18 rfl hl k
theorem d_Va_pack_19 : decode prog_8_method_6_code 19 = .ok (.i2l, 1) := by decide +kernel
theorem s_Va_pack_19 {x : Int32} (k : ev G M_Va_pack R E 20 lv (.long x.toInt64 :: rest) h cells slots) : ev G M_Va_pack R E 19 lv (.int x :: rest) h cells slots := ev_i2l d_Va_pack_19 k
theorem d_Va_pack_20 : decode prog_8_method_6_code 20 = .ok (.bipush 8, 2) := by decide +kernel
theorem s_Va_pack_20  (k : ev G M_Va_pack R E 22 lv (.int 8 :: rest) h cells slots) : ev G M_Va_pack R E 20 lv rest h cells slots := ev_bipush d_Va_pack_20 (by decide) k
theorem d_Va_pack_22 : decode prog_8_method_6_code 22 = .ok (.lshl, 1) := by decide +kernel
theorem s_Va_pack_22 {x : Int64} {y : Int32} (k : ev G M_Va_pack R E 23 lv (.long (x <<< (y.toInt64 &&& 63)) :: rest) h cells slots) : ev G M_Va_pack R E 22 lv (.int y :: .long x :: rest) h cells slots := ev_lshl d_Va_pack_22 k
theorem d_Va_pack_23 : decode prog_8_method_6_code 23 = .ok (.lor, 1) := by decide +kernel
theorem s_Va_pack_23 {x y : Int64} (k : ev G M_Va_pack R E 24 lv (.long (x ||| y) :: rest) h cells slots) : ev G M_Va_pack R E 23 lv (.long y :: .long x :: rest) h cells slots := ev_lor d_Va_pack_23 k
theorem d_Va_pack_24 : decode prog_8_method_6_code 24 = .ok (.iload_n 1, 1) := by decide +kernel
theorem s_Va_pack_24 {x : Int32} (hl : lg lv 1 = some (.int x)) (k : ev G M_Va_pack R E 25 lv (.int x :: rest) h cells slots) : ev G M_Va_pack R E 24 lv rest h cells slots := ev_iload_n d_Va_pack_24 rfl hl k
theorem d_Va_pack_25 : decode prog_8_method_6_code 25 = .ok (.i2l, 1) := by decide +kernel
theorem s_Va_pack_25 {x : Int32} (k : ev G M_Va_pack R E 26 lv (.long x.toInt64 :: rest) h cells slots) : ev G M_Va_pack R E 25 lv (.int x :: rest) h cells slots := ev_i2l d_Va_pack_25 k
theorem d_Va_pack_26 : decode prog_8_method_6_code 26 = .ok (.lor, 1) := by decide +kernel
theorem s_Va_pack_26 {x y : Int64} (k : ev G M_Va_pack R E 27 lv (.long (x ||| y) :: rest) h cells slots) : ev G M_Va_pack R E 26 lv (.long y :: .long x :: rest) h cells slots := ev_lor d_Va_pack_26 k
theorem d_Va_pack_27 : decode prog_8_method_6_code 27 = .ok (.lreturn, 1) := by decide +kernel
theorem s_Va_pack_27 {P : Option Value → HP → Prop} {mc ms : Nat} {v : Int64} (hP : P (some (.long v)) h) (hc : cells ≤ mc ∧ slots ≤ ms) : ev G M_Va_pack R (Er M_Va_pack P mc ms) 27 lv [.long v] h cells slots := ev_exit ⟨hc.1, hc.2, Or.inr (Or.inr ⟨v, rfl, d_Va_pack_27, rfl, hP⟩)⟩
abbrev M_Va_exclusive : MW := (⟨"UseOnceMachine$Value", "exclusive", "(III)J"⟩, prog_8_method_3_code, 3, (some .long))
theorem hy_Va_exclusive : M_Va_exclusive.1.cls ≠ "java/lang/invoke/MethodHandle" ∧ M_Va_exclusive.1.cls ≠ "java/lang/invoke/VarHandle" ∧ (parseMethodDescriptor M_Va_exclusive.1.desc).map (fun d => d.parameters.length) = some 3 := by decide +kernel
theorem d_Va_exclusive_0 : decode prog_8_method_3_code 0 = .ok (.iconst 1, 1) := by decide +kernel
theorem s_Va_exclusive_0  (k : ev G M_Va_exclusive R E 1 lv (.int 1 :: rest) h cells slots) : ev G M_Va_exclusive R E 0 lv rest h cells slots := ev_iconst d_Va_exclusive_0 (by decide) k
theorem d_Va_exclusive_1 : decode prog_8_method_3_code 1 = .ok (.iload_n 0, 1) := by decide +kernel
theorem s_Va_exclusive_1 {x : Int32} (hl : lg lv 0 = some (.int x)) (k : ev G M_Va_exclusive R E 2 lv (.int x :: rest) h cells slots) : ev G M_Va_exclusive R E 1 lv rest h cells slots := ev_iload_n d_Va_exclusive_1 rfl hl k
theorem d_Va_exclusive_2 : decode prog_8_method_3_code 2 = .ok (.iload_n 1, 1) := by decide +kernel
theorem s_Va_exclusive_2 {x : Int32} (hl : lg lv 1 = some (.int x)) (k : ev G M_Va_exclusive R E 3 lv (.int x :: rest) h cells slots) : ev G M_Va_exclusive R E 2 lv rest h cells slots := ev_iload_n d_Va_exclusive_2 rfl hl k
theorem d_Va_exclusive_3 : decode prog_8_method_3_code 3 = .ok (.iload_n 2, 1) := by decide +kernel
theorem s_Va_exclusive_3 {x : Int32} (hl : lg lv 2 = some (.int x)) (k : ev G M_Va_exclusive R E 4 lv (.int x :: rest) h cells slots) : ev G M_Va_exclusive R E 3 lv rest h cells slots := ev_iload_n d_Va_exclusive_3 rfl hl k
theorem d_Va_exclusive_4 : decode prog_8_method_3_code 4 = .ok (.iconst 0, 1) := by decide +kernel
theorem s_Va_exclusive_4  (k : ev G M_Va_exclusive R E 5 lv (.int 0 :: rest) h cells slots) : ev G M_Va_exclusive R E 4 lv rest h cells slots := ev_iconst d_Va_exclusive_4 (by decide) k
theorem d_Va_exclusive_5 : decode prog_8_method_3_code 5 = .ok (.invokestatic 11, 3) := by decide +kernel
theorem s_Va_exclusive_5 {mc ms : Nat} {P : Option Value → HP → Prop} {a0 : Int32} {a1 : Int32} {a2 : Int32} {a3 : Int32} {a4 : Int32} (hm : mt G M_Va_pack 0 mc ms [.int a0, .int a1, .int a2, .int a3, .int a4] h P) (hR : 0 + 1 ≤ R.frames ∧ 8 + (5 + 11) + 39 * 0 ≤ R.locals) (hcs : cells + mc ≤ R.cells ∧ slots + ms ≤ R.slots) (hrest : (rest.map fun v => v.category).sum ≤ 8) (k : ∀ (r : Option Value) (h' : HP), P r h' → ev G M_Va_exclusive R E 8 lv (r.toList ++ rest) h' (cells + mc) (slots + ms)) : ev G M_Va_exclusive R E 5 lv (.int a4 :: .int a3 :: .int a2 :: .int a1 :: .int a0 :: rest) h cells slots := ev_callS (as := [.int a0, .int a1, .int a2, .int a3, .int a4]) d_Va_exclusive_5 hm w_300 w_301 w_72 w_302 hy_Va_pack hR hcs hrest k
theorem d_Va_exclusive_8 : decode prog_8_method_3_code 8 = .ok (.lreturn, 1) := by decide +kernel
theorem s_Va_exclusive_8 {P : Option Value → HP → Prop} {mc ms : Nat} {v : Int64} (hP : P (some (.long v)) h) (hc : cells ≤ mc ∧ slots ≤ ms) : ev G M_Va_exclusive R (Er M_Va_exclusive P mc ms) 8 lv [.long v] h cells slots := ev_exit ⟨hc.1, hc.2, Or.inr (Or.inr ⟨v, rfl, d_Va_exclusive_8, rfl, hP⟩)⟩
abbrev M_Co_clear : MW := (⟨"UseOnceMachine$Code", "clear", "()V"⟩, prog_2_method_2_code, 1, none)
theorem hy_Co_clear : M_Co_clear.1.cls ≠ "java/lang/invoke/MethodHandle" ∧ M_Co_clear.1.cls ≠ "java/lang/invoke/VarHandle" ∧ (parseMethodDescriptor M_Co_clear.1.desc).map (fun d => d.parameters.length) = some 0 := by decide +kernel
theorem d_Co_clear_0 : decode prog_2_method_2_code 0 = .ok (.aload_n 0, 1) := by decide +kernel
theorem s_Co_clear_0 {x : Nat} (hl : lg lv 0 = some (.ref x)) (k : ev G M_Co_clear R E 1 lv (.ref x :: rest) h cells slots) : ev G M_Co_clear R E 0 lv rest h cells slots := ev_aload_n d_Co_clear_0 rfl hl k
theorem d_Co_clear_1 : decode prog_2_method_2_code 1 = .ok (.getfield 15, 3) := by decide +kernel
theorem s_Co_clear_1 {a : Nat} {fs : List Value} {v : Value} (hh : h a = mO 0 fs) (hv : fs[1]? = some v) (k : ev G M_Co_clear R E 4 lv (v :: rest) h cells slots) : ev G M_Co_clear R E 1 lv (.ref a :: rest) h cells slots := ev_getfield (ci := 0) (kf := 1) d_Co_clear_1 rfl ck0 (by decide) w_91 hh hv k
theorem d_Co_clear_4 : decode prog_2_method_2_code 4 = .ok (.iconst 0, 1) := by decide +kernel
theorem s_Co_clear_4  (k : ev G M_Co_clear R E 5 lv (.int 0 :: rest) h cells slots) : ev G M_Co_clear R E 4 lv rest h cells slots := ev_iconst d_Co_clear_4 (by decide) k
theorem d_Co_clear_5 : decode prog_2_method_2_code 5 = .ok (.invokestatic 18, 3) := by decide +kernel
theorem s_Co_clear_5 {mc ms : Nat} {P : Option Value → HP → Prop} {a0 : Nat} {a1 : Int32} (hm : mt G M_Ja_fillI 0 mc ms [.ref a0, .int a1] h P) (hR : 0 + 1 ≤ R.frames ∧ 8 + (4 + 11) + 39 * 0 ≤ R.locals) (hcs : cells + mc ≤ R.cells ∧ slots + ms ≤ R.slots) (hrest : (rest.map fun v => v.category).sum ≤ 8) (k : ∀ (r : Option Value) (h' : HP), P r h' → ev G M_Co_clear R E 8 lv (r.toList ++ rest) h' (cells + mc) (slots + ms)) : ev G M_Co_clear R E 5 lv (.int a1 :: .ref a0 :: rest) h cells slots := ev_callS (as := [.ref a0, .int a1]) d_Co_clear_5 hm w_311 w_295 w_71 w_296 hy_Ja_fillI hR hcs hrest k
theorem d_Co_clear_8 : decode prog_2_method_2_code 8 = .ok (.return_, 1) := by decide +kernel
theorem s_Co_clear_8 {P : Option Value → HP → Prop} {mc ms : Nat} (hP : P none h) (hc : cells ≤ mc ∧ slots ≤ ms) : ev G M_Co_clear R (Er M_Co_clear P mc ms) 8 lv [] h cells slots := ev_exit ⟨hc.1, hc.2, Or.inl ⟨rfl, d_Co_clear_8, rfl, hP⟩⟩
abbrev M_Jm_min : MW := (⟨"java/lang/Math", "min", "(II)I"⟩, prog_12_method_69_code, 2, (some .int))
theorem hy_Jm_min : M_Jm_min.1.cls ≠ "java/lang/invoke/MethodHandle" ∧ M_Jm_min.1.cls ≠ "java/lang/invoke/VarHandle" ∧ (parseMethodDescriptor M_Jm_min.1.desc).map (fun d => d.parameters.length) = some 2 := by decide +kernel
theorem d_Jm_min_0 : decode prog_12_method_69_code 0 = .ok (.iload_n 0, 1) := by decide +kernel
theorem s_Jm_min_0 {x : Int32} (hl : lg lv 0 = some (.int x)) (k : ev G M_Jm_min R E 1 lv (.int x :: rest) h cells slots) : ev G M_Jm_min R E 0 lv rest h cells slots := ev_iload_n d_Jm_min_0 rfl hl k
theorem d_Jm_min_1 : decode prog_12_method_69_code 1 = .ok (.iload_n 1, 1) := by decide +kernel
theorem s_Jm_min_1 {x : Int32} (hl : lg lv 1 = some (.int x)) (k : ev G M_Jm_min R E 2 lv (.int x :: rest) h cells slots) : ev G M_Jm_min R E 1 lv rest h cells slots := ev_iload_n d_Jm_min_1 rfl hl k
theorem d_Jm_min_2 : decode prog_12_method_69_code 2 = .ok (.if_icmp .gt 7, 3) := by decide +kernel
theorem s_Jm_min_2 {x y : Int32} (kt : y < x → ev G M_Jm_min R E 9 lv rest h cells slots) (kf : ¬ y < x → ev G M_Jm_min R E 5 lv rest h cells slots) : ev G M_Jm_min R E 2 lv (.int y :: .int x :: rest) h cells slots := ev_icmp_gt d_Jm_min_2 (by decide) kt kf
theorem d_Jm_min_5 : decode prog_12_method_69_code 5 = .ok (.iload_n 0, 1) := by decide +kernel
theorem s_Jm_min_5 {x : Int32} (hl : lg lv 0 = some (.int x)) (k : ev G M_Jm_min R E 6 lv (.int x :: rest) h cells slots) : ev G M_Jm_min R E 5 lv rest h cells slots := ev_iload_n d_Jm_min_5 rfl hl k
theorem d_Jm_min_6 : decode prog_12_method_69_code 6 = .ok (.goto 4, 3) := by decide +kernel
theorem s_Jm_min_6  (k : ev G M_Jm_min R E 10 lv rest h cells slots) : ev G M_Jm_min R E 6 lv rest h cells slots := ev_goto d_Jm_min_6 (by decide) k
theorem d_Jm_min_9 : decode prog_12_method_69_code 9 = .ok (.iload_n 1, 1) := by decide +kernel
theorem s_Jm_min_9 {x : Int32} (hl : lg lv 1 = some (.int x)) (k : ev G M_Jm_min R E 10 lv (.int x :: rest) h cells slots) : ev G M_Jm_min R E 9 lv rest h cells slots := ev_iload_n d_Jm_min_9 rfl hl k
theorem d_Jm_min_10 : decode prog_12_method_69_code 10 = .ok (.ireturn, 1) := by decide +kernel
theorem s_Jm_min_10 {P : Option Value → HP → Prop} {mc ms : Nat} {v : Int32} (hP : P (some (.int v)) h) (hc : cells ≤ mc ∧ slots ≤ ms) : ev G M_Jm_min R (Er M_Jm_min P mc ms) 10 lv [.int v] h cells slots := ev_exit ⟨hc.1, hc.2, Or.inr (Or.inl ⟨v, .int, rfl, rfl, d_Jm_min_10, rfl, hP⟩)⟩
abbrev M_Co_size : MW := (⟨"UseOnceMachine$Code", "size", "(I)I"⟩, prog_2_method_3_code, 2, (some .int))
theorem hy_Co_size : M_Co_size.1.cls ≠ "java/lang/invoke/MethodHandle" ∧ M_Co_size.1.cls ≠ "java/lang/invoke/VarHandle" ∧ (parseMethodDescriptor M_Co_size.1.desc).map (fun d => d.parameters.length) = some 1 := by decide +kernel
theorem d_Co_size_0 : decode prog_2_method_3_code 0 = .ok (.iload_n 1, 1) := by decide +kernel
theorem s_Co_size_0 {x : Int32} (hl : lg lv 1 = some (.int x)) (k : ev G M_Co_size R E 1 lv (.int x :: rest) h cells slots) : ev G M_Co_size R E 0 lv rest h cells slots := ev_iload_n d_Co_size_0 rfl hl k
theorem d_Co_size_1 : decode prog_2_method_3_code 1 = .ok (.ifCond .lt 8, 3) := by decide +kernel
theorem s_Co_size_1 {x : Int32} (kt : x < 0 → ev G M_Co_size R E 9 lv rest h cells slots) (kf : ¬ x < 0 → ev G M_Co_size R E 4 lv rest h cells slots) : ev G M_Co_size R E 1 lv (.int x :: rest) h cells slots := ev_if_lt d_Co_size_1 (by decide) kt kf
theorem d_Co_size_4 : decode prog_2_method_3_code 4 = .ok (.iload_n 1, 1) := by decide +kernel
theorem s_Co_size_4 {x : Int32} (hl : lg lv 1 = some (.int x)) (k : ev G M_Co_size R E 5 lv (.int x :: rest) h cells slots) : ev G M_Co_size R E 4 lv rest h cells slots := ev_iload_n d_Co_size_4 rfl hl k
theorem d_Co_size_5 : decode prog_2_method_3_code 5 = .ok (.iconst 3, 1) := by decide +kernel
theorem s_Co_size_5  (k : ev G M_Co_size R E 6 lv (.int 3 :: rest) h cells slots) : ev G M_Co_size R E 5 lv rest h cells slots := ev_iconst d_Co_size_5 (by decide) k
theorem d_Co_size_6 : decode prog_2_method_3_code 6 = .ok (.if_icmp .lt 7, 3) := by decide +kernel
theorem s_Co_size_6 {x y : Int32} (kt : x < y → ev G M_Co_size R E 13 lv rest h cells slots) (kf : ¬ x < y → ev G M_Co_size R E 9 lv rest h cells slots) : ev G M_Co_size R E 6 lv (.int y :: .int x :: rest) h cells slots := ev_icmp_lt d_Co_size_6 (by decide) kt kf
theorem d_Co_size_9 : decode prog_2_method_3_code 9 = .ok (.iconst 0, 1) := by decide +kernel
theorem s_Co_size_9  (k : ev G M_Co_size R E 10 lv (.int 0 :: rest) h cells slots) : ev G M_Co_size R E 9 lv rest h cells slots := ev_iconst d_Co_size_9 (by decide) k
theorem d_Co_size_10 : decode prog_2_method_3_code 10 = .ok (.goto 9, 3) := by decide +kernel
theorem s_Co_size_10  (k : ev G M_Co_size R E 19 lv rest h cells slots) : ev G M_Co_size R E 10 lv rest h cells slots := ev_goto d_Co_size_10 (by decide) k
theorem d_Co_size_13 : decode prog_2_method_3_code 13 = .ok (.aload_n 0, 1) := by decide +kernel
theorem s_Co_size_13 {x : Nat} (hl : lg lv 0 = some (.ref x)) (k : ev G M_Co_size R E 14 lv (.ref x :: rest) h cells slots) : ev G M_Co_size R E 13 lv rest h cells slots := ev_aload_n d_Co_size_13 rfl hl k
theorem d_Co_size_14 : decode prog_2_method_3_code 14 = .ok (.getfield 15, 3) := by decide +kernel
theorem s_Co_size_14 {a : Nat} {fs : List Value} {v : Value} (hh : h a = mO 0 fs) (hv : fs[1]? = some v) (k : ev G M_Co_size R E 17 lv (v :: rest) h cells slots) : ev G M_Co_size R E 14 lv (.ref a :: rest) h cells slots := ev_getfield (ci := 0) (kf := 1) d_Co_size_14 rfl ck0 (by decide) w_91 hh hv k
theorem d_Co_size_17 : decode prog_2_method_3_code 17 = .ok (.iload_n 1, 1) := by decide +kernel
theorem s_Co_size_17 {x : Int32} (hl : lg lv 1 = some (.int x)) (k : ev G M_Co_size R E 18 lv (.int x :: rest) h cells slots) : ev G M_Co_size R E 17 lv rest h cells slots := ev_iload_n d_Co_size_17 rfl hl k
theorem d_Co_size_18 : decode prog_2_method_3_code 18 = .ok (.iaload, 1) := by decide +kernel
theorem s_Co_size_18 {a n : Nat} {f : Nat → Int32} {i : Int32} (hh : h a = mI 0 n f) (hin : vp_in i n) (k : ev G M_Co_size R E 19 lv (.int (f i.toNatClampNeg) :: rest) h cells slots) : ev G M_Co_size R E 18 lv (.int i :: .ref a :: rest) h cells slots := ev_iaload d_Co_size_18 rfl hh hin k
theorem d_Co_size_19 : decode prog_2_method_3_code 19 = .ok (.ireturn, 1) := by decide +kernel
theorem s_Co_size_19 {P : Option Value → HP → Prop} {mc ms : Nat} {v : Int32} (hP : P (some (.int v)) h) (hc : cells ≤ mc ∧ slots ≤ ms) : ev G M_Co_size R (Er M_Co_size P mc ms) 19 lv [.int v] h cells slots := ev_exit ⟨hc.1, hc.2, Or.inr (Or.inl ⟨v, .int, rfl, rfl, d_Co_size_19, rfl, hP⟩)⟩
abbrev M_Co_has : MW := (⟨"UseOnceMachine$Code", "has", "(II)Z"⟩, prog_2_method_5_code, 3, (some .boolean))
theorem hy_Co_has : M_Co_has.1.cls ≠ "java/lang/invoke/MethodHandle" ∧ M_Co_has.1.cls ≠ "java/lang/invoke/VarHandle" ∧ (parseMethodDescriptor M_Co_has.1.desc).map (fun d => d.parameters.length) = some 2 := by decide +kernel
theorem d_Co_has_0 : decode prog_2_method_5_code 0 = .ok (.iload_n 2, 1) := by decide +kernel
theorem s_Co_has_0 {x : Int32} (hl : lg lv 2 = some (.int x)) (k : ev G M_Co_has R E 1 lv (.int x :: rest) h cells slots) : ev G M_Co_has R E 0 lv rest h cells slots := ev_iload_n d_Co_has_0 rfl hl k
theorem d_Co_has_1 : decode prog_2_method_5_code 1 = .ok (.ifCond .lt 16, 3) := by decide +kernel
theorem s_Co_has_1 {x : Int32} (kt : x < 0 → ev G M_Co_has R E 17 lv rest h cells slots) (kf : ¬ x < 0 → ev G M_Co_has R E 4 lv rest h cells slots) : ev G M_Co_has R E 1 lv (.int x :: rest) h cells slots := ev_if_lt d_Co_has_1 (by decide) kt kf
theorem d_Co_has_4 : decode prog_2_method_5_code 4 = .ok (.iload_n 2, 1) := by decide +kernel
theorem s_Co_has_4 {x : Int32} (hl : lg lv 2 = some (.int x)) (k : ev G M_Co_has R E 5 lv (.int x :: rest) h cells slots) : ev G M_Co_has R E 4 lv rest h cells slots := ev_iload_n d_Co_has_4 rfl hl k
theorem d_Co_has_5 : decode prog_2_method_5_code 5 = .ok (.aload_n 0, 1) := by decide +kernel
theorem s_Co_has_5 {x : Nat} (hl : lg lv 0 = some (.ref x)) (k : ev G M_Co_has R E 6 lv (.ref x :: rest) h cells slots) : ev G M_Co_has R E 5 lv rest h cells slots := ev_aload_n d_Co_has_5 rfl hl k
theorem d_Co_has_6 : decode prog_2_method_5_code 6 = .ok (.iload_n 1, 1) := by decide +kernel
theorem s_Co_has_6 {x : Int32} (hl : lg lv 1 = some (.int x)) (k : ev G M_Co_has R E 7 lv (.int x :: rest) h cells slots) : ev G M_Co_has R E 6 lv rest h cells slots := ev_iload_n d_Co_has_6 rfl hl k
theorem d_Co_has_7 : decode prog_2_method_5_code 7 = .ok (.invokevirtual 24, 3) := by decide +kernel
theorem s_Co_has_7 {mc ms : Nat} {P : Option Value → HP → Prop} {a0 : Int32} {b : Nat} {fs : List Value} {v0 : Value} (hm : mt G M_Co_size 0 mc ms (.ref b :: [.int a0]) h P) (hb : h b = mO 0 fs) (hv0 : fs[0]? = some v0) (hR : 0 + 1 ≤ R.frames ∧ 8 + (2 + 11) + 39 * 0 ≤ R.locals) (hcs : cells + mc ≤ R.cells ∧ slots + ms ≤ R.slots) (hrest : (rest.map fun v => v.category).sum ≤ 8) (k : ∀ (r : Option Value) (h' : HP), P r h' → ev G M_Co_has R E 10 lv (r.toList ++ rest) h' (cells + mc) (slots + ms)) : ev G M_Co_has R E 7 lv (.int a0 :: .ref b :: rest) h cells slots := ev_callV (as := [.int a0]) (ci := 0) d_Co_has_7 hm hb hv0 rfl w_347 w_348 w_349 w_64 w_350 hy_Co_size hR hcs hrest k
theorem d_Co_has_10 : decode prog_2_method_5_code 10 = .ok (.if_icmp .ge 7, 3) := by decide +kernel
theorem s_Co_has_10 {x y : Int32} (kt : y ≤ x → ev G M_Co_has R E 17 lv rest h cells slots) (kf : ¬ y ≤ x → ev G M_Co_has R E 13 lv rest h cells slots) : ev G M_Co_has R E 10 lv (.int y :: .int x :: rest) h cells slots := ev_icmp_ge d_Co_has_10 (by decide) kt kf
theorem d_Co_has_13 : decode prog_2_method_5_code 13 = .ok (.iconst 1, 1) := by decide +kernel
theorem s_Co_has_13  (k : ev G M_Co_has R E 14 lv (.int 1 :: rest) h cells slots) : ev G M_Co_has R E 13 lv rest h cells slots := ev_iconst d_Co_has_13 (by decide) k
theorem d_Co_has_14 : decode prog_2_method_5_code 14 = .ok (.goto 4, 3) := by decide +kernel
theorem s_Co_has_14  (k : ev G M_Co_has R E 18 lv rest h cells slots) : ev G M_Co_has R E 14 lv rest h cells slots := ev_goto d_Co_has_14 (by decide) k
theorem d_Co_has_17 : decode prog_2_method_5_code 17 = .ok (.iconst 0, 1) := by decide +kernel
theorem s_Co_has_17  (k : ev G M_Co_has R E 18 lv (.int 0 :: rest) h cells slots) : ev G M_Co_has R E 17 lv rest h cells slots := ev_iconst d_Co_has_17 (by decide) k
theorem d_Co_has_18 : decode prog_2_method_5_code 18 = .ok (.ireturn, 1) := by decide +kernel
theorem s_Co_has_18 {P : Option Value → HP → Prop} {mc ms : Nat} {v : Int32} (hz : v = 0 ∨ v = 1) (hP : P (some (.int v)) h) (hc : cells ≤ mc ∧ slots ≤ ms) : ev G M_Co_has R (Er M_Co_has P mc ms) 18 lv [.int v] h cells slots := ev_exit ⟨hc.1, hc.2, Or.inr (Or.inl ⟨v, .boolean, rfl, (nar_z hz), d_Co_has_18, rfl, hP⟩)⟩
abbrev M_Co_part : MW := (⟨"UseOnceMachine$Code", "part", "(III)I"⟩, prog_2_method_6_code, 4, (some .int))
theorem hy_Co_part : M_Co_part.1.cls ≠ "java/lang/invoke/MethodHandle" ∧ M_Co_part.1.cls ≠ "java/lang/invoke/VarHandle" ∧ (parseMethodDescriptor M_Co_part.1.desc).map (fun d => d.parameters.length) = some 3 := by decide +kernel
theorem d_Co_part_0 : decode prog_2_method_6_code 0 = .ok (.aload_n 0, 1) := by decide +kernel
theorem s_Co_part_0 {x : Nat} (hl : lg lv 0 = some (.ref x)) (k : ev G M_Co_part R E 1 lv (.ref x :: rest) h cells slots) : ev G M_Co_part R E 0 lv rest h cells slots := ev_aload_n d_Co_part_0 rfl hl k
theorem d_Co_part_1 : decode prog_2_method_6_code 1 = .ok (.iload_n 1, 1) := by decide +kernel
theorem s_Co_part_1 {x : Int32} (hl : lg lv 1 = some (.int x)) (k : ev G M_Co_part R E 2 lv (.int x :: rest) h cells slots) : ev G M_Co_part R E 1 lv rest h cells slots := ev_iload_n d_Co_part_1 rfl hl k
theorem d_Co_part_2 : decode prog_2_method_6_code 2 = .ok (.iload_n 2, 1) := by decide +kernel
theorem s_Co_part_2 {x : Int32} (hl : lg lv 2 = some (.int x)) (k : ev G M_Co_part R E 3 lv (.int x :: rest) h cells slots) : ev G M_Co_part R E 2 lv rest h cells slots := ev_iload_n d_Co_part_2 rfl hl k
theorem d_Co_part_3 : decode prog_2_method_6_code 3 = .ok (.invokevirtual 28, 3) := by decide +kernel
theorem s_Co_part_3 {mc ms : Nat} {P : Option Value → HP → Prop} {a0 : Int32} {a1 : Int32} {b : Nat} {fs : List Value} {v0 : Value} (hm : mt G M_Co_has 1 mc ms (.ref b :: [.int a0, .int a1]) h P) (hb : h b = mO 0 fs) (hv0 : fs[0]? = some v0) (hR : 1 + 1 ≤ R.frames ∧ 8 + (3 + 11) + 39 * 1 ≤ R.locals) (hcs : cells + mc ≤ R.cells ∧ slots + ms ≤ R.slots) (hrest : (rest.map fun v => v.category).sum ≤ 8) (k : ∀ (r : Option Value) (h' : HP), P r h' → ev G M_Co_part R E 6 lv (r.toList ++ rest) h' (cells + mc) (slots + ms)) : ev G M_Co_part R E 3 lv (.int a1 :: .int a0 :: .ref b :: rest) h cells slots := ev_callV (as := [.int a0, .int a1]) (ci := 0) d_Co_part_3 hm hb hv0 rfl w_343 w_344 w_345 w_64 w_346 hy_Co_has hR hcs hrest k
theorem d_Co_part_6 : decode prog_2_method_6_code 6 = .ok (.ifCond .eq 12, 3) := by decide +kernel
theorem s_Co_part_6 {x : Int32} (kt : x = 0 → ev G M_Co_part R E 18 lv rest h cells slots) (kf : ¬ x = 0 → ev G M_Co_part R E 9 lv rest h cells slots) : ev G M_Co_part R E 6 lv (.int x :: rest) h cells slots := ev_if_eq d_Co_part_6 (by decide) kt kf
theorem d_Co_part_9 : decode prog_2_method_6_code 9 = .ok (.iload_n 3, 1) := by decide +kernel
theorem s_Co_part_9 {x : Int32} (hl : lg lv 3 = some (.int x)) (k : ev G M_Co_part R E 10 lv (.int x :: rest) h cells slots) : ev G M_Co_part R E 9 lv rest h cells slots := ev_iload_n d_Co_part_9 rfl hl k
theorem d_Co_part_10 : decode prog_2_method_6_code 10 = .ok (.ifCond .lt 8, 3) := by decide +kernel
theorem s_Co_part_10 {x : Int32} (kt : x < 0 → ev G M_Co_part R E 18 lv rest h cells slots) (kf : ¬ x < 0 → ev G M_Co_part R E 13 lv rest h cells slots) : ev G M_Co_part R E 10 lv (.int x :: rest) h cells slots := ev_if_lt d_Co_part_10 (by decide) kt kf
theorem d_Co_part_13 : decode prog_2_method_6_code 13 = .ok (.iload_n 3, 1) := by decide +kernel
theorem s_Co_part_13 {x : Int32} (hl : lg lv 3 = some (.int x)) (k : ev G M_Co_part R E 14 lv (.int x :: rest) h cells slots) : ev G M_Co_part R E 13 lv rest h cells slots := ev_iload_n d_Co_part_13 rfl hl k
theorem d_Co_part_14 : decode prog_2_method_6_code 14 = .ok (.iconst 4, 1) := by decide +kernel
theorem s_Co_part_14  (k : ev G M_Co_part R E 15 lv (.int 4 :: rest) h cells slots) : ev G M_Co_part R E 14 lv rest h cells slots := ev_iconst d_Co_part_14 (by decide) k
theorem d_Co_part_15 : decode prog_2_method_6_code 15 = .ok (.if_icmp .lt 5, 3) := by decide +kernel
theorem s_Co_part_15 {x y : Int32} (kt : x < y → ev G M_Co_part R E 20 lv rest h cells slots) (kf : ¬ x < y → ev G M_Co_part R E 18 lv rest h cells slots) : ev G M_Co_part R E 15 lv (.int y :: .int x :: rest) h cells slots := ev_icmp_lt d_Co_part_15 (by decide) kt kf
theorem d_Co_part_18 : decode prog_2_method_6_code 18 = .ok (.iconst 0, 1) := by decide +kernel
theorem s_Co_part_18  (k : ev G M_Co_part R E 19 lv (.int 0 :: rest) h cells slots) : ev G M_Co_part R E 18 lv rest h cells slots := ev_iconst d_Co_part_18 (by decide) k
theorem d_Co_part_19 : decode prog_2_method_6_code 19 = .ok (.ireturn, 1) := by decide +kernel
theorem s_Co_part_19 {P : Option Value → HP → Prop} {mc ms : Nat} {v : Int32} (hP : P (some (.int v)) h) (hc : cells ≤ mc ∧ slots ≤ ms) : ev G M_Co_part R (Er M_Co_part P mc ms) 19 lv [.int v] h cells slots := ev_exit ⟨hc.1, hc.2, Or.inr (Or.inl ⟨v, .int, rfl, rfl, d_Co_part_19, rfl, hP⟩)⟩
theorem d_Co_part_20 : decode prog_2_method_6_code 20 = .ok (.aload_n 0, 1) := by decide +kernel
theorem s_Co_part_20 {x : Nat} (hl : lg lv 0 = some (.ref x)) (k : ev G M_Co_part R E 21 lv (.ref x :: rest) h cells slots) : ev G M_Co_part R E 20 lv rest h cells slots := ev_aload_n d_Co_part_20 rfl hl k
theorem d_Co_part_21 : decode prog_2_method_6_code 21 = .ok (.getfield 11, 3) := by decide +kernel
theorem s_Co_part_21 {a : Nat} {fs : List Value} {v : Value} (hh : h a = mO 0 fs) (hv : fs[0]? = some v) (k : ev G M_Co_part R E 24 lv (v :: rest) h cells slots) : ev G M_Co_part R E 21 lv (.ref a :: rest) h cells slots := ev_getfield (ci := 0) (kf := 0) d_Co_part_21 rfl ck0 (by decide) w_90 hh hv k
theorem d_Co_part_24 : decode prog_2_method_6_code 24 = .ok (.iload_n 1, 1) := by decide +kernel
theorem s_Co_part_24 {x : Int32} (hl : lg lv 1 = some (.int x)) (k : ev G M_Co_part R E 25 lv (.int x :: rest) h cells slots) : ev G M_Co_part R E 24 lv rest h cells slots := ev_iload_n d_Co_part_24 rfl hl k
theorem d_Co_part_25 : decode prog_2_method_6_code 25 = .ok (.bipush 24, 2) := by decide +kernel
theorem s_Co_part_25  (k : ev G M_Co_part R E 27 lv (.int 24 :: rest) h cells slots) : ev G M_Co_part R E 25 lv rest h cells slots := ev_bipush d_Co_part_25 (by decide) k
theorem d_Co_part_27 : decode prog_2_method_6_code 27 = .ok (.imul, 1) := by decide +kernel
theorem s_Co_part_27 {x y : Int32} (k : ev G M_Co_part R E 28 lv (.int (x * y) :: rest) h cells slots) : ev G M_Co_part R E 27 lv (.int y :: .int x :: rest) h cells slots := ev_imul d_Co_part_27 k
theorem d_Co_part_28 : decode prog_2_method_6_code 28 = .ok (.iload_n 2, 1) := by decide +kernel
theorem s_Co_part_28 {x : Int32} (hl : lg lv 2 = some (.int x)) (k : ev G M_Co_part R E 29 lv (.int x :: rest) h cells slots) : ev G M_Co_part R E 28 lv rest h cells slots := ev_iload_n d_Co_part_28 rfl hl k
theorem d_Co_part_29 : decode prog_2_method_6_code 29 = .ok (.iadd, 1) := by decide +kernel
theorem s_Co_part_29 {x y : Int32} (k : ev G M_Co_part R E 30 lv (.int (x + y) :: rest) h cells slots) : ev G M_Co_part R E 29 lv (.int y :: .int x :: rest) h cells slots := ev_iadd d_Co_part_29 k
theorem d_Co_part_30 : decode prog_2_method_6_code 30 = .ok (.iconst 4, 1) := by decide +kernel
theorem s_Co_part_30  (k : ev G M_Co_part R E 31 lv (.int 4 :: rest) h cells slots) : ev G M_Co_part R E 30 lv rest h cells slots := ev_iconst d_Co_part_30 (by decide) k
theorem d_Co_part_31 : decode prog_2_method_6_code 31 = .ok (.imul, 1) := by decide +kernel
theorem s_Co_part_31 {x y : Int32} (k : ev G M_Co_part R E 32 lv (.int (x * y) :: rest) h cells slots) : ev G M_Co_part R E 31 lv (.int y :: .int x :: rest) h cells slots := ev_imul d_Co_part_31 k
theorem d_Co_part_32 : decode prog_2_method_6_code 32 = .ok (.iload_n 3, 1) := by decide +kernel
theorem s_Co_part_32 {x : Int32} (hl : lg lv 3 = some (.int x)) (k : ev G M_Co_part R E 33 lv (.int x :: rest) h cells slots) : ev G M_Co_part R E 32 lv rest h cells slots := ev_iload_n d_Co_part_32 rfl hl k
theorem d_Co_part_33 : decode prog_2_method_6_code 33 = .ok (.iadd, 1) := by decide +kernel
theorem s_Co_part_33 {x y : Int32} (k : ev G M_Co_part R E 34 lv (.int (x + y) :: rest) h cells slots) : ev G M_Co_part R E 33 lv (.int y :: .int x :: rest) h cells slots := ev_iadd d_Co_part_33 k
theorem d_Co_part_34 : decode prog_2_method_6_code 34 = .ok (.iaload, 1) := by decide +kernel
theorem s_Co_part_34 {a n : Nat} {f : Nat → Int32} {i : Int32} (hh : h a = mI 0 n f) (hin : vp_in i n) (k : ev G M_Co_part R E 35 lv (.int (f i.toNatClampNeg) :: rest) h cells slots) : ev G M_Co_part R E 34 lv (.int i :: .ref a :: rest) h cells slots := ev_iaload d_Co_part_34 rfl hh hin k
theorem d_Co_part_35 : decode prog_2_method_6_code 35 = .ok (.ireturn, 1) := by decide +kernel
theorem s_Co_part_35 {P : Option Value → HP → Prop} {mc ms : Nat} {v : Int32} (hP : P (some (.int v)) h) (hc : cells ≤ mc ∧ slots ≤ ms) : ev G M_Co_part R (Er M_Co_part P mc ms) 35 lv [.int v] h cells slots := ev_exit ⟨hc.1, hc.2, Or.inr (Or.inl ⟨v, .int, rfl, rfl, d_Co_part_35, rfl, hP⟩)⟩
abbrev M_Va_kind : MW := (⟨"UseOnceMachine$Value", "kind", "(J)I"⟩, prog_8_method_7_code, 2, (some .int))
theorem hy_Va_kind : M_Va_kind.1.cls ≠ "java/lang/invoke/MethodHandle" ∧ M_Va_kind.1.cls ≠ "java/lang/invoke/VarHandle" ∧ (parseMethodDescriptor M_Va_kind.1.desc).map (fun d => d.parameters.length) = some 1 := by decide +kernel
theorem d_Va_kind_0 : decode prog_8_method_7_code 0 = .ok (.lload_n 0, 1) := by decide +kernel
theorem s_Va_kind_0 {x : Int64} (hl : lg lv 0 = some (.long x)) (k : ev G M_Va_kind R E 1 lv (.long x :: rest) h cells slots) : ev G M_Va_kind R E 0 lv rest h cells slots := ev_lload_n d_Va_kind_0 rfl hl k
theorem d_Va_kind_1 : decode prog_8_method_7_code 1 = .ok (.bipush 32, 2) := by decide +kernel
theorem s_Va_kind_1  (k : ev G M_Va_kind R E 3 lv (.int 32 :: rest) h cells slots) : ev G M_Va_kind R E 1 lv rest h cells slots := ev_bipush d_Va_kind_1 (by decide) k
theorem d_Va_kind_3 : decode prog_8_method_7_code 3 = .ok (.lushr, 1) := by decide +kernel
theorem s_Va_kind_3 {x : Int64} {y : Int32} (k : ev G M_Va_kind R E 4 lv (.long ((x.toUInt64 >>> (y.toInt64.toUInt64 &&& Int64.toUInt64 63)).toInt64) :: rest) h cells slots) : ev G M_Va_kind R E 3 lv (.int y :: .long x :: rest) h cells slots := ev_lushr d_Va_kind_3 k
theorem d_Va_kind_4 : decode prog_8_method_7_code 4 = .ok (.l2i, 1) := by decide +kernel
theorem s_Va_kind_4 {x : Int64} (k : ev G M_Va_kind R E 5 lv (.int x.toInt32 :: rest) h cells slots) : ev G M_Va_kind R E 4 lv (.long x :: rest) h cells slots := ev_l2i d_Va_kind_4 k
theorem d_Va_kind_5 : decode prog_8_method_7_code 5 = .ok (.ireturn, 1) := by decide +kernel
theorem s_Va_kind_5 {P : Option Value → HP → Prop} {mc ms : Nat} {v : Int32} (hP : P (some (.int v)) h) (hc : cells ≤ mc ∧ slots ≤ ms) : ev G M_Va_kind R (Er M_Va_kind P mc ms) 5 lv [.int v] h cells slots := ev_exit ⟨hc.1, hc.2, Or.inr (Or.inl ⟨v, .int, rfl, rfl, d_Va_kind_5, rfl, hP⟩)⟩
abbrev M_Va_isNumber : MW := (⟨"UseOnceMachine$Value", "isNumber", "(J)Z"⟩, prog_8_method_12_code, 2, (some .boolean))
theorem hy_Va_isNumber : M_Va_isNumber.1.cls ≠ "java/lang/invoke/MethodHandle" ∧ M_Va_isNumber.1.cls ≠ "java/lang/invoke/VarHandle" ∧ (parseMethodDescriptor M_Va_isNumber.1.desc).map (fun d => d.parameters.length) = some 1 := by decide +kernel
theorem d_Va_isNumber_0 : decode prog_8_method_12_code 0 = .ok (.lload_n 0, 1) := by decide +kernel
theorem s_Va_isNumber_0 {x : Int64} (hl : lg lv 0 = some (.long x)) (k : ev G M_Va_isNumber R E 1 lv (.long x :: rest) h cells slots) : ev G M_Va_isNumber R E 0 lv rest h cells slots := ev_lload_n d_Va_isNumber_0 rfl hl k
theorem d_Va_isNumber_1 : decode prog_8_method_12_code 1 = .ok (.invokestatic 17, 3) := by decide +kernel
theorem s_Va_isNumber_1 {mc ms : Nat} {P : Option Value → HP → Prop} {a0 : Int64} (hm : mt G M_Va_kind 0 mc ms [.long a0] h P) (hR : 0 + 1 ≤ R.frames ∧ 8 + (2 + 11) + 39 * 0 ≤ R.locals) (hcs : cells + mc ≤ R.cells ∧ slots + ms ≤ R.slots) (hrest : (rest.map fun v => v.category).sum ≤ 8) (k : ∀ (r : Option Value) (h' : HP), P r h' → ev G M_Va_isNumber R E 4 lv (r.toList ++ rest) h' (cells + mc) (slots + ms)) : ev G M_Va_isNumber R E 1 lv (.long a0 :: rest) h cells slots := ev_callS (as := [.long a0]) d_Va_isNumber_1 hm w_380 w_381 w_72 w_382 hy_Va_kind hR hcs hrest k
theorem d_Va_isNumber_4 : decode prog_8_method_12_code 4 = .ok (.ifCond .ne 7, 3) := by decide +kernel
theorem s_Va_isNumber_4 {x : Int32} (kt : ¬ x = 0 → ev G M_Va_isNumber R E 11 lv rest h cells slots) (kf : x = 0 → ev G M_Va_isNumber R E 7 lv rest h cells slots) : ev G M_Va_isNumber R E 4 lv (.int x :: rest) h cells slots := ev_if_ne d_Va_isNumber_4 (by decide) kt kf
theorem d_Va_isNumber_7 : decode prog_8_method_12_code 7 = .ok (.iconst 1, 1) := by decide +kernel
theorem s_Va_isNumber_7  (k : ev G M_Va_isNumber R E 8 lv (.int 1 :: rest) h cells slots) : ev G M_Va_isNumber R E 7 lv rest h cells slots := ev_iconst d_Va_isNumber_7 (by decide) k
theorem d_Va_isNumber_8 : decode prog_8_method_12_code 8 = .ok (.goto 4, 3) := by decide +kernel
theorem s_Va_isNumber_8  (k : ev G M_Va_isNumber R E 12 lv rest h cells slots) : ev G M_Va_isNumber R E 8 lv rest h cells slots := ev_goto d_Va_isNumber_8 (by decide) k
theorem d_Va_isNumber_11 : decode prog_8_method_12_code 11 = .ok (.iconst 0, 1) := by decide +kernel
theorem s_Va_isNumber_11  (k : ev G M_Va_isNumber R E 12 lv (.int 0 :: rest) h cells slots) : ev G M_Va_isNumber R E 11 lv rest h cells slots := ev_iconst d_Va_isNumber_11 (by decide) k
theorem d_Va_isNumber_12 : decode prog_8_method_12_code 12 = .ok (.ireturn, 1) := by decide +kernel
theorem s_Va_isNumber_12 {P : Option Value → HP → Prop} {mc ms : Nat} {v : Int32} (hz : v = 0 ∨ v = 1) (hP : P (some (.int v)) h) (hc : cells ≤ mc ∧ slots ≤ ms) : ev G M_Va_isNumber R (Er M_Va_isNumber P mc ms) 12 lv [.int v] h cells slots := ev_exit ⟨hc.1, hc.2, Or.inr (Or.inl ⟨v, .boolean, rfl, (nar_z hz), d_Va_isNumber_12, rfl, hP⟩)⟩
abbrev M_Va_number : MW := (⟨"UseOnceMachine$Value", "number", "(I)J"⟩, prog_8_method_2_code, 1, (some .long))
theorem hy_Va_number : M_Va_number.1.cls ≠ "java/lang/invoke/MethodHandle" ∧ M_Va_number.1.cls ≠ "java/lang/invoke/VarHandle" ∧ (parseMethodDescriptor M_Va_number.1.desc).map (fun d => d.parameters.length) = some 1 := by decide +kernel
theorem d_Va_number_0 : decode prog_8_method_2_code 0 = .ok (.iload_n 0, 1) := by decide +kernel
theorem s_Va_number_0 {x : Int32} (hl : lg lv 0 = some (.int x)) (k : ev G M_Va_number R E 1 lv (.int x :: rest) h cells slots) : ev G M_Va_number R E 0 lv rest h cells slots := ev_iload_n d_Va_number_0 rfl hl k
theorem d_Va_number_1 : decode prog_8_method_2_code 1 = .ok (.i2l, 1) := by decide +kernel
theorem s_Va_number_1 {x : Int32} (k : ev G M_Va_number R E 2 lv (.long x.toInt64 :: rest) h cells slots) : ev G M_Va_number R E 1 lv (.int x :: rest) h cells slots := ev_i2l d_Va_number_1 k
theorem d_Va_number_2 : decode prog_8_method_2_code 2 = .ok (.ldc2_w 9, 3) := by decide +kernel
theorem s_Va_number_2  (k : ev G M_Va_number R E 5 lv (.long 4294967295 :: rest) h cells slots) : ev G M_Va_number R E 2 lv rest h cells slots := ev_ldc2 d_Va_number_2 w_386 k
theorem d_Va_number_5 : decode prog_8_method_2_code 5 = .ok (.land, 1) := by decide +kernel
theorem s_Va_number_5 {x y : Int64} (k : ev G M_Va_number R E 6 lv (.long (x &&& y) :: rest) h cells slots) : ev G M_Va_number R E 5 lv (.long y :: .long x :: rest) h cells slots := ev_land d_Va_number_5 k
theorem d_Va_number_6 : decode prog_8_method_2_code 6 = .ok (.lreturn, 1) := by decide +kernel
theorem s_Va_number_6 {P : Option Value → HP → Prop} {mc ms : Nat} {v : Int64} (hP : P (some (.long v)) h) (hc : cells ≤ mc ∧ slots ≤ ms) : ev G M_Va_number R (Er M_Va_number P mc ms) 6 lv [.long v] h cells slots := ev_exit ⟨hc.1, hc.2, Or.inr (Or.inr ⟨v, rfl, d_Va_number_6, rfl, hP⟩)⟩
abbrev M_Va_isMoved : MW := (⟨"UseOnceMachine$Value", "isMoved", "(J)Z"⟩, prog_8_method_14_code, 2, (some .boolean))
theorem hy_Va_isMoved : M_Va_isMoved.1.cls ≠ "java/lang/invoke/MethodHandle" ∧ M_Va_isMoved.1.cls ≠ "java/lang/invoke/VarHandle" ∧ (parseMethodDescriptor M_Va_isMoved.1.desc).map (fun d => d.parameters.length) = some 1 := by decide +kernel
theorem d_Va_isMoved_0 : decode prog_8_method_14_code 0 = .ok (.lload_n 0, 1) := by decide +kernel
theorem s_Va_isMoved_0 {x : Int64} (hl : lg lv 0 = some (.long x)) (k : ev G M_Va_isMoved R E 1 lv (.long x :: rest) h cells slots) : ev G M_Va_isMoved R E 0 lv rest h cells slots := ev_lload_n d_Va_isMoved_0 rfl hl k
theorem d_Va_isMoved_1 : decode prog_8_method_14_code 1 = .ok (.invokestatic 17, 3) := by decide +kernel
theorem s_Va_isMoved_1 {mc ms : Nat} {P : Option Value → HP → Prop} {a0 : Int64} (hm : mt G M_Va_kind 0 mc ms [.long a0] h P) (hR : 0 + 1 ≤ R.frames ∧ 8 + (2 + 11) + 39 * 0 ≤ R.locals) (hcs : cells + mc ≤ R.cells ∧ slots + ms ≤ R.slots) (hrest : (rest.map fun v => v.category).sum ≤ 8) (k : ∀ (r : Option Value) (h' : HP), P r h' → ev G M_Va_isMoved R E 4 lv (r.toList ++ rest) h' (cells + mc) (slots + ms)) : ev G M_Va_isMoved R E 1 lv (.long a0 :: rest) h cells slots := ev_callS (as := [.long a0]) d_Va_isMoved_1 hm w_380 w_381 w_72 w_382 hy_Va_kind hR hcs hrest k
theorem d_Va_isMoved_4 : decode prog_8_method_14_code 4 = .ok (.iconst 1, 1) := by decide +kernel
theorem s_Va_isMoved_4  (k : ev G M_Va_isMoved R E 5 lv (.int 1 :: rest) h cells slots) : ev G M_Va_isMoved R E 4 lv rest h cells slots := ev_iconst d_Va_isMoved_4 (by decide) k
theorem d_Va_isMoved_5 : decode prog_8_method_14_code 5 = .ok (.if_icmp .eq 11, 3) := by decide +kernel
theorem s_Va_isMoved_5 {x y : Int32} (kt : x = y → ev G M_Va_isMoved R E 16 lv rest h cells slots) (kf : ¬ x = y → ev G M_Va_isMoved R E 8 lv rest h cells slots) : ev G M_Va_isMoved R E 5 lv (.int y :: .int x :: rest) h cells slots := ev_icmp_eq d_Va_isMoved_5 (by decide) kt kf
theorem d_Va_isMoved_8 : decode prog_8_method_14_code 8 = .ok (.lload_n 0, 1) := by decide +kernel
theorem s_Va_isMoved_8 {x : Int64} (hl : lg lv 0 = some (.long x)) (k : ev G M_Va_isMoved R E 9 lv (.long x :: rest) h cells slots) : ev G M_Va_isMoved R E 8 lv rest h cells slots := ev_lload_n d_Va_isMoved_8 rfl hl k
theorem d_Va_isMoved_9 : decode prog_8_method_14_code 9 = .ok (.invokestatic 17, 3) := by decide +kernel
theorem s_Va_isMoved_9 {mc ms : Nat} {P : Option Value → HP → Prop} {a0 : Int64} (hm : mt G M_Va_kind 0 mc ms [.long a0] h P) (hR : 0 + 1 ≤ R.frames ∧ 8 + (2 + 11) + 39 * 0 ≤ R.locals) (hcs : cells + mc ≤ R.cells ∧ slots + ms ≤ R.slots) (hrest : (rest.map fun v => v.category).sum ≤ 8) (k : ∀ (r : Option Value) (h' : HP), P r h' → ev G M_Va_isMoved R E 12 lv (r.toList ++ rest) h' (cells + mc) (slots + ms)) : ev G M_Va_isMoved R E 9 lv (.long a0 :: rest) h cells slots := ev_callS (as := [.long a0]) d_Va_isMoved_9 hm w_380 w_381 w_72 w_382 hy_Va_kind hR hcs hrest k
theorem d_Va_isMoved_12 : decode prog_8_method_14_code 12 = .ok (.iconst 3, 1) := by decide +kernel
theorem s_Va_isMoved_12  (k : ev G M_Va_isMoved R E 13 lv (.int 3 :: rest) h cells slots) : ev G M_Va_isMoved R E 12 lv rest h cells slots := ev_iconst d_Va_isMoved_12 (by decide) k
theorem d_Va_isMoved_13 : decode prog_8_method_14_code 13 = .ok (.if_icmp .ne 7, 3) := by decide +kernel
theorem s_Va_isMoved_13 {x y : Int32} (kt : ¬ x = y → ev G M_Va_isMoved R E 20 lv rest h cells slots) (kf : x = y → ev G M_Va_isMoved R E 16 lv rest h cells slots) : ev G M_Va_isMoved R E 13 lv (.int y :: .int x :: rest) h cells slots := ev_icmp_ne d_Va_isMoved_13 (by decide) kt kf
theorem d_Va_isMoved_16 : decode prog_8_method_14_code 16 = .ok (.iconst 1, 1) := by decide +kernel
theorem s_Va_isMoved_16  (k : ev G M_Va_isMoved R E 17 lv (.int 1 :: rest) h cells slots) : ev G M_Va_isMoved R E 16 lv rest h cells slots := ev_iconst d_Va_isMoved_16 (by decide) k
theorem d_Va_isMoved_17 : decode prog_8_method_14_code 17 = .ok (.goto 4, 3) := by decide +kernel
theorem s_Va_isMoved_17  (k : ev G M_Va_isMoved R E 21 lv rest h cells slots) : ev G M_Va_isMoved R E 17 lv rest h cells slots := ev_goto d_Va_isMoved_17 (by decide) k
theorem d_Va_isMoved_20 : decode prog_8_method_14_code 20 = .ok (.iconst 0, 1) := by decide +kernel
theorem s_Va_isMoved_20  (k : ev G M_Va_isMoved R E 21 lv (.int 0 :: rest) h cells slots) : ev G M_Va_isMoved R E 20 lv rest h cells slots := ev_iconst d_Va_isMoved_20 (by decide) k
theorem d_Va_isMoved_21 : decode prog_8_method_14_code 21 = .ok (.ireturn, 1) := by decide +kernel
theorem s_Va_isMoved_21 {P : Option Value → HP → Prop} {mc ms : Nat} {v : Int32} (hz : v = 0 ∨ v = 1) (hP : P (some (.int v)) h) (hc : cells ≤ mc ∧ slots ≤ ms) : ev G M_Va_isMoved R (Er M_Va_isMoved P mc ms) 21 lv [.int v] h cells slots := ev_exit ⟨hc.1, hc.2, Or.inr (Or.inl ⟨v, .boolean, rfl, (nar_z hz), d_Va_isMoved_21, rfl, hP⟩)⟩
abbrev M_Va_link : MW := (⟨"UseOnceMachine$Value", "link", "(J)I"⟩, prog_8_method_11_code, 2, (some .int))
theorem hy_Va_link : M_Va_link.1.cls ≠ "java/lang/invoke/MethodHandle" ∧ M_Va_link.1.cls ≠ "java/lang/invoke/VarHandle" ∧ (parseMethodDescriptor M_Va_link.1.desc).map (fun d => d.parameters.length) = some 1 := by decide +kernel
theorem d_Va_link_0 : decode prog_8_method_11_code 0 = .ok (.lload_n 0, 1) := by decide +kernel
theorem s_Va_link_0 {x : Int64} (hl : lg lv 0 = some (.long x)) (k : ev G M_Va_link R E 1 lv (.long x :: rest) h cells slots) : ev G M_Va_link R E 0 lv rest h cells slots := ev_lload_n d_Va_link_0 rfl hl k
theorem d_Va_link_1 : decode prog_8_method_11_code 1 = .ok (.bipush 24, 2) := by decide +kernel
theorem s_Va_link_1  (k : ev G M_Va_link R E 3 lv (.int 24 :: rest) h cells slots) : ev G M_Va_link R E 1 lv rest h cells slots := ev_bipush d_Va_link_1 (by decide) k
theorem d_Va_link_3 : decode prog_8_method_11_code 3 = .ok (.lushr, 1) := by decide +kernel
theorem s_Va_link_3 {x : Int64} {y : Int32} (k : ev G M_Va_link R E 4 lv (.long ((x.toUInt64 >>> (y.toInt64.toUInt64 &&& Int64.toUInt64 63)).toInt64) :: rest) h cells slots) : ev G M_Va_link R E 3 lv (.int y :: .long x :: rest) h cells slots := ev_lushr d_Va_link_3 k
theorem d_Va_link_4 : decode prog_8_method_11_code 4 = .ok (.l2i, 1) := by decide +kernel
theorem s_Va_link_4 {x : Int64} (k : ev G M_Va_link R E 5 lv (.int x.toInt32 :: rest) h cells slots) : ev G M_Va_link R E 4 lv (.long x :: rest) h cells slots := ev_l2i d_Va_link_4 k
theorem d_Va_link_5 : decode prog_8_method_11_code 5 = .ok (.sipush 255, 3) := by decide +kernel
theorem s_Va_link_5  (k : ev G M_Va_link R E 8 lv (.int 255 :: rest) h cells slots) : ev G M_Va_link R E 5 lv rest h cells slots := ev_sipush d_Va_link_5 (by decide) k
theorem d_Va_link_8 : decode prog_8_method_11_code 8 = .ok (.iand, 1) := by decide +kernel
theorem s_Va_link_8 {x y : Int32} (k : ev G M_Va_link R E 9 lv (.int (x &&& y) :: rest) h cells slots) : ev G M_Va_link R E 8 lv (.int y :: .int x :: rest) h cells slots := ev_iand d_Va_link_8 k
theorem d_Va_link_9 : decode prog_8_method_11_code 9 = .ok (.ireturn, 1) := by decide +kernel
theorem s_Va_link_9 {P : Option Value → HP → Prop} {mc ms : Nat} {v : Int32} (hP : P (some (.int v)) h) (hc : cells ≤ mc ∧ slots ≤ ms) : ev G M_Va_link R (Er M_Va_link P mc ms) 9 lv [.int v] h cells slots := ev_exit ⟨hc.1, hc.2, Or.inr (Or.inl ⟨v, .int, rfl, rfl, d_Va_link_9, rfl, hP⟩)⟩
abbrev M_Va_end : MW := (⟨"UseOnceMachine$Value", "end", "(J)I"⟩, prog_8_method_9_code, 2, (some .int))
theorem hy_Va_end : M_Va_end.1.cls ≠ "java/lang/invoke/MethodHandle" ∧ M_Va_end.1.cls ≠ "java/lang/invoke/VarHandle" ∧ (parseMethodDescriptor M_Va_end.1.desc).map (fun d => d.parameters.length) = some 1 := by decide +kernel
theorem d_Va_end_0 : decode prog_8_method_9_code 0 = .ok (.lload_n 0, 1) := by decide +kernel
theorem s_Va_end_0 {x : Int64} (hl : lg lv 0 = some (.long x)) (k : ev G M_Va_end R E 1 lv (.long x :: rest) h cells slots) : ev G M_Va_end R E 0 lv rest h cells slots := ev_lload_n d_Va_end_0 rfl hl k
theorem d_Va_end_1 : decode prog_8_method_9_code 1 = .ok (.bipush 8, 2) := by decide +kernel
theorem s_Va_end_1  (k : ev G M_Va_end R E 3 lv (.int 8 :: rest) h cells slots) : ev G M_Va_end R E 1 lv rest h cells slots := ev_bipush d_Va_end_1 (by decide) k
theorem d_Va_end_3 : decode prog_8_method_9_code 3 = .ok (.lushr, 1) := by decide +kernel
theorem s_Va_end_3 {x : Int64} {y : Int32} (k : ev G M_Va_end R E 4 lv (.long ((x.toUInt64 >>> (y.toInt64.toUInt64 &&& Int64.toUInt64 63)).toInt64) :: rest) h cells slots) : ev G M_Va_end R E 3 lv (.int y :: .long x :: rest) h cells slots := ev_lushr d_Va_end_3 k
theorem d_Va_end_4 : decode prog_8_method_9_code 4 = .ok (.l2i, 1) := by decide +kernel
theorem s_Va_end_4 {x : Int64} (k : ev G M_Va_end R E 5 lv (.int x.toInt32 :: rest) h cells slots) : ev G M_Va_end R E 4 lv (.long x :: rest) h cells slots := ev_l2i d_Va_end_4 k
theorem d_Va_end_5 : decode prog_8_method_9_code 5 = .ok (.sipush 255, 3) := by decide +kernel
theorem s_Va_end_5  (k : ev G M_Va_end R E 8 lv (.int 255 :: rest) h cells slots) : ev G M_Va_end R E 5 lv rest h cells slots := ev_sipush d_Va_end_5 (by decide) k
theorem d_Va_end_8 : decode prog_8_method_9_code 8 = .ok (.iand, 1) := by decide +kernel
theorem s_Va_end_8 {x y : Int32} (k : ev G M_Va_end R E 9 lv (.int (x &&& y) :: rest) h cells slots) : ev G M_Va_end R E 8 lv (.int y :: .int x :: rest) h cells slots := ev_iand d_Va_end_8 k
theorem d_Va_end_9 : decode prog_8_method_9_code 9 = .ok (.ireturn, 1) := by decide +kernel
theorem s_Va_end_9 {P : Option Value → HP → Prop} {mc ms : Nat} {v : Int32} (hP : P (some (.int v)) h) (hc : cells ≤ mc ∧ slots ≤ ms) : ev G M_Va_end R (Er M_Va_end P mc ms) 9 lv [.int v] h cells slots := ev_exit ⟨hc.1, hc.2, Or.inr (Or.inl ⟨v, .int, rfl, rfl, d_Va_end_9, rfl, hP⟩)⟩
abbrev M_Va_from : MW := (⟨"UseOnceMachine$Value", "from", "(J)I"⟩, prog_8_method_8_code, 2, (some .int))
theorem hy_Va_from : M_Va_from.1.cls ≠ "java/lang/invoke/MethodHandle" ∧ M_Va_from.1.cls ≠ "java/lang/invoke/VarHandle" ∧ (parseMethodDescriptor M_Va_from.1.desc).map (fun d => d.parameters.length) = some 1 := by decide +kernel
theorem d_Va_from_0 : decode prog_8_method_8_code 0 = .ok (.lload_n 0, 1) := by decide +kernel
theorem s_Va_from_0 {x : Int64} (hl : lg lv 0 = some (.long x)) (k : ev G M_Va_from R E 1 lv (.long x :: rest) h cells slots) : ev G M_Va_from R E 0 lv rest h cells slots := ev_lload_n d_Va_from_0 rfl hl k
theorem d_Va_from_1 : decode prog_8_method_8_code 1 = .ok (.l2i, 1) := by decide +kernel
theorem s_Va_from_1 {x : Int64} (k : ev G M_Va_from R E 2 lv (.int x.toInt32 :: rest) h cells slots) : ev G M_Va_from R E 1 lv (.long x :: rest) h cells slots := ev_l2i d_Va_from_1 k
theorem d_Va_from_2 : decode prog_8_method_8_code 2 = .ok (.sipush 255, 3) := by decide +kernel
theorem s_Va_from_2  (k : ev G M_Va_from R E 5 lv (.int 255 :: rest) h cells slots) : ev G M_Va_from R E 2 lv rest h cells slots := ev_sipush d_Va_from_2 (by decide) k
theorem d_Va_from_5 : decode prog_8_method_8_code 5 = .ok (.iand, 1) := by decide +kernel
theorem s_Va_from_5 {x y : Int32} (k : ev G M_Va_from R E 6 lv (.int (x &&& y) :: rest) h cells slots) : ev G M_Va_from R E 5 lv (.int y :: .int x :: rest) h cells slots := ev_iand d_Va_from_5 k
theorem d_Va_from_6 : decode prog_8_method_8_code 6 = .ok (.ireturn, 1) := by decide +kernel
theorem s_Va_from_6 {P : Option Value → HP → Prop} {mc ms : Nat} {v : Int32} (hP : P (some (.int v)) h) (hc : cells ≤ mc ∧ slots ≤ ms) : ev G M_Va_from R (Er M_Va_from P mc ms) 6 lv [.int v] h cells slots := ev_exit ⟨hc.1, hc.2, Or.inr (Or.inl ⟨v, .int, rfl, rfl, d_Va_from_6, rfl, hP⟩)⟩
abbrev M_Va_length : MW := (⟨"UseOnceMachine$Value", "length", "(J)I"⟩, prog_8_method_17_code, 2, (some .int))
theorem hy_Va_length : M_Va_length.1.cls ≠ "java/lang/invoke/MethodHandle" ∧ M_Va_length.1.cls ≠ "java/lang/invoke/VarHandle" ∧ (parseMethodDescriptor M_Va_length.1.desc).map (fun d => d.parameters.length) = some 1 := by decide +kernel
theorem d_Va_length_0 : decode prog_8_method_17_code 0 = .ok (.lload_n 0, 1) := by decide +kernel
theorem s_Va_length_0 {x : Int64} (hl : lg lv 0 = some (.long x)) (k : ev G M_Va_length R E 1 lv (.long x :: rest) h cells slots) : ev G M_Va_length R E 0 lv rest h cells slots := ev_lload_n d_Va_length_0 rfl hl k
theorem d_Va_length_1 : decode prog_8_method_17_code 1 = .ok (.invokestatic 31, 3) := by decide +kernel
theorem s_Va_length_1 {mc ms : Nat} {P : Option Value → HP → Prop} {a0 : Int64} (hm : mt G M_Va_end 0 mc ms [.long a0] h P) (hR : 0 + 1 ≤ R.frames ∧ 8 + (2 + 11) + 39 * 0 ≤ R.locals) (hcs : cells + mc ≤ R.cells ∧ slots + ms ≤ R.slots) (hrest : (rest.map fun v => v.category).sum ≤ 8) (k : ∀ (r : Option Value) (h' : HP), P r h' → ev G M_Va_length R E 4 lv (r.toList ++ rest) h' (cells + mc) (slots + ms)) : ev G M_Va_length R E 1 lv (.long a0 :: rest) h cells slots := ev_callS (as := [.long a0]) d_Va_length_1 hm w_437 w_438 w_72 w_439 hy_Va_end hR hcs hrest k
theorem d_Va_length_4 : decode prog_8_method_17_code 4 = .ok (.lload_n 0, 1) := by decide +kernel
theorem s_Va_length_4 {x : Int64} (hl : lg lv 0 = some (.long x)) (k : ev G M_Va_length R E 5 lv (.long x :: rest) h cells slots) : ev G M_Va_length R E 4 lv rest h cells slots := ev_lload_n d_Va_length_4 rfl hl k
theorem d_Va_length_5 : decode prog_8_method_17_code 5 = .ok (.invokestatic 28, 3) := by decide +kernel
theorem s_Va_length_5 {mc ms : Nat} {P : Option Value → HP → Prop} {a0 : Int64} (hm : mt G M_Va_from 0 mc ms [.long a0] h P) (hR : 0 + 1 ≤ R.frames ∧ 8 + (2 + 11) + 39 * 0 ≤ R.locals) (hcs : cells + mc ≤ R.cells ∧ slots + ms ≤ R.slots) (hrest : (rest.map fun v => v.category).sum ≤ 8) (k : ∀ (r : Option Value) (h' : HP), P r h' → ev G M_Va_length R E 8 lv (r.toList ++ rest) h' (cells + mc) (slots + ms)) : ev G M_Va_length R E 5 lv (.long a0 :: rest) h cells slots := ev_callS (as := [.long a0]) d_Va_length_5 hm w_440 w_441 w_72 w_442 hy_Va_from hR hcs hrest k
theorem d_Va_length_8 : decode prog_8_method_17_code 8 = .ok (.isub, 1) := by decide +kernel
theorem s_Va_length_8 {x y : Int32} (k : ev G M_Va_length R E 9 lv (.int (x - y) :: rest) h cells slots) : ev G M_Va_length R E 8 lv (.int y :: .int x :: rest) h cells slots := ev_isub d_Va_length_8 k
theorem d_Va_length_9 : decode prog_8_method_17_code 9 = .ok (.ireturn, 1) := by decide +kernel
theorem s_Va_length_9 {P : Option Value → HP → Prop} {mc ms : Nat} {v : Int32} (hP : P (some (.int v)) h) (hc : cells ≤ mc ∧ slots ≤ ms) : ev G M_Va_length R (Er M_Va_length P mc ms) 9 lv [.int v] h cells slots := ev_exit ⟨hc.1, hc.2, Or.inr (Or.inl ⟨v, .int, rfl, rfl, d_Va_length_9, rfl, hP⟩)⟩
abbrev M_Va_rights : MW := (⟨"UseOnceMachine$Value", "rights", "(J)I"⟩, prog_8_method_10_code, 2, (some .int))
theorem hy_Va_rights : M_Va_rights.1.cls ≠ "java/lang/invoke/MethodHandle" ∧ M_Va_rights.1.cls ≠ "java/lang/invoke/VarHandle" ∧ (parseMethodDescriptor M_Va_rights.1.desc).map (fun d => d.parameters.length) = some 1 := by decide +kernel
theorem d_Va_rights_0 : decode prog_8_method_10_code 0 = .ok (.lload_n 0, 1) := by decide +kernel
theorem s_Va_rights_0 {x : Int64} (hl : lg lv 0 = some (.long x)) (k : ev G M_Va_rights R E 1 lv (.long x :: rest) h cells slots) : ev G M_Va_rights R E 0 lv rest h cells slots := ev_lload_n d_Va_rights_0 rfl hl k
theorem d_Va_rights_1 : decode prog_8_method_10_code 1 = .ok (.bipush 16, 2) := by decide +kernel
theorem s_Va_rights_1  (k : ev G M_Va_rights R E 3 lv (.int 16 :: rest) h cells slots) : ev G M_Va_rights R E 1 lv rest h cells slots := ev_bipush d_Va_rights_1 (by decide) k
theorem d_Va_rights_3 : decode prog_8_method_10_code 3 = .ok (.lushr, 1) := by decide +kernel
theorem s_Va_rights_3 {x : Int64} {y : Int32} (k : ev G M_Va_rights R E 4 lv (.long ((x.toUInt64 >>> (y.toInt64.toUInt64 &&& Int64.toUInt64 63)).toInt64) :: rest) h cells slots) : ev G M_Va_rights R E 3 lv (.int y :: .long x :: rest) h cells slots := ev_lushr d_Va_rights_3 k
theorem d_Va_rights_4 : decode prog_8_method_10_code 4 = .ok (.l2i, 1) := by decide +kernel
theorem s_Va_rights_4 {x : Int64} (k : ev G M_Va_rights R E 5 lv (.int x.toInt32 :: rest) h cells slots) : ev G M_Va_rights R E 4 lv (.long x :: rest) h cells slots := ev_l2i d_Va_rights_4 k
theorem d_Va_rights_5 : decode prog_8_method_10_code 5 = .ok (.sipush 255, 3) := by decide +kernel
theorem s_Va_rights_5  (k : ev G M_Va_rights R E 8 lv (.int 255 :: rest) h cells slots) : ev G M_Va_rights R E 5 lv rest h cells slots := ev_sipush d_Va_rights_5 (by decide) k
theorem d_Va_rights_8 : decode prog_8_method_10_code 8 = .ok (.iand, 1) := by decide +kernel
theorem s_Va_rights_8 {x y : Int32} (k : ev G M_Va_rights R E 9 lv (.int (x &&& y) :: rest) h cells slots) : ev G M_Va_rights R E 8 lv (.int y :: .int x :: rest) h cells slots := ev_iand d_Va_rights_8 k
theorem d_Va_rights_9 : decode prog_8_method_10_code 9 = .ok (.ireturn, 1) := by decide +kernel
theorem s_Va_rights_9 {P : Option Value → HP → Prop} {mc ms : Nat} {v : Int32} (hP : P (some (.int v)) h) (hc : cells ≤ mc ∧ slots ≤ ms) : ev G M_Va_rights R (Er M_Va_rights P mc ms) 9 lv [.int v] h cells slots := ev_exit ⟨hc.1, hc.2, Or.inr (Or.inl ⟨v, .int, rfl, rfl, d_Va_rights_9, rfl, hP⟩)⟩
abbrev M_Jm_max : MW := (⟨"java/lang/Math", "max", "(II)I"⟩, prog_12_method_65_code, 2, (some .int))
theorem hy_Jm_max : M_Jm_max.1.cls ≠ "java/lang/invoke/MethodHandle" ∧ M_Jm_max.1.cls ≠ "java/lang/invoke/VarHandle" ∧ (parseMethodDescriptor M_Jm_max.1.desc).map (fun d => d.parameters.length) = some 2 := by decide +kernel
theorem d_Jm_max_0 : decode prog_12_method_65_code 0 = .ok (.iload_n 0, 1) := by decide +kernel
theorem s_Jm_max_0 {x : Int32} (hl : lg lv 0 = some (.int x)) (k : ev G M_Jm_max R E 1 lv (.int x :: rest) h cells slots) : ev G M_Jm_max R E 0 lv rest h cells slots := ev_iload_n d_Jm_max_0 rfl hl k
theorem d_Jm_max_1 : decode prog_12_method_65_code 1 = .ok (.iload_n 1, 1) := by decide +kernel
theorem s_Jm_max_1 {x : Int32} (hl : lg lv 1 = some (.int x)) (k : ev G M_Jm_max R E 2 lv (.int x :: rest) h cells slots) : ev G M_Jm_max R E 1 lv rest h cells slots := ev_iload_n d_Jm_max_1 rfl hl k
theorem d_Jm_max_2 : decode prog_12_method_65_code 2 = .ok (.if_icmp .lt 7, 3) := by decide +kernel
theorem s_Jm_max_2 {x y : Int32} (kt : x < y → ev G M_Jm_max R E 9 lv rest h cells slots) (kf : ¬ x < y → ev G M_Jm_max R E 5 lv rest h cells slots) : ev G M_Jm_max R E 2 lv (.int y :: .int x :: rest) h cells slots := ev_icmp_lt d_Jm_max_2 (by decide) kt kf
theorem d_Jm_max_5 : decode prog_12_method_65_code 5 = .ok (.iload_n 0, 1) := by decide +kernel
theorem s_Jm_max_5 {x : Int32} (hl : lg lv 0 = some (.int x)) (k : ev G M_Jm_max R E 6 lv (.int x :: rest) h cells slots) : ev G M_Jm_max R E 5 lv rest h cells slots := ev_iload_n d_Jm_max_5 rfl hl k
theorem d_Jm_max_6 : decode prog_12_method_65_code 6 = .ok (.goto 4, 3) := by decide +kernel
theorem s_Jm_max_6  (k : ev G M_Jm_max R E 10 lv rest h cells slots) : ev G M_Jm_max R E 6 lv rest h cells slots := ev_goto d_Jm_max_6 (by decide) k
theorem d_Jm_max_9 : decode prog_12_method_65_code 9 = .ok (.iload_n 1, 1) := by decide +kernel
theorem s_Jm_max_9 {x : Int32} (hl : lg lv 1 = some (.int x)) (k : ev G M_Jm_max R E 10 lv (.int x :: rest) h cells slots) : ev G M_Jm_max R E 9 lv rest h cells slots := ev_iload_n d_Jm_max_9 rfl hl k
theorem d_Jm_max_10 : decode prog_12_method_65_code 10 = .ok (.ireturn, 1) := by decide +kernel
theorem s_Jm_max_10 {P : Option Value → HP → Prop} {mc ms : Nat} {v : Int32} (hP : P (some (.int v)) h) (hc : cells ≤ mc ∧ slots ≤ ms) : ev G M_Jm_max R (Er M_Jm_max P mc ms) 10 lv [.int v] h cells slots := ev_exit ⟨hc.1, hc.2, Or.inr (Or.inl ⟨v, .int, rfl, rfl, d_Jm_max_10, rfl, hP⟩)⟩
abbrev M_Va_shared : MW := (⟨"UseOnceMachine$Value", "shared", "(III)J"⟩, prog_8_method_4_code, 3, (some .long))
theorem hy_Va_shared : M_Va_shared.1.cls ≠ "java/lang/invoke/MethodHandle" ∧ M_Va_shared.1.cls ≠ "java/lang/invoke/VarHandle" ∧ (parseMethodDescriptor M_Va_shared.1.desc).map (fun d => d.parameters.length) = some 3 := by decide +kernel
theorem d_Va_shared_0 : decode prog_8_method_4_code 0 = .ok (.iconst 2, 1) := by decide +kernel
theorem s_Va_shared_0  (k : ev G M_Va_shared R E 1 lv (.int 2 :: rest) h cells slots) : ev G M_Va_shared R E 0 lv rest h cells slots := ev_iconst d_Va_shared_0 (by decide) k
theorem d_Va_shared_1 : decode prog_8_method_4_code 1 = .ok (.iload_n 0, 1) := by decide +kernel
theorem s_Va_shared_1 {x : Int32} (hl : lg lv 0 = some (.int x)) (k : ev G M_Va_shared R E 2 lv (.int x :: rest) h cells slots) : ev G M_Va_shared R E 1 lv rest h cells slots := ev_iload_n d_Va_shared_1 rfl hl k
theorem d_Va_shared_2 : decode prog_8_method_4_code 2 = .ok (.iload_n 1, 1) := by decide +kernel
theorem s_Va_shared_2 {x : Int32} (hl : lg lv 1 = some (.int x)) (k : ev G M_Va_shared R E 3 lv (.int x :: rest) h cells slots) : ev G M_Va_shared R E 2 lv rest h cells slots := ev_iload_n d_Va_shared_2 rfl hl k
theorem d_Va_shared_3 : decode prog_8_method_4_code 3 = .ok (.iconst 1, 1) := by decide +kernel
theorem s_Va_shared_3  (k : ev G M_Va_shared R E 4 lv (.int 1 :: rest) h cells slots) : ev G M_Va_shared R E 3 lv rest h cells slots := ev_iconst d_Va_shared_3 (by decide) k
theorem d_Va_shared_4 : decode prog_8_method_4_code 4 = .ok (.iload_n 2, 1) := by decide +kernel
theorem s_Va_shared_4 {x : Int32} (hl : lg lv 2 = some (.int x)) (k : ev G M_Va_shared R E 5 lv (.int x :: rest) h cells slots) : ev G M_Va_shared R E 4 lv rest h cells slots := ev_iload_n d_Va_shared_4 rfl hl k
theorem d_Va_shared_5 : decode prog_8_method_4_code 5 = .ok (.invokestatic 11, 3) := by decide +kernel
theorem s_Va_shared_5 {mc ms : Nat} {P : Option Value → HP → Prop} {a0 : Int32} {a1 : Int32} {a2 : Int32} {a3 : Int32} {a4 : Int32} (hm : mt G M_Va_pack 0 mc ms [.int a0, .int a1, .int a2, .int a3, .int a4] h P) (hR : 0 + 1 ≤ R.frames ∧ 8 + (5 + 11) + 39 * 0 ≤ R.locals) (hcs : cells + mc ≤ R.cells ∧ slots + ms ≤ R.slots) (hrest : (rest.map fun v => v.category).sum ≤ 8) (k : ∀ (r : Option Value) (h' : HP), P r h' → ev G M_Va_shared R E 8 lv (r.toList ++ rest) h' (cells + mc) (slots + ms)) : ev G M_Va_shared R E 5 lv (.int a4 :: .int a3 :: .int a2 :: .int a1 :: .int a0 :: rest) h cells slots := ev_callS (as := [.int a0, .int a1, .int a2, .int a3, .int a4]) d_Va_shared_5 hm w_300 w_301 w_72 w_302 hy_Va_pack hR hcs hrest k
theorem d_Va_shared_8 : decode prog_8_method_4_code 8 = .ok (.lreturn, 1) := by decide +kernel
theorem s_Va_shared_8 {P : Option Value → HP → Prop} {mc ms : Nat} {v : Int64} (hP : P (some (.long v)) h) (hc : cells ≤ mc ∧ slots ≤ ms) : ev G M_Va_shared R (Er M_Va_shared P mc ms) 8 lv [.long v] h cells slots := ev_exit ⟨hc.1, hc.2, Or.inr (Or.inr ⟨v, rfl, d_Va_shared_8, rfl, hP⟩)⟩
abbrev M_Va_isCapability : MW := (⟨"UseOnceMachine$Value", "isCapability", "(J)Z"⟩, prog_8_method_13_code, 2, (some .boolean))
theorem hy_Va_isCapability : M_Va_isCapability.1.cls ≠ "java/lang/invoke/MethodHandle" ∧ M_Va_isCapability.1.cls ≠ "java/lang/invoke/VarHandle" ∧ (parseMethodDescriptor M_Va_isCapability.1.desc).map (fun d => d.parameters.length) = some 1 := by decide +kernel
theorem d_Va_isCapability_0 : decode prog_8_method_13_code 0 = .ok (.lload_n 0, 1) := by decide +kernel
theorem s_Va_isCapability_0 {x : Int64} (hl : lg lv 0 = some (.long x)) (k : ev G M_Va_isCapability R E 1 lv (.long x :: rest) h cells slots) : ev G M_Va_isCapability R E 0 lv rest h cells slots := ev_lload_n d_Va_isCapability_0 rfl hl k
theorem d_Va_isCapability_1 : decode prog_8_method_13_code 1 = .ok (.invokestatic 17, 3) := by decide +kernel
theorem s_Va_isCapability_1 {mc ms : Nat} {P : Option Value → HP → Prop} {a0 : Int64} (hm : mt G M_Va_kind 0 mc ms [.long a0] h P) (hR : 0 + 1 ≤ R.frames ∧ 8 + (2 + 11) + 39 * 0 ≤ R.locals) (hcs : cells + mc ≤ R.cells ∧ slots + ms ≤ R.slots) (hrest : (rest.map fun v => v.category).sum ≤ 8) (k : ∀ (r : Option Value) (h' : HP), P r h' → ev G M_Va_isCapability R E 4 lv (r.toList ++ rest) h' (cells + mc) (slots + ms)) : ev G M_Va_isCapability R E 1 lv (.long a0 :: rest) h cells slots := ev_callS (as := [.long a0]) d_Va_isCapability_1 hm w_380 w_381 w_72 w_382 hy_Va_kind hR hcs hrest k
theorem d_Va_isCapability_4 : decode prog_8_method_13_code 4 = .ok (.iconst 1, 1) := by decide +kernel
theorem s_Va_isCapability_4  (k : ev G M_Va_isCapability R E 5 lv (.int 1 :: rest) h cells slots) : ev G M_Va_isCapability R E 4 lv rest h cells slots := ev_iconst d_Va_isCapability_4 (by decide) k
theorem d_Va_isCapability_5 : decode prog_8_method_13_code 5 = .ok (.if_icmp .eq 11, 3) := by decide +kernel
theorem s_Va_isCapability_5 {x y : Int32} (kt : x = y → ev G M_Va_isCapability R E 16 lv rest h cells slots) (kf : ¬ x = y → ev G M_Va_isCapability R E 8 lv rest h cells slots) : ev G M_Va_isCapability R E 5 lv (.int y :: .int x :: rest) h cells slots := ev_icmp_eq d_Va_isCapability_5 (by decide) kt kf
theorem d_Va_isCapability_8 : decode prog_8_method_13_code 8 = .ok (.lload_n 0, 1) := by decide +kernel
theorem s_Va_isCapability_8 {x : Int64} (hl : lg lv 0 = some (.long x)) (k : ev G M_Va_isCapability R E 9 lv (.long x :: rest) h cells slots) : ev G M_Va_isCapability R E 8 lv rest h cells slots := ev_lload_n d_Va_isCapability_8 rfl hl k
theorem d_Va_isCapability_9 : decode prog_8_method_13_code 9 = .ok (.invokestatic 17, 3) := by decide +kernel
theorem s_Va_isCapability_9 {mc ms : Nat} {P : Option Value → HP → Prop} {a0 : Int64} (hm : mt G M_Va_kind 0 mc ms [.long a0] h P) (hR : 0 + 1 ≤ R.frames ∧ 8 + (2 + 11) + 39 * 0 ≤ R.locals) (hcs : cells + mc ≤ R.cells ∧ slots + ms ≤ R.slots) (hrest : (rest.map fun v => v.category).sum ≤ 8) (k : ∀ (r : Option Value) (h' : HP), P r h' → ev G M_Va_isCapability R E 12 lv (r.toList ++ rest) h' (cells + mc) (slots + ms)) : ev G M_Va_isCapability R E 9 lv (.long a0 :: rest) h cells slots := ev_callS (as := [.long a0]) d_Va_isCapability_9 hm w_380 w_381 w_72 w_382 hy_Va_kind hR hcs hrest k
theorem d_Va_isCapability_12 : decode prog_8_method_13_code 12 = .ok (.iconst 2, 1) := by decide +kernel
theorem s_Va_isCapability_12  (k : ev G M_Va_isCapability R E 13 lv (.int 2 :: rest) h cells slots) : ev G M_Va_isCapability R E 12 lv rest h cells slots := ev_iconst d_Va_isCapability_12 (by decide) k
theorem d_Va_isCapability_13 : decode prog_8_method_13_code 13 = .ok (.if_icmp .ne 7, 3) := by decide +kernel
theorem s_Va_isCapability_13 {x y : Int32} (kt : ¬ x = y → ev G M_Va_isCapability R E 20 lv rest h cells slots) (kf : x = y → ev G M_Va_isCapability R E 16 lv rest h cells slots) : ev G M_Va_isCapability R E 13 lv (.int y :: .int x :: rest) h cells slots := ev_icmp_ne d_Va_isCapability_13 (by decide) kt kf
theorem d_Va_isCapability_16 : decode prog_8_method_13_code 16 = .ok (.iconst 1, 1) := by decide +kernel
theorem s_Va_isCapability_16  (k : ev G M_Va_isCapability R E 17 lv (.int 1 :: rest) h cells slots) : ev G M_Va_isCapability R E 16 lv rest h cells slots := ev_iconst d_Va_isCapability_16 (by decide) k
theorem d_Va_isCapability_17 : decode prog_8_method_13_code 17 = .ok (.goto 4, 3) := by decide +kernel
theorem s_Va_isCapability_17  (k : ev G M_Va_isCapability R E 21 lv rest h cells slots) : ev G M_Va_isCapability R E 17 lv rest h cells slots := ev_goto d_Va_isCapability_17 (by decide) k
theorem d_Va_isCapability_20 : decode prog_8_method_13_code 20 = .ok (.iconst 0, 1) := by decide +kernel
theorem s_Va_isCapability_20  (k : ev G M_Va_isCapability R E 21 lv (.int 0 :: rest) h cells slots) : ev G M_Va_isCapability R E 20 lv rest h cells slots := ev_iconst d_Va_isCapability_20 (by decide) k
theorem d_Va_isCapability_21 : decode prog_8_method_13_code 21 = .ok (.ireturn, 1) := by decide +kernel
theorem s_Va_isCapability_21 {P : Option Value → HP → Prop} {mc ms : Nat} {v : Int32} (hz : v = 0 ∨ v = 1) (hP : P (some (.int v)) h) (hc : cells ≤ mc ∧ slots ≤ ms) : ev G M_Va_isCapability R (Er M_Va_isCapability P mc ms) 21 lv [.int v] h cells slots := ev_exit ⟨hc.1, hc.2, Or.inr (Or.inl ⟨v, .boolean, rfl, (nar_z hz), d_Va_isCapability_21, rfl, hP⟩)⟩
abbrev M_Va_hasRight : MW := (⟨"UseOnceMachine$Value", "hasRight", "(JI)Z"⟩, prog_8_method_15_code, 3, (some .boolean))
theorem hy_Va_hasRight : M_Va_hasRight.1.cls ≠ "java/lang/invoke/MethodHandle" ∧ M_Va_hasRight.1.cls ≠ "java/lang/invoke/VarHandle" ∧ (parseMethodDescriptor M_Va_hasRight.1.desc).map (fun d => d.parameters.length) = some 2 := by decide +kernel
theorem d_Va_hasRight_0 : decode prog_8_method_15_code 0 = .ok (.lload_n 0, 1) := by decide +kernel
theorem s_Va_hasRight_0 {x : Int64} (hl : lg lv 0 = some (.long x)) (k : ev G M_Va_hasRight R E 1 lv (.long x :: rest) h cells slots) : ev G M_Va_hasRight R E 0 lv rest h cells slots := ev_lload_n d_Va_hasRight_0 rfl hl k
theorem d_Va_hasRight_1 : decode prog_8_method_15_code 1 = .ok (.invokestatic 21, 3) := by decide +kernel
theorem s_Va_hasRight_1 {mc ms : Nat} {P : Option Value → HP → Prop} {a0 : Int64} (hm : mt G M_Va_isCapability 1 mc ms [.long a0] h P) (hR : 1 + 1 ≤ R.frames ∧ 8 + (2 + 11) + 39 * 1 ≤ R.locals) (hcs : cells + mc ≤ R.cells ∧ slots + ms ≤ R.slots) (hrest : (rest.map fun v => v.category).sum ≤ 8) (k : ∀ (r : Option Value) (h' : HP), P r h' → ev G M_Va_hasRight R E 4 lv (r.toList ++ rest) h' (cells + mc) (slots + ms)) : ev G M_Va_hasRight R E 1 lv (.long a0 :: rest) h cells slots := ev_callS (as := [.long a0]) d_Va_hasRight_1 hm w_510 w_501 w_72 w_502 hy_Va_isCapability hR hcs hrest k
theorem d_Va_hasRight_4 : decode prog_8_method_15_code 4 = .ok (.ifCond .eq 16, 3) := by decide +kernel
theorem s_Va_hasRight_4 {x : Int32} (kt : x = 0 → ev G M_Va_hasRight R E 20 lv rest h cells slots) (kf : ¬ x = 0 → ev G M_Va_hasRight R E 7 lv rest h cells slots) : ev G M_Va_hasRight R E 4 lv (.int x :: rest) h cells slots := ev_if_eq d_Va_hasRight_4 (by decide) kt kf
theorem d_Va_hasRight_7 : decode prog_8_method_15_code 7 = .ok (.lload_n 0, 1) := by decide +kernel
theorem s_Va_hasRight_7 {x : Int64} (hl : lg lv 0 = some (.long x)) (k : ev G M_Va_hasRight R E 8 lv (.long x :: rest) h cells slots) : ev G M_Va_hasRight R E 7 lv rest h cells slots := ev_lload_n d_Va_hasRight_7 rfl hl k
theorem d_Va_hasRight_8 : decode prog_8_method_15_code 8 = .ok (.invokestatic 25, 3) := by decide +kernel
theorem s_Va_hasRight_8 {mc ms : Nat} {P : Option Value → HP → Prop} {a0 : Int64} (hm : mt G M_Va_rights 0 mc ms [.long a0] h P) (hR : 0 + 1 ≤ R.frames ∧ 8 + (2 + 11) + 39 * 0 ≤ R.locals) (hcs : cells + mc ≤ R.cells ∧ slots + ms ≤ R.slots) (hrest : (rest.map fun v => v.category).sum ≤ 8) (k : ∀ (r : Option Value) (h' : HP), P r h' → ev G M_Va_hasRight R E 11 lv (r.toList ++ rest) h' (cells + mc) (slots + ms)) : ev G M_Va_hasRight R E 8 lv (.long a0 :: rest) h cells slots := ev_callS (as := [.long a0]) d_Va_hasRight_8 hm w_511 w_445 w_72 w_446 hy_Va_rights hR hcs hrest k
theorem d_Va_hasRight_11 : decode prog_8_method_15_code 11 = .ok (.iload_n 2, 1) := by decide +kernel
theorem s_Va_hasRight_11 {x : Int32} (hl : lg lv 2 = some (.int x)) (k : ev G M_Va_hasRight R E 12 lv (.int x :: rest) h cells slots) : ev G M_Va_hasRight R E 11 lv rest h cells slots := ev_iload_n d_Va_hasRight_11 rfl hl k
theorem d_Va_hasRight_12 : decode prog_8_method_15_code 12 = .ok (.iand, 1) := by decide +kernel
theorem s_Va_hasRight_12 {x y : Int32} (k : ev G M_Va_hasRight R E 13 lv (.int (x &&& y) :: rest) h cells slots) : ev G M_Va_hasRight R E 12 lv (.int y :: .int x :: rest) h cells slots := ev_iand d_Va_hasRight_12 k
theorem d_Va_hasRight_13 : decode prog_8_method_15_code 13 = .ok (.ifCond .eq 7, 3) := by decide +kernel
theorem s_Va_hasRight_13 {x : Int32} (kt : x = 0 → ev G M_Va_hasRight R E 20 lv rest h cells slots) (kf : ¬ x = 0 → ev G M_Va_hasRight R E 16 lv rest h cells slots) : ev G M_Va_hasRight R E 13 lv (.int x :: rest) h cells slots := ev_if_eq d_Va_hasRight_13 (by decide) kt kf
theorem d_Va_hasRight_16 : decode prog_8_method_15_code 16 = .ok (.iconst 1, 1) := by decide +kernel
theorem s_Va_hasRight_16  (k : ev G M_Va_hasRight R E 17 lv (.int 1 :: rest) h cells slots) : ev G M_Va_hasRight R E 16 lv rest h cells slots := ev_iconst d_Va_hasRight_16 (by decide) k
theorem d_Va_hasRight_17 : decode prog_8_method_15_code 17 = .ok (.goto 4, 3) := by decide +kernel
theorem s_Va_hasRight_17  (k : ev G M_Va_hasRight R E 21 lv rest h cells slots) : ev G M_Va_hasRight R E 17 lv rest h cells slots := ev_goto d_Va_hasRight_17 (by decide) k
theorem d_Va_hasRight_20 : decode prog_8_method_15_code 20 = .ok (.iconst 0, 1) := by decide +kernel
theorem s_Va_hasRight_20  (k : ev G M_Va_hasRight R E 21 lv (.int 0 :: rest) h cells slots) : ev G M_Va_hasRight R E 20 lv rest h cells slots := ev_iconst d_Va_hasRight_20 (by decide) k
theorem d_Va_hasRight_21 : decode prog_8_method_15_code 21 = .ok (.ireturn, 1) := by decide +kernel
theorem s_Va_hasRight_21 {P : Option Value → HP → Prop} {mc ms : Nat} {v : Int32} (hz : v = 0 ∨ v = 1) (hP : P (some (.int v)) h) (hc : cells ≤ mc ∧ slots ≤ ms) : ev G M_Va_hasRight R (Er M_Va_hasRight P mc ms) 21 lv [.int v] h cells slots := ev_exit ⟨hc.1, hc.2, Or.inr (Or.inl ⟨v, .boolean, rfl, (nar_z hz), d_Va_hasRight_21, rfl, hP⟩)⟩
abbrev M_Va_seal : MW := (⟨"UseOnceMachine$Value", "seal", "(I)J"⟩, prog_8_method_5_code, 1, (some .long))
theorem hy_Va_seal : M_Va_seal.1.cls ≠ "java/lang/invoke/MethodHandle" ∧ M_Va_seal.1.cls ≠ "java/lang/invoke/VarHandle" ∧ (parseMethodDescriptor M_Va_seal.1.desc).map (fun d => d.parameters.length) = some 1 := by decide +kernel
theorem d_Va_seal_0 : decode prog_8_method_5_code 0 = .ok (.iconst 3, 1) := by decide +kernel
theorem s_Va_seal_0  (k : ev G M_Va_seal R E 1 lv (.int 3 :: rest) h cells slots) : ev G M_Va_seal R E 0 lv rest h cells slots := ev_iconst d_Va_seal_0 (by decide) k
theorem d_Va_seal_1 : decode prog_8_method_5_code 1 = .ok (.iconst 0, 1) := by decide +kernel
theorem s_Va_seal_1  (k : ev G M_Va_seal R E 2 lv (.int 0 :: rest) h cells slots) : ev G M_Va_seal R E 1 lv rest h cells slots := ev_iconst d_Va_seal_1 (by decide) k
theorem d_Va_seal_2 : decode prog_8_method_5_code 2 = .ok (.iconst 0, 1) := by decide +kernel
theorem s_Va_seal_2  (k : ev G M_Va_seal R E 3 lv (.int 0 :: rest) h cells slots) : ev G M_Va_seal R E 2 lv rest h cells slots := ev_iconst d_Va_seal_2 (by decide) k
theorem d_Va_seal_3 : decode prog_8_method_5_code 3 = .ok (.iconst 0, 1) := by decide +kernel
theorem s_Va_seal_3  (k : ev G M_Va_seal R E 4 lv (.int 0 :: rest) h cells slots) : ev G M_Va_seal R E 3 lv rest h cells slots := ev_iconst d_Va_seal_3 (by decide) k
theorem d_Va_seal_4 : decode prog_8_method_5_code 4 = .ok (.iload_n 0, 1) := by decide +kernel
theorem s_Va_seal_4 {x : Int32} (hl : lg lv 0 = some (.int x)) (k : ev G M_Va_seal R E 5 lv (.int x :: rest) h cells slots) : ev G M_Va_seal R E 4 lv rest h cells slots := ev_iload_n d_Va_seal_4 rfl hl k
theorem d_Va_seal_5 : decode prog_8_method_5_code 5 = .ok (.invokestatic 11, 3) := by decide +kernel
theorem s_Va_seal_5 {mc ms : Nat} {P : Option Value → HP → Prop} {a0 : Int32} {a1 : Int32} {a2 : Int32} {a3 : Int32} {a4 : Int32} (hm : mt G M_Va_pack 0 mc ms [.int a0, .int a1, .int a2, .int a3, .int a4] h P) (hR : 0 + 1 ≤ R.frames ∧ 8 + (5 + 11) + 39 * 0 ≤ R.locals) (hcs : cells + mc ≤ R.cells ∧ slots + ms ≤ R.slots) (hrest : (rest.map fun v => v.category).sum ≤ 8) (k : ∀ (r : Option Value) (h' : HP), P r h' → ev G M_Va_seal R E 8 lv (r.toList ++ rest) h' (cells + mc) (slots + ms)) : ev G M_Va_seal R E 5 lv (.int a4 :: .int a3 :: .int a2 :: .int a1 :: .int a0 :: rest) h cells slots := ev_callS (as := [.int a0, .int a1, .int a2, .int a3, .int a4]) d_Va_seal_5 hm w_300 w_301 w_72 w_302 hy_Va_pack hR hcs hrest k
theorem d_Va_seal_8 : decode prog_8_method_5_code 8 = .ok (.lreturn, 1) := by decide +kernel
theorem s_Va_seal_8 {P : Option Value → HP → Prop} {mc ms : Nat} {v : Int64} (hP : P (some (.long v)) h) (hc : cells ≤ mc ∧ slots ≤ ms) : ev G M_Va_seal R (Er M_Va_seal P mc ms) 8 lv [.long v] h cells slots := ev_exit ⟨hc.1, hc.2, Or.inr (Or.inr ⟨v, rfl, d_Va_seal_8, rfl, hP⟩)⟩
abbrev M_Jm_floorMod : MW := (⟨"java/lang/Math", "floorMod", "(II)I"⟩, prog_12_method_50_code, 3, (some .int))
theorem hy_Jm_floorMod : M_Jm_floorMod.1.cls ≠ "java/lang/invoke/MethodHandle" ∧ M_Jm_floorMod.1.cls ≠ "java/lang/invoke/VarHandle" ∧ (parseMethodDescriptor M_Jm_floorMod.1.desc).map (fun d => d.parameters.length) = some 2 := by decide +kernel
theorem d_Jm_floorMod_0 : decode prog_12_method_50_code 0 = .ok (.iload_n 0, 1) := by decide +kernel
theorem s_Jm_floorMod_0 {x : Int32} (hl : lg lv 0 = some (.int x)) (k : ev G M_Jm_floorMod R E 1 lv (.int x :: rest) h cells slots) : ev G M_Jm_floorMod R E 0 lv rest h cells slots := ev_iload_n d_Jm_floorMod_0 rfl hl k
theorem d_Jm_floorMod_1 : decode prog_12_method_50_code 1 = .ok (.iload_n 1, 1) := by decide +kernel
theorem s_Jm_floorMod_1 {x : Int32} (hl : lg lv 1 = some (.int x)) (k : ev G M_Jm_floorMod R E 2 lv (.int x :: rest) h cells slots) : ev G M_Jm_floorMod R E 1 lv rest h cells slots := ev_iload_n d_Jm_floorMod_1 rfl hl k
theorem d_Jm_floorMod_2 : decode prog_12_method_50_code 2 = .ok (.irem, 1) := by decide +kernel
theorem s_Jm_floorMod_2 {x y : Int32} (hne : ¬ y = 0) (k : ev G M_Jm_floorMod R E 3 lv (.int (x - x / y * y) :: rest) h cells slots) : ev G M_Jm_floorMod R E 2 lv (.int y :: .int x :: rest) h cells slots := ev_irem d_Jm_floorMod_2 hne k
theorem d_Jm_floorMod_3 : decode prog_12_method_50_code 3 = .ok (.istore_n 2, 1) := by decide +kernel
theorem s_Jm_floorMod_3 {x : Int32} (k : ev G M_Jm_floorMod R E 4 (ls1 lv 2 (.int x)) rest h cells slots) : ev G M_Jm_floorMod R E 3 lv (.int x :: rest) h cells slots := ev_istore_n d_Jm_floorMod_3 rfl (by decide) k
theorem d_Jm_floorMod_4 : decode prog_12_method_50_code 4 = .ok (.iload_n 0, 1) := by decide +kernel
theorem s_Jm_floorMod_4 {x : Int32} (hl : lg lv 0 = some (.int x)) (k : ev G M_Jm_floorMod R E 5 lv (.int x :: rest) h cells slots) : ev G M_Jm_floorMod R E 4 lv rest h cells slots := ev_iload_n d_Jm_floorMod_4 rfl hl k
theorem d_Jm_floorMod_5 : decode prog_12_method_50_code 5 = .ok (.iload_n 1, 1) := by decide +kernel
theorem s_Jm_floorMod_5 {x : Int32} (hl : lg lv 1 = some (.int x)) (k : ev G M_Jm_floorMod R E 6 lv (.int x :: rest) h cells slots) : ev G M_Jm_floorMod R E 5 lv rest h cells slots := ev_iload_n d_Jm_floorMod_5 rfl hl k
theorem d_Jm_floorMod_6 : decode prog_12_method_50_code 6 = .ok (.ixor, 1) := by decide +kernel
theorem s_Jm_floorMod_6 {x y : Int32} (k : ev G M_Jm_floorMod R E 7 lv (.int (x ^^^ y) :: rest) h cells slots) : ev G M_Jm_floorMod R E 6 lv (.int y :: .int x :: rest) h cells slots := ev_ixor d_Jm_floorMod_6 k
theorem d_Jm_floorMod_7 : decode prog_12_method_50_code 7 = .ok (.ifCond .ge 11, 3) := by decide +kernel
theorem s_Jm_floorMod_7 {x : Int32} (kt : 0 ≤ x → ev G M_Jm_floorMod R E 18 lv rest h cells slots) (kf : ¬ 0 ≤ x → ev G M_Jm_floorMod R E 10 lv rest h cells slots) : ev G M_Jm_floorMod R E 7 lv (.int x :: rest) h cells slots := ev_if_ge d_Jm_floorMod_7 (by decide) kt kf
theorem d_Jm_floorMod_10 : decode prog_12_method_50_code 10 = .ok (.iload_n 2, 1) := by decide +kernel
theorem s_Jm_floorMod_10 {x : Int32} (hl : lg lv 2 = some (.int x)) (k : ev G M_Jm_floorMod R E 11 lv (.int x :: rest) h cells slots) : ev G M_Jm_floorMod R E 10 lv rest h cells slots := ev_iload_n d_Jm_floorMod_10 rfl hl k
theorem d_Jm_floorMod_11 : decode prog_12_method_50_code 11 = .ok (.ifCond .eq 7, 3) := by decide +kernel
theorem s_Jm_floorMod_11 {x : Int32} (kt : x = 0 → ev G M_Jm_floorMod R E 18 lv rest h cells slots) (kf : ¬ x = 0 → ev G M_Jm_floorMod R E 14 lv rest h cells slots) : ev G M_Jm_floorMod R E 11 lv (.int x :: rest) h cells slots := ev_if_eq d_Jm_floorMod_11 (by decide) kt kf
theorem d_Jm_floorMod_14 : decode prog_12_method_50_code 14 = .ok (.iload_n 2, 1) := by decide +kernel
theorem s_Jm_floorMod_14 {x : Int32} (hl : lg lv 2 = some (.int x)) (k : ev G M_Jm_floorMod R E 15 lv (.int x :: rest) h cells slots) : ev G M_Jm_floorMod R E 14 lv rest h cells slots := ev_iload_n d_Jm_floorMod_14 rfl hl k
theorem d_Jm_floorMod_15 : decode prog_12_method_50_code 15 = .ok (.iload_n 1, 1) := by decide +kernel
theorem s_Jm_floorMod_15 {x : Int32} (hl : lg lv 1 = some (.int x)) (k : ev G M_Jm_floorMod R E 16 lv (.int x :: rest) h cells slots) : ev G M_Jm_floorMod R E 15 lv rest h cells slots := ev_iload_n d_Jm_floorMod_15 rfl hl k
theorem d_Jm_floorMod_16 : decode prog_12_method_50_code 16 = .ok (.iadd, 1) := by decide +kernel
theorem s_Jm_floorMod_16 {x y : Int32} (k : ev G M_Jm_floorMod R E 17 lv (.int (x + y) :: rest) h cells slots) : ev G M_Jm_floorMod R E 16 lv (.int y :: .int x :: rest) h cells slots := ev_iadd d_Jm_floorMod_16 k
theorem d_Jm_floorMod_17 : decode prog_12_method_50_code 17 = .ok (.ireturn, 1) := by decide +kernel
theorem s_Jm_floorMod_17 {P : Option Value → HP → Prop} {mc ms : Nat} {v : Int32} (hP : P (some (.int v)) h) (hc : cells ≤ mc ∧ slots ≤ ms) : ev G M_Jm_floorMod R (Er M_Jm_floorMod P mc ms) 17 lv [.int v] h cells slots := ev_exit ⟨hc.1, hc.2, Or.inr (Or.inl ⟨v, .int, rfl, rfl, d_Jm_floorMod_17, rfl, hP⟩)⟩
theorem d_Jm_floorMod_18 : decode prog_12_method_50_code 18 = .ok (.iload_n 2, 1) := by decide +kernel
theorem s_Jm_floorMod_18 {x : Int32} (hl : lg lv 2 = some (.int x)) (k : ev G M_Jm_floorMod R E 19 lv (.int x :: rest) h cells slots) : ev G M_Jm_floorMod R E 18 lv rest h cells slots := ev_iload_n d_Jm_floorMod_18 rfl hl k
theorem d_Jm_floorMod_19 : decode prog_12_method_50_code 19 = .ok (.ireturn, 1) := by decide +kernel
theorem s_Jm_floorMod_19 {P : Option Value → HP → Prop} {mc ms : Nat} {v : Int32} (hP : P (some (.int v)) h) (hc : cells ≤ mc ∧ slots ≤ ms) : ev G M_Jm_floorMod R (Er M_Jm_floorMod P mc ms) 19 lv [.int v] h cells slots := ev_exit ⟨hc.1, hc.2, Or.inr (Or.inl ⟨v, .int, rfl, rfl, d_Jm_floorMod_19, rfl, hP⟩)⟩
abbrev M_Va_field : MW := (⟨"UseOnceMachine$Value", "field", "(JI)I"⟩, prog_8_method_18_code, 3, (some .int))
theorem hy_Va_field : M_Va_field.1.cls ≠ "java/lang/invoke/MethodHandle" ∧ M_Va_field.1.cls ≠ "java/lang/invoke/VarHandle" ∧ (parseMethodDescriptor M_Va_field.1.desc).map (fun d => d.parameters.length) = some 2 := by decide +kernel
theorem d_Va_field_0 : decode prog_8_method_18_code 0 = .ok (.lload_n 0, 1) := by decide +kernel
theorem s_Va_field_0 {x : Int64} (hl : lg lv 0 = some (.long x)) (k : ev G M_Va_field R E 1 lv (.long x :: rest) h cells slots) : ev G M_Va_field R E 0 lv rest h cells slots := ev_lload_n d_Va_field_0 rfl hl k
theorem d_Va_field_1 : decode prog_8_method_18_code 1 = .ok (.invokestatic 34, 3) := by decide +kernel
theorem s_Va_field_1 {mc ms : Nat} {P : Option Value → HP → Prop} {a0 : Int64} (hm : mt G M_Va_isNumber 1 mc ms [.long a0] h P) (hR : 1 + 1 ≤ R.frames ∧ 8 + (2 + 11) + 39 * 1 ≤ R.locals) (hcs : cells + mc ≤ R.cells ∧ slots + ms ≤ R.slots) (hrest : (rest.map fun v => v.category).sum ≤ 8) (k : ∀ (r : Option Value) (h' : HP), P r h' → ev G M_Va_field R E 4 lv (r.toList ++ rest) h' (cells + mc) (slots + ms)) : ev G M_Va_field R E 1 lv (.long a0 :: rest) h cells slots := ev_callS (as := [.long a0]) d_Va_field_1 hm w_596 w_378 w_72 w_379 hy_Va_isNumber hR hcs hrest k
theorem d_Va_field_4 : decode prog_8_method_18_code 4 = .ok (.ifCond .eq 15, 3) := by decide +kernel
theorem s_Va_field_4 {x : Int32} (kt : x = 0 → ev G M_Va_field R E 19 lv rest h cells slots) (kf : ¬ x = 0 → ev G M_Va_field R E 7 lv rest h cells slots) : ev G M_Va_field R E 4 lv (.int x :: rest) h cells slots := ev_if_eq d_Va_field_4 (by decide) kt kf
theorem d_Va_field_7 : decode prog_8_method_18_code 7 = .ok (.iload_n 2, 1) := by decide +kernel
theorem s_Va_field_7 {x : Int32} (hl : lg lv 2 = some (.int x)) (k : ev G M_Va_field R E 8 lv (.int x :: rest) h cells slots) : ev G M_Va_field R E 7 lv rest h cells slots := ev_iload_n d_Va_field_7 rfl hl k
theorem d_Va_field_8 : decode prog_8_method_18_code 8 = .ok (.iconst 1, 1) := by decide +kernel
theorem s_Va_field_8  (k : ev G M_Va_field R E 9 lv (.int 1 :: rest) h cells slots) : ev G M_Va_field R E 8 lv rest h cells slots := ev_iconst d_Va_field_8 (by decide) k
theorem d_Va_field_9 : decode prog_8_method_18_code 9 = .ok (.if_icmp .ne 8, 3) := by decide +kernel
theorem s_Va_field_9 {x y : Int32} (kt : ¬ x = y → ev G M_Va_field R E 17 lv rest h cells slots) (kf : x = y → ev G M_Va_field R E 12 lv rest h cells slots) : ev G M_Va_field R E 9 lv (.int y :: .int x :: rest) h cells slots := ev_icmp_ne d_Va_field_9 (by decide) kt kf
theorem d_Va_field_12 : decode prog_8_method_18_code 12 = .ok (.lload_n 0, 1) := by decide +kernel
theorem s_Va_field_12 {x : Int64} (hl : lg lv 0 = some (.long x)) (k : ev G M_Va_field R E 13 lv (.long x :: rest) h cells slots) : ev G M_Va_field R E 12 lv rest h cells slots := ev_lload_n d_Va_field_12 rfl hl k
theorem d_Va_field_13 : decode prog_8_method_18_code 13 = .ok (.l2i, 1) := by decide +kernel
theorem s_Va_field_13 {x : Int64} (k : ev G M_Va_field R E 14 lv (.int x.toInt32 :: rest) h cells slots) : ev G M_Va_field R E 13 lv (.long x :: rest) h cells slots := ev_l2i d_Va_field_13 k
theorem d_Va_field_14 : decode prog_8_method_18_code 14 = .ok (.goto 4, 3) := by decide +kernel
theorem s_Va_field_14  (k : ev G M_Va_field R E 18 lv rest h cells slots) : ev G M_Va_field R E 14 lv rest h cells slots := ev_goto d_Va_field_14 (by decide) k
theorem d_Va_field_17 : decode prog_8_method_18_code 17 = .ok (.iconst 0, 1) := by decide +kernel
theorem s_Va_field_17  (k : ev G M_Va_field R E 18 lv (.int 0 :: rest) h cells slots) : ev G M_Va_field R E 17 lv rest h cells slots := ev_iconst d_Va_field_17 (by decide) k
theorem d_Va_field_18 : decode prog_8_method_18_code 18 = .ok (.ireturn, 1) := by decide +kernel
theorem s_Va_field_18 {P : Option Value → HP → Prop} {mc ms : Nat} {v : Int32} (hP : P (some (.int v)) h) (hc : cells ≤ mc ∧ slots ≤ ms) : ev G M_Va_field R (Er M_Va_field P mc ms) 18 lv [.int v] h cells slots := ev_exit ⟨hc.1, hc.2, Or.inr (Or.inl ⟨v, .int, rfl, rfl, d_Va_field_18, rfl, hP⟩)⟩
theorem d_Va_field_19 : decode prog_8_method_18_code 19 = .ok (.iload_n 2, 1) := by decide +kernel
theorem s_Va_field_19 {x : Int32} (hl : lg lv 2 = some (.int x)) (k : ev G M_Va_field R E 20 lv (.int x :: rest) h cells slots) : ev G M_Va_field R E 19 lv rest h cells slots := ev_iload_n d_Va_field_19 rfl hl k
theorem d_Va_field_20 : decode prog_8_method_18_code 20 = .ok (.tableswitch 52 0 3 #[32, 37, 42, 47], 32) := by decide +kernel
theorem s_Va_field_20_0  (k : ev G M_Va_field R E 52 lv rest h cells slots) : ev G M_Va_field R E 20 lv (.int 0 :: rest) h cells slots := ev_tableIn (off := 32) d_Va_field_20 (by decide) (by decide) (by decide +kernel) (by decide) k
theorem s_Va_field_20_1  (k : ev G M_Va_field R E 57 lv rest h cells slots) : ev G M_Va_field R E 20 lv (.int 1 :: rest) h cells slots := ev_tableIn (off := 37) d_Va_field_20 (by decide) (by decide) (by decide +kernel) (by decide) k
theorem s_Va_field_20_2  (k : ev G M_Va_field R E 62 lv rest h cells slots) : ev G M_Va_field R E 20 lv (.int 2 :: rest) h cells slots := ev_tableIn (off := 42) d_Va_field_20 (by decide) (by decide) (by decide +kernel) (by decide) k
theorem s_Va_field_20_3  (k : ev G M_Va_field R E 67 lv rest h cells slots) : ev G M_Va_field R E 20 lv (.int 3 :: rest) h cells slots := ev_tableIn (off := 47) d_Va_field_20 (by decide) (by decide) (by decide +kernel) (by decide) k
theorem s_Va_field_20_d {x : Int32} (hx : x.toInt < 0 ∨ 3 < x.toInt) (k : ev G M_Va_field R E 72 lv rest h cells slots) : ev G M_Va_field R E 20 lv (.int x :: rest) h cells slots := ev_tableOut d_Va_field_20 hx (by decide) k
theorem d_Va_field_52 : decode prog_8_method_18_code 52 = .ok (.lload_n 0, 1) := by decide +kernel
theorem s_Va_field_52 {x : Int64} (hl : lg lv 0 = some (.long x)) (k : ev G M_Va_field R E 53 lv (.long x :: rest) h cells slots) : ev G M_Va_field R E 52 lv rest h cells slots := ev_lload_n d_Va_field_52 rfl hl k
theorem d_Va_field_53 : decode prog_8_method_18_code 53 = .ok (.invokestatic 17, 3) := by decide +kernel
theorem s_Va_field_53 {mc ms : Nat} {P : Option Value → HP → Prop} {a0 : Int64} (hm : mt G M_Va_kind 0 mc ms [.long a0] h P) (hR : 0 + 1 ≤ R.frames ∧ 8 + (2 + 11) + 39 * 0 ≤ R.locals) (hcs : cells + mc ≤ R.cells ∧ slots + ms ≤ R.slots) (hrest : (rest.map fun v => v.category).sum ≤ 8) (k : ∀ (r : Option Value) (h' : HP), P r h' → ev G M_Va_field R E 56 lv (r.toList ++ rest) h' (cells + mc) (slots + ms)) : ev G M_Va_field R E 53 lv (.long a0 :: rest) h cells slots := ev_callS (as := [.long a0]) d_Va_field_53 hm w_380 w_381 w_72 w_382 hy_Va_kind hR hcs hrest k
theorem d_Va_field_56 : decode prog_8_method_18_code 56 = .ok (.ireturn, 1) := by decide +kernel
theorem s_Va_field_56 {P : Option Value → HP → Prop} {mc ms : Nat} {v : Int32} (hP : P (some (.int v)) h) (hc : cells ≤ mc ∧ slots ≤ ms) : ev G M_Va_field R (Er M_Va_field P mc ms) 56 lv [.int v] h cells slots := ev_exit ⟨hc.1, hc.2, Or.inr (Or.inl ⟨v, .int, rfl, rfl, d_Va_field_56, rfl, hP⟩)⟩
theorem d_Va_field_57 : decode prog_8_method_18_code 57 = .ok (.lload_n 0, 1) := by decide +kernel
theorem s_Va_field_57 {x : Int64} (hl : lg lv 0 = some (.long x)) (k : ev G M_Va_field R E 58 lv (.long x :: rest) h cells slots) : ev G M_Va_field R E 57 lv rest h cells slots := ev_lload_n d_Va_field_57 rfl hl k
theorem d_Va_field_58 : decode prog_8_method_18_code 58 = .ok (.invokestatic 28, 3) := by decide +kernel
theorem s_Va_field_58 {mc ms : Nat} {P : Option Value → HP → Prop} {a0 : Int64} (hm : mt G M_Va_from 0 mc ms [.long a0] h P) (hR : 0 + 1 ≤ R.frames ∧ 8 + (2 + 11) + 39 * 0 ≤ R.locals) (hcs : cells + mc ≤ R.cells ∧ slots + ms ≤ R.slots) (hrest : (rest.map fun v => v.category).sum ≤ 8) (k : ∀ (r : Option Value) (h' : HP), P r h' → ev G M_Va_field R E 61 lv (r.toList ++ rest) h' (cells + mc) (slots + ms)) : ev G M_Va_field R E 58 lv (.long a0 :: rest) h cells slots := ev_callS (as := [.long a0]) d_Va_field_58 hm w_440 w_441 w_72 w_442 hy_Va_from hR hcs hrest k
theorem d_Va_field_61 : decode prog_8_method_18_code 61 = .ok (.ireturn, 1) := by decide +kernel
theorem s_Va_field_61 {P : Option Value → HP → Prop} {mc ms : Nat} {v : Int32} (hP : P (some (.int v)) h) (hc : cells ≤ mc ∧ slots ≤ ms) : ev G M_Va_field R (Er M_Va_field P mc ms) 61 lv [.int v] h cells slots := ev_exit ⟨hc.1, hc.2, Or.inr (Or.inl ⟨v, .int, rfl, rfl, d_Va_field_61, rfl, hP⟩)⟩
theorem d_Va_field_62 : decode prog_8_method_18_code 62 = .ok (.lload_n 0, 1) := by decide +kernel
theorem s_Va_field_62 {x : Int64} (hl : lg lv 0 = some (.long x)) (k : ev G M_Va_field R E 63 lv (.long x :: rest) h cells slots) : ev G M_Va_field R E 62 lv rest h cells slots := ev_lload_n d_Va_field_62 rfl hl k
theorem d_Va_field_63 : decode prog_8_method_18_code 63 = .ok (.invokestatic 31, 3) := by decide +kernel
theorem s_Va_field_63 {mc ms : Nat} {P : Option Value → HP → Prop} {a0 : Int64} (hm : mt G M_Va_end 0 mc ms [.long a0] h P) (hR : 0 + 1 ≤ R.frames ∧ 8 + (2 + 11) + 39 * 0 ≤ R.locals) (hcs : cells + mc ≤ R.cells ∧ slots + ms ≤ R.slots) (hrest : (rest.map fun v => v.category).sum ≤ 8) (k : ∀ (r : Option Value) (h' : HP), P r h' → ev G M_Va_field R E 66 lv (r.toList ++ rest) h' (cells + mc) (slots + ms)) : ev G M_Va_field R E 63 lv (.long a0 :: rest) h cells slots := ev_callS (as := [.long a0]) d_Va_field_63 hm w_437 w_438 w_72 w_439 hy_Va_end hR hcs hrest k
theorem d_Va_field_66 : decode prog_8_method_18_code 66 = .ok (.ireturn, 1) := by decide +kernel
theorem s_Va_field_66 {P : Option Value → HP → Prop} {mc ms : Nat} {v : Int32} (hP : P (some (.int v)) h) (hc : cells ≤ mc ∧ slots ≤ ms) : ev G M_Va_field R (Er M_Va_field P mc ms) 66 lv [.int v] h cells slots := ev_exit ⟨hc.1, hc.2, Or.inr (Or.inl ⟨v, .int, rfl, rfl, d_Va_field_66, rfl, hP⟩)⟩
theorem d_Va_field_67 : decode prog_8_method_18_code 67 = .ok (.lload_n 0, 1) := by decide +kernel
theorem s_Va_field_67 {x : Int64} (hl : lg lv 0 = some (.long x)) (k : ev G M_Va_field R E 68 lv (.long x :: rest) h cells slots) : ev G M_Va_field R E 67 lv rest h cells slots := ev_lload_n d_Va_field_67 rfl hl k
theorem d_Va_field_68 : decode prog_8_method_18_code 68 = .ok (.invokestatic 25, 3) := by decide +kernel
theorem s_Va_field_68 {mc ms : Nat} {P : Option Value → HP → Prop} {a0 : Int64} (hm : mt G M_Va_rights 0 mc ms [.long a0] h P) (hR : 0 + 1 ≤ R.frames ∧ 8 + (2 + 11) + 39 * 0 ≤ R.locals) (hcs : cells + mc ≤ R.cells ∧ slots + ms ≤ R.slots) (hrest : (rest.map fun v => v.category).sum ≤ 8) (k : ∀ (r : Option Value) (h' : HP), P r h' → ev G M_Va_field R E 71 lv (r.toList ++ rest) h' (cells + mc) (slots + ms)) : ev G M_Va_field R E 68 lv (.long a0 :: rest) h cells slots := ev_callS (as := [.long a0]) d_Va_field_68 hm w_511 w_445 w_72 w_446 hy_Va_rights hR hcs hrest k
theorem d_Va_field_71 : decode prog_8_method_18_code 71 = .ok (.ireturn, 1) := by decide +kernel
theorem s_Va_field_71 {P : Option Value → HP → Prop} {mc ms : Nat} {v : Int32} (hP : P (some (.int v)) h) (hc : cells ≤ mc ∧ slots ≤ ms) : ev G M_Va_field R (Er M_Va_field P mc ms) 71 lv [.int v] h cells slots := ev_exit ⟨hc.1, hc.2, Or.inr (Or.inl ⟨v, .int, rfl, rfl, d_Va_field_71, rfl, hP⟩)⟩
theorem d_Va_field_72 : decode prog_8_method_18_code 72 = .ok (.lload_n 0, 1) := by decide +kernel
theorem s_Va_field_72 {x : Int64} (hl : lg lv 0 = some (.long x)) (k : ev G M_Va_field R E 73 lv (.long x :: rest) h cells slots) : ev G M_Va_field R E 72 lv rest h cells slots := ev_lload_n d_Va_field_72 rfl hl k
theorem d_Va_field_73 : decode prog_8_method_18_code 73 = .ok (.invokestatic 37, 3) := by decide +kernel
theorem s_Va_field_73 {mc ms : Nat} {P : Option Value → HP → Prop} {a0 : Int64} (hm : mt G M_Va_link 0 mc ms [.long a0] h P) (hR : 0 + 1 ≤ R.frames ∧ 8 + (2 + 11) + 39 * 0 ≤ R.locals) (hcs : cells + mc ≤ R.cells ∧ slots + ms ≤ R.slots) (hrest : (rest.map fun v => v.category).sum ≤ 8) (k : ∀ (r : Option Value) (h' : HP), P r h' → ev G M_Va_field R E 76 lv (r.toList ++ rest) h' (cells + mc) (slots + ms)) : ev G M_Va_field R E 73 lv (.long a0 :: rest) h cells slots := ev_callS (as := [.long a0]) d_Va_field_73 hm w_597 w_415 w_72 w_416 hy_Va_link hR hcs hrest k
theorem d_Va_field_76 : decode prog_8_method_18_code 76 = .ok (.ireturn, 1) := by decide +kernel
theorem s_Va_field_76 {P : Option Value → HP → Prop} {mc ms : Nat} {v : Int32} (hP : P (some (.int v)) h) (hc : cells ≤ mc ∧ slots ≤ ms) : ev G M_Va_field R (Er M_Va_field P mc ms) 76 lv [.int v] h cells slots := ev_exit ⟨hc.1, hc.2, Or.inr (Or.inl ⟨v, .int, rfl, rfl, d_Va_field_76, rfl, hP⟩)⟩
abbrev M_Va_covers : MW := (⟨"UseOnceMachine$Value", "covers", "(JI)Z"⟩, prog_8_method_16_code, 3, (some .boolean))
theorem hy_Va_covers : M_Va_covers.1.cls ≠ "java/lang/invoke/MethodHandle" ∧ M_Va_covers.1.cls ≠ "java/lang/invoke/VarHandle" ∧ (parseMethodDescriptor M_Va_covers.1.desc).map (fun d => d.parameters.length) = some 2 := by decide +kernel
theorem d_Va_covers_0 : decode prog_8_method_16_code 0 = .ok (.lload_n 0, 1) := by decide +kernel
theorem s_Va_covers_0 {x : Int64} (hl : lg lv 0 = some (.long x)) (k : ev G M_Va_covers R E 1 lv (.long x :: rest) h cells slots) : ev G M_Va_covers R E 0 lv rest h cells slots := ev_lload_n d_Va_covers_0 rfl hl k
theorem d_Va_covers_1 : decode prog_8_method_16_code 1 = .ok (.invokestatic 21, 3) := by decide +kernel
theorem s_Va_covers_1 {mc ms : Nat} {P : Option Value → HP → Prop} {a0 : Int64} (hm : mt G M_Va_isCapability 1 mc ms [.long a0] h P) (hR : 1 + 1 ≤ R.frames ∧ 8 + (2 + 11) + 39 * 1 ≤ R.locals) (hcs : cells + mc ≤ R.cells ∧ slots + ms ≤ R.slots) (hrest : (rest.map fun v => v.category).sum ≤ 8) (k : ∀ (r : Option Value) (h' : HP), P r h' → ev G M_Va_covers R E 4 lv (r.toList ++ rest) h' (cells + mc) (slots + ms)) : ev G M_Va_covers R E 1 lv (.long a0 :: rest) h cells slots := ev_callS (as := [.long a0]) d_Va_covers_1 hm w_510 w_501 w_72 w_502 hy_Va_isCapability hR hcs hrest k
theorem d_Va_covers_4 : decode prog_8_method_16_code 4 = .ok (.ifCond .eq 23, 3) := by decide +kernel
theorem s_Va_covers_4 {x : Int32} (kt : x = 0 → ev G M_Va_covers R E 27 lv rest h cells slots) (kf : ¬ x = 0 → ev G M_Va_covers R E 7 lv rest h cells slots) : ev G M_Va_covers R E 4 lv (.int x :: rest) h cells slots := ev_if_eq d_Va_covers_4 (by decide) kt kf
theorem d_Va_covers_7 : decode prog_8_method_16_code 7 = .ok (.lload_n 0, 1) := by decide +kernel
theorem s_Va_covers_7 {x : Int64} (hl : lg lv 0 = some (.long x)) (k : ev G M_Va_covers R E 8 lv (.long x :: rest) h cells slots) : ev G M_Va_covers R E 7 lv rest h cells slots := ev_lload_n d_Va_covers_7 rfl hl k
theorem d_Va_covers_8 : decode prog_8_method_16_code 8 = .ok (.invokestatic 28, 3) := by decide +kernel
theorem s_Va_covers_8 {mc ms : Nat} {P : Option Value → HP → Prop} {a0 : Int64} (hm : mt G M_Va_from 0 mc ms [.long a0] h P) (hR : 0 + 1 ≤ R.frames ∧ 8 + (2 + 11) + 39 * 0 ≤ R.locals) (hcs : cells + mc ≤ R.cells ∧ slots + ms ≤ R.slots) (hrest : (rest.map fun v => v.category).sum ≤ 8) (k : ∀ (r : Option Value) (h' : HP), P r h' → ev G M_Va_covers R E 11 lv (r.toList ++ rest) h' (cells + mc) (slots + ms)) : ev G M_Va_covers R E 8 lv (.long a0 :: rest) h cells slots := ev_callS (as := [.long a0]) d_Va_covers_8 hm w_440 w_441 w_72 w_442 hy_Va_from hR hcs hrest k
theorem d_Va_covers_11 : decode prog_8_method_16_code 11 = .ok (.iload_n 2, 1) := by decide +kernel
theorem s_Va_covers_11 {x : Int32} (hl : lg lv 2 = some (.int x)) (k : ev G M_Va_covers R E 12 lv (.int x :: rest) h cells slots) : ev G M_Va_covers R E 11 lv rest h cells slots := ev_iload_n d_Va_covers_11 rfl hl k
theorem d_Va_covers_12 : decode prog_8_method_16_code 12 = .ok (.if_icmp .gt 15, 3) := by decide +kernel
theorem s_Va_covers_12 {x y : Int32} (kt : y < x → ev G M_Va_covers R E 27 lv rest h cells slots) (kf : ¬ y < x → ev G M_Va_covers R E 15 lv rest h cells slots) : ev G M_Va_covers R E 12 lv (.int y :: .int x :: rest) h cells slots := ev_icmp_gt d_Va_covers_12 (by decide) kt kf
theorem d_Va_covers_15 : decode prog_8_method_16_code 15 = .ok (.iload_n 2, 1) := by decide +kernel
theorem s_Va_covers_15 {x : Int32} (hl : lg lv 2 = some (.int x)) (k : ev G M_Va_covers R E 16 lv (.int x :: rest) h cells slots) : ev G M_Va_covers R E 15 lv rest h cells slots := ev_iload_n d_Va_covers_15 rfl hl k
theorem d_Va_covers_16 : decode prog_8_method_16_code 16 = .ok (.lload_n 0, 1) := by decide +kernel
theorem s_Va_covers_16 {x : Int64} (hl : lg lv 0 = some (.long x)) (k : ev G M_Va_covers R E 17 lv (.long x :: rest) h cells slots) : ev G M_Va_covers R E 16 lv rest h cells slots := ev_lload_n d_Va_covers_16 rfl hl k
theorem d_Va_covers_17 : decode prog_8_method_16_code 17 = .ok (.invokestatic 31, 3) := by decide +kernel
theorem s_Va_covers_17 {mc ms : Nat} {P : Option Value → HP → Prop} {a0 : Int64} (hm : mt G M_Va_end 0 mc ms [.long a0] h P) (hR : 0 + 1 ≤ R.frames ∧ 8 + (2 + 11) + 39 * 0 ≤ R.locals) (hcs : cells + mc ≤ R.cells ∧ slots + ms ≤ R.slots) (hrest : (rest.map fun v => v.category).sum ≤ 8) (k : ∀ (r : Option Value) (h' : HP), P r h' → ev G M_Va_covers R E 20 lv (r.toList ++ rest) h' (cells + mc) (slots + ms)) : ev G M_Va_covers R E 17 lv (.long a0 :: rest) h cells slots := ev_callS (as := [.long a0]) d_Va_covers_17 hm w_437 w_438 w_72 w_439 hy_Va_end hR hcs hrest k
theorem d_Va_covers_20 : decode prog_8_method_16_code 20 = .ok (.if_icmp .ge 7, 3) := by decide +kernel
theorem s_Va_covers_20 {x y : Int32} (kt : y ≤ x → ev G M_Va_covers R E 27 lv rest h cells slots) (kf : ¬ y ≤ x → ev G M_Va_covers R E 23 lv rest h cells slots) : ev G M_Va_covers R E 20 lv (.int y :: .int x :: rest) h cells slots := ev_icmp_ge d_Va_covers_20 (by decide) kt kf
theorem d_Va_covers_23 : decode prog_8_method_16_code 23 = .ok (.iconst 1, 1) := by decide +kernel
theorem s_Va_covers_23  (k : ev G M_Va_covers R E 24 lv (.int 1 :: rest) h cells slots) : ev G M_Va_covers R E 23 lv rest h cells slots := ev_iconst d_Va_covers_23 (by decide) k
theorem d_Va_covers_24 : decode prog_8_method_16_code 24 = .ok (.goto 4, 3) := by decide +kernel
theorem s_Va_covers_24  (k : ev G M_Va_covers R E 28 lv rest h cells slots) : ev G M_Va_covers R E 24 lv rest h cells slots := ev_goto d_Va_covers_24 (by decide) k
theorem d_Va_covers_27 : decode prog_8_method_16_code 27 = .ok (.iconst 0, 1) := by decide +kernel
theorem s_Va_covers_27  (k : ev G M_Va_covers R E 28 lv (.int 0 :: rest) h cells slots) : ev G M_Va_covers R E 27 lv rest h cells slots := ev_iconst d_Va_covers_27 (by decide) k
theorem d_Va_covers_28 : decode prog_8_method_16_code 28 = .ok (.ireturn, 1) := by decide +kernel
theorem s_Va_covers_28 {P : Option Value → HP → Prop} {mc ms : Nat} {v : Int32} (hz : v = 0 ∨ v = 1) (hP : P (some (.int v)) h) (hc : cells ≤ mc ∧ slots ≤ ms) : ev G M_Va_covers R (Er M_Va_covers P mc ms) 28 lv [.int v] h cells slots := ev_exit ⟨hc.1, hc.2, Or.inr (Or.inl ⟨v, .boolean, rfl, (nar_z hz), d_Va_covers_28, rfl, hP⟩)⟩
abbrev M_Ji_bitCount : MW := (⟨"java/lang/Integer", "bitCount", "(I)I"⟩, prog_11_method_49_code, 1, (some .int))
theorem hy_Ji_bitCount : M_Ji_bitCount.1.cls ≠ "java/lang/invoke/MethodHandle" ∧ M_Ji_bitCount.1.cls ≠ "java/lang/invoke/VarHandle" ∧ (parseMethodDescriptor M_Ji_bitCount.1.desc).map (fun d => d.parameters.length) = some 1 := by decide +kernel
theorem d_Ji_bitCount_0 : decode prog_11_method_49_code 0 = .ok (.iload_n 0, 1) := by decide +kernel
theorem s_Ji_bitCount_0 {x : Int32} (hl : lg lv 0 = some (.int x)) (k : ev G M_Ji_bitCount R E 1 lv (.int x :: rest) h cells slots) : ev G M_Ji_bitCount R E 0 lv rest h cells slots := ev_iload_n d_Ji_bitCount_0 rfl hl k
theorem d_Ji_bitCount_1 : decode prog_11_method_49_code 1 = .ok (.iload_n 0, 1) := by decide +kernel
theorem s_Ji_bitCount_1 {x : Int32} (hl : lg lv 0 = some (.int x)) (k : ev G M_Ji_bitCount R E 2 lv (.int x :: rest) h cells slots) : ev G M_Ji_bitCount R E 1 lv rest h cells slots := ev_iload_n d_Ji_bitCount_1 rfl hl k
theorem d_Ji_bitCount_2 : decode prog_11_method_49_code 2 = .ok (.iconst 1, 1) := by decide +kernel
theorem s_Ji_bitCount_2  (k : ev G M_Ji_bitCount R E 3 lv (.int 1 :: rest) h cells slots) : ev G M_Ji_bitCount R E 2 lv rest h cells slots := ev_iconst d_Ji_bitCount_2 (by decide) k
theorem d_Ji_bitCount_3 : decode prog_11_method_49_code 3 = .ok (.iushr, 1) := by decide +kernel
theorem s_Ji_bitCount_3 {x y : Int32} (k : ev G M_Ji_bitCount R E 4 lv (.int ((x.toUInt32 >>> (y.toUInt32 &&& Int32.toUInt32 31)).toInt32) :: rest) h cells slots) : ev G M_Ji_bitCount R E 3 lv (.int y :: .int x :: rest) h cells slots := ev_iushr d_Ji_bitCount_3 k
theorem d_Ji_bitCount_4 : decode prog_11_method_49_code 4 = .ok (.ldc_w 265, 3) := by decide +kernel
theorem s_Ji_bitCount_4  (k : ev G M_Ji_bitCount R E 7 lv (.int 1431655765 :: rest) h cells slots) : ev G M_Ji_bitCount R E 4 lv rest h cells slots := ev_ldcw d_Ji_bitCount_4 w_694 k
theorem d_Ji_bitCount_7 : decode prog_11_method_49_code 7 = .ok (.iand, 1) := by decide +kernel
theorem s_Ji_bitCount_7 {x y : Int32} (k : ev G M_Ji_bitCount R E 8 lv (.int (x &&& y) :: rest) h cells slots) : ev G M_Ji_bitCount R E 7 lv (.int y :: .int x :: rest) h cells slots := ev_iand d_Ji_bitCount_7 k
theorem d_Ji_bitCount_8 : decode prog_11_method_49_code 8 = .ok (.isub, 1) := by decide +kernel
theorem s_Ji_bitCount_8 {x y : Int32} (k : ev G M_Ji_bitCount R E 9 lv (.int (x - y) :: rest) h cells slots) : ev G M_Ji_bitCount R E 8 lv (.int y :: .int x :: rest) h cells slots := ev_isub d_Ji_bitCount_8 k
theorem d_Ji_bitCount_9 : decode prog_11_method_49_code 9 = .ok (.istore_n 0, 1) := by decide +kernel
theorem s_Ji_bitCount_9 {x : Int32} (k : ev G M_Ji_bitCount R E 10 (ls1 lv 0 (.int x)) rest h cells slots) : ev G M_Ji_bitCount R E 9 lv (.int x :: rest) h cells slots := ev_istore_n d_Ji_bitCount_9 rfl (by decide) k
theorem d_Ji_bitCount_10 : decode prog_11_method_49_code 10 = .ok (.iload_n 0, 1) := by decide +kernel
theorem s_Ji_bitCount_10 {x : Int32} (hl : lg lv 0 = some (.int x)) (k : ev G M_Ji_bitCount R E 11 lv (.int x :: rest) h cells slots) : ev G M_Ji_bitCount R E 10 lv rest h cells slots := ev_iload_n d_Ji_bitCount_10 rfl hl k
theorem d_Ji_bitCount_11 : decode prog_11_method_49_code 11 = .ok (.ldc_w 266, 3) := by decide +kernel
theorem s_Ji_bitCount_11  (k : ev G M_Ji_bitCount R E 14 lv (.int 858993459 :: rest) h cells slots) : ev G M_Ji_bitCount R E 11 lv rest h cells slots := ev_ldcw d_Ji_bitCount_11 w_695 k
theorem d_Ji_bitCount_14 : decode prog_11_method_49_code 14 = .ok (.iand, 1) := by decide +kernel
theorem s_Ji_bitCount_14 {x y : Int32} (k : ev G M_Ji_bitCount R E 15 lv (.int (x &&& y) :: rest) h cells slots) : ev G M_Ji_bitCount R E 14 lv (.int y :: .int x :: rest) h cells slots := ev_iand d_Ji_bitCount_14 k
theorem d_Ji_bitCount_15 : decode prog_11_method_49_code 15 = .ok (.iload_n 0, 1) := by decide +kernel
theorem s_Ji_bitCount_15 {x : Int32} (hl : lg lv 0 = some (.int x)) (k : ev G M_Ji_bitCount R E 16 lv (.int x :: rest) h cells slots) : ev G M_Ji_bitCount R E 15 lv rest h cells slots := ev_iload_n d_Ji_bitCount_15 rfl hl k
theorem d_Ji_bitCount_16 : decode prog_11_method_49_code 16 = .ok (.iconst 2, 1) := by decide +kernel
theorem s_Ji_bitCount_16  (k : ev G M_Ji_bitCount R E 17 lv (.int 2 :: rest) h cells slots) : ev G M_Ji_bitCount R E 16 lv rest h cells slots := ev_iconst d_Ji_bitCount_16 (by decide) k
theorem d_Ji_bitCount_17 : decode prog_11_method_49_code 17 = .ok (.iushr, 1) := by decide +kernel
theorem s_Ji_bitCount_17 {x y : Int32} (k : ev G M_Ji_bitCount R E 18 lv (.int ((x.toUInt32 >>> (y.toUInt32 &&& Int32.toUInt32 31)).toInt32) :: rest) h cells slots) : ev G M_Ji_bitCount R E 17 lv (.int y :: .int x :: rest) h cells slots := ev_iushr d_Ji_bitCount_17 k
theorem d_Ji_bitCount_18 : decode prog_11_method_49_code 18 = .ok (.ldc_w 266, 3) := by decide +kernel
theorem s_Ji_bitCount_18  (k : ev G M_Ji_bitCount R E 21 lv (.int 858993459 :: rest) h cells slots) : ev G M_Ji_bitCount R E 18 lv rest h cells slots := ev_ldcw d_Ji_bitCount_18 w_695 k
theorem d_Ji_bitCount_21 : decode prog_11_method_49_code 21 = .ok (.iand, 1) := by decide +kernel
theorem s_Ji_bitCount_21 {x y : Int32} (k : ev G M_Ji_bitCount R E 22 lv (.int (x &&& y) :: rest) h cells slots) : ev G M_Ji_bitCount R E 21 lv (.int y :: .int x :: rest) h cells slots := ev_iand d_Ji_bitCount_21 k
theorem d_Ji_bitCount_22 : decode prog_11_method_49_code 22 = .ok (.iadd, 1) := by decide +kernel
theorem s_Ji_bitCount_22 {x y : Int32} (k : ev G M_Ji_bitCount R E 23 lv (.int (x + y) :: rest) h cells slots) : ev G M_Ji_bitCount R E 22 lv (.int y :: .int x :: rest) h cells slots := ev_iadd d_Ji_bitCount_22 k
theorem d_Ji_bitCount_23 : decode prog_11_method_49_code 23 = .ok (.istore_n 0, 1) := by decide +kernel
theorem s_Ji_bitCount_23 {x : Int32} (k : ev G M_Ji_bitCount R E 24 (ls1 lv 0 (.int x)) rest h cells slots) : ev G M_Ji_bitCount R E 23 lv (.int x :: rest) h cells slots := ev_istore_n d_Ji_bitCount_23 rfl (by decide) k
theorem d_Ji_bitCount_24 : decode prog_11_method_49_code 24 = .ok (.iload_n 0, 1) := by decide +kernel
theorem s_Ji_bitCount_24 {x : Int32} (hl : lg lv 0 = some (.int x)) (k : ev G M_Ji_bitCount R E 25 lv (.int x :: rest) h cells slots) : ev G M_Ji_bitCount R E 24 lv rest h cells slots := ev_iload_n d_Ji_bitCount_24 rfl hl k
theorem d_Ji_bitCount_25 : decode prog_11_method_49_code 25 = .ok (.iload_n 0, 1) := by decide +kernel
theorem s_Ji_bitCount_25 {x : Int32} (hl : lg lv 0 = some (.int x)) (k : ev G M_Ji_bitCount R E 26 lv (.int x :: rest) h cells slots) : ev G M_Ji_bitCount R E 25 lv rest h cells slots := ev_iload_n d_Ji_bitCount_25 rfl hl k
theorem d_Ji_bitCount_26 : decode prog_11_method_49_code 26 = .ok (.iconst 4, 1) := by decide +kernel
theorem s_Ji_bitCount_26  (k : ev G M_Ji_bitCount R E 27 lv (.int 4 :: rest) h cells slots) : ev G M_Ji_bitCount R E 26 lv rest h cells slots := ev_iconst d_Ji_bitCount_26 (by decide) k
theorem d_Ji_bitCount_27 : decode prog_11_method_49_code 27 = .ok (.iushr, 1) := by decide +kernel
theorem s_Ji_bitCount_27 {x y : Int32} (k : ev G M_Ji_bitCount R E 28 lv (.int ((x.toUInt32 >>> (y.toUInt32 &&& Int32.toUInt32 31)).toInt32) :: rest) h cells slots) : ev G M_Ji_bitCount R E 27 lv (.int y :: .int x :: rest) h cells slots := ev_iushr d_Ji_bitCount_27 k
theorem d_Ji_bitCount_28 : decode prog_11_method_49_code 28 = .ok (.iadd, 1) := by decide +kernel
theorem s_Ji_bitCount_28 {x y : Int32} (k : ev G M_Ji_bitCount R E 29 lv (.int (x + y) :: rest) h cells slots) : ev G M_Ji_bitCount R E 28 lv (.int y :: .int x :: rest) h cells slots := ev_iadd d_Ji_bitCount_28 k
theorem d_Ji_bitCount_29 : decode prog_11_method_49_code 29 = .ok (.ldc_w 267, 3) := by decide +kernel
theorem s_Ji_bitCount_29  (k : ev G M_Ji_bitCount R E 32 lv (.int 252645135 :: rest) h cells slots) : ev G M_Ji_bitCount R E 29 lv rest h cells slots := ev_ldcw d_Ji_bitCount_29 w_696 k
theorem d_Ji_bitCount_32 : decode prog_11_method_49_code 32 = .ok (.iand, 1) := by decide +kernel
theorem s_Ji_bitCount_32 {x y : Int32} (k : ev G M_Ji_bitCount R E 33 lv (.int (x &&& y) :: rest) h cells slots) : ev G M_Ji_bitCount R E 32 lv (.int y :: .int x :: rest) h cells slots := ev_iand d_Ji_bitCount_32 k
theorem d_Ji_bitCount_33 : decode prog_11_method_49_code 33 = .ok (.istore_n 0, 1) := by decide +kernel
theorem s_Ji_bitCount_33 {x : Int32} (k : ev G M_Ji_bitCount R E 34 (ls1 lv 0 (.int x)) rest h cells slots) : ev G M_Ji_bitCount R E 33 lv (.int x :: rest) h cells slots := ev_istore_n d_Ji_bitCount_33 rfl (by decide) k
theorem d_Ji_bitCount_34 : decode prog_11_method_49_code 34 = .ok (.iload_n 0, 1) := by decide +kernel
theorem s_Ji_bitCount_34 {x : Int32} (hl : lg lv 0 = some (.int x)) (k : ev G M_Ji_bitCount R E 35 lv (.int x :: rest) h cells slots) : ev G M_Ji_bitCount R E 34 lv rest h cells slots := ev_iload_n d_Ji_bitCount_34 rfl hl k
theorem d_Ji_bitCount_35 : decode prog_11_method_49_code 35 = .ok (.iload_n 0, 1) := by decide +kernel
theorem s_Ji_bitCount_35 {x : Int32} (hl : lg lv 0 = some (.int x)) (k : ev G M_Ji_bitCount R E 36 lv (.int x :: rest) h cells slots) : ev G M_Ji_bitCount R E 35 lv rest h cells slots := ev_iload_n d_Ji_bitCount_35 rfl hl k
theorem d_Ji_bitCount_36 : decode prog_11_method_49_code 36 = .ok (.bipush 8, 2) := by decide +kernel
theorem s_Ji_bitCount_36  (k : ev G M_Ji_bitCount R E 38 lv (.int 8 :: rest) h cells slots) : ev G M_Ji_bitCount R E 36 lv rest h cells slots := ev_bipush d_Ji_bitCount_36 (by decide) k
theorem d_Ji_bitCount_38 : decode prog_11_method_49_code 38 = .ok (.iushr, 1) := by decide +kernel
theorem s_Ji_bitCount_38 {x y : Int32} (k : ev G M_Ji_bitCount R E 39 lv (.int ((x.toUInt32 >>> (y.toUInt32 &&& Int32.toUInt32 31)).toInt32) :: rest) h cells slots) : ev G M_Ji_bitCount R E 38 lv (.int y :: .int x :: rest) h cells slots := ev_iushr d_Ji_bitCount_38 k
theorem d_Ji_bitCount_39 : decode prog_11_method_49_code 39 = .ok (.iadd, 1) := by decide +kernel
theorem s_Ji_bitCount_39 {x y : Int32} (k : ev G M_Ji_bitCount R E 40 lv (.int (x + y) :: rest) h cells slots) : ev G M_Ji_bitCount R E 39 lv (.int y :: .int x :: rest) h cells slots := ev_iadd d_Ji_bitCount_39 k
theorem d_Ji_bitCount_40 : decode prog_11_method_49_code 40 = .ok (.istore_n 0, 1) := by decide +kernel
theorem s_Ji_bitCount_40 {x : Int32} (k : ev G M_Ji_bitCount R E 41 (ls1 lv 0 (.int x)) rest h cells slots) : ev G M_Ji_bitCount R E 40 lv (.int x :: rest) h cells slots := ev_istore_n d_Ji_bitCount_40 rfl (by decide) k
theorem d_Ji_bitCount_41 : decode prog_11_method_49_code 41 = .ok (.iload_n 0, 1) := by decide +kernel
theorem s_Ji_bitCount_41 {x : Int32} (hl : lg lv 0 = some (.int x)) (k : ev G M_Ji_bitCount R E 42 lv (.int x :: rest) h cells slots) : ev G M_Ji_bitCount R E 41 lv rest h cells slots := ev_iload_n d_Ji_bitCount_41 rfl hl k
theorem d_Ji_bitCount_42 : decode prog_11_method_49_code 42 = .ok (.iload_n 0, 1) := by decide +kernel
theorem s_Ji_bitCount_42 {x : Int32} (hl : lg lv 0 = some (.int x)) (k : ev G M_Ji_bitCount R E 43 lv (.int x :: rest) h cells slots) : ev G M_Ji_bitCount R E 42 lv rest h cells slots := ev_iload_n d_Ji_bitCount_42 rfl hl k
theorem d_Ji_bitCount_43 : decode prog_11_method_49_code 43 = .ok (.bipush 16, 2) := by decide +kernel
theorem s_Ji_bitCount_43  (k : ev G M_Ji_bitCount R E 45 lv (.int 16 :: rest) h cells slots) : ev G M_Ji_bitCount R E 43 lv rest h cells slots := ev_bipush d_Ji_bitCount_43 (by decide) k
theorem d_Ji_bitCount_45 : decode prog_11_method_49_code 45 = .ok (.iushr, 1) := by decide +kernel
theorem s_Ji_bitCount_45 {x y : Int32} (k : ev G M_Ji_bitCount R E 46 lv (.int ((x.toUInt32 >>> (y.toUInt32 &&& Int32.toUInt32 31)).toInt32) :: rest) h cells slots) : ev G M_Ji_bitCount R E 45 lv (.int y :: .int x :: rest) h cells slots := ev_iushr d_Ji_bitCount_45 k
theorem d_Ji_bitCount_46 : decode prog_11_method_49_code 46 = .ok (.iadd, 1) := by decide +kernel
theorem s_Ji_bitCount_46 {x y : Int32} (k : ev G M_Ji_bitCount R E 47 lv (.int (x + y) :: rest) h cells slots) : ev G M_Ji_bitCount R E 46 lv (.int y :: .int x :: rest) h cells slots := ev_iadd d_Ji_bitCount_46 k
theorem d_Ji_bitCount_47 : decode prog_11_method_49_code 47 = .ok (.istore_n 0, 1) := by decide +kernel
theorem s_Ji_bitCount_47 {x : Int32} (k : ev G M_Ji_bitCount R E 48 (ls1 lv 0 (.int x)) rest h cells slots) : ev G M_Ji_bitCount R E 47 lv (.int x :: rest) h cells slots := ev_istore_n d_Ji_bitCount_47 rfl (by decide) k
theorem d_Ji_bitCount_48 : decode prog_11_method_49_code 48 = .ok (.iload_n 0, 1) := by decide +kernel
theorem s_Ji_bitCount_48 {x : Int32} (hl : lg lv 0 = some (.int x)) (k : ev G M_Ji_bitCount R E 49 lv (.int x :: rest) h cells slots) : ev G M_Ji_bitCount R E 48 lv rest h cells slots := ev_iload_n d_Ji_bitCount_48 rfl hl k
theorem d_Ji_bitCount_49 : decode prog_11_method_49_code 49 = .ok (.bipush 63, 2) := by decide +kernel
theorem s_Ji_bitCount_49  (k : ev G M_Ji_bitCount R E 51 lv (.int 63 :: rest) h cells slots) : ev G M_Ji_bitCount R E 49 lv rest h cells slots := ev_bipush d_Ji_bitCount_49 (by decide) k
theorem d_Ji_bitCount_51 : decode prog_11_method_49_code 51 = .ok (.iand, 1) := by decide +kernel
theorem s_Ji_bitCount_51 {x y : Int32} (k : ev G M_Ji_bitCount R E 52 lv (.int (x &&& y) :: rest) h cells slots) : ev G M_Ji_bitCount R E 51 lv (.int y :: .int x :: rest) h cells slots := ev_iand d_Ji_bitCount_51 k
theorem d_Ji_bitCount_52 : decode prog_11_method_49_code 52 = .ok (.ireturn, 1) := by decide +kernel
theorem s_Ji_bitCount_52 {P : Option Value → HP → Prop} {mc ms : Nat} {v : Int32} (hP : P (some (.int v)) h) (hc : cells ≤ mc ∧ slots ≤ ms) : ev G M_Ji_bitCount R (Er M_Ji_bitCount P mc ms) 52 lv [.int v] h cells slots := ev_exit ⟨hc.1, hc.2, Or.inr (Or.inl ⟨v, .int, rfl, rfl, d_Ji_bitCount_52, rfl, hP⟩)⟩
end SITES

/-! written by gen_sites.py: the decode rows, and one rule a place (method, pc) -/

section SITES
variable {G : GW} {R : Room} {E : Nat → LV → List Value → HP → Nat → Nat → Prop} {lv : LV} {rest : List Value} {h : HP} {cells slots : Nat}
abbrev M_La_law : MW := (⟨"UseOnceMachineLaw", "law", "([I)Z"⟩, code, 4, (some .boolean))
theorem d_La_law_0 : decode code 0 = .ok (.new 7, 3) := by decide +kernel
theorem s_La_law_0 {kn : Nat} (hcl : cells + 1 ≤ R.cells) (hsl : slots + 7 ≤ R.slots) (hf : h kn = mF) (hk : kn < tB) (k : ev G M_La_law R E 3 lv (.ref kn :: rest) (va_up h kn (mO 6 [.null, .null, .null, .null, .null, .null, .int 0])) (cells + 1) (slots + 7)) : ev G M_La_law R E 0 lv rest h cells slots := ev_new (ci := 6) d_La_law_0 rfl ck6 w_76 w_77 w_63 (by decide +kernel) (fun _ _ => rfl) (okl_dec rfl) rfl hcl hsl hf hk k
theorem d_La_law_3 : decode code 3 = .ok (.dup, 1) := by decide +kernel
theorem s_La_law_3 {va : Value} (hva : va.category = 1) (k : ev G M_La_law R E 4 lv (va :: va :: rest) h cells slots) : ev G M_La_law R E 3 lv (va :: rest) h cells slots := ev_dup d_La_law_3 hva k
theorem d_La_law_4 : decode code 4 = .ok (.invokespecial 9, 3) := by decide +kernel
theorem s_La_law_4 {mc ms : Nat} {P : Option Value → HP → Prop}  {b : Nat} (hm : mt G M_Um_init 2 mc ms (.ref b :: []) h P) (hR : 2 + 1 ≤ R.frames ∧ 8 + (1 + 11) + 39 * 2 ≤ R.locals) (hcs : cells + mc ≤ R.cells ∧ slots + ms ≤ R.slots) (hrest : (rest.map fun v => v.category).sum ≤ 8) (k : ∀ (r : Option Value) (h' : HP), P r h' → ev G M_La_law R E 7 lv (r.toList ++ rest) h' (cells + mc) (slots + ms)) : ev G M_La_law R E 4 lv (.ref b :: rest) h cells slots := ev_callI (as := []) d_La_law_4 hm w_78 rfl w_79 w_63 w_80 hy_Um_init hR hcs hrest k
theorem d_La_law_7 : decode code 7 = .ok (.astore_n 1, 1) := by decide +kernel
theorem s_La_law_7 {x : Nat} (k : ev G M_La_law R E 8 (ls1 lv 1 (.ref x)) rest h cells slots) : ev G M_La_law R E 7 lv (.ref x :: rest) h cells slots := ev_astore_n d_La_law_7 rfl (by decide) k
theorem d_La_law_8 : decode code 8 = .ok (.new 10, 3) := by decide +kernel
theorem s_La_law_8 {kn : Nat} (hcl : cells + 1 ≤ R.cells) (hsl : slots + 20 ≤ R.slots) (hf : h kn = mF) (hk : kn < tB) (k : ev G M_La_law R E 11 lv (.ref kn :: rest) (va_up h kn (mO 7 [.int 0, .null, .null, .null, .null, .null, .null, .null, .null, .null, .int 0, .null, .null, .int 0, .int 0, .int 0, .int 0, .int 0, .null, .null])) (cells + 1) (slots + 20)) : ev G M_La_law R E 8 lv rest h cells slots := ev_new (ci := 7) d_La_law_8 rfl ck7 w_698 w_699 w_70 (by decide +kernel) (fun _ _ => rfl) (okl_dec rfl) rfl hcl hsl hf hk k
theorem d_La_law_11 : decode code 11 = .ok (.dup, 1) := by decide +kernel
theorem s_La_law_11 {va : Value} (hva : va.category = 1) (k : ev G M_La_law R E 12 lv (va :: va :: rest) h cells slots) : ev G M_La_law R E 11 lv (va :: rest) h cells slots := ev_dup d_La_law_11 hva k
theorem d_La_law_12 : decode code 12 = .ok (.invokespecial 12, 3) := by decide +kernel
theorem s_La_law_12 {mc ms : Nat} {P : Option Value → HP → Prop}  {b : Nat} (hm : mt G M_Mo_init 1 mc ms (.ref b :: []) h P) (hR : 1 + 1 ≤ R.frames ∧ 8 + (1 + 11) + 39 * 1 ≤ R.locals) (hcs : cells + mc ≤ R.cells ∧ slots + ms ≤ R.slots) (hrest : (rest.map fun v => v.category).sum ≤ 8) (k : ∀ (r : Option Value) (h' : HP), P r h' → ev G M_La_law R E 15 lv (r.toList ++ rest) h' (cells + mc) (slots + ms)) : ev G M_La_law R E 12 lv (.ref b :: rest) h cells slots := ev_callI (as := []) d_La_law_12 hm w_700 rfl w_701 w_70 w_702 hy_Mo_init hR hcs hrest k
theorem d_La_law_15 : decode code 15 = .ok (.astore_n 2, 1) := by decide +kernel
theorem s_La_law_15 {x : Nat} (k : ev G M_La_law R E 16 (ls1 lv 2 (.ref x)) rest h cells slots) : ev G M_La_law R E 15 lv (.ref x :: rest) h cells slots := ev_astore_n d_La_law_15 rfl (by decide) k
theorem d_La_law_16 : decode code 16 = .ok (.iconst 0, 1) := by decide +kernel
theorem s_La_law_16  (k : ev G M_La_law R E 17 lv (.int 0 :: rest) h cells slots) : ev G M_La_law R E 16 lv rest h cells slots := ev_iconst d_La_law_16 (by decide) k
theorem d_La_law_17 : decode code 17 = .ok (.istore_n 3, 1) := by decide +kernel
theorem s_La_law_17 {x : Int32} (k : ev G M_La_law R E 18 (ls1 lv 3 (.int x)) rest h cells slots) : ev G M_La_law R E 17 lv (.int x :: rest) h cells slots := ev_istore_n d_La_law_17 rfl (by decide) k
theorem d_La_law_18 : decode code 18 = .ok (.iload_n 3, 1) := by decide +kernel
theorem s_La_law_18 {x : Int32} (hl : lg lv 3 = some (.int x)) (k : ev G M_La_law R E 19 lv (.int x :: rest) h cells slots) : ev G M_La_law R E 18 lv rest h cells slots := ev_iload_n d_La_law_18 rfl hl k
theorem d_La_law_19 : decode code 19 = .ok (.aload_n 0, 1) := by decide +kernel
theorem s_La_law_19 {x : Nat} (hl : lg lv 0 = some (.ref x)) (k : ev G M_La_law R E 20 lv (.ref x :: rest) h cells slots) : ev G M_La_law R E 19 lv rest h cells slots := ev_aload_n d_La_law_19 rfl hl k
theorem d_La_law_20 : decode code 20 = .ok (.arraylength, 1) := by decide +kernel
theorem s_La_law_20 {j N : Nat} {f : Nat → Value} {ty : FieldType} (hj : G.2.2.2.2[j]? = some (ty, N, f)) (k : ev G M_La_law R E 21 lv (.int (Int32.ofNat N) :: rest) h cells slots) : ev G M_La_law R E 20 lv (.ref (tB + j) :: rest) h cells slots := ev_tlen d_La_law_20 hj rfl k
theorem d_La_law_21 : decode code 21 = .ok (.bipush 6, 2) := by decide +kernel
theorem s_La_law_21  (k : ev G M_La_law R E 23 lv (.int 6 :: rest) h cells slots) : ev G M_La_law R E 21 lv rest h cells slots := ev_bipush d_La_law_21 (by decide) k
theorem d_La_law_23 : decode code 23 = .ok (.isub, 1) := by decide +kernel
theorem s_La_law_23 {x y : Int32} (k : ev G M_La_law R E 24 lv (.int (x - y) :: rest) h cells slots) : ev G M_La_law R E 23 lv (.int y :: .int x :: rest) h cells slots := ev_isub d_La_law_23 k
theorem d_La_law_24 : decode code 24 = .ok (.if_icmp .gt 431, 3) := by decide +kernel
theorem s_La_law_24 {x y : Int32} (kt : y < x → ev G M_La_law R E 455 lv rest h cells slots) (kf : ¬ y < x → ev G M_La_law R E 27 lv rest h cells slots) : ev G M_La_law R E 24 lv (.int y :: .int x :: rest) h cells slots := ev_icmp_gt d_La_law_24 (by decide) kt kf
theorem d_La_law_27 : decode code 27 = .ok (.aload_n 0, 1) := by decide +kernel
theorem s_La_law_27 {x : Nat} (hl : lg lv 0 = some (.ref x)) (k : ev G M_La_law R E 28 lv (.ref x :: rest) h cells slots) : ev G M_La_law R E 27 lv rest h cells slots := ev_aload_n d_La_law_27 rfl hl k
theorem d_La_law_28 : decode code 28 = .ok (.iload_n 3, 1) := by decide +kernel
theorem s_La_law_28 {x : Int32} (hl : lg lv 3 = some (.int x)) (k : ev G M_La_law R E 29 lv (.int x :: rest) h cells slots) : ev G M_La_law R E 28 lv rest h cells slots := ev_iload_n d_La_law_28 rfl hl k
theorem d_La_law_29 : decode code 29 = .ok (.iaload, 1) := by decide +kernel
theorem s_La_law_29 {a n : Nat} {f : Nat → Int32} {i : Int32} (hh : h a = mI 0 n f) (hin : vp_in i n) (k : ev G M_La_law R E 30 lv (.int (f i.toNatClampNeg) :: rest) h cells slots) : ev G M_La_law R E 29 lv (.int i :: .ref a :: rest) h cells slots := ev_iaload d_La_law_29 rfl hh hin k
theorem s_La_law_29t {j N : Nat} {f : Nat → Value} {i x : Int32} (hj : G.2.2.2.2[j]? = some (.int, N, f)) (hin : vp_in i N) (hv : f i.toNatClampNeg = .int x) (k : ev G M_La_law R E 30 lv (.int x :: rest) h cells slots) : ev G M_La_law R E 29 lv (.int i :: .ref (tB + j) :: rest) h cells slots := ev_tload d_La_law_29 hj hin hv k
theorem d_La_law_30 : decode code 30 = .ok (.bipush 15, 2) := by decide +kernel
theorem s_La_law_30  (k : ev G M_La_law R E 32 lv (.int 15 :: rest) h cells slots) : ev G M_La_law R E 30 lv rest h cells slots := ev_bipush d_La_law_30 (by decide) k
theorem d_La_law_32 : decode code 32 = .ok (.iand, 1) := by decide +kernel
theorem s_La_law_32 {x y : Int32} (k : ev G M_La_law R E 33 lv (.int (x &&& y) :: rest) h cells slots) : ev G M_La_law R E 32 lv (.int y :: .int x :: rest) h cells slots := ev_iand d_La_law_32 k
theorem d_La_law_33 : decode code 33 = .ok (.tableswitch 416 0 12 #[67, 130, 143, 166, 189, 222, 255, 278, 311, 334, 367, 380, 403], 67) := by decide +kernel
theorem s_La_law_33_0  (k : ev G M_La_law R E 100 lv rest h cells slots) : ev G M_La_law R E 33 lv (.int 0 :: rest) h cells slots := ev_tableIn (off := 67) d_La_law_33 (by decide) (by decide) (by decide +kernel) (by decide) k
theorem s_La_law_33_1  (k : ev G M_La_law R E 163 lv rest h cells slots) : ev G M_La_law R E 33 lv (.int 1 :: rest) h cells slots := ev_tableIn (off := 130) d_La_law_33 (by decide) (by decide) (by decide +kernel) (by decide) k
theorem s_La_law_33_2  (k : ev G M_La_law R E 176 lv rest h cells slots) : ev G M_La_law R E 33 lv (.int 2 :: rest) h cells slots := ev_tableIn (off := 143) d_La_law_33 (by decide) (by decide) (by decide +kernel) (by decide) k
theorem s_La_law_33_3  (k : ev G M_La_law R E 199 lv rest h cells slots) : ev G M_La_law R E 33 lv (.int 3 :: rest) h cells slots := ev_tableIn (off := 166) d_La_law_33 (by decide) (by decide) (by decide +kernel) (by decide) k
theorem s_La_law_33_4  (k : ev G M_La_law R E 222 lv rest h cells slots) : ev G M_La_law R E 33 lv (.int 4 :: rest) h cells slots := ev_tableIn (off := 189) d_La_law_33 (by decide) (by decide) (by decide +kernel) (by decide) k
theorem s_La_law_33_5  (k : ev G M_La_law R E 255 lv rest h cells slots) : ev G M_La_law R E 33 lv (.int 5 :: rest) h cells slots := ev_tableIn (off := 222) d_La_law_33 (by decide) (by decide) (by decide +kernel) (by decide) k
theorem s_La_law_33_6  (k : ev G M_La_law R E 288 lv rest h cells slots) : ev G M_La_law R E 33 lv (.int 6 :: rest) h cells slots := ev_tableIn (off := 255) d_La_law_33 (by decide) (by decide) (by decide +kernel) (by decide) k
theorem s_La_law_33_7  (k : ev G M_La_law R E 311 lv rest h cells slots) : ev G M_La_law R E 33 lv (.int 7 :: rest) h cells slots := ev_tableIn (off := 278) d_La_law_33 (by decide) (by decide) (by decide +kernel) (by decide) k
theorem s_La_law_33_8  (k : ev G M_La_law R E 344 lv rest h cells slots) : ev G M_La_law R E 33 lv (.int 8 :: rest) h cells slots := ev_tableIn (off := 311) d_La_law_33 (by decide) (by decide) (by decide +kernel) (by decide) k
theorem s_La_law_33_9  (k : ev G M_La_law R E 367 lv rest h cells slots) : ev G M_La_law R E 33 lv (.int 9 :: rest) h cells slots := ev_tableIn (off := 334) d_La_law_33 (by decide) (by decide) (by decide +kernel) (by decide) k
theorem s_La_law_33_10  (k : ev G M_La_law R E 400 lv rest h cells slots) : ev G M_La_law R E 33 lv (.int 10 :: rest) h cells slots := ev_tableIn (off := 367) d_La_law_33 (by decide) (by decide) (by decide +kernel) (by decide) k
theorem s_La_law_33_11  (k : ev G M_La_law R E 413 lv rest h cells slots) : ev G M_La_law R E 33 lv (.int 11 :: rest) h cells slots := ev_tableIn (off := 380) d_La_law_33 (by decide) (by decide) (by decide +kernel) (by decide) k
theorem s_La_law_33_12  (k : ev G M_La_law R E 436 lv rest h cells slots) : ev G M_La_law R E 33 lv (.int 12 :: rest) h cells slots := ev_tableIn (off := 403) d_La_law_33 (by decide) (by decide) (by decide +kernel) (by decide) k
theorem s_La_law_33_d {x : Int32} (hx : x.toInt < 0 ∨ 12 < x.toInt) (k : ev G M_La_law R E 449 lv rest h cells slots) : ev G M_La_law R E 33 lv (.int x :: rest) h cells slots := ev_tableOut d_La_law_33 hx (by decide) k
theorem d_La_law_100 : decode code 100 = .ok (.aload_n 1, 1) := by decide +kernel
theorem s_La_law_100 {x : Nat} (hl : lg lv 1 = some (.ref x)) (k : ev G M_La_law R E 101 lv (.ref x :: rest) h cells slots) : ev G M_La_law R E 100 lv rest h cells slots := ev_aload_n d_La_law_100 rfl hl k
theorem d_La_law_101 : decode code 101 = .ok (.aload_n 0, 1) := by decide +kernel
theorem s_La_law_101 {x : Nat} (hl : lg lv 0 = some (.ref x)) (k : ev G M_La_law R E 102 lv (.ref x :: rest) h cells slots) : ev G M_La_law R E 101 lv rest h cells slots := ev_aload_n d_La_law_101 rfl hl k
theorem d_La_law_102 : decode code 102 = .ok (.iload_n 3, 1) := by decide +kernel
theorem s_La_law_102 {x : Int32} (hl : lg lv 3 = some (.int x)) (k : ev G M_La_law R E 103 lv (.int x :: rest) h cells slots) : ev G M_La_law R E 102 lv rest h cells slots := ev_iload_n d_La_law_102 rfl hl k
theorem d_La_law_103 : decode code 103 = .ok (.iconst 1, 1) := by decide +kernel
theorem s_La_law_103  (k : ev G M_La_law R E 104 lv (.int 1 :: rest) h cells slots) : ev G M_La_law R E 103 lv rest h cells slots := ev_iconst d_La_law_103 (by decide) k
theorem d_La_law_104 : decode code 104 = .ok (.iadd, 1) := by decide +kernel
theorem s_La_law_104 {x y : Int32} (k : ev G M_La_law R E 105 lv (.int (x + y) :: rest) h cells slots) : ev G M_La_law R E 104 lv (.int y :: .int x :: rest) h cells slots := ev_iadd d_La_law_104 k
theorem d_La_law_105 : decode code 105 = .ok (.iaload, 1) := by decide +kernel
theorem s_La_law_105 {a n : Nat} {f : Nat → Int32} {i : Int32} (hh : h a = mI 0 n f) (hin : vp_in i n) (k : ev G M_La_law R E 106 lv (.int (f i.toNatClampNeg) :: rest) h cells slots) : ev G M_La_law R E 105 lv (.int i :: .ref a :: rest) h cells slots := ev_iaload d_La_law_105 rfl hh hin k
theorem s_La_law_105t {j N : Nat} {f : Nat → Value} {i x : Int32} (hj : G.2.2.2.2[j]? = some (.int, N, f)) (hin : vp_in i N) (hv : f i.toNatClampNeg = .int x) (k : ev G M_La_law R E 106 lv (.int x :: rest) h cells slots) : ev G M_La_law R E 105 lv (.int i :: .ref (tB + j) :: rest) h cells slots := ev_tload d_La_law_105 hj hin hv k
theorem d_La_law_106 : decode code 106 = .ok (.aload_n 0, 1) := by decide +kernel
theorem s_La_law_106 {x : Nat} (hl : lg lv 0 = some (.ref x)) (k : ev G M_La_law R E 107 lv (.ref x :: rest) h cells slots) : ev G M_La_law R E 106 lv rest h cells slots := ev_aload_n d_La_law_106 rfl hl k
theorem d_La_law_107 : decode code 107 = .ok (.iload_n 3, 1) := by decide +kernel
theorem s_La_law_107 {x : Int32} (hl : lg lv 3 = some (.int x)) (k : ev G M_La_law R E 108 lv (.int x :: rest) h cells slots) : ev G M_La_law R E 107 lv rest h cells slots := ev_iload_n d_La_law_107 rfl hl k
theorem d_La_law_108 : decode code 108 = .ok (.iconst 2, 1) := by decide +kernel
theorem s_La_law_108  (k : ev G M_La_law R E 109 lv (.int 2 :: rest) h cells slots) : ev G M_La_law R E 108 lv rest h cells slots := ev_iconst d_La_law_108 (by decide) k
theorem d_La_law_109 : decode code 109 = .ok (.iadd, 1) := by decide +kernel
theorem s_La_law_109 {x y : Int32} (k : ev G M_La_law R E 110 lv (.int (x + y) :: rest) h cells slots) : ev G M_La_law R E 109 lv (.int y :: .int x :: rest) h cells slots := ev_iadd d_La_law_109 k
theorem d_La_law_110 : decode code 110 = .ok (.iaload, 1) := by decide +kernel
theorem s_La_law_110 {a n : Nat} {f : Nat → Int32} {i : Int32} (hh : h a = mI 0 n f) (hin : vp_in i n) (k : ev G M_La_law R E 111 lv (.int (f i.toNatClampNeg) :: rest) h cells slots) : ev G M_La_law R E 110 lv (.int i :: .ref a :: rest) h cells slots := ev_iaload d_La_law_110 rfl hh hin k
theorem s_La_law_110t {j N : Nat} {f : Nat → Value} {i x : Int32} (hj : G.2.2.2.2[j]? = some (.int, N, f)) (hin : vp_in i N) (hv : f i.toNatClampNeg = .int x) (k : ev G M_La_law R E 111 lv (.int x :: rest) h cells slots) : ev G M_La_law R E 110 lv (.int i :: .ref (tB + j) :: rest) h cells slots := ev_tload d_La_law_110 hj hin hv k
theorem d_La_law_111 : decode code 111 = .ok (.aload_n 0, 1) := by decide +kernel
theorem s_La_law_111 {x : Nat} (hl : lg lv 0 = some (.ref x)) (k : ev G M_La_law R E 112 lv (.ref x :: rest) h cells slots) : ev G M_La_law R E 111 lv rest h cells slots := ev_aload_n d_La_law_111 rfl hl k
theorem d_La_law_112 : decode code 112 = .ok (.iload_n 3, 1) := by decide +kernel
theorem s_La_law_112 {x : Int32} (hl : lg lv 3 = some (.int x)) (k : ev G M_La_law R E 113 lv (.int x :: rest) h cells slots) : ev G M_La_law R E 112 lv rest h cells slots := ev_iload_n d_La_law_112 rfl hl k
theorem d_La_law_113 : decode code 113 = .ok (.iconst 3, 1) := by decide +kernel
theorem s_La_law_113  (k : ev G M_La_law R E 114 lv (.int 3 :: rest) h cells slots) : ev G M_La_law R E 113 lv rest h cells slots := ev_iconst d_La_law_113 (by decide) k
theorem d_La_law_114 : decode code 114 = .ok (.iadd, 1) := by decide +kernel
theorem s_La_law_114 {x y : Int32} (k : ev G M_La_law R E 115 lv (.int (x + y) :: rest) h cells slots) : ev G M_La_law R E 114 lv (.int y :: .int x :: rest) h cells slots := ev_iadd d_La_law_114 k
theorem d_La_law_115 : decode code 115 = .ok (.iaload, 1) := by decide +kernel
theorem s_La_law_115 {a n : Nat} {f : Nat → Int32} {i : Int32} (hh : h a = mI 0 n f) (hin : vp_in i n) (k : ev G M_La_law R E 116 lv (.int (f i.toNatClampNeg) :: rest) h cells slots) : ev G M_La_law R E 115 lv (.int i :: .ref a :: rest) h cells slots := ev_iaload d_La_law_115 rfl hh hin k
theorem s_La_law_115t {j N : Nat} {f : Nat → Value} {i x : Int32} (hj : G.2.2.2.2[j]? = some (.int, N, f)) (hin : vp_in i N) (hv : f i.toNatClampNeg = .int x) (k : ev G M_La_law R E 116 lv (.int x :: rest) h cells slots) : ev G M_La_law R E 115 lv (.int i :: .ref (tB + j) :: rest) h cells slots := ev_tload d_La_law_115 hj hin hv k
theorem d_La_law_116 : decode code 116 = .ok (.aload_n 0, 1) := by decide +kernel
theorem s_La_law_116 {x : Nat} (hl : lg lv 0 = some (.ref x)) (k : ev G M_La_law R E 117 lv (.ref x :: rest) h cells slots) : ev G M_La_law R E 116 lv rest h cells slots := ev_aload_n d_La_law_116 rfl hl k
theorem d_La_law_117 : decode code 117 = .ok (.iload_n 3, 1) := by decide +kernel
theorem s_La_law_117 {x : Int32} (hl : lg lv 3 = some (.int x)) (k : ev G M_La_law R E 118 lv (.int x :: rest) h cells slots) : ev G M_La_law R E 117 lv rest h cells slots := ev_iload_n d_La_law_117 rfl hl k
theorem d_La_law_118 : decode code 118 = .ok (.iconst 4, 1) := by decide +kernel
theorem s_La_law_118  (k : ev G M_La_law R E 119 lv (.int 4 :: rest) h cells slots) : ev G M_La_law R E 118 lv rest h cells slots := ev_iconst d_La_law_118 (by decide) k
theorem d_La_law_119 : decode code 119 = .ok (.iadd, 1) := by decide +kernel
theorem s_La_law_119 {x y : Int32} (k : ev G M_La_law R E 120 lv (.int (x + y) :: rest) h cells slots) : ev G M_La_law R E 119 lv (.int y :: .int x :: rest) h cells slots := ev_iadd d_La_law_119 k
theorem d_La_law_120 : decode code 120 = .ok (.iaload, 1) := by decide +kernel
theorem s_La_law_120 {a n : Nat} {f : Nat → Int32} {i : Int32} (hh : h a = mI 0 n f) (hin : vp_in i n) (k : ev G M_La_law R E 121 lv (.int (f i.toNatClampNeg) :: rest) h cells slots) : ev G M_La_law R E 120 lv (.int i :: .ref a :: rest) h cells slots := ev_iaload d_La_law_120 rfl hh hin k
theorem s_La_law_120t {j N : Nat} {f : Nat → Value} {i x : Int32} (hj : G.2.2.2.2[j]? = some (.int, N, f)) (hin : vp_in i N) (hv : f i.toNatClampNeg = .int x) (k : ev G M_La_law R E 121 lv (.int x :: rest) h cells slots) : ev G M_La_law R E 120 lv (.int i :: .ref (tB + j) :: rest) h cells slots := ev_tload d_La_law_120 hj hin hv k
theorem d_La_law_121 : decode code 121 = .ok (.aload_n 0, 1) := by decide +kernel
theorem s_La_law_121 {x : Nat} (hl : lg lv 0 = some (.ref x)) (k : ev G M_La_law R E 122 lv (.ref x :: rest) h cells slots) : ev G M_La_law R E 121 lv rest h cells slots := ev_aload_n d_La_law_121 rfl hl k
theorem d_La_law_122 : decode code 122 = .ok (.iload_n 3, 1) := by decide +kernel
theorem s_La_law_122 {x : Int32} (hl : lg lv 3 = some (.int x)) (k : ev G M_La_law R E 123 lv (.int x :: rest) h cells slots) : ev G M_La_law R E 122 lv rest h cells slots := ev_iload_n d_La_law_122 rfl hl k
theorem d_La_law_123 : decode code 123 = .ok (.iconst 5, 1) := by decide +kernel
theorem s_La_law_123  (k : ev G M_La_law R E 124 lv (.int 5 :: rest) h cells slots) : ev G M_La_law R E 123 lv rest h cells slots := ev_iconst d_La_law_123 (by decide) k
theorem d_La_law_124 : decode code 124 = .ok (.iadd, 1) := by decide +kernel
theorem s_La_law_124 {x y : Int32} (k : ev G M_La_law R E 125 lv (.int (x + y) :: rest) h cells slots) : ev G M_La_law R E 124 lv (.int y :: .int x :: rest) h cells slots := ev_iadd d_La_law_124 k
theorem d_La_law_125 : decode code 125 = .ok (.iaload, 1) := by decide +kernel
theorem s_La_law_125 {a n : Nat} {f : Nat → Int32} {i : Int32} (hh : h a = mI 0 n f) (hin : vp_in i n) (k : ev G M_La_law R E 126 lv (.int (f i.toNatClampNeg) :: rest) h cells slots) : ev G M_La_law R E 125 lv (.int i :: .ref a :: rest) h cells slots := ev_iaload d_La_law_125 rfl hh hin k
theorem s_La_law_125t {j N : Nat} {f : Nat → Value} {i x : Int32} (hj : G.2.2.2.2[j]? = some (.int, N, f)) (hin : vp_in i N) (hv : f i.toNatClampNeg = .int x) (k : ev G M_La_law R E 126 lv (.int x :: rest) h cells slots) : ev G M_La_law R E 125 lv (.int i :: .ref (tB + j) :: rest) h cells slots := ev_tload d_La_law_125 hj hin hv k
theorem d_La_law_126 : decode code 126 = .ok (.invokevirtual 13, 3) := by decide +kernel
theorem s_La_law_126 {mc ms : Nat} {P : Option Value → HP → Prop} {a0 : Int32} {a1 : Int32} {a2 : Int32} {a3 : Int32} {a4 : Int32} {b : Nat} {fs : List Value} {v0 : Value} (hm : mt G M_Um_code 1 mc ms (.ref b :: [.int a0, .int a1, .int a2, .int a3, .int a4]) h P) (hb : h b = mO 6 fs) (hv0 : fs[0]? = some v0) (hR : 1 + 1 ≤ R.frames ∧ 8 + (6 + 11) + 39 * 1 ≤ R.locals) (hcs : cells + mc ≤ R.cells ∧ slots + ms ≤ R.slots) (hrest : (rest.map fun v => v.category).sum ≤ 8) (k : ∀ (r : Option Value) (h' : HP), P r h' → ev G M_La_law R E 129 lv (r.toList ++ rest) h' (cells + mc) (slots + ms)) : ev G M_La_law R E 126 lv (.int a4 :: .int a3 :: .int a2 :: .int a1 :: .int a0 :: .ref b :: rest) h cells slots := ev_callV (as := [.int a0, .int a1, .int a2, .int a3, .int a4]) (ci := 6) d_La_law_126 hm hb hv0 rfl w_271 w_272 w_273 w_63 w_274 hy_Um_code hR hcs hrest k
theorem d_La_law_129 : decode code 129 = .ok (.aload_n 2, 1) := by decide +kernel
theorem s_La_law_129 {x : Nat} (hl : lg lv 2 = some (.ref x)) (k : ev G M_La_law R E 130 lv (.ref x :: rest) h cells slots) : ev G M_La_law R E 129 lv rest h cells slots := ev_aload_n d_La_law_129 rfl hl k
theorem d_La_law_130 : decode code 130 = .ok (.aload_n 0, 1) := by decide +kernel
theorem s_La_law_130 {x : Nat} (hl : lg lv 0 = some (.ref x)) (k : ev G M_La_law R E 131 lv (.ref x :: rest) h cells slots) : ev G M_La_law R E 130 lv rest h cells slots := ev_aload_n d_La_law_130 rfl hl k
theorem d_La_law_131 : decode code 131 = .ok (.iload_n 3, 1) := by decide +kernel
theorem s_La_law_131 {x : Int32} (hl : lg lv 3 = some (.int x)) (k : ev G M_La_law R E 132 lv (.int x :: rest) h cells slots) : ev G M_La_law R E 131 lv rest h cells slots := ev_iload_n d_La_law_131 rfl hl k
theorem d_La_law_132 : decode code 132 = .ok (.iconst 1, 1) := by decide +kernel
theorem s_La_law_132  (k : ev G M_La_law R E 133 lv (.int 1 :: rest) h cells slots) : ev G M_La_law R E 132 lv rest h cells slots := ev_iconst d_La_law_132 (by decide) k
theorem d_La_law_133 : decode code 133 = .ok (.iadd, 1) := by decide +kernel
theorem s_La_law_133 {x y : Int32} (k : ev G M_La_law R E 134 lv (.int (x + y) :: rest) h cells slots) : ev G M_La_law R E 133 lv (.int y :: .int x :: rest) h cells slots := ev_iadd d_La_law_133 k
theorem d_La_law_134 : decode code 134 = .ok (.iaload, 1) := by decide +kernel
theorem s_La_law_134 {a n : Nat} {f : Nat → Int32} {i : Int32} (hh : h a = mI 0 n f) (hin : vp_in i n) (k : ev G M_La_law R E 135 lv (.int (f i.toNatClampNeg) :: rest) h cells slots) : ev G M_La_law R E 134 lv (.int i :: .ref a :: rest) h cells slots := ev_iaload d_La_law_134 rfl hh hin k
theorem s_La_law_134t {j N : Nat} {f : Nat → Value} {i x : Int32} (hj : G.2.2.2.2[j]? = some (.int, N, f)) (hin : vp_in i N) (hv : f i.toNatClampNeg = .int x) (k : ev G M_La_law R E 135 lv (.int x :: rest) h cells slots) : ev G M_La_law R E 134 lv (.int i :: .ref (tB + j) :: rest) h cells slots := ev_tload d_La_law_134 hj hin hv k
theorem d_La_law_135 : decode code 135 = .ok (.aload_n 0, 1) := by decide +kernel
theorem s_La_law_135 {x : Nat} (hl : lg lv 0 = some (.ref x)) (k : ev G M_La_law R E 136 lv (.ref x :: rest) h cells slots) : ev G M_La_law R E 135 lv rest h cells slots := ev_aload_n d_La_law_135 rfl hl k
theorem d_La_law_136 : decode code 136 = .ok (.iload_n 3, 1) := by decide +kernel
theorem s_La_law_136 {x : Int32} (hl : lg lv 3 = some (.int x)) (k : ev G M_La_law R E 137 lv (.int x :: rest) h cells slots) : ev G M_La_law R E 136 lv rest h cells slots := ev_iload_n d_La_law_136 rfl hl k
theorem d_La_law_137 : decode code 137 = .ok (.iconst 2, 1) := by decide +kernel
theorem s_La_law_137  (k : ev G M_La_law R E 138 lv (.int 2 :: rest) h cells slots) : ev G M_La_law R E 137 lv rest h cells slots := ev_iconst d_La_law_137 (by decide) k
theorem d_La_law_138 : decode code 138 = .ok (.iadd, 1) := by decide +kernel
theorem s_La_law_138 {x y : Int32} (k : ev G M_La_law R E 139 lv (.int (x + y) :: rest) h cells slots) : ev G M_La_law R E 138 lv (.int y :: .int x :: rest) h cells slots := ev_iadd d_La_law_138 k
theorem d_La_law_139 : decode code 139 = .ok (.iaload, 1) := by decide +kernel
theorem s_La_law_139 {a n : Nat} {f : Nat → Int32} {i : Int32} (hh : h a = mI 0 n f) (hin : vp_in i n) (k : ev G M_La_law R E 140 lv (.int (f i.toNatClampNeg) :: rest) h cells slots) : ev G M_La_law R E 139 lv (.int i :: .ref a :: rest) h cells slots := ev_iaload d_La_law_139 rfl hh hin k
theorem s_La_law_139t {j N : Nat} {f : Nat → Value} {i x : Int32} (hj : G.2.2.2.2[j]? = some (.int, N, f)) (hin : vp_in i N) (hv : f i.toNatClampNeg = .int x) (k : ev G M_La_law R E 140 lv (.int x :: rest) h cells slots) : ev G M_La_law R E 139 lv (.int i :: .ref (tB + j) :: rest) h cells slots := ev_tload d_La_law_139 hj hin hv k
theorem d_La_law_140 : decode code 140 = .ok (.aload_n 0, 1) := by decide +kernel
theorem s_La_law_140 {x : Nat} (hl : lg lv 0 = some (.ref x)) (k : ev G M_La_law R E 141 lv (.ref x :: rest) h cells slots) : ev G M_La_law R E 140 lv rest h cells slots := ev_aload_n d_La_law_140 rfl hl k
theorem d_La_law_141 : decode code 141 = .ok (.iload_n 3, 1) := by decide +kernel
theorem s_La_law_141 {x : Int32} (hl : lg lv 3 = some (.int x)) (k : ev G M_La_law R E 142 lv (.int x :: rest) h cells slots) : ev G M_La_law R E 141 lv rest h cells slots := ev_iload_n d_La_law_141 rfl hl k
theorem d_La_law_142 : decode code 142 = .ok (.iconst 3, 1) := by decide +kernel
theorem s_La_law_142  (k : ev G M_La_law R E 143 lv (.int 3 :: rest) h cells slots) : ev G M_La_law R E 142 lv rest h cells slots := ev_iconst d_La_law_142 (by decide) k
theorem d_La_law_143 : decode code 143 = .ok (.iadd, 1) := by decide +kernel
theorem s_La_law_143 {x y : Int32} (k : ev G M_La_law R E 144 lv (.int (x + y) :: rest) h cells slots) : ev G M_La_law R E 143 lv (.int y :: .int x :: rest) h cells slots := ev_iadd d_La_law_143 k
theorem d_La_law_144 : decode code 144 = .ok (.iaload, 1) := by decide +kernel
theorem s_La_law_144 {a n : Nat} {f : Nat → Int32} {i : Int32} (hh : h a = mI 0 n f) (hin : vp_in i n) (k : ev G M_La_law R E 145 lv (.int (f i.toNatClampNeg) :: rest) h cells slots) : ev G M_La_law R E 144 lv (.int i :: .ref a :: rest) h cells slots := ev_iaload d_La_law_144 rfl hh hin k
theorem s_La_law_144t {j N : Nat} {f : Nat → Value} {i x : Int32} (hj : G.2.2.2.2[j]? = some (.int, N, f)) (hin : vp_in i N) (hv : f i.toNatClampNeg = .int x) (k : ev G M_La_law R E 145 lv (.int x :: rest) h cells slots) : ev G M_La_law R E 144 lv (.int i :: .ref (tB + j) :: rest) h cells slots := ev_tload d_La_law_144 hj hin hv k
theorem d_La_law_145 : decode code 145 = .ok (.aload_n 0, 1) := by decide +kernel
theorem s_La_law_145 {x : Nat} (hl : lg lv 0 = some (.ref x)) (k : ev G M_La_law R E 146 lv (.ref x :: rest) h cells slots) : ev G M_La_law R E 145 lv rest h cells slots := ev_aload_n d_La_law_145 rfl hl k
theorem d_La_law_146 : decode code 146 = .ok (.iload_n 3, 1) := by decide +kernel
theorem s_La_law_146 {x : Int32} (hl : lg lv 3 = some (.int x)) (k : ev G M_La_law R E 147 lv (.int x :: rest) h cells slots) : ev G M_La_law R E 146 lv rest h cells slots := ev_iload_n d_La_law_146 rfl hl k
theorem d_La_law_147 : decode code 147 = .ok (.iconst 4, 1) := by decide +kernel
theorem s_La_law_147  (k : ev G M_La_law R E 148 lv (.int 4 :: rest) h cells slots) : ev G M_La_law R E 147 lv rest h cells slots := ev_iconst d_La_law_147 (by decide) k
theorem d_La_law_148 : decode code 148 = .ok (.iadd, 1) := by decide +kernel
theorem s_La_law_148 {x y : Int32} (k : ev G M_La_law R E 149 lv (.int (x + y) :: rest) h cells slots) : ev G M_La_law R E 148 lv (.int y :: .int x :: rest) h cells slots := ev_iadd d_La_law_148 k
theorem d_La_law_149 : decode code 149 = .ok (.iaload, 1) := by decide +kernel
theorem s_La_law_149 {a n : Nat} {f : Nat → Int32} {i : Int32} (hh : h a = mI 0 n f) (hin : vp_in i n) (k : ev G M_La_law R E 150 lv (.int (f i.toNatClampNeg) :: rest) h cells slots) : ev G M_La_law R E 149 lv (.int i :: .ref a :: rest) h cells slots := ev_iaload d_La_law_149 rfl hh hin k
theorem s_La_law_149t {j N : Nat} {f : Nat → Value} {i x : Int32} (hj : G.2.2.2.2[j]? = some (.int, N, f)) (hin : vp_in i N) (hv : f i.toNatClampNeg = .int x) (k : ev G M_La_law R E 150 lv (.int x :: rest) h cells slots) : ev G M_La_law R E 149 lv (.int i :: .ref (tB + j) :: rest) h cells slots := ev_tload d_La_law_149 hj hin hv k
theorem d_La_law_150 : decode code 150 = .ok (.aload_n 0, 1) := by decide +kernel
theorem s_La_law_150 {x : Nat} (hl : lg lv 0 = some (.ref x)) (k : ev G M_La_law R E 151 lv (.ref x :: rest) h cells slots) : ev G M_La_law R E 150 lv rest h cells slots := ev_aload_n d_La_law_150 rfl hl k
theorem d_La_law_151 : decode code 151 = .ok (.iload_n 3, 1) := by decide +kernel
theorem s_La_law_151 {x : Int32} (hl : lg lv 3 = some (.int x)) (k : ev G M_La_law R E 152 lv (.int x :: rest) h cells slots) : ev G M_La_law R E 151 lv rest h cells slots := ev_iload_n d_La_law_151 rfl hl k
theorem d_La_law_152 : decode code 152 = .ok (.iconst 5, 1) := by decide +kernel
theorem s_La_law_152  (k : ev G M_La_law R E 153 lv (.int 5 :: rest) h cells slots) : ev G M_La_law R E 152 lv rest h cells slots := ev_iconst d_La_law_152 (by decide) k
theorem d_La_law_153 : decode code 153 = .ok (.iadd, 1) := by decide +kernel
theorem s_La_law_153 {x y : Int32} (k : ev G M_La_law R E 154 lv (.int (x + y) :: rest) h cells slots) : ev G M_La_law R E 153 lv (.int y :: .int x :: rest) h cells slots := ev_iadd d_La_law_153 k
theorem d_La_law_154 : decode code 154 = .ok (.iaload, 1) := by decide +kernel
theorem s_La_law_154 {a n : Nat} {f : Nat → Int32} {i : Int32} (hh : h a = mI 0 n f) (hin : vp_in i n) (k : ev G M_La_law R E 155 lv (.int (f i.toNatClampNeg) :: rest) h cells slots) : ev G M_La_law R E 154 lv (.int i :: .ref a :: rest) h cells slots := ev_iaload d_La_law_154 rfl hh hin k
theorem s_La_law_154t {j N : Nat} {f : Nat → Value} {i x : Int32} (hj : G.2.2.2.2[j]? = some (.int, N, f)) (hin : vp_in i N) (hv : f i.toNatClampNeg = .int x) (k : ev G M_La_law R E 155 lv (.int x :: rest) h cells slots) : ev G M_La_law R E 154 lv (.int i :: .ref (tB + j) :: rest) h cells slots := ev_tload d_La_law_154 hj hin hv k
theorem d_La_law_155 : decode code 155 = .ok (.invokevirtual 17, 3) := by decide +kernel
theorem s_La_law_155 {mc ms : Nat} {P : Option Value → HP → Prop} {a0 : Int32} {a1 : Int32} {a2 : Int32} {a3 : Int32} {a4 : Int32} {b : Nat} {fs : List Value} {v0 : Value} (hm : mt G M_Mo_code 1 mc ms (.ref b :: [.int a0, .int a1, .int a2, .int a3, .int a4]) h P) (hb : h b = mO 7 fs) (hv0 : fs[0]? = some v0) (hR : 1 + 1 ≤ R.frames ∧ 8 + (7 + 11) + 39 * 1 ≤ R.locals) (hcs : cells + mc ≤ R.cells ∧ slots + ms ≤ R.slots) (hrest : (rest.map fun v => v.category).sum ≤ 8) (k : ∀ (r : Option Value) (h' : HP), P r h' → ev G M_La_law R E 158 lv (r.toList ++ rest) h' (cells + mc) (slots + ms)) : ev G M_La_law R E 155 lv (.int a4 :: .int a3 :: .int a2 :: .int a1 :: .int a0 :: .ref b :: rest) h cells slots := ev_callV (as := [.int a0, .int a1, .int a2, .int a3, .int a4]) (ci := 7) d_La_law_155 hm hb hv0 rfl w_765 w_766 w_767 w_70 w_768 hy_Mo_code hR hcs hrest k
theorem d_La_law_158 : decode code 158 = .ok (.if_icmp .eq 291, 3) := by decide +kernel
theorem s_La_law_158 {x y : Int32} (kt : x = y → ev G M_La_law R E 449 lv rest h cells slots) (kf : ¬ x = y → ev G M_La_law R E 161 lv rest h cells slots) : ev G M_La_law R E 158 lv (.int y :: .int x :: rest) h cells slots := ev_icmp_eq d_La_law_158 (by decide) kt kf
theorem d_La_law_161 : decode code 161 = .ok (.iconst 0, 1) := by decide +kernel
theorem s_La_law_161  (k : ev G M_La_law R E 162 lv (.int 0 :: rest) h cells slots) : ev G M_La_law R E 161 lv rest h cells slots := ev_iconst d_La_law_161 (by decide) k
theorem d_La_law_162 : decode code 162 = .ok (.ireturn, 1) := by decide +kernel
theorem d_La_law_163 : decode code 163 = .ok (.aload_n 1, 1) := by decide +kernel
theorem s_La_law_163 {x : Nat} (hl : lg lv 1 = some (.ref x)) (k : ev G M_La_law R E 164 lv (.ref x :: rest) h cells slots) : ev G M_La_law R E 163 lv rest h cells slots := ev_aload_n d_La_law_163 rfl hl k
theorem d_La_law_164 : decode code 164 = .ok (.invokevirtual 18, 3) := by decide +kernel
theorem s_La_law_164 {mc ms : Nat} {P : Option Value → HP → Prop}  {b : Nat} {fs : List Value} {v0 : Value} (hm : mt G M_Um_boot 2 mc ms (.ref b :: []) h P) (hb : h b = mO 6 fs) (hv0 : fs[0]? = some v0) (hR : 2 + 1 ≤ R.frames ∧ 8 + (1 + 11) + 39 * 2 ≤ R.locals) (hcs : cells + mc ≤ R.cells ∧ slots + ms ≤ R.slots) (hrest : (rest.map fun v => v.category).sum ≤ 8) (k : ∀ (r : Option Value) (h' : HP), P r h' → ev G M_La_law R E 167 lv (r.toList ++ rest) h' (cells + mc) (slots + ms)) : ev G M_La_law R E 164 lv (.ref b :: rest) h cells slots := ev_callV (as := []) (ci := 6) d_La_law_164 hm hb hv0 rfl w_279 w_280 w_281 w_63 w_282 hy_Um_boot hR hcs hrest k
theorem d_La_law_167 : decode code 167 = .ok (.aload_n 2, 1) := by decide +kernel
theorem s_La_law_167 {x : Nat} (hl : lg lv 2 = some (.ref x)) (k : ev G M_La_law R E 168 lv (.ref x :: rest) h cells slots) : ev G M_La_law R E 167 lv rest h cells slots := ev_aload_n d_La_law_167 rfl hl k
theorem d_La_law_168 : decode code 168 = .ok (.invokevirtual 22, 3) := by decide +kernel
theorem s_La_law_168 {mc ms : Nat} {P : Option Value → HP → Prop}  {b : Nat} {fs : List Value} {v0 : Value} (hm : mt G M_Mo_boot 3 mc ms (.ref b :: []) h P) (hb : h b = mO 7 fs) (hv0 : fs[0]? = some v0) (hR : 3 + 1 ≤ R.frames ∧ 8 + (2 + 11) + 39 * 3 ≤ R.locals) (hcs : cells + mc ≤ R.cells ∧ slots + ms ≤ R.slots) (hrest : (rest.map fun v => v.category).sum ≤ 8) (k : ∀ (r : Option Value) (h' : HP), P r h' → ev G M_La_law R E 171 lv (r.toList ++ rest) h' (cells + mc) (slots + ms)) : ev G M_La_law R E 168 lv (.ref b :: rest) h cells slots := ev_callV (as := []) (ci := 7) d_La_law_168 hm hb hv0 rfl w_772 w_773 w_774 w_70 w_775 hy_Mo_boot hR hcs hrest k
theorem d_La_law_171 : decode code 171 = .ok (.if_icmp .eq 278, 3) := by decide +kernel
theorem s_La_law_171 {x y : Int32} (kt : x = y → ev G M_La_law R E 449 lv rest h cells slots) (kf : ¬ x = y → ev G M_La_law R E 174 lv rest h cells slots) : ev G M_La_law R E 171 lv (.int y :: .int x :: rest) h cells slots := ev_icmp_eq d_La_law_171 (by decide) kt kf
theorem d_La_law_174 : decode code 174 = .ok (.iconst 0, 1) := by decide +kernel
theorem s_La_law_174  (k : ev G M_La_law R E 175 lv (.int 0 :: rest) h cells slots) : ev G M_La_law R E 174 lv rest h cells slots := ev_iconst d_La_law_174 (by decide) k
theorem d_La_law_175 : decode code 175 = .ok (.ireturn, 1) := by decide +kernel
theorem d_La_law_176 : decode code 176 = .ok (.aload_n 1, 1) := by decide +kernel
theorem s_La_law_176 {x : Nat} (hl : lg lv 1 = some (.ref x)) (k : ev G M_La_law R E 177 lv (.ref x :: rest) h cells slots) : ev G M_La_law R E 176 lv rest h cells slots := ev_aload_n d_La_law_176 rfl hl k
theorem d_La_law_177 : decode code 177 = .ok (.aload_n 0, 1) := by decide +kernel
theorem s_La_law_177 {x : Nat} (hl : lg lv 0 = some (.ref x)) (k : ev G M_La_law R E 178 lv (.ref x :: rest) h cells slots) : ev G M_La_law R E 177 lv rest h cells slots := ev_aload_n d_La_law_177 rfl hl k
theorem d_La_law_178 : decode code 178 = .ok (.iload_n 3, 1) := by decide +kernel
theorem s_La_law_178 {x : Int32} (hl : lg lv 3 = some (.int x)) (k : ev G M_La_law R E 179 lv (.int x :: rest) h cells slots) : ev G M_La_law R E 178 lv rest h cells slots := ev_iload_n d_La_law_178 rfl hl k
theorem d_La_law_179 : decode code 179 = .ok (.iconst 1, 1) := by decide +kernel
theorem s_La_law_179  (k : ev G M_La_law R E 180 lv (.int 1 :: rest) h cells slots) : ev G M_La_law R E 179 lv rest h cells slots := ev_iconst d_La_law_179 (by decide) k
theorem d_La_law_180 : decode code 180 = .ok (.iadd, 1) := by decide +kernel
theorem s_La_law_180 {x y : Int32} (k : ev G M_La_law R E 181 lv (.int (x + y) :: rest) h cells slots) : ev G M_La_law R E 180 lv (.int y :: .int x :: rest) h cells slots := ev_iadd d_La_law_180 k
theorem d_La_law_181 : decode code 181 = .ok (.iaload, 1) := by decide +kernel
theorem s_La_law_181 {a n : Nat} {f : Nat → Int32} {i : Int32} (hh : h a = mI 0 n f) (hin : vp_in i n) (k : ev G M_La_law R E 182 lv (.int (f i.toNatClampNeg) :: rest) h cells slots) : ev G M_La_law R E 181 lv (.int i :: .ref a :: rest) h cells slots := ev_iaload d_La_law_181 rfl hh hin k
theorem s_La_law_181t {j N : Nat} {f : Nat → Value} {i x : Int32} (hj : G.2.2.2.2[j]? = some (.int, N, f)) (hin : vp_in i N) (hv : f i.toNatClampNeg = .int x) (k : ev G M_La_law R E 182 lv (.int x :: rest) h cells slots) : ev G M_La_law R E 181 lv (.int i :: .ref (tB + j) :: rest) h cells slots := ev_tload d_La_law_181 hj hin hv k
theorem d_La_law_182 : decode code 182 = .ok (.invokevirtual 23, 3) := by decide +kernel
theorem s_La_law_182 {mc ms : Nat} {P : Option Value → HP → Prop} {a0 : Int32} {b : Nat} {fs : List Value} {v0 : Value} (hm : mt G M_Um_step 6 mc ms (.ref b :: [.int a0]) h P) (hb : h b = mO 6 fs) (hv0 : fs[0]? = some v0) (hR : 6 + 1 ≤ R.frames ∧ 8 + (3 + 11) + 39 * 6 ≤ R.locals) (hcs : cells + mc ≤ R.cells ∧ slots + ms ≤ R.slots) (hrest : (rest.map fun v => v.category).sum ≤ 8) (k : ∀ (r : Option Value) (h' : HP), P r h' → ev G M_La_law R E 185 lv (r.toList ++ rest) h' (cells + mc) (slots + ms)) : ev G M_La_law R E 182 lv (.int a0 :: .ref b :: rest) h cells slots := ev_callV (as := [.int a0]) (ci := 6) d_La_law_182 hm hb hv0 rfl w_312 w_313 w_314 w_63 w_315 hy_Um_step hR hcs hrest k
theorem d_La_law_185 : decode code 185 = .ok (.aload_n 2, 1) := by decide +kernel
theorem s_La_law_185 {x : Nat} (hl : lg lv 2 = some (.ref x)) (k : ev G M_La_law R E 186 lv (.ref x :: rest) h cells slots) : ev G M_La_law R E 185 lv rest h cells slots := ev_aload_n d_La_law_185 rfl hl k
theorem d_La_law_186 : decode code 186 = .ok (.aload_n 0, 1) := by decide +kernel
theorem s_La_law_186 {x : Nat} (hl : lg lv 0 = some (.ref x)) (k : ev G M_La_law R E 187 lv (.ref x :: rest) h cells slots) : ev G M_La_law R E 186 lv rest h cells slots := ev_aload_n d_La_law_186 rfl hl k
theorem d_La_law_187 : decode code 187 = .ok (.iload_n 3, 1) := by decide +kernel
theorem s_La_law_187 {x : Int32} (hl : lg lv 3 = some (.int x)) (k : ev G M_La_law R E 188 lv (.int x :: rest) h cells slots) : ev G M_La_law R E 187 lv rest h cells slots := ev_iload_n d_La_law_187 rfl hl k
theorem d_La_law_188 : decode code 188 = .ok (.iconst 1, 1) := by decide +kernel
theorem s_La_law_188  (k : ev G M_La_law R E 189 lv (.int 1 :: rest) h cells slots) : ev G M_La_law R E 188 lv rest h cells slots := ev_iconst d_La_law_188 (by decide) k
theorem d_La_law_189 : decode code 189 = .ok (.iadd, 1) := by decide +kernel
theorem s_La_law_189 {x y : Int32} (k : ev G M_La_law R E 190 lv (.int (x + y) :: rest) h cells slots) : ev G M_La_law R E 189 lv (.int y :: .int x :: rest) h cells slots := ev_iadd d_La_law_189 k
theorem d_La_law_190 : decode code 190 = .ok (.iaload, 1) := by decide +kernel
theorem s_La_law_190 {a n : Nat} {f : Nat → Int32} {i : Int32} (hh : h a = mI 0 n f) (hin : vp_in i n) (k : ev G M_La_law R E 191 lv (.int (f i.toNatClampNeg) :: rest) h cells slots) : ev G M_La_law R E 190 lv (.int i :: .ref a :: rest) h cells slots := ev_iaload d_La_law_190 rfl hh hin k
theorem s_La_law_190t {j N : Nat} {f : Nat → Value} {i x : Int32} (hj : G.2.2.2.2[j]? = some (.int, N, f)) (hin : vp_in i N) (hv : f i.toNatClampNeg = .int x) (k : ev G M_La_law R E 191 lv (.int x :: rest) h cells slots) : ev G M_La_law R E 190 lv (.int i :: .ref (tB + j) :: rest) h cells slots := ev_tload d_La_law_190 hj hin hv k
theorem d_La_law_191 : decode code 191 = .ok (.invokevirtual 27, 3) := by decide +kernel
theorem s_La_law_191 {mc ms : Nat} {P : Option Value → HP → Prop} {a0 : Int32} {b : Nat} {fs : List Value} {v0 : Value} (hm : mt G M_Mo_step 6 mc ms (.ref b :: [.int a0]) h P) (hb : h b = mO 7 fs) (hv0 : fs[0]? = some v0) (hR : 6 + 1 ≤ R.frames ∧ 8 + (3 + 11) + 39 * 6 ≤ R.locals) (hcs : cells + mc ≤ R.cells ∧ slots + ms ≤ R.slots) (hrest : (rest.map fun v => v.category).sum ≤ 8) (k : ∀ (r : Option Value) (h' : HP), P r h' → ev G M_La_law R E 194 lv (r.toList ++ rest) h' (cells + mc) (slots + ms)) : ev G M_La_law R E 191 lv (.int a0 :: .ref b :: rest) h cells slots := ev_callV (as := [.int a0]) (ci := 7) d_La_law_191 hm hb hv0 rfl w_788 w_789 w_790 w_70 w_791 hy_Mo_step hR hcs hrest k
theorem d_La_law_194 : decode code 194 = .ok (.if_icmp .eq 255, 3) := by decide +kernel
theorem s_La_law_194 {x y : Int32} (kt : x = y → ev G M_La_law R E 449 lv rest h cells slots) (kf : ¬ x = y → ev G M_La_law R E 197 lv rest h cells slots) : ev G M_La_law R E 194 lv (.int y :: .int x :: rest) h cells slots := ev_icmp_eq d_La_law_194 (by decide) kt kf
theorem d_La_law_197 : decode code 197 = .ok (.iconst 0, 1) := by decide +kernel
theorem s_La_law_197  (k : ev G M_La_law R E 198 lv (.int 0 :: rest) h cells slots) : ev G M_La_law R E 197 lv rest h cells slots := ev_iconst d_La_law_197 (by decide) k
theorem d_La_law_198 : decode code 198 = .ok (.ireturn, 1) := by decide +kernel
theorem d_La_law_199 : decode code 199 = .ok (.aload_n 1, 1) := by decide +kernel
theorem s_La_law_199 {x : Nat} (hl : lg lv 1 = some (.ref x)) (k : ev G M_La_law R E 200 lv (.ref x :: rest) h cells slots) : ev G M_La_law R E 199 lv rest h cells slots := ev_aload_n d_La_law_199 rfl hl k
theorem d_La_law_200 : decode code 200 = .ok (.aload_n 0, 1) := by decide +kernel
theorem s_La_law_200 {x : Nat} (hl : lg lv 0 = some (.ref x)) (k : ev G M_La_law R E 201 lv (.ref x :: rest) h cells slots) : ev G M_La_law R E 200 lv rest h cells slots := ev_aload_n d_La_law_200 rfl hl k
theorem d_La_law_201 : decode code 201 = .ok (.iload_n 3, 1) := by decide +kernel
theorem s_La_law_201 {x : Int32} (hl : lg lv 3 = some (.int x)) (k : ev G M_La_law R E 202 lv (.int x :: rest) h cells slots) : ev G M_La_law R E 201 lv rest h cells slots := ev_iload_n d_La_law_201 rfl hl k
theorem d_La_law_202 : decode code 202 = .ok (.iconst 1, 1) := by decide +kernel
theorem s_La_law_202  (k : ev G M_La_law R E 203 lv (.int 1 :: rest) h cells slots) : ev G M_La_law R E 202 lv rest h cells slots := ev_iconst d_La_law_202 (by decide) k
theorem d_La_law_203 : decode code 203 = .ok (.iadd, 1) := by decide +kernel
theorem s_La_law_203 {x y : Int32} (k : ev G M_La_law R E 204 lv (.int (x + y) :: rest) h cells slots) : ev G M_La_law R E 203 lv (.int y :: .int x :: rest) h cells slots := ev_iadd d_La_law_203 k
theorem d_La_law_204 : decode code 204 = .ok (.iaload, 1) := by decide +kernel
theorem s_La_law_204 {a n : Nat} {f : Nat → Int32} {i : Int32} (hh : h a = mI 0 n f) (hin : vp_in i n) (k : ev G M_La_law R E 205 lv (.int (f i.toNatClampNeg) :: rest) h cells slots) : ev G M_La_law R E 204 lv (.int i :: .ref a :: rest) h cells slots := ev_iaload d_La_law_204 rfl hh hin k
theorem s_La_law_204t {j N : Nat} {f : Nat → Value} {i x : Int32} (hj : G.2.2.2.2[j]? = some (.int, N, f)) (hin : vp_in i N) (hv : f i.toNatClampNeg = .int x) (k : ev G M_La_law R E 205 lv (.int x :: rest) h cells slots) : ev G M_La_law R E 204 lv (.int i :: .ref (tB + j) :: rest) h cells slots := ev_tload d_La_law_204 hj hin hv k
theorem d_La_law_205 : decode code 205 = .ok (.invokevirtual 28, 3) := by decide +kernel
theorem s_La_law_205 {mc ms : Nat} {P : Option Value → HP → Prop} {a0 : Int32} {b : Nat} {fs : List Value} {v0 : Value} (hm : mt G M_Um_undo 3 mc ms (.ref b :: [.int a0]) h P) (hb : h b = mO 6 fs) (hv0 : fs[0]? = some v0) (hR : 3 + 1 ≤ R.frames ∧ 8 + (2 + 11) + 39 * 3 ≤ R.locals) (hcs : cells + mc ≤ R.cells ∧ slots + ms ≤ R.slots) (hrest : (rest.map fun v => v.category).sum ≤ 8) (k : ∀ (r : Option Value) (h' : HP), P r h' → ev G M_La_law R E 208 lv (r.toList ++ rest) h' (cells + mc) (slots + ms)) : ev G M_La_law R E 205 lv (.int a0 :: .ref b :: rest) h cells slots := ev_callV (as := [.int a0]) (ci := 6) d_La_law_205 hm hb hv0 rfl w_577 w_578 w_579 w_63 w_580 hy_Um_undo hR hcs hrest k
theorem d_La_law_208 : decode code 208 = .ok (.aload_n 2, 1) := by decide +kernel
theorem s_La_law_208 {x : Nat} (hl : lg lv 2 = some (.ref x)) (k : ev G M_La_law R E 209 lv (.ref x :: rest) h cells slots) : ev G M_La_law R E 208 lv rest h cells slots := ev_aload_n d_La_law_208 rfl hl k
theorem d_La_law_209 : decode code 209 = .ok (.aload_n 0, 1) := by decide +kernel
theorem s_La_law_209 {x : Nat} (hl : lg lv 0 = some (.ref x)) (k : ev G M_La_law R E 210 lv (.ref x :: rest) h cells slots) : ev G M_La_law R E 209 lv rest h cells slots := ev_aload_n d_La_law_209 rfl hl k
theorem d_La_law_210 : decode code 210 = .ok (.iload_n 3, 1) := by decide +kernel
theorem s_La_law_210 {x : Int32} (hl : lg lv 3 = some (.int x)) (k : ev G M_La_law R E 211 lv (.int x :: rest) h cells slots) : ev G M_La_law R E 210 lv rest h cells slots := ev_iload_n d_La_law_210 rfl hl k
theorem d_La_law_211 : decode code 211 = .ok (.iconst 1, 1) := by decide +kernel
theorem s_La_law_211  (k : ev G M_La_law R E 212 lv (.int 1 :: rest) h cells slots) : ev G M_La_law R E 211 lv rest h cells slots := ev_iconst d_La_law_211 (by decide) k
theorem d_La_law_212 : decode code 212 = .ok (.iadd, 1) := by decide +kernel
theorem s_La_law_212 {x y : Int32} (k : ev G M_La_law R E 213 lv (.int (x + y) :: rest) h cells slots) : ev G M_La_law R E 212 lv (.int y :: .int x :: rest) h cells slots := ev_iadd d_La_law_212 k
theorem d_La_law_213 : decode code 213 = .ok (.iaload, 1) := by decide +kernel
theorem s_La_law_213 {a n : Nat} {f : Nat → Int32} {i : Int32} (hh : h a = mI 0 n f) (hin : vp_in i n) (k : ev G M_La_law R E 214 lv (.int (f i.toNatClampNeg) :: rest) h cells slots) : ev G M_La_law R E 213 lv (.int i :: .ref a :: rest) h cells slots := ev_iaload d_La_law_213 rfl hh hin k
theorem s_La_law_213t {j N : Nat} {f : Nat → Value} {i x : Int32} (hj : G.2.2.2.2[j]? = some (.int, N, f)) (hin : vp_in i N) (hv : f i.toNatClampNeg = .int x) (k : ev G M_La_law R E 214 lv (.int x :: rest) h cells slots) : ev G M_La_law R E 213 lv (.int i :: .ref (tB + j) :: rest) h cells slots := ev_tload d_La_law_213 hj hin hv k
theorem d_La_law_214 : decode code 214 = .ok (.invokevirtual 31, 3) := by decide +kernel
theorem s_La_law_214 {mc ms : Nat} {P : Option Value → HP → Prop} {a0 : Int32} {b : Nat} {fs : List Value} {v0 : Value} (hm : mt G M_Mo_undo 6 mc ms (.ref b :: [.int a0]) h P) (hb : h b = mO 7 fs) (hv0 : fs[0]? = some v0) (hR : 6 + 1 ≤ R.frames ∧ 8 + (5 + 11) + 39 * 6 ≤ R.locals) (hcs : cells + mc ≤ R.cells ∧ slots + ms ≤ R.slots) (hrest : (rest.map fun v => v.category).sum ≤ 8) (k : ∀ (r : Option Value) (h' : HP), P r h' → ev G M_La_law R E 217 lv (r.toList ++ rest) h' (cells + mc) (slots + ms)) : ev G M_La_law R E 214 lv (.int a0 :: .ref b :: rest) h cells slots := ev_callV (as := [.int a0]) (ci := 7) d_La_law_214 hm hb hv0 rfl w_880 w_881 w_882 w_70 w_883 hy_Mo_undo hR hcs hrest k
theorem d_La_law_217 : decode code 217 = .ok (.if_icmp .eq 232, 3) := by decide +kernel
theorem s_La_law_217 {x y : Int32} (kt : x = y → ev G M_La_law R E 449 lv rest h cells slots) (kf : ¬ x = y → ev G M_La_law R E 220 lv rest h cells slots) : ev G M_La_law R E 217 lv (.int y :: .int x :: rest) h cells slots := ev_icmp_eq d_La_law_217 (by decide) kt kf
theorem d_La_law_220 : decode code 220 = .ok (.iconst 0, 1) := by decide +kernel
theorem s_La_law_220  (k : ev G M_La_law R E 221 lv (.int 0 :: rest) h cells slots) : ev G M_La_law R E 220 lv rest h cells slots := ev_iconst d_La_law_220 (by decide) k
theorem d_La_law_221 : decode code 221 = .ok (.ireturn, 1) := by decide +kernel
theorem d_La_law_222 : decode code 222 = .ok (.aload_n 1, 1) := by decide +kernel
theorem s_La_law_222 {x : Nat} (hl : lg lv 1 = some (.ref x)) (k : ev G M_La_law R E 223 lv (.ref x :: rest) h cells slots) : ev G M_La_law R E 222 lv rest h cells slots := ev_aload_n d_La_law_222 rfl hl k
theorem d_La_law_223 : decode code 223 = .ok (.aload_n 0, 1) := by decide +kernel
theorem s_La_law_223 {x : Nat} (hl : lg lv 0 = some (.ref x)) (k : ev G M_La_law R E 224 lv (.ref x :: rest) h cells slots) : ev G M_La_law R E 223 lv rest h cells slots := ev_aload_n d_La_law_223 rfl hl k
theorem d_La_law_224 : decode code 224 = .ok (.iload_n 3, 1) := by decide +kernel
theorem s_La_law_224 {x : Int32} (hl : lg lv 3 = some (.int x)) (k : ev G M_La_law R E 225 lv (.int x :: rest) h cells slots) : ev G M_La_law R E 224 lv rest h cells slots := ev_iload_n d_La_law_224 rfl hl k
theorem d_La_law_225 : decode code 225 = .ok (.iconst 1, 1) := by decide +kernel
theorem s_La_law_225  (k : ev G M_La_law R E 226 lv (.int 1 :: rest) h cells slots) : ev G M_La_law R E 225 lv rest h cells slots := ev_iconst d_La_law_225 (by decide) k
theorem d_La_law_226 : decode code 226 = .ok (.iadd, 1) := by decide +kernel
theorem s_La_law_226 {x y : Int32} (k : ev G M_La_law R E 227 lv (.int (x + y) :: rest) h cells slots) : ev G M_La_law R E 226 lv (.int y :: .int x :: rest) h cells slots := ev_iadd d_La_law_226 k
theorem d_La_law_227 : decode code 227 = .ok (.iaload, 1) := by decide +kernel
theorem s_La_law_227 {a n : Nat} {f : Nat → Int32} {i : Int32} (hh : h a = mI 0 n f) (hin : vp_in i n) (k : ev G M_La_law R E 228 lv (.int (f i.toNatClampNeg) :: rest) h cells slots) : ev G M_La_law R E 227 lv (.int i :: .ref a :: rest) h cells slots := ev_iaload d_La_law_227 rfl hh hin k
theorem s_La_law_227t {j N : Nat} {f : Nat → Value} {i x : Int32} (hj : G.2.2.2.2[j]? = some (.int, N, f)) (hin : vp_in i N) (hv : f i.toNatClampNeg = .int x) (k : ev G M_La_law R E 228 lv (.int x :: rest) h cells slots) : ev G M_La_law R E 227 lv (.int i :: .ref (tB + j) :: rest) h cells slots := ev_tload d_La_law_227 hj hin hv k
theorem d_La_law_228 : decode code 228 = .ok (.aload_n 0, 1) := by decide +kernel
theorem s_La_law_228 {x : Nat} (hl : lg lv 0 = some (.ref x)) (k : ev G M_La_law R E 229 lv (.ref x :: rest) h cells slots) : ev G M_La_law R E 228 lv rest h cells slots := ev_aload_n d_La_law_228 rfl hl k
theorem d_La_law_229 : decode code 229 = .ok (.iload_n 3, 1) := by decide +kernel
theorem s_La_law_229 {x : Int32} (hl : lg lv 3 = some (.int x)) (k : ev G M_La_law R E 230 lv (.int x :: rest) h cells slots) : ev G M_La_law R E 229 lv rest h cells slots := ev_iload_n d_La_law_229 rfl hl k
theorem d_La_law_230 : decode code 230 = .ok (.iconst 2, 1) := by decide +kernel
theorem s_La_law_230  (k : ev G M_La_law R E 231 lv (.int 2 :: rest) h cells slots) : ev G M_La_law R E 230 lv rest h cells slots := ev_iconst d_La_law_230 (by decide) k
theorem d_La_law_231 : decode code 231 = .ok (.iadd, 1) := by decide +kernel
theorem s_La_law_231 {x y : Int32} (k : ev G M_La_law R E 232 lv (.int (x + y) :: rest) h cells slots) : ev G M_La_law R E 231 lv (.int y :: .int x :: rest) h cells slots := ev_iadd d_La_law_231 k
theorem d_La_law_232 : decode code 232 = .ok (.iaload, 1) := by decide +kernel
theorem s_La_law_232 {a n : Nat} {f : Nat → Int32} {i : Int32} (hh : h a = mI 0 n f) (hin : vp_in i n) (k : ev G M_La_law R E 233 lv (.int (f i.toNatClampNeg) :: rest) h cells slots) : ev G M_La_law R E 232 lv (.int i :: .ref a :: rest) h cells slots := ev_iaload d_La_law_232 rfl hh hin k
theorem s_La_law_232t {j N : Nat} {f : Nat → Value} {i x : Int32} (hj : G.2.2.2.2[j]? = some (.int, N, f)) (hin : vp_in i N) (hv : f i.toNatClampNeg = .int x) (k : ev G M_La_law R E 233 lv (.int x :: rest) h cells slots) : ev G M_La_law R E 232 lv (.int i :: .ref (tB + j) :: rest) h cells slots := ev_tload d_La_law_232 hj hin hv k
theorem d_La_law_233 : decode code 233 = .ok (.invokevirtual 32, 3) := by decide +kernel
theorem s_La_law_233 {mc ms : Nat} {P : Option Value → HP → Prop} {a0 : Int32} {a1 : Int32} {b : Nat} {fs : List Value} {v0 : Value} (hm : mt G M_Um_register 3 mc ms (.ref b :: [.int a0, .int a1]) h P) (hb : h b = mO 6 fs) (hv0 : fs[0]? = some v0) (hR : 3 + 1 ≤ R.frames ∧ 8 + (3 + 11) + 39 * 3 ≤ R.locals) (hcs : cells + mc ≤ R.cells ∧ slots + ms ≤ R.slots) (hrest : (rest.map fun v => v.category).sum ≤ 8) (k : ∀ (r : Option Value) (h' : HP), P r h' → ev G M_La_law R E 236 lv (r.toList ++ rest) h' (cells + mc) (slots + ms)) : ev G M_La_law R E 233 lv (.int a1 :: .int a0 :: .ref b :: rest) h cells slots := ev_callV (as := [.int a0, .int a1]) (ci := 6) d_La_law_233 hm hb hv0 rfl w_588 w_589 w_590 w_63 w_591 hy_Um_register hR hcs hrest k
theorem d_La_law_236 : decode code 236 = .ok (.aload_n 2, 1) := by decide +kernel
theorem s_La_law_236 {x : Nat} (hl : lg lv 2 = some (.ref x)) (k : ev G M_La_law R E 237 lv (.ref x :: rest) h cells slots) : ev G M_La_law R E 236 lv rest h cells slots := ev_aload_n d_La_law_236 rfl hl k
theorem d_La_law_237 : decode code 237 = .ok (.aload_n 0, 1) := by decide +kernel
theorem s_La_law_237 {x : Nat} (hl : lg lv 0 = some (.ref x)) (k : ev G M_La_law R E 238 lv (.ref x :: rest) h cells slots) : ev G M_La_law R E 237 lv rest h cells slots := ev_aload_n d_La_law_237 rfl hl k
theorem d_La_law_238 : decode code 238 = .ok (.iload_n 3, 1) := by decide +kernel
theorem s_La_law_238 {x : Int32} (hl : lg lv 3 = some (.int x)) (k : ev G M_La_law R E 239 lv (.int x :: rest) h cells slots) : ev G M_La_law R E 238 lv rest h cells slots := ev_iload_n d_La_law_238 rfl hl k
theorem d_La_law_239 : decode code 239 = .ok (.iconst 1, 1) := by decide +kernel
theorem s_La_law_239  (k : ev G M_La_law R E 240 lv (.int 1 :: rest) h cells slots) : ev G M_La_law R E 239 lv rest h cells slots := ev_iconst d_La_law_239 (by decide) k
theorem d_La_law_240 : decode code 240 = .ok (.iadd, 1) := by decide +kernel
theorem s_La_law_240 {x y : Int32} (k : ev G M_La_law R E 241 lv (.int (x + y) :: rest) h cells slots) : ev G M_La_law R E 240 lv (.int y :: .int x :: rest) h cells slots := ev_iadd d_La_law_240 k
theorem d_La_law_241 : decode code 241 = .ok (.iaload, 1) := by decide +kernel
theorem s_La_law_241 {a n : Nat} {f : Nat → Int32} {i : Int32} (hh : h a = mI 0 n f) (hin : vp_in i n) (k : ev G M_La_law R E 242 lv (.int (f i.toNatClampNeg) :: rest) h cells slots) : ev G M_La_law R E 241 lv (.int i :: .ref a :: rest) h cells slots := ev_iaload d_La_law_241 rfl hh hin k
theorem s_La_law_241t {j N : Nat} {f : Nat → Value} {i x : Int32} (hj : G.2.2.2.2[j]? = some (.int, N, f)) (hin : vp_in i N) (hv : f i.toNatClampNeg = .int x) (k : ev G M_La_law R E 242 lv (.int x :: rest) h cells slots) : ev G M_La_law R E 241 lv (.int i :: .ref (tB + j) :: rest) h cells slots := ev_tload d_La_law_241 hj hin hv k
theorem d_La_law_242 : decode code 242 = .ok (.aload_n 0, 1) := by decide +kernel
theorem s_La_law_242 {x : Nat} (hl : lg lv 0 = some (.ref x)) (k : ev G M_La_law R E 243 lv (.ref x :: rest) h cells slots) : ev G M_La_law R E 242 lv rest h cells slots := ev_aload_n d_La_law_242 rfl hl k
theorem d_La_law_243 : decode code 243 = .ok (.iload_n 3, 1) := by decide +kernel
theorem s_La_law_243 {x : Int32} (hl : lg lv 3 = some (.int x)) (k : ev G M_La_law R E 244 lv (.int x :: rest) h cells slots) : ev G M_La_law R E 243 lv rest h cells slots := ev_iload_n d_La_law_243 rfl hl k
theorem d_La_law_244 : decode code 244 = .ok (.iconst 2, 1) := by decide +kernel
theorem s_La_law_244  (k : ev G M_La_law R E 245 lv (.int 2 :: rest) h cells slots) : ev G M_La_law R E 244 lv rest h cells slots := ev_iconst d_La_law_244 (by decide) k
theorem d_La_law_245 : decode code 245 = .ok (.iadd, 1) := by decide +kernel
theorem s_La_law_245 {x y : Int32} (k : ev G M_La_law R E 246 lv (.int (x + y) :: rest) h cells slots) : ev G M_La_law R E 245 lv (.int y :: .int x :: rest) h cells slots := ev_iadd d_La_law_245 k
theorem d_La_law_246 : decode code 246 = .ok (.iaload, 1) := by decide +kernel
theorem s_La_law_246 {a n : Nat} {f : Nat → Int32} {i : Int32} (hh : h a = mI 0 n f) (hin : vp_in i n) (k : ev G M_La_law R E 247 lv (.int (f i.toNatClampNeg) :: rest) h cells slots) : ev G M_La_law R E 246 lv (.int i :: .ref a :: rest) h cells slots := ev_iaload d_La_law_246 rfl hh hin k
theorem s_La_law_246t {j N : Nat} {f : Nat → Value} {i x : Int32} (hj : G.2.2.2.2[j]? = some (.int, N, f)) (hin : vp_in i N) (hv : f i.toNatClampNeg = .int x) (k : ev G M_La_law R E 247 lv (.int x :: rest) h cells slots) : ev G M_La_law R E 246 lv (.int i :: .ref (tB + j) :: rest) h cells slots := ev_tload d_La_law_246 hj hin hv k
theorem d_La_law_247 : decode code 247 = .ok (.invokevirtual 36, 3) := by decide +kernel
theorem s_La_law_247 {mc ms : Nat} {P : Option Value → HP → Prop} {a0 : Int32} {a1 : Int32} {b : Nat} {fs : List Value} {v0 : Value} (hm : mt G M_Mo_register 2 mc ms (.ref b :: [.int a0, .int a1]) h P) (hb : h b = mO 7 fs) (hv0 : fs[0]? = some v0) (hR : 2 + 1 ≤ R.frames ∧ 8 + (3 + 11) + 39 * 2 ≤ R.locals) (hcs : cells + mc ≤ R.cells ∧ slots + ms ≤ R.slots) (hrest : (rest.map fun v => v.category).sum ≤ 8) (k : ∀ (r : Option Value) (h' : HP), P r h' → ev G M_La_law R E 250 lv (r.toList ++ rest) h' (cells + mc) (slots + ms)) : ev G M_La_law R E 247 lv (.int a1 :: .int a0 :: .ref b :: rest) h cells slots := ev_callV (as := [.int a0, .int a1]) (ci := 7) d_La_law_247 hm hb hv0 rfl w_884 w_885 w_886 w_70 w_887 hy_Mo_register hR hcs hrest k
theorem d_La_law_250 : decode code 250 = .ok (.if_icmp .eq 199, 3) := by decide +kernel
theorem s_La_law_250 {x y : Int32} (kt : x = y → ev G M_La_law R E 449 lv rest h cells slots) (kf : ¬ x = y → ev G M_La_law R E 253 lv rest h cells slots) : ev G M_La_law R E 250 lv (.int y :: .int x :: rest) h cells slots := ev_icmp_eq d_La_law_250 (by decide) kt kf
theorem d_La_law_253 : decode code 253 = .ok (.iconst 0, 1) := by decide +kernel
theorem s_La_law_253  (k : ev G M_La_law R E 254 lv (.int 0 :: rest) h cells slots) : ev G M_La_law R E 253 lv rest h cells slots := ev_iconst d_La_law_253 (by decide) k
theorem d_La_law_254 : decode code 254 = .ok (.ireturn, 1) := by decide +kernel
theorem d_La_law_255 : decode code 255 = .ok (.aload_n 1, 1) := by decide +kernel
theorem s_La_law_255 {x : Nat} (hl : lg lv 1 = some (.ref x)) (k : ev G M_La_law R E 256 lv (.ref x :: rest) h cells slots) : ev G M_La_law R E 255 lv rest h cells slots := ev_aload_n d_La_law_255 rfl hl k
theorem d_La_law_256 : decode code 256 = .ok (.aload_n 0, 1) := by decide +kernel
theorem s_La_law_256 {x : Nat} (hl : lg lv 0 = some (.ref x)) (k : ev G M_La_law R E 257 lv (.ref x :: rest) h cells slots) : ev G M_La_law R E 256 lv rest h cells slots := ev_aload_n d_La_law_256 rfl hl k
theorem d_La_law_257 : decode code 257 = .ok (.iload_n 3, 1) := by decide +kernel
theorem s_La_law_257 {x : Int32} (hl : lg lv 3 = some (.int x)) (k : ev G M_La_law R E 258 lv (.int x :: rest) h cells slots) : ev G M_La_law R E 257 lv rest h cells slots := ev_iload_n d_La_law_257 rfl hl k
theorem d_La_law_258 : decode code 258 = .ok (.iconst 1, 1) := by decide +kernel
theorem s_La_law_258  (k : ev G M_La_law R E 259 lv (.int 1 :: rest) h cells slots) : ev G M_La_law R E 258 lv rest h cells slots := ev_iconst d_La_law_258 (by decide) k
theorem d_La_law_259 : decode code 259 = .ok (.iadd, 1) := by decide +kernel
theorem s_La_law_259 {x y : Int32} (k : ev G M_La_law R E 260 lv (.int (x + y) :: rest) h cells slots) : ev G M_La_law R E 259 lv (.int y :: .int x :: rest) h cells slots := ev_iadd d_La_law_259 k
theorem d_La_law_260 : decode code 260 = .ok (.iaload, 1) := by decide +kernel
theorem s_La_law_260 {a n : Nat} {f : Nat → Int32} {i : Int32} (hh : h a = mI 0 n f) (hin : vp_in i n) (k : ev G M_La_law R E 261 lv (.int (f i.toNatClampNeg) :: rest) h cells slots) : ev G M_La_law R E 260 lv (.int i :: .ref a :: rest) h cells slots := ev_iaload d_La_law_260 rfl hh hin k
theorem s_La_law_260t {j N : Nat} {f : Nat → Value} {i x : Int32} (hj : G.2.2.2.2[j]? = some (.int, N, f)) (hin : vp_in i N) (hv : f i.toNatClampNeg = .int x) (k : ev G M_La_law R E 261 lv (.int x :: rest) h cells slots) : ev G M_La_law R E 260 lv (.int i :: .ref (tB + j) :: rest) h cells slots := ev_tload d_La_law_260 hj hin hv k
theorem d_La_law_261 : decode code 261 = .ok (.aload_n 0, 1) := by decide +kernel
theorem s_La_law_261 {x : Nat} (hl : lg lv 0 = some (.ref x)) (k : ev G M_La_law R E 262 lv (.ref x :: rest) h cells slots) : ev G M_La_law R E 261 lv rest h cells slots := ev_aload_n d_La_law_261 rfl hl k
theorem d_La_law_262 : decode code 262 = .ok (.iload_n 3, 1) := by decide +kernel
theorem s_La_law_262 {x : Int32} (hl : lg lv 3 = some (.int x)) (k : ev G M_La_law R E 263 lv (.int x :: rest) h cells slots) : ev G M_La_law R E 262 lv rest h cells slots := ev_iload_n d_La_law_262 rfl hl k
theorem d_La_law_263 : decode code 263 = .ok (.iconst 2, 1) := by decide +kernel
theorem s_La_law_263  (k : ev G M_La_law R E 264 lv (.int 2 :: rest) h cells slots) : ev G M_La_law R E 263 lv rest h cells slots := ev_iconst d_La_law_263 (by decide) k
theorem d_La_law_264 : decode code 264 = .ok (.iadd, 1) := by decide +kernel
theorem s_La_law_264 {x y : Int32} (k : ev G M_La_law R E 265 lv (.int (x + y) :: rest) h cells slots) : ev G M_La_law R E 264 lv (.int y :: .int x :: rest) h cells slots := ev_iadd d_La_law_264 k
theorem d_La_law_265 : decode code 265 = .ok (.iaload, 1) := by decide +kernel
theorem s_La_law_265 {a n : Nat} {f : Nat → Int32} {i : Int32} (hh : h a = mI 0 n f) (hin : vp_in i n) (k : ev G M_La_law R E 266 lv (.int (f i.toNatClampNeg) :: rest) h cells slots) : ev G M_La_law R E 265 lv (.int i :: .ref a :: rest) h cells slots := ev_iaload d_La_law_265 rfl hh hin k
theorem s_La_law_265t {j N : Nat} {f : Nat → Value} {i x : Int32} (hj : G.2.2.2.2[j]? = some (.int, N, f)) (hin : vp_in i N) (hv : f i.toNatClampNeg = .int x) (k : ev G M_La_law R E 266 lv (.int x :: rest) h cells slots) : ev G M_La_law R E 265 lv (.int i :: .ref (tB + j) :: rest) h cells slots := ev_tload d_La_law_265 hj hin hv k
theorem d_La_law_266 : decode code 266 = .ok (.invokevirtual 37, 3) := by decide +kernel
theorem s_La_law_266 {mc ms : Nat} {P : Option Value → HP → Prop} {a0 : Int32} {a1 : Int32} {b : Nat} {fs : List Value} {v0 : Value} (hm : mt G M_Um_word 3 mc ms (.ref b :: [.int a0, .int a1]) h P) (hb : h b = mO 6 fs) (hv0 : fs[0]? = some v0) (hR : 3 + 1 ≤ R.frames ∧ 8 + (3 + 11) + 39 * 3 ≤ R.locals) (hcs : cells + mc ≤ R.cells ∧ slots + ms ≤ R.slots) (hrest : (rest.map fun v => v.category).sum ≤ 8) (k : ∀ (r : Option Value) (h' : HP), P r h' → ev G M_La_law R E 269 lv (r.toList ++ rest) h' (cells + mc) (slots + ms)) : ev G M_La_law R E 266 lv (.int a1 :: .int a0 :: .ref b :: rest) h cells slots := ev_callV (as := [.int a0, .int a1]) (ci := 6) d_La_law_266 hm hb hv0 rfl w_598 w_599 w_600 w_63 w_601 hy_Um_word hR hcs hrest k
theorem d_La_law_269 : decode code 269 = .ok (.aload_n 2, 1) := by decide +kernel
theorem s_La_law_269 {x : Nat} (hl : lg lv 2 = some (.ref x)) (k : ev G M_La_law R E 270 lv (.ref x :: rest) h cells slots) : ev G M_La_law R E 269 lv rest h cells slots := ev_aload_n d_La_law_269 rfl hl k
theorem d_La_law_270 : decode code 270 = .ok (.aload_n 0, 1) := by decide +kernel
theorem s_La_law_270 {x : Nat} (hl : lg lv 0 = some (.ref x)) (k : ev G M_La_law R E 271 lv (.ref x :: rest) h cells slots) : ev G M_La_law R E 270 lv rest h cells slots := ev_aload_n d_La_law_270 rfl hl k
theorem d_La_law_271 : decode code 271 = .ok (.iload_n 3, 1) := by decide +kernel
theorem s_La_law_271 {x : Int32} (hl : lg lv 3 = some (.int x)) (k : ev G M_La_law R E 272 lv (.int x :: rest) h cells slots) : ev G M_La_law R E 271 lv rest h cells slots := ev_iload_n d_La_law_271 rfl hl k
theorem d_La_law_272 : decode code 272 = .ok (.iconst 1, 1) := by decide +kernel
theorem s_La_law_272  (k : ev G M_La_law R E 273 lv (.int 1 :: rest) h cells slots) : ev G M_La_law R E 272 lv rest h cells slots := ev_iconst d_La_law_272 (by decide) k
theorem d_La_law_273 : decode code 273 = .ok (.iadd, 1) := by decide +kernel
theorem s_La_law_273 {x y : Int32} (k : ev G M_La_law R E 274 lv (.int (x + y) :: rest) h cells slots) : ev G M_La_law R E 273 lv (.int y :: .int x :: rest) h cells slots := ev_iadd d_La_law_273 k
theorem d_La_law_274 : decode code 274 = .ok (.iaload, 1) := by decide +kernel
theorem s_La_law_274 {a n : Nat} {f : Nat → Int32} {i : Int32} (hh : h a = mI 0 n f) (hin : vp_in i n) (k : ev G M_La_law R E 275 lv (.int (f i.toNatClampNeg) :: rest) h cells slots) : ev G M_La_law R E 274 lv (.int i :: .ref a :: rest) h cells slots := ev_iaload d_La_law_274 rfl hh hin k
theorem s_La_law_274t {j N : Nat} {f : Nat → Value} {i x : Int32} (hj : G.2.2.2.2[j]? = some (.int, N, f)) (hin : vp_in i N) (hv : f i.toNatClampNeg = .int x) (k : ev G M_La_law R E 275 lv (.int x :: rest) h cells slots) : ev G M_La_law R E 274 lv (.int i :: .ref (tB + j) :: rest) h cells slots := ev_tload d_La_law_274 hj hin hv k
theorem d_La_law_275 : decode code 275 = .ok (.aload_n 0, 1) := by decide +kernel
theorem s_La_law_275 {x : Nat} (hl : lg lv 0 = some (.ref x)) (k : ev G M_La_law R E 276 lv (.ref x :: rest) h cells slots) : ev G M_La_law R E 275 lv rest h cells slots := ev_aload_n d_La_law_275 rfl hl k
theorem d_La_law_276 : decode code 276 = .ok (.iload_n 3, 1) := by decide +kernel
theorem s_La_law_276 {x : Int32} (hl : lg lv 3 = some (.int x)) (k : ev G M_La_law R E 277 lv (.int x :: rest) h cells slots) : ev G M_La_law R E 276 lv rest h cells slots := ev_iload_n d_La_law_276 rfl hl k
theorem d_La_law_277 : decode code 277 = .ok (.iconst 2, 1) := by decide +kernel
theorem s_La_law_277  (k : ev G M_La_law R E 278 lv (.int 2 :: rest) h cells slots) : ev G M_La_law R E 277 lv rest h cells slots := ev_iconst d_La_law_277 (by decide) k
theorem d_La_law_278 : decode code 278 = .ok (.iadd, 1) := by decide +kernel
theorem s_La_law_278 {x y : Int32} (k : ev G M_La_law R E 279 lv (.int (x + y) :: rest) h cells slots) : ev G M_La_law R E 278 lv (.int y :: .int x :: rest) h cells slots := ev_iadd d_La_law_278 k
theorem d_La_law_279 : decode code 279 = .ok (.iaload, 1) := by decide +kernel
theorem s_La_law_279 {a n : Nat} {f : Nat → Int32} {i : Int32} (hh : h a = mI 0 n f) (hin : vp_in i n) (k : ev G M_La_law R E 280 lv (.int (f i.toNatClampNeg) :: rest) h cells slots) : ev G M_La_law R E 279 lv (.int i :: .ref a :: rest) h cells slots := ev_iaload d_La_law_279 rfl hh hin k
theorem s_La_law_279t {j N : Nat} {f : Nat → Value} {i x : Int32} (hj : G.2.2.2.2[j]? = some (.int, N, f)) (hin : vp_in i N) (hv : f i.toNatClampNeg = .int x) (k : ev G M_La_law R E 280 lv (.int x :: rest) h cells slots) : ev G M_La_law R E 279 lv (.int i :: .ref (tB + j) :: rest) h cells slots := ev_tload d_La_law_279 hj hin hv k
theorem d_La_law_280 : decode code 280 = .ok (.invokevirtual 40, 3) := by decide +kernel
theorem s_La_law_280 {mc ms : Nat} {P : Option Value → HP → Prop} {a0 : Int32} {a1 : Int32} {b : Nat} {fs : List Value} {v0 : Value} (hm : mt G M_Mo_word 2 mc ms (.ref b :: [.int a0, .int a1]) h P) (hb : h b = mO 7 fs) (hv0 : fs[0]? = some v0) (hR : 2 + 1 ≤ R.frames ∧ 8 + (3 + 11) + 39 * 2 ≤ R.locals) (hcs : cells + mc ≤ R.cells ∧ slots + ms ≤ R.slots) (hrest : (rest.map fun v => v.category).sum ≤ 8) (k : ∀ (r : Option Value) (h' : HP), P r h' → ev G M_La_law R E 283 lv (r.toList ++ rest) h' (cells + mc) (slots + ms)) : ev G M_La_law R E 280 lv (.int a1 :: .int a0 :: .ref b :: rest) h cells slots := ev_callV (as := [.int a0, .int a1]) (ci := 7) d_La_law_280 hm hb hv0 rfl w_892 w_893 w_894 w_70 w_895 hy_Mo_word hR hcs hrest k
theorem d_La_law_283 : decode code 283 = .ok (.if_icmp .eq 166, 3) := by decide +kernel
theorem s_La_law_283 {x y : Int32} (kt : x = y → ev G M_La_law R E 449 lv rest h cells slots) (kf : ¬ x = y → ev G M_La_law R E 286 lv rest h cells slots) : ev G M_La_law R E 283 lv (.int y :: .int x :: rest) h cells slots := ev_icmp_eq d_La_law_283 (by decide) kt kf
theorem d_La_law_286 : decode code 286 = .ok (.iconst 0, 1) := by decide +kernel
theorem s_La_law_286  (k : ev G M_La_law R E 287 lv (.int 0 :: rest) h cells slots) : ev G M_La_law R E 286 lv rest h cells slots := ev_iconst d_La_law_286 (by decide) k
theorem d_La_law_287 : decode code 287 = .ok (.ireturn, 1) := by decide +kernel
theorem d_La_law_288 : decode code 288 = .ok (.aload_n 1, 1) := by decide +kernel
theorem s_La_law_288 {x : Nat} (hl : lg lv 1 = some (.ref x)) (k : ev G M_La_law R E 289 lv (.ref x :: rest) h cells slots) : ev G M_La_law R E 288 lv rest h cells slots := ev_aload_n d_La_law_288 rfl hl k
theorem d_La_law_289 : decode code 289 = .ok (.aload_n 0, 1) := by decide +kernel
theorem s_La_law_289 {x : Nat} (hl : lg lv 0 = some (.ref x)) (k : ev G M_La_law R E 290 lv (.ref x :: rest) h cells slots) : ev G M_La_law R E 289 lv rest h cells slots := ev_aload_n d_La_law_289 rfl hl k
theorem d_La_law_290 : decode code 290 = .ok (.iload_n 3, 1) := by decide +kernel
theorem s_La_law_290 {x : Int32} (hl : lg lv 3 = some (.int x)) (k : ev G M_La_law R E 291 lv (.int x :: rest) h cells slots) : ev G M_La_law R E 290 lv rest h cells slots := ev_iload_n d_La_law_290 rfl hl k
theorem d_La_law_291 : decode code 291 = .ok (.iconst 1, 1) := by decide +kernel
theorem s_La_law_291  (k : ev G M_La_law R E 292 lv (.int 1 :: rest) h cells slots) : ev G M_La_law R E 291 lv rest h cells slots := ev_iconst d_La_law_291 (by decide) k
theorem d_La_law_292 : decode code 292 = .ok (.iadd, 1) := by decide +kernel
theorem s_La_law_292 {x y : Int32} (k : ev G M_La_law R E 293 lv (.int (x + y) :: rest) h cells slots) : ev G M_La_law R E 292 lv (.int y :: .int x :: rest) h cells slots := ev_iadd d_La_law_292 k
theorem d_La_law_293 : decode code 293 = .ok (.iaload, 1) := by decide +kernel
theorem s_La_law_293 {a n : Nat} {f : Nat → Int32} {i : Int32} (hh : h a = mI 0 n f) (hin : vp_in i n) (k : ev G M_La_law R E 294 lv (.int (f i.toNatClampNeg) :: rest) h cells slots) : ev G M_La_law R E 293 lv (.int i :: .ref a :: rest) h cells slots := ev_iaload d_La_law_293 rfl hh hin k
theorem s_La_law_293t {j N : Nat} {f : Nat → Value} {i x : Int32} (hj : G.2.2.2.2[j]? = some (.int, N, f)) (hin : vp_in i N) (hv : f i.toNatClampNeg = .int x) (k : ev G M_La_law R E 294 lv (.int x :: rest) h cells slots) : ev G M_La_law R E 293 lv (.int i :: .ref (tB + j) :: rest) h cells slots := ev_tload d_La_law_293 hj hin hv k
theorem d_La_law_294 : decode code 294 = .ok (.invokevirtual 41, 3) := by decide +kernel
theorem s_La_law_294 {mc ms : Nat} {P : Option Value → HP → Prop} {a0 : Int32} {b : Nat} {fs : List Value} {v0 : Value} (hm : mt G M_Um_look 1 mc ms (.ref b :: [.int a0]) h P) (hb : h b = mO 6 fs) (hv0 : fs[0]? = some v0) (hR : 1 + 1 ≤ R.frames ∧ 8 + (2 + 11) + 39 * 1 ≤ R.locals) (hcs : cells + mc ≤ R.cells ∧ slots + ms ≤ R.slots) (hrest : (rest.map fun v => v.category).sum ≤ 8) (k : ∀ (r : Option Value) (h' : HP), P r h' → ev G M_La_law R E 297 lv (r.toList ++ rest) h' (cells + mc) (slots + ms)) : ev G M_La_law R E 294 lv (.int a0 :: .ref b :: rest) h cells slots := ev_callV (as := [.int a0]) (ci := 6) d_La_law_294 hm hb hv0 rfl w_602 w_603 w_604 w_63 w_605 hy_Um_look hR hcs hrest k
theorem d_La_law_297 : decode code 297 = .ok (.aload_n 2, 1) := by decide +kernel
theorem s_La_law_297 {x : Nat} (hl : lg lv 2 = some (.ref x)) (k : ev G M_La_law R E 298 lv (.ref x :: rest) h cells slots) : ev G M_La_law R E 297 lv rest h cells slots := ev_aload_n d_La_law_297 rfl hl k
theorem d_La_law_298 : decode code 298 = .ok (.aload_n 0, 1) := by decide +kernel
theorem s_La_law_298 {x : Nat} (hl : lg lv 0 = some (.ref x)) (k : ev G M_La_law R E 299 lv (.ref x :: rest) h cells slots) : ev G M_La_law R E 298 lv rest h cells slots := ev_aload_n d_La_law_298 rfl hl k
theorem d_La_law_299 : decode code 299 = .ok (.iload_n 3, 1) := by decide +kernel
theorem s_La_law_299 {x : Int32} (hl : lg lv 3 = some (.int x)) (k : ev G M_La_law R E 300 lv (.int x :: rest) h cells slots) : ev G M_La_law R E 299 lv rest h cells slots := ev_iload_n d_La_law_299 rfl hl k
theorem d_La_law_300 : decode code 300 = .ok (.iconst 1, 1) := by decide +kernel
theorem s_La_law_300  (k : ev G M_La_law R E 301 lv (.int 1 :: rest) h cells slots) : ev G M_La_law R E 300 lv rest h cells slots := ev_iconst d_La_law_300 (by decide) k
theorem d_La_law_301 : decode code 301 = .ok (.iadd, 1) := by decide +kernel
theorem s_La_law_301 {x y : Int32} (k : ev G M_La_law R E 302 lv (.int (x + y) :: rest) h cells slots) : ev G M_La_law R E 301 lv (.int y :: .int x :: rest) h cells slots := ev_iadd d_La_law_301 k
theorem d_La_law_302 : decode code 302 = .ok (.iaload, 1) := by decide +kernel
theorem s_La_law_302 {a n : Nat} {f : Nat → Int32} {i : Int32} (hh : h a = mI 0 n f) (hin : vp_in i n) (k : ev G M_La_law R E 303 lv (.int (f i.toNatClampNeg) :: rest) h cells slots) : ev G M_La_law R E 302 lv (.int i :: .ref a :: rest) h cells slots := ev_iaload d_La_law_302 rfl hh hin k
theorem s_La_law_302t {j N : Nat} {f : Nat → Value} {i x : Int32} (hj : G.2.2.2.2[j]? = some (.int, N, f)) (hin : vp_in i N) (hv : f i.toNatClampNeg = .int x) (k : ev G M_La_law R E 303 lv (.int x :: rest) h cells slots) : ev G M_La_law R E 302 lv (.int i :: .ref (tB + j) :: rest) h cells slots := ev_tload d_La_law_302 hj hin hv k
theorem d_La_law_303 : decode code 303 = .ok (.invokevirtual 44, 3) := by decide +kernel
theorem s_La_law_303 {mc ms : Nat} {P : Option Value → HP → Prop} {a0 : Int32} {b : Nat} {fs : List Value} {v0 : Value} (hm : mt G M_Mo_look 1 mc ms (.ref b :: [.int a0]) h P) (hb : h b = mO 7 fs) (hv0 : fs[0]? = some v0) (hR : 1 + 1 ≤ R.frames ∧ 8 + (2 + 11) + 39 * 1 ≤ R.locals) (hcs : cells + mc ≤ R.cells ∧ slots + ms ≤ R.slots) (hrest : (rest.map fun v => v.category).sum ≤ 8) (k : ∀ (r : Option Value) (h' : HP), P r h' → ev G M_La_law R E 306 lv (r.toList ++ rest) h' (cells + mc) (slots + ms)) : ev G M_La_law R E 303 lv (.int a0 :: .ref b :: rest) h cells slots := ev_callV (as := [.int a0]) (ci := 7) d_La_law_303 hm hb hv0 rfl w_896 w_897 w_898 w_70 w_899 hy_Mo_look hR hcs hrest k
theorem d_La_law_306 : decode code 306 = .ok (.if_icmp .eq 143, 3) := by decide +kernel
theorem s_La_law_306 {x y : Int32} (kt : x = y → ev G M_La_law R E 449 lv rest h cells slots) (kf : ¬ x = y → ev G M_La_law R E 309 lv rest h cells slots) : ev G M_La_law R E 306 lv (.int y :: .int x :: rest) h cells slots := ev_icmp_eq d_La_law_306 (by decide) kt kf
theorem d_La_law_309 : decode code 309 = .ok (.iconst 0, 1) := by decide +kernel
theorem s_La_law_309  (k : ev G M_La_law R E 310 lv (.int 0 :: rest) h cells slots) : ev G M_La_law R E 309 lv rest h cells slots := ev_iconst d_La_law_309 (by decide) k
theorem d_La_law_310 : decode code 310 = .ok (.ireturn, 1) := by decide +kernel
theorem d_La_law_311 : decode code 311 = .ok (.aload_n 1, 1) := by decide +kernel
theorem s_La_law_311 {x : Nat} (hl : lg lv 1 = some (.ref x)) (k : ev G M_La_law R E 312 lv (.ref x :: rest) h cells slots) : ev G M_La_law R E 311 lv rest h cells slots := ev_aload_n d_La_law_311 rfl hl k
theorem d_La_law_312 : decode code 312 = .ok (.aload_n 0, 1) := by decide +kernel
theorem s_La_law_312 {x : Nat} (hl : lg lv 0 = some (.ref x)) (k : ev G M_La_law R E 313 lv (.ref x :: rest) h cells slots) : ev G M_La_law R E 312 lv rest h cells slots := ev_aload_n d_La_law_312 rfl hl k
theorem d_La_law_313 : decode code 313 = .ok (.iload_n 3, 1) := by decide +kernel
theorem s_La_law_313 {x : Int32} (hl : lg lv 3 = some (.int x)) (k : ev G M_La_law R E 314 lv (.int x :: rest) h cells slots) : ev G M_La_law R E 313 lv rest h cells slots := ev_iload_n d_La_law_313 rfl hl k
theorem d_La_law_314 : decode code 314 = .ok (.iconst 1, 1) := by decide +kernel
theorem s_La_law_314  (k : ev G M_La_law R E 315 lv (.int 1 :: rest) h cells slots) : ev G M_La_law R E 314 lv rest h cells slots := ev_iconst d_La_law_314 (by decide) k
theorem d_La_law_315 : decode code 315 = .ok (.iadd, 1) := by decide +kernel
theorem s_La_law_315 {x y : Int32} (k : ev G M_La_law R E 316 lv (.int (x + y) :: rest) h cells slots) : ev G M_La_law R E 315 lv (.int y :: .int x :: rest) h cells slots := ev_iadd d_La_law_315 k
theorem d_La_law_316 : decode code 316 = .ok (.iaload, 1) := by decide +kernel
theorem s_La_law_316 {a n : Nat} {f : Nat → Int32} {i : Int32} (hh : h a = mI 0 n f) (hin : vp_in i n) (k : ev G M_La_law R E 317 lv (.int (f i.toNatClampNeg) :: rest) h cells slots) : ev G M_La_law R E 316 lv (.int i :: .ref a :: rest) h cells slots := ev_iaload d_La_law_316 rfl hh hin k
theorem s_La_law_316t {j N : Nat} {f : Nat → Value} {i x : Int32} (hj : G.2.2.2.2[j]? = some (.int, N, f)) (hin : vp_in i N) (hv : f i.toNatClampNeg = .int x) (k : ev G M_La_law R E 317 lv (.int x :: rest) h cells slots) : ev G M_La_law R E 316 lv (.int i :: .ref (tB + j) :: rest) h cells slots := ev_tload d_La_law_316 hj hin hv k
theorem d_La_law_317 : decode code 317 = .ok (.aload_n 0, 1) := by decide +kernel
theorem s_La_law_317 {x : Nat} (hl : lg lv 0 = some (.ref x)) (k : ev G M_La_law R E 318 lv (.ref x :: rest) h cells slots) : ev G M_La_law R E 317 lv rest h cells slots := ev_aload_n d_La_law_317 rfl hl k
theorem d_La_law_318 : decode code 318 = .ok (.iload_n 3, 1) := by decide +kernel
theorem s_La_law_318 {x : Int32} (hl : lg lv 3 = some (.int x)) (k : ev G M_La_law R E 319 lv (.int x :: rest) h cells slots) : ev G M_La_law R E 318 lv rest h cells slots := ev_iload_n d_La_law_318 rfl hl k
theorem d_La_law_319 : decode code 319 = .ok (.iconst 2, 1) := by decide +kernel
theorem s_La_law_319  (k : ev G M_La_law R E 320 lv (.int 2 :: rest) h cells slots) : ev G M_La_law R E 319 lv rest h cells slots := ev_iconst d_La_law_319 (by decide) k
theorem d_La_law_320 : decode code 320 = .ok (.iadd, 1) := by decide +kernel
theorem s_La_law_320 {x y : Int32} (k : ev G M_La_law R E 321 lv (.int (x + y) :: rest) h cells slots) : ev G M_La_law R E 320 lv (.int y :: .int x :: rest) h cells slots := ev_iadd d_La_law_320 k
theorem d_La_law_321 : decode code 321 = .ok (.iaload, 1) := by decide +kernel
theorem s_La_law_321 {a n : Nat} {f : Nat → Int32} {i : Int32} (hh : h a = mI 0 n f) (hin : vp_in i n) (k : ev G M_La_law R E 322 lv (.int (f i.toNatClampNeg) :: rest) h cells slots) : ev G M_La_law R E 321 lv (.int i :: .ref a :: rest) h cells slots := ev_iaload d_La_law_321 rfl hh hin k
theorem s_La_law_321t {j N : Nat} {f : Nat → Value} {i x : Int32} (hj : G.2.2.2.2[j]? = some (.int, N, f)) (hin : vp_in i N) (hv : f i.toNatClampNeg = .int x) (k : ev G M_La_law R E 322 lv (.int x :: rest) h cells slots) : ev G M_La_law R E 321 lv (.int i :: .ref (tB + j) :: rest) h cells slots := ev_tload d_La_law_321 hj hin hv k
theorem d_La_law_322 : decode code 322 = .ok (.invokevirtual 45, 3) := by decide +kernel
theorem s_La_law_322 {mc ms : Nat} {P : Option Value → HP → Prop} {a0 : Int32} {a1 : Int32} {b : Nat} {fs : List Value} {v0 : Value} (hm : mt G M_Um_owner 4 mc ms (.ref b :: [.int a0, .int a1]) h P) (hb : h b = mO 6 fs) (hv0 : fs[0]? = some v0) (hR : 4 + 1 ≤ R.frames ∧ 8 + (4 + 11) + 39 * 4 ≤ R.locals) (hcs : cells + mc ≤ R.cells ∧ slots + ms ≤ R.slots) (hrest : (rest.map fun v => v.category).sum ≤ 8) (k : ∀ (r : Option Value) (h' : HP), P r h' → ev G M_La_law R E 325 lv (r.toList ++ rest) h' (cells + mc) (slots + ms)) : ev G M_La_law R E 322 lv (.int a1 :: .int a0 :: .ref b :: rest) h cells slots := ev_callV (as := [.int a0, .int a1]) (ci := 6) d_La_law_322 hm hb hv0 rfl w_607 w_608 w_609 w_63 w_610 hy_Um_owner hR hcs hrest k
theorem d_La_law_325 : decode code 325 = .ok (.aload_n 2, 1) := by decide +kernel
theorem s_La_law_325 {x : Nat} (hl : lg lv 2 = some (.ref x)) (k : ev G M_La_law R E 326 lv (.ref x :: rest) h cells slots) : ev G M_La_law R E 325 lv rest h cells slots := ev_aload_n d_La_law_325 rfl hl k
theorem d_La_law_326 : decode code 326 = .ok (.aload_n 0, 1) := by decide +kernel
theorem s_La_law_326 {x : Nat} (hl : lg lv 0 = some (.ref x)) (k : ev G M_La_law R E 327 lv (.ref x :: rest) h cells slots) : ev G M_La_law R E 326 lv rest h cells slots := ev_aload_n d_La_law_326 rfl hl k
theorem d_La_law_327 : decode code 327 = .ok (.iload_n 3, 1) := by decide +kernel
theorem s_La_law_327 {x : Int32} (hl : lg lv 3 = some (.int x)) (k : ev G M_La_law R E 328 lv (.int x :: rest) h cells slots) : ev G M_La_law R E 327 lv rest h cells slots := ev_iload_n d_La_law_327 rfl hl k
theorem d_La_law_328 : decode code 328 = .ok (.iconst 1, 1) := by decide +kernel
theorem s_La_law_328  (k : ev G M_La_law R E 329 lv (.int 1 :: rest) h cells slots) : ev G M_La_law R E 328 lv rest h cells slots := ev_iconst d_La_law_328 (by decide) k
theorem d_La_law_329 : decode code 329 = .ok (.iadd, 1) := by decide +kernel
theorem s_La_law_329 {x y : Int32} (k : ev G M_La_law R E 330 lv (.int (x + y) :: rest) h cells slots) : ev G M_La_law R E 329 lv (.int y :: .int x :: rest) h cells slots := ev_iadd d_La_law_329 k
theorem d_La_law_330 : decode code 330 = .ok (.iaload, 1) := by decide +kernel
theorem s_La_law_330 {a n : Nat} {f : Nat → Int32} {i : Int32} (hh : h a = mI 0 n f) (hin : vp_in i n) (k : ev G M_La_law R E 331 lv (.int (f i.toNatClampNeg) :: rest) h cells slots) : ev G M_La_law R E 330 lv (.int i :: .ref a :: rest) h cells slots := ev_iaload d_La_law_330 rfl hh hin k
theorem s_La_law_330t {j N : Nat} {f : Nat → Value} {i x : Int32} (hj : G.2.2.2.2[j]? = some (.int, N, f)) (hin : vp_in i N) (hv : f i.toNatClampNeg = .int x) (k : ev G M_La_law R E 331 lv (.int x :: rest) h cells slots) : ev G M_La_law R E 330 lv (.int i :: .ref (tB + j) :: rest) h cells slots := ev_tload d_La_law_330 hj hin hv k
theorem d_La_law_331 : decode code 331 = .ok (.aload_n 0, 1) := by decide +kernel
theorem s_La_law_331 {x : Nat} (hl : lg lv 0 = some (.ref x)) (k : ev G M_La_law R E 332 lv (.ref x :: rest) h cells slots) : ev G M_La_law R E 331 lv rest h cells slots := ev_aload_n d_La_law_331 rfl hl k
theorem d_La_law_332 : decode code 332 = .ok (.iload_n 3, 1) := by decide +kernel
theorem s_La_law_332 {x : Int32} (hl : lg lv 3 = some (.int x)) (k : ev G M_La_law R E 333 lv (.int x :: rest) h cells slots) : ev G M_La_law R E 332 lv rest h cells slots := ev_iload_n d_La_law_332 rfl hl k
theorem d_La_law_333 : decode code 333 = .ok (.iconst 2, 1) := by decide +kernel
theorem s_La_law_333  (k : ev G M_La_law R E 334 lv (.int 2 :: rest) h cells slots) : ev G M_La_law R E 333 lv rest h cells slots := ev_iconst d_La_law_333 (by decide) k
theorem d_La_law_334 : decode code 334 = .ok (.iadd, 1) := by decide +kernel
theorem s_La_law_334 {x y : Int32} (k : ev G M_La_law R E 335 lv (.int (x + y) :: rest) h cells slots) : ev G M_La_law R E 334 lv (.int y :: .int x :: rest) h cells slots := ev_iadd d_La_law_334 k
theorem d_La_law_335 : decode code 335 = .ok (.iaload, 1) := by decide +kernel
theorem s_La_law_335 {a n : Nat} {f : Nat → Int32} {i : Int32} (hh : h a = mI 0 n f) (hin : vp_in i n) (k : ev G M_La_law R E 336 lv (.int (f i.toNatClampNeg) :: rest) h cells slots) : ev G M_La_law R E 335 lv (.int i :: .ref a :: rest) h cells slots := ev_iaload d_La_law_335 rfl hh hin k
theorem s_La_law_335t {j N : Nat} {f : Nat → Value} {i x : Int32} (hj : G.2.2.2.2[j]? = some (.int, N, f)) (hin : vp_in i N) (hv : f i.toNatClampNeg = .int x) (k : ev G M_La_law R E 336 lv (.int x :: rest) h cells slots) : ev G M_La_law R E 335 lv (.int i :: .ref (tB + j) :: rest) h cells slots := ev_tload d_La_law_335 hj hin hv k
theorem d_La_law_336 : decode code 336 = .ok (.invokevirtual 48, 3) := by decide +kernel
theorem s_La_law_336 {mc ms : Nat} {P : Option Value → HP → Prop} {a0 : Int32} {a1 : Int32} {b : Nat} {fs : List Value} {v0 : Value} (hm : mt G M_Mo_owner 3 mc ms (.ref b :: [.int a0, .int a1]) h P) (hb : h b = mO 7 fs) (hv0 : fs[0]? = some v0) (hR : 3 + 1 ≤ R.frames ∧ 8 + (4 + 11) + 39 * 3 ≤ R.locals) (hcs : cells + mc ≤ R.cells ∧ slots + ms ≤ R.slots) (hrest : (rest.map fun v => v.category).sum ≤ 8) (k : ∀ (r : Option Value) (h' : HP), P r h' → ev G M_La_law R E 339 lv (r.toList ++ rest) h' (cells + mc) (slots + ms)) : ev G M_La_law R E 336 lv (.int a1 :: .int a0 :: .ref b :: rest) h cells slots := ev_callV (as := [.int a0, .int a1]) (ci := 7) d_La_law_336 hm hb hv0 rfl w_900 w_901 w_902 w_70 w_903 hy_Mo_owner hR hcs hrest k
theorem d_La_law_339 : decode code 339 = .ok (.if_icmp .eq 110, 3) := by decide +kernel
theorem s_La_law_339 {x y : Int32} (kt : x = y → ev G M_La_law R E 449 lv rest h cells slots) (kf : ¬ x = y → ev G M_La_law R E 342 lv rest h cells slots) : ev G M_La_law R E 339 lv (.int y :: .int x :: rest) h cells slots := ev_icmp_eq d_La_law_339 (by decide) kt kf
theorem d_La_law_342 : decode code 342 = .ok (.iconst 0, 1) := by decide +kernel
theorem s_La_law_342  (k : ev G M_La_law R E 343 lv (.int 0 :: rest) h cells slots) : ev G M_La_law R E 342 lv rest h cells slots := ev_iconst d_La_law_342 (by decide) k
theorem d_La_law_343 : decode code 343 = .ok (.ireturn, 1) := by decide +kernel
theorem d_La_law_344 : decode code 344 = .ok (.aload_n 1, 1) := by decide +kernel
theorem s_La_law_344 {x : Nat} (hl : lg lv 1 = some (.ref x)) (k : ev G M_La_law R E 345 lv (.ref x :: rest) h cells slots) : ev G M_La_law R E 344 lv rest h cells slots := ev_aload_n d_La_law_344 rfl hl k
theorem d_La_law_345 : decode code 345 = .ok (.aload_n 0, 1) := by decide +kernel
theorem s_La_law_345 {x : Nat} (hl : lg lv 0 = some (.ref x)) (k : ev G M_La_law R E 346 lv (.ref x :: rest) h cells slots) : ev G M_La_law R E 345 lv rest h cells slots := ev_aload_n d_La_law_345 rfl hl k
theorem d_La_law_346 : decode code 346 = .ok (.iload_n 3, 1) := by decide +kernel
theorem s_La_law_346 {x : Int32} (hl : lg lv 3 = some (.int x)) (k : ev G M_La_law R E 347 lv (.int x :: rest) h cells slots) : ev G M_La_law R E 346 lv rest h cells slots := ev_iload_n d_La_law_346 rfl hl k
theorem d_La_law_347 : decode code 347 = .ok (.iconst 1, 1) := by decide +kernel
theorem s_La_law_347  (k : ev G M_La_law R E 348 lv (.int 1 :: rest) h cells slots) : ev G M_La_law R E 347 lv rest h cells slots := ev_iconst d_La_law_347 (by decide) k
theorem d_La_law_348 : decode code 348 = .ok (.iadd, 1) := by decide +kernel
theorem s_La_law_348 {x y : Int32} (k : ev G M_La_law R E 349 lv (.int (x + y) :: rest) h cells slots) : ev G M_La_law R E 348 lv (.int y :: .int x :: rest) h cells slots := ev_iadd d_La_law_348 k
theorem d_La_law_349 : decode code 349 = .ok (.iaload, 1) := by decide +kernel
theorem s_La_law_349 {a n : Nat} {f : Nat → Int32} {i : Int32} (hh : h a = mI 0 n f) (hin : vp_in i n) (k : ev G M_La_law R E 350 lv (.int (f i.toNatClampNeg) :: rest) h cells slots) : ev G M_La_law R E 349 lv (.int i :: .ref a :: rest) h cells slots := ev_iaload d_La_law_349 rfl hh hin k
theorem s_La_law_349t {j N : Nat} {f : Nat → Value} {i x : Int32} (hj : G.2.2.2.2[j]? = some (.int, N, f)) (hin : vp_in i N) (hv : f i.toNatClampNeg = .int x) (k : ev G M_La_law R E 350 lv (.int x :: rest) h cells slots) : ev G M_La_law R E 349 lv (.int i :: .ref (tB + j) :: rest) h cells slots := ev_tload d_La_law_349 hj hin hv k
theorem d_La_law_350 : decode code 350 = .ok (.invokevirtual 49, 3) := by decide +kernel
theorem s_La_law_350 {mc ms : Nat} {P : Option Value → HP → Prop} {a0 : Int32} {b : Nat} {fs : List Value} {v0 : Value} (hm : mt G M_Um_count 0 mc ms (.ref b :: [.int a0]) h P) (hb : h b = mO 6 fs) (hv0 : fs[0]? = some v0) (hR : 0 + 1 ≤ R.frames ∧ 8 + (2 + 11) + 39 * 0 ≤ R.locals) (hcs : cells + mc ≤ R.cells ∧ slots + ms ≤ R.slots) (hrest : (rest.map fun v => v.category).sum ≤ 8) (k : ∀ (r : Option Value) (h' : HP), P r h' → ev G M_La_law R E 353 lv (r.toList ++ rest) h' (cells + mc) (slots + ms)) : ev G M_La_law R E 350 lv (.int a0 :: .ref b :: rest) h cells slots := ev_callV (as := [.int a0]) (ci := 6) d_La_law_350 hm hb hv0 rfl w_626 w_627 w_628 w_63 w_629 hy_Um_count hR hcs hrest k
theorem d_La_law_353 : decode code 353 = .ok (.aload_n 2, 1) := by decide +kernel
theorem s_La_law_353 {x : Nat} (hl : lg lv 2 = some (.ref x)) (k : ev G M_La_law R E 354 lv (.ref x :: rest) h cells slots) : ev G M_La_law R E 353 lv rest h cells slots := ev_aload_n d_La_law_353 rfl hl k
theorem d_La_law_354 : decode code 354 = .ok (.aload_n 0, 1) := by decide +kernel
theorem s_La_law_354 {x : Nat} (hl : lg lv 0 = some (.ref x)) (k : ev G M_La_law R E 355 lv (.ref x :: rest) h cells slots) : ev G M_La_law R E 354 lv rest h cells slots := ev_aload_n d_La_law_354 rfl hl k
theorem d_La_law_355 : decode code 355 = .ok (.iload_n 3, 1) := by decide +kernel
theorem s_La_law_355 {x : Int32} (hl : lg lv 3 = some (.int x)) (k : ev G M_La_law R E 356 lv (.int x :: rest) h cells slots) : ev G M_La_law R E 355 lv rest h cells slots := ev_iload_n d_La_law_355 rfl hl k
theorem d_La_law_356 : decode code 356 = .ok (.iconst 1, 1) := by decide +kernel
theorem s_La_law_356  (k : ev G M_La_law R E 357 lv (.int 1 :: rest) h cells slots) : ev G M_La_law R E 356 lv rest h cells slots := ev_iconst d_La_law_356 (by decide) k
theorem d_La_law_357 : decode code 357 = .ok (.iadd, 1) := by decide +kernel
theorem s_La_law_357 {x y : Int32} (k : ev G M_La_law R E 358 lv (.int (x + y) :: rest) h cells slots) : ev G M_La_law R E 357 lv (.int y :: .int x :: rest) h cells slots := ev_iadd d_La_law_357 k
theorem d_La_law_358 : decode code 358 = .ok (.iaload, 1) := by decide +kernel
theorem s_La_law_358 {a n : Nat} {f : Nat → Int32} {i : Int32} (hh : h a = mI 0 n f) (hin : vp_in i n) (k : ev G M_La_law R E 359 lv (.int (f i.toNatClampNeg) :: rest) h cells slots) : ev G M_La_law R E 358 lv (.int i :: .ref a :: rest) h cells slots := ev_iaload d_La_law_358 rfl hh hin k
theorem s_La_law_358t {j N : Nat} {f : Nat → Value} {i x : Int32} (hj : G.2.2.2.2[j]? = some (.int, N, f)) (hin : vp_in i N) (hv : f i.toNatClampNeg = .int x) (k : ev G M_La_law R E 359 lv (.int x :: rest) h cells slots) : ev G M_La_law R E 358 lv (.int i :: .ref (tB + j) :: rest) h cells slots := ev_tload d_La_law_358 hj hin hv k
theorem d_La_law_359 : decode code 359 = .ok (.invokevirtual 52, 3) := by decide +kernel
theorem s_La_law_359 {mc ms : Nat} {P : Option Value → HP → Prop} {a0 : Int32} {b : Nat} {fs : List Value} {v0 : Value} (hm : mt G M_Mo_count 1 mc ms (.ref b :: [.int a0]) h P) (hb : h b = mO 7 fs) (hv0 : fs[0]? = some v0) (hR : 1 + 1 ≤ R.frames ∧ 8 + (2 + 11) + 39 * 1 ≤ R.locals) (hcs : cells + mc ≤ R.cells ∧ slots + ms ≤ R.slots) (hrest : (rest.map fun v => v.category).sum ≤ 8) (k : ∀ (r : Option Value) (h' : HP), P r h' → ev G M_La_law R E 362 lv (r.toList ++ rest) h' (cells + mc) (slots + ms)) : ev G M_La_law R E 359 lv (.int a0 :: .ref b :: rest) h cells slots := ev_callV (as := [.int a0]) (ci := 7) d_La_law_359 hm hb hv0 rfl w_912 w_913 w_914 w_70 w_915 hy_Mo_count hR hcs hrest k
theorem d_La_law_362 : decode code 362 = .ok (.if_icmp .eq 87, 3) := by decide +kernel
theorem s_La_law_362 {x y : Int32} (kt : x = y → ev G M_La_law R E 449 lv rest h cells slots) (kf : ¬ x = y → ev G M_La_law R E 365 lv rest h cells slots) : ev G M_La_law R E 362 lv (.int y :: .int x :: rest) h cells slots := ev_icmp_eq d_La_law_362 (by decide) kt kf
theorem d_La_law_365 : decode code 365 = .ok (.iconst 0, 1) := by decide +kernel
theorem s_La_law_365  (k : ev G M_La_law R E 366 lv (.int 0 :: rest) h cells slots) : ev G M_La_law R E 365 lv rest h cells slots := ev_iconst d_La_law_365 (by decide) k
theorem d_La_law_366 : decode code 366 = .ok (.ireturn, 1) := by decide +kernel
theorem d_La_law_367 : decode code 367 = .ok (.aload_n 1, 1) := by decide +kernel
theorem s_La_law_367 {x : Nat} (hl : lg lv 1 = some (.ref x)) (k : ev G M_La_law R E 368 lv (.ref x :: rest) h cells slots) : ev G M_La_law R E 367 lv rest h cells slots := ev_aload_n d_La_law_367 rfl hl k
theorem d_La_law_368 : decode code 368 = .ok (.aload_n 0, 1) := by decide +kernel
theorem s_La_law_368 {x : Nat} (hl : lg lv 0 = some (.ref x)) (k : ev G M_La_law R E 369 lv (.ref x :: rest) h cells slots) : ev G M_La_law R E 368 lv rest h cells slots := ev_aload_n d_La_law_368 rfl hl k
theorem d_La_law_369 : decode code 369 = .ok (.iload_n 3, 1) := by decide +kernel
theorem s_La_law_369 {x : Int32} (hl : lg lv 3 = some (.int x)) (k : ev G M_La_law R E 370 lv (.int x :: rest) h cells slots) : ev G M_La_law R E 369 lv rest h cells slots := ev_iload_n d_La_law_369 rfl hl k
theorem d_La_law_370 : decode code 370 = .ok (.iconst 1, 1) := by decide +kernel
theorem s_La_law_370  (k : ev G M_La_law R E 371 lv (.int 1 :: rest) h cells slots) : ev G M_La_law R E 370 lv rest h cells slots := ev_iconst d_La_law_370 (by decide) k
theorem d_La_law_371 : decode code 371 = .ok (.iadd, 1) := by decide +kernel
theorem s_La_law_371 {x y : Int32} (k : ev G M_La_law R E 372 lv (.int (x + y) :: rest) h cells slots) : ev G M_La_law R E 371 lv (.int y :: .int x :: rest) h cells slots := ev_iadd d_La_law_371 k
theorem d_La_law_372 : decode code 372 = .ok (.iaload, 1) := by decide +kernel
theorem s_La_law_372 {a n : Nat} {f : Nat → Int32} {i : Int32} (hh : h a = mI 0 n f) (hin : vp_in i n) (k : ev G M_La_law R E 373 lv (.int (f i.toNatClampNeg) :: rest) h cells slots) : ev G M_La_law R E 372 lv (.int i :: .ref a :: rest) h cells slots := ev_iaload d_La_law_372 rfl hh hin k
theorem s_La_law_372t {j N : Nat} {f : Nat → Value} {i x : Int32} (hj : G.2.2.2.2[j]? = some (.int, N, f)) (hin : vp_in i N) (hv : f i.toNatClampNeg = .int x) (k : ev G M_La_law R E 373 lv (.int x :: rest) h cells slots) : ev G M_La_law R E 372 lv (.int i :: .ref (tB + j) :: rest) h cells slots := ev_tload d_La_law_372 hj hin hv k
theorem d_La_law_373 : decode code 373 = .ok (.aload_n 0, 1) := by decide +kernel
theorem s_La_law_373 {x : Nat} (hl : lg lv 0 = some (.ref x)) (k : ev G M_La_law R E 374 lv (.ref x :: rest) h cells slots) : ev G M_La_law R E 373 lv rest h cells slots := ev_aload_n d_La_law_373 rfl hl k
theorem d_La_law_374 : decode code 374 = .ok (.iload_n 3, 1) := by decide +kernel
theorem s_La_law_374 {x : Int32} (hl : lg lv 3 = some (.int x)) (k : ev G M_La_law R E 375 lv (.int x :: rest) h cells slots) : ev G M_La_law R E 374 lv rest h cells slots := ev_iload_n d_La_law_374 rfl hl k
theorem d_La_law_375 : decode code 375 = .ok (.iconst 2, 1) := by decide +kernel
theorem s_La_law_375  (k : ev G M_La_law R E 376 lv (.int 2 :: rest) h cells slots) : ev G M_La_law R E 375 lv rest h cells slots := ev_iconst d_La_law_375 (by decide) k
theorem d_La_law_376 : decode code 376 = .ok (.iadd, 1) := by decide +kernel
theorem s_La_law_376 {x y : Int32} (k : ev G M_La_law R E 377 lv (.int (x + y) :: rest) h cells slots) : ev G M_La_law R E 376 lv (.int y :: .int x :: rest) h cells slots := ev_iadd d_La_law_376 k
theorem d_La_law_377 : decode code 377 = .ok (.iaload, 1) := by decide +kernel
theorem s_La_law_377 {a n : Nat} {f : Nat → Int32} {i : Int32} (hh : h a = mI 0 n f) (hin : vp_in i n) (k : ev G M_La_law R E 378 lv (.int (f i.toNatClampNeg) :: rest) h cells slots) : ev G M_La_law R E 377 lv (.int i :: .ref a :: rest) h cells slots := ev_iaload d_La_law_377 rfl hh hin k
theorem s_La_law_377t {j N : Nat} {f : Nat → Value} {i x : Int32} (hj : G.2.2.2.2[j]? = some (.int, N, f)) (hin : vp_in i N) (hv : f i.toNatClampNeg = .int x) (k : ev G M_La_law R E 378 lv (.int x :: rest) h cells slots) : ev G M_La_law R E 377 lv (.int i :: .ref (tB + j) :: rest) h cells slots := ev_tload d_La_law_377 hj hin hv k
theorem d_La_law_378 : decode code 378 = .ok (.invokevirtual 53, 3) := by decide +kernel
theorem s_La_law_378 {mc ms : Nat} {P : Option Value → HP → Prop} {a0 : Int32} {a1 : Int32} {b : Nat} {fs : List Value} {v0 : Value} (hm : mt G M_Um_gate 0 mc ms (.ref b :: [.int a0, .int a1]) h P) (hb : h b = mO 6 fs) (hv0 : fs[0]? = some v0) (hR : 0 + 1 ≤ R.frames ∧ 8 + (3 + 11) + 39 * 0 ≤ R.locals) (hcs : cells + mc ≤ R.cells ∧ slots + ms ≤ R.slots) (hrest : (rest.map fun v => v.category).sum ≤ 8) (k : ∀ (r : Option Value) (h' : HP), P r h' → ev G M_La_law R E 381 lv (r.toList ++ rest) h' (cells + mc) (slots + ms)) : ev G M_La_law R E 378 lv (.int a1 :: .int a0 :: .ref b :: rest) h cells slots := ev_callV (as := [.int a0, .int a1]) (ci := 6) d_La_law_378 hm hb hv0 rfl w_630 w_631 w_632 w_63 w_633 hy_Um_gate hR hcs hrest k
theorem d_La_law_381 : decode code 381 = .ok (.aload_n 2, 1) := by decide +kernel
theorem s_La_law_381 {x : Nat} (hl : lg lv 2 = some (.ref x)) (k : ev G M_La_law R E 382 lv (.ref x :: rest) h cells slots) : ev G M_La_law R E 381 lv rest h cells slots := ev_aload_n d_La_law_381 rfl hl k
theorem d_La_law_382 : decode code 382 = .ok (.aload_n 0, 1) := by decide +kernel
theorem s_La_law_382 {x : Nat} (hl : lg lv 0 = some (.ref x)) (k : ev G M_La_law R E 383 lv (.ref x :: rest) h cells slots) : ev G M_La_law R E 382 lv rest h cells slots := ev_aload_n d_La_law_382 rfl hl k
theorem d_La_law_383 : decode code 383 = .ok (.iload_n 3, 1) := by decide +kernel
theorem s_La_law_383 {x : Int32} (hl : lg lv 3 = some (.int x)) (k : ev G M_La_law R E 384 lv (.int x :: rest) h cells slots) : ev G M_La_law R E 383 lv rest h cells slots := ev_iload_n d_La_law_383 rfl hl k
theorem d_La_law_384 : decode code 384 = .ok (.iconst 1, 1) := by decide +kernel
theorem s_La_law_384  (k : ev G M_La_law R E 385 lv (.int 1 :: rest) h cells slots) : ev G M_La_law R E 384 lv rest h cells slots := ev_iconst d_La_law_384 (by decide) k
theorem d_La_law_385 : decode code 385 = .ok (.iadd, 1) := by decide +kernel
theorem s_La_law_385 {x y : Int32} (k : ev G M_La_law R E 386 lv (.int (x + y) :: rest) h cells slots) : ev G M_La_law R E 385 lv (.int y :: .int x :: rest) h cells slots := ev_iadd d_La_law_385 k
theorem d_La_law_386 : decode code 386 = .ok (.iaload, 1) := by decide +kernel
theorem s_La_law_386 {a n : Nat} {f : Nat → Int32} {i : Int32} (hh : h a = mI 0 n f) (hin : vp_in i n) (k : ev G M_La_law R E 387 lv (.int (f i.toNatClampNeg) :: rest) h cells slots) : ev G M_La_law R E 386 lv (.int i :: .ref a :: rest) h cells slots := ev_iaload d_La_law_386 rfl hh hin k
theorem s_La_law_386t {j N : Nat} {f : Nat → Value} {i x : Int32} (hj : G.2.2.2.2[j]? = some (.int, N, f)) (hin : vp_in i N) (hv : f i.toNatClampNeg = .int x) (k : ev G M_La_law R E 387 lv (.int x :: rest) h cells slots) : ev G M_La_law R E 386 lv (.int i :: .ref (tB + j) :: rest) h cells slots := ev_tload d_La_law_386 hj hin hv k
theorem d_La_law_387 : decode code 387 = .ok (.aload_n 0, 1) := by decide +kernel
theorem s_La_law_387 {x : Nat} (hl : lg lv 0 = some (.ref x)) (k : ev G M_La_law R E 388 lv (.ref x :: rest) h cells slots) : ev G M_La_law R E 387 lv rest h cells slots := ev_aload_n d_La_law_387 rfl hl k
theorem d_La_law_388 : decode code 388 = .ok (.iload_n 3, 1) := by decide +kernel
theorem s_La_law_388 {x : Int32} (hl : lg lv 3 = some (.int x)) (k : ev G M_La_law R E 389 lv (.int x :: rest) h cells slots) : ev G M_La_law R E 388 lv rest h cells slots := ev_iload_n d_La_law_388 rfl hl k
theorem d_La_law_389 : decode code 389 = .ok (.iconst 2, 1) := by decide +kernel
theorem s_La_law_389  (k : ev G M_La_law R E 390 lv (.int 2 :: rest) h cells slots) : ev G M_La_law R E 389 lv rest h cells slots := ev_iconst d_La_law_389 (by decide) k
theorem d_La_law_390 : decode code 390 = .ok (.iadd, 1) := by decide +kernel
theorem s_La_law_390 {x y : Int32} (k : ev G M_La_law R E 391 lv (.int (x + y) :: rest) h cells slots) : ev G M_La_law R E 390 lv (.int y :: .int x :: rest) h cells slots := ev_iadd d_La_law_390 k
theorem d_La_law_391 : decode code 391 = .ok (.iaload, 1) := by decide +kernel
theorem s_La_law_391 {a n : Nat} {f : Nat → Int32} {i : Int32} (hh : h a = mI 0 n f) (hin : vp_in i n) (k : ev G M_La_law R E 392 lv (.int (f i.toNatClampNeg) :: rest) h cells slots) : ev G M_La_law R E 391 lv (.int i :: .ref a :: rest) h cells slots := ev_iaload d_La_law_391 rfl hh hin k
theorem s_La_law_391t {j N : Nat} {f : Nat → Value} {i x : Int32} (hj : G.2.2.2.2[j]? = some (.int, N, f)) (hin : vp_in i N) (hv : f i.toNatClampNeg = .int x) (k : ev G M_La_law R E 392 lv (.int x :: rest) h cells slots) : ev G M_La_law R E 391 lv (.int i :: .ref (tB + j) :: rest) h cells slots := ev_tload d_La_law_391 hj hin hv k
theorem d_La_law_392 : decode code 392 = .ok (.invokevirtual 56, 3) := by decide +kernel
theorem s_La_law_392 {mc ms : Nat} {P : Option Value → HP → Prop} {a0 : Int32} {a1 : Int32} {b : Nat} {fs : List Value} {v0 : Value} (hm : mt G M_Mo_gate 1 mc ms (.ref b :: [.int a0, .int a1]) h P) (hb : h b = mO 7 fs) (hv0 : fs[0]? = some v0) (hR : 1 + 1 ≤ R.frames ∧ 8 + (4 + 11) + 39 * 1 ≤ R.locals) (hcs : cells + mc ≤ R.cells ∧ slots + ms ≤ R.slots) (hrest : (rest.map fun v => v.category).sum ≤ 8) (k : ∀ (r : Option Value) (h' : HP), P r h' → ev G M_La_law R E 395 lv (r.toList ++ rest) h' (cells + mc) (slots + ms)) : ev G M_La_law R E 392 lv (.int a1 :: .int a0 :: .ref b :: rest) h cells slots := ev_callV (as := [.int a0, .int a1]) (ci := 7) d_La_law_392 hm hb hv0 rfl w_916 w_917 w_918 w_70 w_919 hy_Mo_gate hR hcs hrest k
theorem d_La_law_395 : decode code 395 = .ok (.if_icmp .eq 54, 3) := by decide +kernel
theorem s_La_law_395 {x y : Int32} (kt : x = y → ev G M_La_law R E 449 lv rest h cells slots) (kf : ¬ x = y → ev G M_La_law R E 398 lv rest h cells slots) : ev G M_La_law R E 395 lv (.int y :: .int x :: rest) h cells slots := ev_icmp_eq d_La_law_395 (by decide) kt kf
theorem d_La_law_398 : decode code 398 = .ok (.iconst 0, 1) := by decide +kernel
theorem s_La_law_398  (k : ev G M_La_law R E 399 lv (.int 0 :: rest) h cells slots) : ev G M_La_law R E 398 lv rest h cells slots := ev_iconst d_La_law_398 (by decide) k
theorem d_La_law_399 : decode code 399 = .ok (.ireturn, 1) := by decide +kernel
theorem d_La_law_400 : decode code 400 = .ok (.aload_n 1, 1) := by decide +kernel
theorem s_La_law_400 {x : Nat} (hl : lg lv 1 = some (.ref x)) (k : ev G M_La_law R E 401 lv (.ref x :: rest) h cells slots) : ev G M_La_law R E 400 lv rest h cells slots := ev_aload_n d_La_law_400 rfl hl k
theorem d_La_law_401 : decode code 401 = .ok (.invokevirtual 57, 3) := by decide +kernel
theorem s_La_law_401 {mc ms : Nat} {P : Option Value → HP → Prop}  {b : Nat} {fs : List Value} {v0 : Value} (hm : mt G M_Um_reach 6 mc ms (.ref b :: []) h P) (hb : h b = mO 6 fs) (hv0 : fs[0]? = some v0) (hR : 6 + 1 ≤ R.frames ∧ 8 + (1 + 11) + 39 * 6 ≤ R.locals) (hcs : cells + mc ≤ R.cells ∧ slots + ms ≤ R.slots) (hrest : (rest.map fun v => v.category).sum ≤ 8) (k : ∀ (r : Option Value) (h' : HP), P r h' → ev G M_La_law R E 404 lv (r.toList ++ rest) h' (cells + mc) (slots + ms)) : ev G M_La_law R E 401 lv (.ref b :: rest) h cells slots := ev_callV (as := []) (ci := 6) d_La_law_401 hm hb hv0 rfl w_634 w_635 w_636 w_63 w_637 hy_Um_reach hR hcs hrest k
theorem d_La_law_404 : decode code 404 = .ok (.aload_n 2, 1) := by decide +kernel
theorem s_La_law_404 {x : Nat} (hl : lg lv 2 = some (.ref x)) (k : ev G M_La_law R E 405 lv (.ref x :: rest) h cells slots) : ev G M_La_law R E 404 lv rest h cells slots := ev_aload_n d_La_law_404 rfl hl k
theorem d_La_law_405 : decode code 405 = .ok (.invokevirtual 61, 3) := by decide +kernel
theorem s_La_law_405 {mc ms : Nat} {P : Option Value → HP → Prop}  {b : Nat} {fs : List Value} {v0 : Value} (hm : mt G M_Mo_reach 3 mc ms (.ref b :: []) h P) (hb : h b = mO 7 fs) (hv0 : fs[0]? = some v0) (hR : 3 + 1 ≤ R.frames ∧ 8 + (1 + 11) + 39 * 3 ≤ R.locals) (hcs : cells + mc ≤ R.cells ∧ slots + ms ≤ R.slots) (hrest : (rest.map fun v => v.category).sum ≤ 8) (k : ∀ (r : Option Value) (h' : HP), P r h' → ev G M_La_law R E 408 lv (r.toList ++ rest) h' (cells + mc) (slots + ms)) : ev G M_La_law R E 405 lv (.ref b :: rest) h cells slots := ev_callV (as := []) (ci := 7) d_La_law_405 hm hb hv0 rfl w_920 w_921 w_922 w_70 w_923 hy_Mo_reach hR hcs hrest k
theorem d_La_law_408 : decode code 408 = .ok (.if_icmp .eq 41, 3) := by decide +kernel
theorem s_La_law_408 {x y : Int32} (kt : x = y → ev G M_La_law R E 449 lv rest h cells slots) (kf : ¬ x = y → ev G M_La_law R E 411 lv rest h cells slots) : ev G M_La_law R E 408 lv (.int y :: .int x :: rest) h cells slots := ev_icmp_eq d_La_law_408 (by decide) kt kf
theorem d_La_law_411 : decode code 411 = .ok (.iconst 0, 1) := by decide +kernel
theorem s_La_law_411  (k : ev G M_La_law R E 412 lv (.int 0 :: rest) h cells slots) : ev G M_La_law R E 411 lv rest h cells slots := ev_iconst d_La_law_411 (by decide) k
theorem d_La_law_412 : decode code 412 = .ok (.ireturn, 1) := by decide +kernel
theorem d_La_law_413 : decode code 413 = .ok (.aload_n 1, 1) := by decide +kernel
theorem s_La_law_413 {x : Nat} (hl : lg lv 1 = some (.ref x)) (k : ev G M_La_law R E 414 lv (.ref x :: rest) h cells slots) : ev G M_La_law R E 413 lv rest h cells slots := ev_aload_n d_La_law_413 rfl hl k
theorem d_La_law_414 : decode code 414 = .ok (.aload_n 0, 1) := by decide +kernel
theorem s_La_law_414 {x : Nat} (hl : lg lv 0 = some (.ref x)) (k : ev G M_La_law R E 415 lv (.ref x :: rest) h cells slots) : ev G M_La_law R E 414 lv rest h cells slots := ev_aload_n d_La_law_414 rfl hl k
theorem d_La_law_415 : decode code 415 = .ok (.iload_n 3, 1) := by decide +kernel
theorem s_La_law_415 {x : Int32} (hl : lg lv 3 = some (.int x)) (k : ev G M_La_law R E 416 lv (.int x :: rest) h cells slots) : ev G M_La_law R E 415 lv rest h cells slots := ev_iload_n d_La_law_415 rfl hl k
theorem d_La_law_416 : decode code 416 = .ok (.iconst 1, 1) := by decide +kernel
theorem s_La_law_416  (k : ev G M_La_law R E 417 lv (.int 1 :: rest) h cells slots) : ev G M_La_law R E 416 lv rest h cells slots := ev_iconst d_La_law_416 (by decide) k
theorem d_La_law_417 : decode code 417 = .ok (.iadd, 1) := by decide +kernel
theorem s_La_law_417 {x y : Int32} (k : ev G M_La_law R E 418 lv (.int (x + y) :: rest) h cells slots) : ev G M_La_law R E 417 lv (.int y :: .int x :: rest) h cells slots := ev_iadd d_La_law_417 k
theorem d_La_law_418 : decode code 418 = .ok (.iaload, 1) := by decide +kernel
theorem s_La_law_418 {a n : Nat} {f : Nat → Int32} {i : Int32} (hh : h a = mI 0 n f) (hin : vp_in i n) (k : ev G M_La_law R E 419 lv (.int (f i.toNatClampNeg) :: rest) h cells slots) : ev G M_La_law R E 418 lv (.int i :: .ref a :: rest) h cells slots := ev_iaload d_La_law_418 rfl hh hin k
theorem s_La_law_418t {j N : Nat} {f : Nat → Value} {i x : Int32} (hj : G.2.2.2.2[j]? = some (.int, N, f)) (hin : vp_in i N) (hv : f i.toNatClampNeg = .int x) (k : ev G M_La_law R E 419 lv (.int x :: rest) h cells slots) : ev G M_La_law R E 418 lv (.int i :: .ref (tB + j) :: rest) h cells slots := ev_tload d_La_law_418 hj hin hv k
theorem d_La_law_419 : decode code 419 = .ok (.invokevirtual 62, 3) := by decide +kernel
theorem s_La_law_419 {mc ms : Nat} {P : Option Value → HP → Prop} {a0 : Int32} {b : Nat} {fs : List Value} {v0 : Value} (hm : mt G M_Um_reaches 6 mc ms (.ref b :: [.int a0]) h P) (hb : h b = mO 6 fs) (hv0 : fs[0]? = some v0) (hR : 6 + 1 ≤ R.frames ∧ 8 + (2 + 11) + 39 * 6 ≤ R.locals) (hcs : cells + mc ≤ R.cells ∧ slots + ms ≤ R.slots) (hrest : (rest.map fun v => v.category).sum ≤ 8) (k : ∀ (r : Option Value) (h' : HP), P r h' → ev G M_La_law R E 422 lv (r.toList ++ rest) h' (cells + mc) (slots + ms)) : ev G M_La_law R E 419 lv (.int a0 :: .ref b :: rest) h cells slots := ev_callV (as := [.int a0]) (ci := 6) d_La_law_419 hm hb hv0 rfl w_655 w_656 w_657 w_63 w_658 hy_Um_reaches hR hcs hrest k
theorem d_La_law_422 : decode code 422 = .ok (.aload_n 2, 1) := by decide +kernel
theorem s_La_law_422 {x : Nat} (hl : lg lv 2 = some (.ref x)) (k : ev G M_La_law R E 423 lv (.ref x :: rest) h cells slots) : ev G M_La_law R E 422 lv rest h cells slots := ev_aload_n d_La_law_422 rfl hl k
theorem d_La_law_423 : decode code 423 = .ok (.aload_n 0, 1) := by decide +kernel
theorem s_La_law_423 {x : Nat} (hl : lg lv 0 = some (.ref x)) (k : ev G M_La_law R E 424 lv (.ref x :: rest) h cells slots) : ev G M_La_law R E 423 lv rest h cells slots := ev_aload_n d_La_law_423 rfl hl k
theorem d_La_law_424 : decode code 424 = .ok (.iload_n 3, 1) := by decide +kernel
theorem s_La_law_424 {x : Int32} (hl : lg lv 3 = some (.int x)) (k : ev G M_La_law R E 425 lv (.int x :: rest) h cells slots) : ev G M_La_law R E 424 lv rest h cells slots := ev_iload_n d_La_law_424 rfl hl k
theorem d_La_law_425 : decode code 425 = .ok (.iconst 1, 1) := by decide +kernel
theorem s_La_law_425  (k : ev G M_La_law R E 426 lv (.int 1 :: rest) h cells slots) : ev G M_La_law R E 425 lv rest h cells slots := ev_iconst d_La_law_425 (by decide) k
theorem d_La_law_426 : decode code 426 = .ok (.iadd, 1) := by decide +kernel
theorem s_La_law_426 {x y : Int32} (k : ev G M_La_law R E 427 lv (.int (x + y) :: rest) h cells slots) : ev G M_La_law R E 426 lv (.int y :: .int x :: rest) h cells slots := ev_iadd d_La_law_426 k
theorem d_La_law_427 : decode code 427 = .ok (.iaload, 1) := by decide +kernel
theorem s_La_law_427 {a n : Nat} {f : Nat → Int32} {i : Int32} (hh : h a = mI 0 n f) (hin : vp_in i n) (k : ev G M_La_law R E 428 lv (.int (f i.toNatClampNeg) :: rest) h cells slots) : ev G M_La_law R E 427 lv (.int i :: .ref a :: rest) h cells slots := ev_iaload d_La_law_427 rfl hh hin k
theorem s_La_law_427t {j N : Nat} {f : Nat → Value} {i x : Int32} (hj : G.2.2.2.2[j]? = some (.int, N, f)) (hin : vp_in i N) (hv : f i.toNatClampNeg = .int x) (k : ev G M_La_law R E 428 lv (.int x :: rest) h cells slots) : ev G M_La_law R E 427 lv (.int i :: .ref (tB + j) :: rest) h cells slots := ev_tload d_La_law_427 hj hin hv k
theorem d_La_law_428 : decode code 428 = .ok (.invokevirtual 66, 3) := by decide +kernel
theorem s_La_law_428 {mc ms : Nat} {P : Option Value → HP → Prop} {a0 : Int32} {b : Nat} {fs : List Value} {v0 : Value} (hm : mt G M_Mo_reaches 3 mc ms (.ref b :: [.int a0]) h P) (hb : h b = mO 7 fs) (hv0 : fs[0]? = some v0) (hR : 3 + 1 ≤ R.frames ∧ 8 + (2 + 11) + 39 * 3 ≤ R.locals) (hcs : cells + mc ≤ R.cells ∧ slots + ms ≤ R.slots) (hrest : (rest.map fun v => v.category).sum ≤ 8) (k : ∀ (r : Option Value) (h' : HP), P r h' → ev G M_La_law R E 431 lv (r.toList ++ rest) h' (cells + mc) (slots + ms)) : ev G M_La_law R E 428 lv (.int a0 :: .ref b :: rest) h cells slots := ev_callV (as := [.int a0]) (ci := 7) d_La_law_428 hm hb hv0 rfl w_928 w_929 w_930 w_70 w_931 hy_Mo_reaches hR hcs hrest k
theorem d_La_law_431 : decode code 431 = .ok (.if_icmp .eq 18, 3) := by decide +kernel
theorem s_La_law_431 {x y : Int32} (kt : x = y → ev G M_La_law R E 449 lv rest h cells slots) (kf : ¬ x = y → ev G M_La_law R E 434 lv rest h cells slots) : ev G M_La_law R E 431 lv (.int y :: .int x :: rest) h cells slots := ev_icmp_eq d_La_law_431 (by decide) kt kf
theorem d_La_law_434 : decode code 434 = .ok (.iconst 0, 1) := by decide +kernel
theorem s_La_law_434  (k : ev G M_La_law R E 435 lv (.int 0 :: rest) h cells slots) : ev G M_La_law R E 434 lv rest h cells slots := ev_iconst d_La_law_434 (by decide) k
theorem d_La_law_435 : decode code 435 = .ok (.ireturn, 1) := by decide +kernel
theorem d_La_law_436 : decode code 436 = .ok (.aload_n 1, 1) := by decide +kernel
theorem s_La_law_436 {x : Nat} (hl : lg lv 1 = some (.ref x)) (k : ev G M_La_law R E 437 lv (.ref x :: rest) h cells slots) : ev G M_La_law R E 436 lv rest h cells slots := ev_aload_n d_La_law_436 rfl hl k
theorem d_La_law_437 : decode code 437 = .ok (.invokevirtual 67, 3) := by decide +kernel
theorem s_La_law_437 {mc ms : Nat} {P : Option Value → HP → Prop}  {b : Nat} {fs : List Value} {v0 : Value} (hm : mt G M_Um_conserve 4 mc ms (.ref b :: []) h P) (hb : h b = mO 6 fs) (hv0 : fs[0]? = some v0) (hR : 4 + 1 ≤ R.frames ∧ 8 + (1 + 11) + 39 * 4 ≤ R.locals) (hcs : cells + mc ≤ R.cells ∧ slots + ms ≤ R.slots) (hrest : (rest.map fun v => v.category).sum ≤ 8) (k : ∀ (r : Option Value) (h' : HP), P r h' → ev G M_La_law R E 440 lv (r.toList ++ rest) h' (cells + mc) (slots + ms)) : ev G M_La_law R E 437 lv (.ref b :: rest) h cells slots := ev_callV (as := []) (ci := 6) d_La_law_437 hm hb hv0 rfl w_663 w_664 w_665 w_63 w_666 hy_Um_conserve hR hcs hrest k
theorem d_La_law_440 : decode code 440 = .ok (.aload_n 2, 1) := by decide +kernel
theorem s_La_law_440 {x : Nat} (hl : lg lv 2 = some (.ref x)) (k : ev G M_La_law R E 441 lv (.ref x :: rest) h cells slots) : ev G M_La_law R E 440 lv rest h cells slots := ev_aload_n d_La_law_440 rfl hl k
theorem d_La_law_441 : decode code 441 = .ok (.invokevirtual 70, 3) := by decide +kernel
theorem s_La_law_441 {mc ms : Nat} {P : Option Value → HP → Prop}  {b : Nat} {fs : List Value} {v0 : Value} (hm : mt G M_Mo_conserve 3 mc ms (.ref b :: []) h P) (hb : h b = mO 7 fs) (hv0 : fs[0]? = some v0) (hR : 3 + 1 ≤ R.frames ∧ 8 + (5 + 11) + 39 * 3 ≤ R.locals) (hcs : cells + mc ≤ R.cells ∧ slots + ms ≤ R.slots) (hrest : (rest.map fun v => v.category).sum ≤ 8) (k : ∀ (r : Option Value) (h' : HP), P r h' → ev G M_La_law R E 444 lv (r.toList ++ rest) h' (cells + mc) (slots + ms)) : ev G M_La_law R E 441 lv (.ref b :: rest) h cells slots := ev_callV (as := []) (ci := 7) d_La_law_441 hm hb hv0 rfl w_932 w_933 w_934 w_70 w_935 hy_Mo_conserve hR hcs hrest k
theorem d_La_law_444 : decode code 444 = .ok (.if_icmp .eq 5, 3) := by decide +kernel
theorem s_La_law_444 {x y : Int32} (kt : x = y → ev G M_La_law R E 449 lv rest h cells slots) (kf : ¬ x = y → ev G M_La_law R E 447 lv rest h cells slots) : ev G M_La_law R E 444 lv (.int y :: .int x :: rest) h cells slots := ev_icmp_eq d_La_law_444 (by decide) kt kf
theorem d_La_law_447 : decode code 447 = .ok (.iconst 0, 1) := by decide +kernel
theorem s_La_law_447  (k : ev G M_La_law R E 448 lv (.int 0 :: rest) h cells slots) : ev G M_La_law R E 447 lv rest h cells slots := ev_iconst d_La_law_447 (by decide) k
theorem d_La_law_448 : decode code 448 = .ok (.ireturn, 1) := by decide +kernel
theorem d_La_law_449 : decode code 449 = .ok (.iinc 3 6, 3) := by decide +kernel
theorem s_La_law_449 {x : Int32} (hl : lg lv 3 = some (.int x)) (k : ev G M_La_law R E 452 (ls1 lv 3 (.int (x + 6))) rest h cells slots) : ev G M_La_law R E 449 lv rest h cells slots := ev_iinc d_La_law_449 (by decide) hl (by decide) k
theorem d_La_law_452 : decode code 452 = .ok (.goto (-434), 3) := by decide +kernel
theorem s_La_law_452  (k : ev G M_La_law R E 18 lv rest h cells slots) : ev G M_La_law R E 452 lv rest h cells slots := ev_goto d_La_law_452 (by decide) k
theorem d_La_law_455 : decode code 455 = .ok (.iconst 1, 1) := by decide +kernel
theorem s_La_law_455  (k : ev G M_La_law R E 456 lv (.int 1 :: rest) h cells slots) : ev G M_La_law R E 455 lv rest h cells slots := ev_iconst d_La_law_455 (by decide) k
theorem d_La_law_456 : decode code 456 = .ok (.ireturn, 1) := by decide +kernel
end SITES

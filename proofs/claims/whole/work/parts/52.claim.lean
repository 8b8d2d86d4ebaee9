/-! THE CLAIM OUT OF ONE WALK OF THE LAW'S BODY. Your part is whole_start (and what it stands on); all else here is the same for every law, but numbers. -/
def R_law : String := "UseOnceMachineLaw"
def lw_P (b : Addr) (xs : List Int32) (args : Array Value) (s : State) : Prop := args = #[.ref b] ∧ s.IntsAt b xs ∧ xs.length ≤ 3072 ∧ (Jvm.Cond.and given_1 narrow_1).before args s = true
def lw_Q (_ : Array Value) (s : State) (o : Outcome) (t : State) : Prop := o = .returned (some (.int 1)) ∧ Framed s o t [] 600000 7302250
def lw_Z (below : List Frame) (a : Array Value) (s : State) : State → Prop := fun t => ∃ o, t.status = .running ∧ Ended t below o ∧ lw_Q a s o t
/-- the law's own end, with 1 on the stack, nothing written that was there before, its room as the claim has it -/
theorem lw_ret {p : Program} {l : Launch} {e : Env} {s : State} {m : MethodId} {below : List Frame} {meth : Method} {c : Code} {b : Nat} (hx : p.tables.exec = Jvm.exec) (hb : c.code = code) (hr : meth.sig.returnType = ret) (hlocks : meth.locks = false) {pc : Nat} {H : Heap} {ls : Array Slot} (hdg : decode code pc = .ok (.ireturn, 1)) : W p l e room_1 s m #[Value.ref b] below meth c H [] 600000 7302250 (lw_Z below #[Value.ref b] s) (F0 m pc ls [.int 1]) := by
  intro T hT X
  obtain ⟨fs, hret, hrun, hended, hW, hframe⟩ := X.leave (v := some (.int 1)) (hlocks := hlocks) (fun h => by rw [hr] at h; cases h)
  have hmeth' : T.vm.method? m = some meth := X.method'
  refine ⟨T.setFrames fs, ?_, .returned (some (.int 1)), hrun, hended, rfl, ⟨_, rfl⟩, hW, hframe⟩
  jvm_step X.here [X.here.top, hx, hb, hdg, hmeth', hr, ret, narrow_b1]
  (try refine ⟨rfl, ?_⟩); (try refine ⟨rfl, ?_⟩)
  first | (intro acts; rw [hret _ acts rfl rfl rfl]) | rw [hret _ _ rfl rfl rfl]
  exact Steps.refl _
/-- what holds at the law's entry: the machine, the code, the tables' words (any of lw_tbl by 'hts w (by decide +kernel)'), the script of L ints xs at the cell b, what the Statement gives of the start (any of its parts by flat_of_before) -/
def lw_At (p : Program) (s : State) (m : MethodId) (meth : Method) (c : Code) (b L : Nat) (xs : Nat → Int32) : Prop :=
  p.tables.exec = Jvm.exec ∧ c.code = code ∧ meth.sig.returnType = ret ∧ c.maxLocals = 4 ∧ s.vm.findClass R_law = some m.cls ∧ (∀ w ∈ lw_tbl, w.before #[Value.ref b] s = true) ∧ va_X b L xs s s.heap ∧ b < s.heap.size ∧ meth.locks = false ∧ (Jvm.Cond.and given_1 narrow_1).before #[Value.ref b] s = true
/-! the entry -/
theorem mem1 (i : Nat) {w : Cond} (h : tables_1[i]? = some w) : w ∈ lw_tbl := List.mem_append_right _ (List.mem_of_getElem? h)
abbrev tmN : Term := .static "UseOnceMachine$Processor" "NAMED" "[I"
theorem nam_el {s : State} {args : Array Value} (hgv : (Jvm.Cond.and given_1 narrow_1).before args s = true) : ∀ j, j < 19 → (Term.elem tmN (.int (Int32.ofNat j))).eval args s none [] s = some (nmd j) := by
  have hq := flat_of_before _ hgv
  intro j hj
  rcases (by omega : j = 0 ∨ j = 1 ∨ j = 2 ∨ j = 3 ∨ j = 4 ∨ j = 5 ∨ j = 6 ∨ j = 7 ∨ j = 8 ∨ j = 9 ∨ j = 10 ∨ j = 11 ∨ j = 12 ∨ j = 13 ∨ j = 14 ∨ j = 15 ∨ j = 16 ∨ j = 17 ∨ j = 18) with rfl | rfl | rfl | rfl | rfl | rfl | rfl | rfl | rfl | rfl | rfl | rfl | rfl | rfl | rfl | rfl | rfl | rfl | rfl
  · exact va_eqt (z := 1) (hq (Cond.eq (.elem tmN (.int 0)) (.int 1)) (by decide +kernel))
  · exact va_eqt (z := 2) (hq (Cond.eq (.elem tmN (.int 1)) (.int 2)) (by decide +kernel))
  · exact va_eqt (z := 2) (hq (Cond.eq (.elem tmN (.int 2)) (.int 2)) (by decide +kernel))
  · exact va_eqt (z := 2) (hq (Cond.eq (.elem tmN (.int 3)) (.int 2)) (by decide +kernel))
  · exact va_eqt (z := 2) (hq (Cond.eq (.elem tmN (.int 4)) (.int 2)) (by decide +kernel))
  · exact va_eqt (z := 2) (hq (Cond.eq (.elem tmN (.int 5)) (.int 2)) (by decide +kernel))
  · exact va_eqt (z := 2) (hq (Cond.eq (.elem tmN (.int 6)) (.int 2)) (by decide +kernel))
  · exact va_eqt (z := 1) (hq (Cond.eq (.elem tmN (.int 7)) (.int 1)) (by decide +kernel))
  · exact va_eqt (z := 1) (hq (Cond.eq (.elem tmN (.int 8)) (.int 1)) (by decide +kernel))
  · exact va_eqt (z := 1) (hq (Cond.eq (.elem tmN (.int 9)) (.int 1)) (by decide +kernel))
  · exact va_eqt (z := 2) (hq (Cond.eq (.elem tmN (.int 10)) (.int 2)) (by decide +kernel))
  · exact va_eqt (z := 2) (hq (Cond.eq (.elem tmN (.int 11)) (.int 2)) (by decide +kernel))
  · exact va_eqt (z := 0) (hq (Cond.eq (.elem tmN (.int 12)) (.int 0)) (by decide +kernel))
  · exact va_eqt (z := 1) (hq (Cond.eq (.elem tmN (.int 13)) (.int 1)) (by decide +kernel))
  · exact va_eqt (z := 2) (hq (Cond.eq (.elem tmN (.int 14)) (.int 2)) (by decide +kernel))
  · exact va_eqt (z := 1) (hq (Cond.eq (.elem tmN (.int 15)) (.int 1)) (by decide +kernel))
  · exact va_eqt (z := 1) (hq (Cond.eq (.elem tmN (.int 16)) (.int 1)) (by decide +kernel))
  · exact va_eqt (z := 0) (hq (Cond.eq (.elem tmN (.int 17)) (.int 0)) (by decide +kernel))
  · exact va_eqt (z := 0) (hq (Cond.eq (.elem tmN (.int 18)) (.int 0)) (by decide +kernel))
theorem arr_p {s : State} {args : Array Value} {ty : FieldType} (h : (Cond.arrayClass ty).before args s = true) (hn : ∀ cA, s.vm.findClass ("[" ++ ty.toString) = some cA → va_RA s cA ty) : ∃ cA, ArrOfT s cA ty ∧ va_RA s cA ty := by
  obtain ⟨c, k, comp, h1, h2, h3⟩ := Cond.arrayClass_spec h
  exact ⟨c, fun n z => ⟨fun k h => (by cases h), k, h2, comp, h3⟩, hn c h1⟩
theorem arr_o {s : State} {args : Array Value} {C : String} (h : (Cond.arrayOver (.object C)).before args s = true) : ∃ cA, ArrOfT s cA (.object C) ∧ va_RA s cA (.object C) := by
  obtain ⟨comp, c, k, f1, f2, f3, f4, f5⟩ := Cond.arrayOver_spec h
  exact ⟨c, fun N z => ⟨(fun k h => by cases h), k, f3, comp, f4⟩, k, comp, f3, f4, f1, f5⟩
def pick8 {α : Type} (a0 a1 a2 a3 a4 a5 a6 a7 : α) (k : Nat) : α := match k with
  | 0 => a0
  | 1 => a1
  | 2 => a2
  | 3 => a3
  | 4 => a4
  | 5 => a5
  | 6 => a6
  | _ => a7
/-- what holds at the entry of the classes, the array classes, the static, the script -/
theorem gx_start {p : Program} {s : State} {m : MethodId} {meth : Method} {c : Code} (l : Launch) {b L : Nat} {xs : Nat → Int32} (C0 : lw_At p s m meth c b L xs) : ∃ G : GW, G.1 = l ∧ G.2.2.2.2 = [(.int, 19, nmd), (.int, L, fun j => .int (xs j))] ∧ G.2.2.2.1 (tB + 1) = b ∧ gx G (fun q => s.heap.size ≤ q) s := by
  obtain ⟨hx, hcode, hret, hml, hown, hts, hX, hbl, hlk, hgv⟩ := C0
  have hq := flat_of_before _ hgv
  have hTb : ∀ w ∈ Tb, w.before #[Value.ref b] s = true := fun w hw => hts w (List.mem_filter.mp hw).1
  have hA : ∀ a : Nat, a < s.heap.size → ¬ s.heap.size ≤ a := fun a h => Nat.not_le.mpr h
  obtain ⟨t, ht, hT⟩ := va_Tof (args := #[Value.ref b]) (s := s) (tm := tmN) (ty := .int) (N := 19) (f := nmd) (A := fun q => s.heap.size ≤ q) (by decide) (hq _ (by decide +kernel)) (va_eqt (hq _ (by decide +kernel))) (nam_el hgv) hA
  have hZ : va_Z "UseOnceMachine$Processor" "NAMED" "[I" (.ref t) (fun q => s.heap.size ≤ q) s s.heap := va_Zof (args := #[Value.ref b]) (hts _ (mem1 295 (by decide +kernel))) (hTb _ w_67) ht hA
  have hS : va_T .int b L (fun j => .int (xs j)) (fun q => s.heap.size ≤ q) s s.heap := by
    obtain ⟨scr, h1, h2, h3, h4, h5⟩ := hX
    exact ⟨scr, h1, h2, h3, Nat.le_of_eq h4.symm, congrArg Nat.toInt32 h4, h5, hA b hbl⟩

  obtain ⟨c0, i0, k0⟩ := u_known hTb ck0.1 (hTb _ w_85)
  obtain ⟨c1, i1, k1⟩ := u_known hTb ck1.1 (hTb _ w_165)
  obtain ⟨c2, i2, k2⟩ := u_known hTb ck2.1 (hTb _ w_208)
  obtain ⟨c3, i3, k3⟩ := u_known hTb ck3.1 (hTb _ w_183)
  obtain ⟨c4, i4, k4⟩ := u_known hTb ck4.1 (hTb _ w_227)
  obtain ⟨c5, i5, k5⟩ := u_known hTb ck5.1 (hTb _ w_99)
  obtain ⟨c6, i6, k6⟩ := u_known hTb ck6.1 (hTb _ w_77)
  obtain ⟨c7, i7, k7⟩ := u_known hTb ck7.1 (hTb _ w_699)
  obtain ⟨a0, b0⟩ := arr_p (ty := .int) (hTb _ w_97) (fun _ h => h)
  obtain ⟨a1, b1⟩ := arr_p (ty := .long) (hTb _ w_163) (fun _ h => h)
  obtain ⟨a2, b2⟩ := arr_p (ty := .boolean) (hTb _ w_248) (fun _ h => h)
  have hAO : (Cond.arrayOver (.object "UseOnceMachine$State")).before #[Value.ref b] s = true := hts _ (mem1 109 (by decide +kernel))
  obtain ⟨a3, b3⟩ := arr_o hAO
  refine ⟨(l, (pick8 c0 c1 c2 c3 c4 c5 c6 c7, pick8 i0 i1 i2 i3 i4 i5 i6 i7), pick8 a0 a1 a2 a3 a3 a3 a3 a3, fun k => if k = tB then t else b, [(.int, 19, nmd), (.int, L, fun j => .int (xs j))]), rfl, rfl, rfl, ⟨fun c q hc => ?_, fun k q hk => ?_⟩, fun j x hj => ?_, fun z hz => ?_, fun z hz => ?_, fun C hC => ?_⟩
  · match c, hc with
    | 0, hc => cases hc; exact k0
    | 1, hc => cases hc; exact k1
    | 2, hc => cases hc; exact k2
    | 3, hc => cases hc; exact k3
    | 4, hc => cases hc; exact k4
    | 5, hc => cases hc; exact k5
    | 6, hc => cases hc; exact k6
    | 7, hc => cases hc; exact k7
    | n + 8, hc => cases hc
  · match k, hk with
    | 0, hk => cases hk; exact b0
    | 1, hk => cases hk; exact b1
    | 2, hk => cases hk; exact b2
    | 3, hk => cases hk; exact b3
    | n + 4, hk => cases hk
  · match j, hj with
    | 0, hj => cases hj; exact hT
    | 1, hj => cases hj; exact hS
    | n + 2, hj => cases hj
  · rcases List.mem_singleton.mp hz with rfl
    exact hZ
  · rcases List.mem_cons.mp hz with rfl | hz
    · exact va_Nw.of rfl (hts _ (mem1 24 (by decide +kernel)))
    rcases List.mem_cons.mp hz with rfl | hz
    · exact va_Nw.of rfl (hts _ (mem1 38 (by decide +kernel)))
    rcases List.mem_cons.mp hz with rfl | hz
    · exact va_Nw.of rfl (hts _ (mem1 104 (by decide +kernel)))
    rcases List.mem_cons.mp hz with rfl | hz
    · exact va_Nw.of rfl (hts _ (mem1 258 (by decide +kernel)))
    · cases hz
  · rcases List.mem_singleton.mp hC with rfl
    exact va_AO.of hAO
set_option maxRecDepth 100000 in
/-- from the entry, for every script of at most 3072 ints, the law comes to its end with true -/
theorem whole_start {p : Program} {e : Env} {s : State} {m : MethodId} {below : List Frame} {meth : Method} {c : Code} (l : Launch) {b L : Nat} {xs : Nat → Int32} (hL : L ≤ 3072) (C0 : lw_At p s m meth c b L xs) : W p l e room_1 s m #[Value.ref b] below meth c s.heap [] 0 0 (lw_Z below #[Value.ref b] s) (entryFrame m ([Value.ref b] : List Value).toArray 4) := by
  obtain ⟨G, rfl, hG, hb, hg⟩ := gx_start l C0
  obtain ⟨hx, hcode, hret, hml, hown, hts, hX, hbl, hlk, hgv⟩ := C0
  have hev := t_law (G := G) (N := L) (xs := xs) (E := fun pc _ st _ cells slots => pc = 456 ∧ st = [.int 1] ∧ cells ≤ 600000 ∧ slots ≤ 7302250) (by rw [hG]; rfl) (by rw [hG]; rfl) hL (fun _ _ _ _ h1 h2 => ⟨rfl, rfl, h1, h2⟩)
  have ea : ([Value.ref (tB + 1)] : List Value).map (rv (fun _ => none) G.2.2.2.1) = [Value.ref b] := by
    show [Value.ref (G.2.2.2.1 (tB + 1))] = _
    rw [hb]
  have hl := lv_entry (([Value.ref (tB + 1)] : List Value).map (rv (fun _ => none) G.2.2.2.1)) (n := 4) (by rw [lg_sl_r]; exact Nat.le_of_ble_eq_true rfl)
  rw [lv_args_r] at hl
  rw [← ea, lg_entry_eq]
  generalize (lg_sl (([Value.ref (tB + 1)] : List Value).map (rv (fun _ => none) G.2.2.2.1)) ++ List.replicate (4 - (lg_sl (([Value.ref (tB + 1)] : List Value).map (rv (fun _ => none) G.2.2.2.1))).length) Slot.unset).toArray = ls at hl ⊢
  rw [ea]
  have hc : cx G M_La_law p s m #[Value.ref b] meth c (fun q => s.heap.size ≤ q) := ⟨⟨hx, hcode, hret, hml, hown, fun w hw => hts w (List.mem_filter.mp hw).1, hlk, fun h => absurd h (by decide)⟩, hg, fun q h => h⟩
  refine hev p e s m #[Value.ref b] below meth c (lw_Z below #[Value.ref b] s) (fun q => s.heap.size ≤ q) (fun _ => none) hc (fun pc lv st h cells slots ads H locs ls' hE X => ?_) (fun _ => none) s.heap [] ls ⟨⟨⟨[], List.nodup_nil, fun k => ⟨fun h => (by cases h), fun h => (by cases h)⟩, fun k q h => (by cases h), ⟨fun i j p q h => (by cases h), fun k q h => (by cases h)⟩, fun k h => (by cases h), fun k => ⟨fun h => (by cases h), fun h => absurd rfl h⟩, fun k h => (by cases h)⟩, va_S.rf, fun _ _ h => (by cases h)⟩, ⟨hl, fun q hq => ?_⟩, okl_nil⟩
  · obtain ⟨rfl, rfl, h1, h2⟩ := hE
    refine va_forget (fun q hq => X.1.2.1.2.2 q hq) ?_
    refine W.widen h1 h2 ?_
    exact lw_ret hx hcode hret hlk d_La_law_456
  · rcases List.mem_singleton.mp hq with rfl
    exact Or.inr (Nat.le_add_right _ _)
set_option maxHeartbeats 4000000 in
theorem lw_walk (l : Launch) (b : Addr) (xs : List Int32) : MetFree l x (headSpec (Jvm.Cond.code x code maxLocals ret :: tables_1) room_1) (lw_P b xs) (fun _ _ _ _ _ => True) lw_Q := by
  refine MetFree.of_bodyS (code := code) (maxLocals := maxLocals) (ret := ret) (by decide) ?_ ?_
  · intro args s m h hn
    obtain ⟨meth, c, h1, h2, h3, h4, h5, h6, -, -⟩ := Cond.code_spec hn (atoms_spec (ws := Jvm.Cond.code x code maxLocals ret :: tables_1) h _ List.mem_cons_self)
    exact ⟨meth, c, h1, h2, h3, h4, h5, h6⟩
  · intro p e s m args below meth c s₁ B hml0 hP _
    obtain ⟨rfl, hx, hbd, hgv⟩ := hP
    obtain ⟨scr, harrAt, hlist, hof, hsmall⟩ := hx
    obtain ⟨hcb, hkn, -, -⟩ := State.arrayAt?_spec harrAt
    have hown : s.vm.findClass R_law = some m.cls := findClass_of_methodNamed B.named
    have hts0 : ∀ c ∈ (Jvm.Cond.code x code maxLocals ret :: tables_1), c.before #[Value.ref b] s = true := atoms_spec (ws := Jvm.Cond.code x code maxLocals ret :: tables_1) B.pre
    have hts : ∀ w ∈ lw_tbl, w.before #[Value.ref b] s = true := k2_hts_sels lw_privs (fun w hw => hts0 w (List.mem_cons_of_mem _ hw)) lw_privs_ok
    have hml : c.maxLocals = 4 := B.maxLocals_eq (hts0 _ List.mem_cons_self)
    have X₀ : Stand p l e room_1 s m #[Value.ref b] below meth c s₁ [] 0 0 := Stand.of_body B
    have hh0 : s₁.heap = s.heap := by rw [B.state]; rfl
    have hsz : scr.slots.size = xs.length := by rw [← Array.length_toList, hlist, List.length_map]
    have hval : ∀ j : Nat, j < xs.length → scr.slots[j]? = some (.int (xs.getD j 0)) := fun j hj => by
      rw [← Array.getElem?_toList, hlist]
      simp [hj]
    have hbl : b < s.heap.size := (Array.getElem?_eq_some_iff.mp hcb).1
    have hX : va_X b xs.length (fun j => xs.getD j 0) s s.heap := ⟨scr, hcb, hof, hkn, hsz, hval⟩
    have K : W p l e room_1 s m #[Value.ref b] below meth c s₁.heap [] 0 0 (lw_Z below #[Value.ref b] s) (entryFrame m ([Value.ref b] : List Value).toArray 4) := by
      rw [hh0]
      exact whole_start l hbd ⟨B.exec, B.bytes, B.returns, hml, hown, hts, hX, hbl, B.notSynchronized, hgv⟩
    obtain ⟨t, a1, o, b1, b2, b3⟩ := K s₁ rfl X₀
    exact ⟨t, o, a1, b1, b2, b3⟩
theorem lw_pre_spec {args : Array Value} {s : State} (h : (Jvm.Cond.and given_1 narrow_1).before args s = true) (hr : rest_1_c.before args s = true) : ∃ (b : Addr) (xs : List Int32), lw_P b xs args s := by
  have hs := flat_of_before _ h
  have hq := flat_of_before _ hr
  have hc : (Cond.count 1).before args s = true := hs _ (by decide +kernel)
  have harr : (Cond.arrayOf (.arg 0) .int).before args s = true := hs _ (by decide +kernel)
  have hle : (Cond.le (.length (.arg 0)) (.int 3072)).before args s = true := hs _ (by decide +kernel)
  have hlen : (Cond.isInt (.length (.arg 0))).before args s = true := hq _ (by decide +kernel)
  have hall : (Cond.all (.arg 0) (.isInt (.elem (.arg 0) (.index 0)))).before args s = true := hq _ (by decide +kernel)
  obtain ⟨b, xs, hb, hx⟩ := State.ints_of_pre rfl harr hlen hall
  have hsm : xs.length < 2 ^ 31 := hx.choose_spec.2.2.2
  have hev : (Term.length (.arg 0)).eval args s none [] s = some (.int xs.length.toInt32) := hx.length_eval hb
  have hv := Cond.le_ints hev (show (Term.int 3072).eval args s none [] s = some (.int 3072) from rfl)
  have hd : xs.length.toInt32 ≤ 3072 := by
    simpa [Cond.before, Cond.holds, hv] using hle
  have hN : xs.length ≤ 3072 := (Int32.ofNat_le_ofNat hsm (by decide)).mp (show Int32.ofNat xs.length ≤ Int32.ofNat 3072 from hd)
  exact ⟨b, xs, Cond.one_arg hc (show args[0]? = some (.ref b) from hb), hx, hN, h⟩
theorem lw_comes (l : Launch) : Comes l x (Jvm.Cond.code x code maxLocals ret :: tables_1) room_1 (fun tb e args s => Calls_1 tb e args s ∧ rest_1 tb e args s ∧ Pre_1 tb e args s)
    (fun _ _ args s o t => lw_Q args s o t) := by
  intro p e ha hc hk s m args below hf hfit hheap happ hpre
  obtain ⟨b, xs, hP⟩ := lw_pre_spec hpre.2.2 hpre.2.1
  obtain ⟨k, o, h1, h2, h3, hQ⟩ := lw_walk l b xs p e ha hc hk s m args below hf ((Spec.applies_iff_loose hf).mp happ).1 hP trivial
  exact ⟨k, o, h1, h2, h3, hQ⟩
theorem lw_frame {s t : State} {o : Outcome} {args : Array Value} (h : Framed s o t [] 600000 7302250) :
    Framed s o t (fieldLocs frame_1_writes args s ++ arrayLocs frame_1_arrays args s ++ staticLocs frame_1_statics s) 600000 7302250 := h
theorem lw_limb (L : Cond) (hL : ∀ (args : Array Value) (s t : State), L.after args s (.returned (some (.int 1))) t = true) :
    ArmFor flags0 classFile x code maxLocals ret World_1 tables_1 room_1 Calls_1 rest_1 Pre_1
      (fun tb e a s o t => postC L tb e a s o t ∧ Framed s o t (fieldLocs frame_1_writes a s ++ arrayLocs frame_1_arrays a s ++ staticLocs frame_1_statics s) 600000 7302250) := by
  intro l _ _ _ p e ha hc hk s m args below hf hfit hheap happ hpre
  obtain ⟨k, o, h1, h2, h3, rfl, hF⟩ := lw_comes l p e ha hc hk s m args below hf hfit hheap happ hpre
  exact ⟨k, _, h1, h2, h3, hL args s _, lw_frame hF⟩
theorem i_vc : Claimed_1_1 ∧ Claimed_1_2 := ⟨lw_limb limb_1_1 (fun args s t => by simp [limb_1_1, Cond.after, Cond.holds, Cond.value]), lw_limb limb_1_2 (fun args s t => Cond.after_iff.mpr (by
  first | (rw [show limb_1_2 = Cond.eq .result (.int 1) from rfl, Cond.eq_ints (x := 1) (y := 1) rfl rfl]; simp; done) | (simp [limb_1_2, Cond.value, Term.eval]; done)))⟩

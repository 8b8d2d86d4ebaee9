/-! a method's contract, and the calls -/
def aA (ads : AD) (sz : Nat) : Nat → Prop := fun q => (∃ k, ads k = some q) ∨ sz ≤ q
def mPc (G : GW) (as : List Value) (h : HP) (ads : AD) (sz : Nat) : Array Value → State → Prop := fun v U => v = (as.map (rv ads G.2.2.2.1)).toArray ∧ U.heap.size = sz ∧ wd G ads h (aA ads sz) U.heap ∧ gx G (aA ads sz) U ∧ okl ads as
def mQc (G : GW) (ads : AD) (sz : Nat) (P : Option Value → HP → Prop) : Array Value → State → Outcome → State → Prop := fun _ st oc t =>
  (∃ (r : Option Value) (h' : HP) (ads' : AD), oc = .returned (r.map (rv ads' G.2.2.2.1)) ∧ P r h' ∧ wd G ads' h' (aA ads sz) t.heap ∧ (∀ k q, ads k = some q → ads' k = some q) ∧ (∀ v, r = some v → okv ads' v)) ∧ va_F (aA ads sz) st t
/-- the contract: called with 'as' over the heap h, M returns r and the heap h' with P r h'; at most d frames, mc cells of ms slots -/
def mt (G : GW) (M : MW) (d mc ms : Nat) (as : List Value) (h : HP) (P : Option Value → HP → Prop) : Prop :=
  ∀ (ads : AD) (sz : Nat), Met G.1 M.1 (Cond.code M.1 M.2.1 M.2.2.1 M.2.2.2 :: Tb) (rmv d mc ms) (mPc G as h ads sz) (mQc G ads sz P) mc ms (aA ads sz)
/-- the ends of a method -/
def Er (M : MW) (P : Option Value → HP → Prop) (mc ms : Nat) : Nat → LV → List Value → HP → Nat → Nat → Prop := fun pc _ st h cells slots => cells ≤ mc ∧ slots ≤ ms ∧
  ((M.2.2.2 = none ∧ decode M.2.1 pc = .ok (.return_, 1) ∧ st = [] ∧ P none h) ∨
   (∃ (v : Int32) (ty : FieldType), M.2.2.2 = some ty ∧ narrow ty (.int v) = .int v ∧ decode M.2.1 pc = .ok (.ireturn, 1) ∧ st = [.int v] ∧ P (some (.int v)) h) ∨
   (∃ v : Int64, M.2.2.2 = some .long ∧ decode M.2.1 pc = .ok (.lreturn, 1) ∧ st = [.long v] ∧ P (some (.long v)) h))
theorem gx_calling {G : GW} {A : Nat → Prop} {U : State} {g : JFrame} {mk : MethodId} {a : Array Value} (hg : gx G A U) : gx G A (U.calling g mk a) :=
  ⟨va_K.moved (u := U) (U := U.calling g mk a) (Vm.Alike.refl U.vm) hg.1, fun j x hj => va_T.moved (u := U) (U := U.calling g mk a) (Vm.Alike.refl U.vm) (hg.2.1 j x hj),
   fun z hz => va_Z.moved (u := U) (U := U.calling g mk a) (Vm.Alike.refl U.vm) (hg.2.2.1 z hz), fun z hz => va_Nw.same rfl (u := U) (U := U.calling g mk a) rfl (hg.2.2.2.1 z hz), fun C hC => va_AO.moved (u := U) (U := U.calling g mk a) (Vm.Alike.refl U.vm) (hg.2.2.2.2 C hC)⟩
theorem gx_go {G : GW} {A B : Nat → Prop} {s U : State} {H : Heap} {locs : List Loc} (hg : gx G A s) (hS : va_S A s.heap H locs) (hB : ∀ q, B q → A q) (hU : U.heap = H) (hW : s.WarmedH U.vm) : gx G B U := by
  refine ⟨va_K.moved hW.alike hg.1, fun j x hj => ?_, fun z hz => ?_, fun z hz => va_Nw.warmM hW (hg.2.2.2.1 z hz), fun C hC => va_AO.moved hW.alike (hg.2.2.2.2 C hC)⟩
  · rw [hU]
    exact va_T.moved hW.alike (((hg.2.1 j x hj).kept (fun a ha hna => hS.2.1 a ha hna)).narrow hB)
  · rw [hU]
    exact va_Z.moved hW.alike (((hg.2.2.1 z hz).kept (fun a ha hna => hS.2.1 a ha hna)).narrow hB)
theorem mPc_blind {G : GW} {as : List Value} {h : HP} {ads : AD} {sz : Nat} : FrameBlind (mPc G as h ads sz) := fun a U g mk q => ⟨q.1, q.2.1, q.2.2.1, gx_calling q.2.2.2.1, q.2.2.2.2⟩
theorem wd_aA {G : GW} {ads : AD} {h : HP} {A : Nat → Prop} {H : Heap} {sz : Nat} (X : wd G ads h A H) : wd G ads h (aA ads sz) H := by
  obtain ⟨dm, h1, h2, h3, h4, h5, h6, h7⟩ := X
  refine ⟨dm, h1, h2, h3, ⟨h4.1, fun i x hx => ?_⟩, h5, h6, h7⟩
  have hl : i < (wl G dm ads h).length := (List.getElem?_eq_some_iff.mp hx).1
  have hl' : i < dm.length := by simpa [wl] using hl
  have hx' := wl_at G ads h (List.getElem?_eq_getElem hl')
  rw [hx] at hx'
  cases hx'
  obtain ⟨q, hq⟩ := Option.isSome_iff_exists.mp ((h2 _).mpr (List.getElem_mem hl'))
  exact Or.inl ⟨dm[i], by show ads dm[i] = some (ra ads _ dm[i]); simp [ra, hq]⟩
theorem wd_weaken {G : GW} {ads : AD} {h : HP} {A B : Nat → Prop} {H : Heap} (X : wd G ads h A H) (hAB : ∀ q, A q → B q) : wd G ads h B H := by
  obtain ⟨dm, h1, h2, h3, h4, h5, h6, h7⟩ := X
  exact ⟨dm, h1, h2, h3, ⟨h4.1, fun i x hx => hAB _ (h4.2 i x hx)⟩, h5, h6, h7⟩
theorem wd_in {G : GW} {ads : AD} {h : HP} {A : Nat → Prop} {H : Heap} (X : wd G ads h A H) {k q : Nat} (hk : ads k = some q) : A q := by
  obtain ⟨dm, h1, h2, h3, h4, h5, h6, h7⟩ := X
  obtain ⟨i, hi⟩ := List.getElem?_of_mem ((h2 k).mp (by rw [hk]; rfl))
  have := h4.2 i _ (wl_at G ads h hi)
  simpa [ra, hk] using this
theorem cat_r (ads : AD) (tb : Nat → Nat) (vs : List Value) : ((vs.map (rv ads tb)).map fun v => v.category).sum = (vs.map fun v => v.category).sum := by
  rw [List.map_map]
  congr 1
  apply List.map_congr_left
  intro v _
  exact rv_cat ads tb v
theorem gi_code {M : MW} (hcode : Cond.code M.1 M.2.1 M.2.2.1 M.2.2.2 ∈ Tb) : GoodIn Tb (Cond.code M.1 M.2.1 M.2.2.1 M.2.2.2 :: Tb) := by
  intro w hw
  have h : w ∈ Tb := by
    rcases List.mem_cons.mp hw with rfl | h
    · exact hcode
    · exact h
  exact ⟨h, tb_good w h⟩
section EVC
variable {G : GW} {M : MW} {R : Room} {E : Nat → LV → List Value → HP → Nat → Nat → Prop} {pc : Nat} {lv : LV} {rest : List Value} {h : HP} {cells slots : Nat}
theorem ev_back {p : Program} {e : Env} {s : State} {m : MethodId} {args : Array Value} {below : List Frame} {meth : Method} {c : Code} {H : Heap} {locs : List Loc} {mc ms : Nat} {Q : State → Prop} {A : Nat → Prop} {ads ads0 : AD} {ls : Array Slot} {st st0 : List Value} {P : Option Value → HP → Prop} {as : Array Value}
    (hr : va_Run p G.1 e R s m args below meth c H locs cells slots mc ms (F0 m pc ls st0) (rest.map (rv ads G.2.2.2.1)) (mQc G ads H.size P as) (aA ads H.size)) (X : wx G M A s.heap ads0 lv st h ads H locs ls) (hrest : okl ads rest) (hA0 : ∀ q, s.heap.size ≤ q → A q)
    (kk : ∀ (r : Option Value) (h' : HP), P r h' → ∀ (ads' : AD) (H1 : Heap) (locs1 : List Loc), wx G M A s.heap ads0 lv (r.toList ++ rest) h' ads' H1 locs1 ls → W p G.1 e R s m args below meth c H1 locs1 (cells + mc) (slots + ms) Q (F0 m (pc + 3) ls ((r.toList ++ rest).map (rv ads' G.2.2.2.1)))) :
    W p G.1 e R s m args below meth c H locs cells slots Q (F0 m pc ls st0) := by
  intro T hT XX
  obtain ⟨v, st₀, t, T', L, h0, X', hL, e1, e2, ⟨⟨r, h', ads', hv, hP, hw, hx, hok⟩, hz, hk⟩, step⟩ := hr T hT XX
  have hv' : v = r.map (rv ads' G.2.2.2.1) := Outcome.returned.inj hv
  subst hv'
  rw [h0] at hz hk
  have hA : ∀ q, aA ads H.size q → A q := fun q hq => hq.elim (fun ⟨k, hk⟩ => wd_in X.1.1 hk) (fun hq => hA0 q (Nat.le_trans X.1.2.1.1 hq))
  have hax : axt ads ads' := ⟨hx, wd_none hw⟩
  have hno := wd_none X.1.1
  have hS : va_S A s.heap T'.heap (locs ++ L) := ⟨Nat.le_trans X.1.2.1.1 (by rw [e1]; exact hz), fun q h1 h2 => by rw [e1, hk q (Nat.lt_of_lt_of_le h1 X.1.2.1.1) (fun z => h2 (hA q z))]; exact X.1.2.1.2.1 q h1 h2, fun q hq => by
    rcases List.mem_append.mp hq with h | h
    · exact X.1.2.1.2.2 q h
    · exact hA _ (hL q h)⟩
  have hokr : okl ads' r.toList := fun w hw => hok w (by simpa using hw)
  obtain ⟨t2, a1, b1⟩ := kk r h' hP ads' T'.heap (locs ++ L) ⟨⟨by rw [e1]; exact wd_weaken hw hA, hS, fun k q hkq => hx k q (X.1.2.2 k q hkq)⟩, ⟨by rw [lvr_ext _ hax hno X.2.1.2]; exact X.2.1.1, fun q hq => okv_ext hax (X.2.1.2 q hq)⟩, okl_append.mpr ⟨hokr, okl_ext hax hrest⟩⟩ T' rfl X'
  have es : (r.toList ++ rest).map (rv ads' G.2.2.2.1) = (r.map (rv ads' G.2.2.2.1)).toList ++ rest.map (rv ads G.2.2.2.1) := by
    rw [List.map_append, map_ext _ hax hno hrest]
    cases r <;> rfl
  rw [es] at a1
  exact ⟨t2, step t2 a1, b1⟩
theorem ev_callS {idx d' mc' ms' : Nat} {M' : MW} {as : List Value} {P : Option Value → HP → Prop} (hd : decode M.2.1 pc = .ok (.invokestatic idx, 3)) (hm : mt G M' d' mc' ms' as h P) (hl : Cond.methodLink M.1.cls idx M'.1 ∈ Tb) (hs : Cond.static M'.1 ∈ Tb) (hi : Cond.initialized M'.1.cls ∈ Tb) (hcode : Cond.code M'.1 M'.2.1 M'.2.2.1 M'.2.2.2 ∈ Tb)
    (hy : M'.1.cls ≠ "java/lang/invoke/MethodHandle" ∧ M'.1.cls ≠ "java/lang/invoke/VarHandle" ∧ (parseMethodDescriptor M'.1.desc).map (fun d => d.parameters.length) = some as.length) (hR : d' + 1 ≤ R.frames ∧ 8 + (M'.2.2.1 + 11) + 39 * d' ≤ R.locals) (hcs : cells + mc' ≤ R.cells ∧ slots + ms' ≤ R.slots) (hrest : (rest.map fun v => v.category).sum ≤ 8)
    (k : ∀ (r : Option Value) (h' : HP), P r h' → ev G M R E (pc + 3) lv (r.toList ++ rest) h' (cells + mc') (slots + ms')) : ev G M R E pc lv (as.reverse ++ rest) h cells slots := by
  intro p e s m args below meth c Q A ads0 C0 hE ads H locs ls X
  have ho := okl_append.mp X.2.2
  have hoa : okl ads as := fun v hv => ho.1 v (List.mem_reverse.mpr hv)
  have hA : ∀ q, aA ads H.size q → A q := fun q hq => hq.elim (fun ⟨k, hk⟩ => wd_in X.1.1 hk) (fun hq => C0.2.2 q (Nat.le_trans X.1.2.1.1 hq))
  have hrun := va_runS (p := p) (l := G.1) (e := e) (R := R) (s := s) (m := m) (args := args) (below := below) (meth := meth) (c := c) (H := H) (locs := locs) (cells := cells) (slots := slots) (Ts := Tb) (own := M.1.cls) (cc := M.2.1) (nL := M.2.2.1) (As := as.map (rv ads G.2.2.2.1)) (rest := rest.map (rv ads G.2.2.2.1)) (g := F0 m pc ls ((as.reverse ++ rest).map (rv ads G.2.2.2.1)))
    ⟨C0.1.1, C0.1.2.1, C0.1.2.2.2.1, C0.1.2.2.2.2.1, C0.1.2.2.2.2.2.1⟩ (hm ads H.size) ⟨callB_of as.length C0.1.2.2.2.2.2.1 (gi_code hcode) rfl rfl rfl (C0.1.2.2.2.2.2.1 _ hi) (C0.1.2.2.2.2.2.1 _ hl) hy hR, C0.1.2.2.2.2.2.1 _ hs⟩
    ⟨mPc_blind, fun U hU hW => ⟨rfl, by rw [hU], by rw [hU]; exact wd_aA X.1.1, gx_go C0.2.1 X.1.2.1 hA hU hW, hoa⟩⟩ rfl (by simp) X.2.1.1.1 (by simp) (lv_room (by rw [cat_r]; exact hrest)) hd hcs
  exact ev_back hrun X ho.2 C0.2.2 (fun r h' hP ads' H1 locs1 hw => k r h' hP p e s m args below meth c Q A ads0 C0 hE ads' H1 locs1 ls hw)
theorem ev_callV {idx d' mc' ms' b ci N : Nat} {T : u_T} {fs : List Value} {v0 : Value} {M' : MW} {as : List Value} {P : Option Value → HP → Prop} (hd : decode M.2.1 pc = .ok (.invokevirtual idx, 3)) (hm : mt G M' d' mc' ms' (.ref b :: as) h P) (hb : h b = mO ci fs) (hv0 : fs[0]? = some v0) (hc : vwCl[ci]? = some (M'.1.cls, T, N)) (hl : Cond.methodLink M.1.cls idx M'.1 ∈ Tb) (hs : Cond.instanceMethod M'.1 ∈ Tb) (hsel : Cond.selects M'.1.cls M'.1 M'.1 ∈ Tb) (hi : Cond.initialized M'.1.cls ∈ Tb) (hcode : Cond.code M'.1 M'.2.1 M'.2.2.1 M'.2.2.2 ∈ Tb)
    (hy : M'.1.cls ≠ "java/lang/invoke/MethodHandle" ∧ M'.1.cls ≠ "java/lang/invoke/VarHandle" ∧ (parseMethodDescriptor M'.1.desc).map (fun d => d.parameters.length) = some as.length) (hR : d' + 1 ≤ R.frames ∧ 8 + (M'.2.2.1 + 11) + 39 * d' ≤ R.locals) (hcs : cells + mc' ≤ R.cells ∧ slots + ms' ≤ R.slots) (hrest : (rest.map fun v => v.category).sum ≤ 8)
    (k : ∀ (r : Option Value) (h' : HP), P r h' → ev G M R E (pc + 3) lv (r.toList ++ rest) h' (cells + mc') (slots + ms')) : ev G M R E pc lv (as.reverse ++ .ref b :: rest) h cells slots := by
  intro p e s m args below meth c Q A ads0 C0 hE ads H locs ls X
  have ho := okl_append.mp X.2.2
  have ho2 := okl_cons.mp ho.2
  have hoa : okl ads (.ref b :: as) := okl_cons.mpr ⟨ho2.1, fun v hv => ho.1 v (List.mem_reverse.mpr hv)⟩
  have hA : ∀ q, aA ads H.size q → A q := fun q hq => hq.elim (fun ⟨k, hk⟩ => wd_in X.1.1 hk) (fun hq => C0.2.2 q (Nat.le_trans X.1.2.1.1 hq))
  obtain ⟨dm, q, hX, hq, hw, -⟩ := wd_pos X.1.1 hb (mO_ne hv0)
  have hrecv := va_recv (D := G.2.1) (cl := vwCl) (q0 := q) (ci := ci) C0.2.1.1 hX.2.2.1 hc hw
  have hrun := va_runV (p := p) (l := G.1) (e := e) (R := R) (s := s) (m := m) (args := args) (below := below) (meth := meth) (c := c) (H := H) (locs := locs) (cells := cells) (slots := slots) (Ts := Tb) (own := M.1.cls) (C := M'.1.cls) (cc := M.2.1) (nL := M.2.2.1) (b := ra ads G.2.2.2.1 b) (As := as.map (rv ads G.2.2.2.1)) (rest := rest.map (rv ads G.2.2.2.1)) (g := F0 m pc ls ((as.reverse ++ .ref b :: rest).map (rv ads G.2.2.2.1)))
    ⟨C0.1.1, C0.1.2.1, C0.1.2.2.2.1, C0.1.2.2.2.2.1, C0.1.2.2.2.2.2.1⟩ (hm ads H.size) ⟨callB_of as.length C0.1.2.2.2.2.2.1 (gi_code hcode) rfl rfl rfl (C0.1.2.2.2.2.2.1 _ hi) (C0.1.2.2.2.2.2.1 _ hl) hy hR, C0.1.2.2.2.2.2.1 _ hs, C0.1.2.2.2.2.2.1 _ hsel⟩
    ⟨mPc_blind, hrecv, fun U hU hW => ⟨rfl, by rw [hU], by rw [hU]; exact wd_aA X.1.1, gx_go C0.2.1 X.1.2.1 hA hU hW, hoa⟩⟩ rfl (by simp) X.2.1.1.1 (by simp [rv]) (lv_room (by rw [cat_r]; exact hrest)) hd hcs
  exact ev_back hrun X ho2.2 C0.2.2 (fun r h' hP ads' H1 locs1 hw => k r h' hP p e s m args below meth c Q A ads0 C0 hE ads' H1 locs1 ls hw)
theorem ev_callI {idx d' mc' ms' b nL' : Nat} {y : MethodName} {bs : ByteArray} {as : List Value} {P : Option Value → HP → Prop} (hd : decode M.2.1 pc = .ok (.invokespecial idx, 3)) (hm : mt G (y, bs, nL', none) d' mc' ms' (.ref b :: as) h P) (hl : Cond.methodLink M.1.cls idx y ∈ Tb) (hn : y.name = "<init>") (hs : Cond.instanceMethod y ∈ Tb) (hi : Cond.initialized y.cls ∈ Tb) (hcode : Cond.code y bs nL' none ∈ Tb)
    (hy : y.cls ≠ "java/lang/invoke/MethodHandle" ∧ y.cls ≠ "java/lang/invoke/VarHandle" ∧ (parseMethodDescriptor y.desc).map (fun d => d.parameters.length) = some as.length) (hR : d' + 1 ≤ R.frames ∧ 8 + (nL' + 11) + 39 * d' ≤ R.locals) (hcs : cells + mc' ≤ R.cells ∧ slots + ms' ≤ R.slots) (hrest : (rest.map fun v => v.category).sum ≤ 8)
    (k : ∀ (r : Option Value) (h' : HP), P r h' → ev G M R E (pc + 3) lv (r.toList ++ rest) h' (cells + mc') (slots + ms')) : ev G M R E pc lv (as.reverse ++ .ref b :: rest) h cells slots := by
  intro p e s m args below meth c Q A ads0 C0 hE ads H locs ls X
  have ho := okl_append.mp X.2.2
  have ho2 := okl_cons.mp ho.2
  have hoa : okl ads (.ref b :: as) := okl_cons.mpr ⟨ho2.1, fun v hv => ho.1 v (List.mem_reverse.mpr hv)⟩
  have hA : ∀ q, aA ads H.size q → A q := fun q hq => hq.elim (fun ⟨k, hk⟩ => wd_in X.1.1 hk) (fun hq => C0.2.2 q (Nat.le_trans X.1.2.1.1 hq))
  have hrun := va_runI (p := p) (l := G.1) (e := e) (R := R) (s := s) (m := m) (args := args) (below := below) (meth := meth) (c := c) (H := H) (locs := locs) (cells := cells) (slots := slots) (Ts := Tb) (own := M.1.cls) (cc := M.2.1) (nL := M.2.2.1) (b := ra ads G.2.2.2.1 b) (As := as.map (rv ads G.2.2.2.1)) (rest := rest.map (rv ads G.2.2.2.1)) (g := F0 m pc ls ((as.reverse ++ .ref b :: rest).map (rv ads G.2.2.2.1)))
    ⟨C0.1.1, C0.1.2.1, C0.1.2.2.2.1, C0.1.2.2.2.2.1, C0.1.2.2.2.2.2.1⟩ (hm ads H.size) ⟨callB_of as.length C0.1.2.2.2.2.2.1 (gi_code (M := (y, bs, nL', none)) hcode) rfl rfl rfl (C0.1.2.2.2.2.2.1 _ hi) (C0.1.2.2.2.2.2.1 _ hl) hy hR, hn, C0.1.2.2.2.2.2.1 _ hs⟩
    ⟨mPc_blind, fun U hU hW => ⟨rfl, by rw [hU], by rw [hU]; exact wd_aA X.1.1, gx_go C0.2.1 X.1.2.1 hA hU hW, hoa⟩⟩ rfl (by simp) X.2.1.1.1 (by simp [rv]) (lv_room (by rw [cat_r]; exact hrest)) hd hcs
  exact ev_back hrun X ho2.2 C0.2.2 (fun r h' hP ads' H1 locs1 hw => k r h' hP p e s m args below meth c Q A ads0 C0 hE ads' H1 locs1 ls hw)
theorem ev_callIN {idx d' mc' ms' b nL' : Nat} {host : String} {y : MethodName} {bs : ByteArray} {as : List Value} {P : Option Value → HP → Prop} (hd : decode M.2.1 pc = .ok (.invokespecial idx, 3)) (hm : mt G (y, bs, nL', none) d' mc' ms' (.ref b :: as) h P) (hl : (M.1.cls, idx, y, host) ∈ NMs) (hn : y.name = "<init>") (hs : Cond.instanceMethod y ∈ Tb) (hi : Cond.initialized y.cls ∈ Tb) (hcode : Cond.code y bs nL' none ∈ Tb)
    (hy : y.cls ≠ "java/lang/invoke/MethodHandle" ∧ y.cls ≠ "java/lang/invoke/VarHandle" ∧ (parseMethodDescriptor y.desc).map (fun d => d.parameters.length) = some as.length) (hR : d' + 1 ≤ R.frames ∧ 8 + (nL' + 11) + 39 * d' ≤ R.locals) (hcs : cells + mc' ≤ R.cells ∧ slots + ms' ≤ R.slots) (hrest : (rest.map fun v => v.category).sum ≤ 8)
    (k : ∀ (r : Option Value) (h' : HP), P r h' → ev G M R E (pc + 3) lv (r.toList ++ rest) h' (cells + mc') (slots + ms')) : ev G M R E pc lv (as.reverse ++ .ref b :: rest) h cells slots := by
  intro p e s m args below meth c Q A ads0 C0 hE ads H locs ls X
  have ho := okl_append.mp X.2.2
  have ho2 := okl_cons.mp ho.2
  have hoa : okl ads (.ref b :: as) := okl_cons.mpr ⟨ho2.1, fun v hv => ho.1 v (List.mem_reverse.mpr hv)⟩
  have hA : ∀ q, aA ads H.size q → A q := fun q hq => hq.elim (fun ⟨k, hk⟩ => wd_in X.1.1 hk) (fun hq => C0.2.2 q (Nat.le_trans X.1.2.1.1 hq))
  have hrun := va_runIN (p := p) (l := G.1) (e := e) (R := R) (s := s) (m := m) (args := args) (below := below) (meth := meth) (c := c) (H := H) (locs := locs) (cells := cells) (slots := slots) (Ts := Tb) (own := M.1.cls) (host := host) (cc := M.2.1) (nL := M.2.2.1) (b := ra ads G.2.2.2.1 b) (As := as.map (rv ads G.2.2.2.1)) (rest := rest.map (rv ads G.2.2.2.1)) (g := F0 m pc ls ((as.reverse ++ .ref b :: rest).map (rv ads G.2.2.2.1)))
    ⟨C0.1.1, C0.1.2.1, C0.1.2.2.2.1, C0.1.2.2.2.2.1, C0.1.2.2.2.2.2.1⟩ (hm ads H.size) ⟨va_cnB as.length C0.1.2.2.2.2.2.1 (gi_code (M := (y, bs, nL', none)) hcode) rfl rfl rfl (C0.2.1.2.2.2.1 _ hl) (C0.1.2.2.2.2.2.1 _ hi) hy hR, hn, C0.1.2.2.2.2.2.1 _ hs⟩
    ⟨mPc_blind, fun U hU hW => ⟨rfl, by rw [hU], by rw [hU]; exact wd_aA X.1.1, gx_go C0.2.1 X.1.2.1 hA hU hW, hoa⟩⟩ rfl (by simp) X.2.1.1.1 (by simp [rv]) (lv_room (by rw [cat_r]; exact hrest)) hd hcs
  exact ev_back hrun X ho2.2 C0.2.2 (fun r h' hP ads' H1 locs1 hw => k r h' hP p e s m args below meth c Q A ads0 C0 hE ads' H1 locs1 ls hw)
theorem ev_objInit {idx b : Nat} (hd : decode M.2.1 pc = .ok (.invokespecial idx, 3)) (hl : Cond.methodLink M.1.cls idx Lib.objectInit ∈ Tb) (hs : Cond.instanceMethod Lib.objectInit ∈ Tb) (hcode : Cond.code Lib.objectInit ⟨#[0xb1]⟩ 1 none ∈ Tb) (hfr : 1 ≤ R.frames) (hlo : (rest.map fun v => v.category).sum + 12 ≤ R.locals) (k : ev G M R E (pc + 3) lv rest h cells slots) : ev G M R E pc lv (.ref b :: rest) h cells slots := by
  intro p e s m args below meth c Q A ads0 C0 hE ads H locs ls X
  refine W.objInit C0.1.1 C0.1.2.1 C0.1.2.2.2.2.1 (C0.1.2.2.2.2.2.1 _ hl) (C0.1.2.2.2.2.2.1 _ hs) (C0.1.2.2.2.2.2.1 _ hcode) rfl (X.2.1.1.1.trans C0.1.2.2.2.1.symm) rfl hd hfr (by show 2 * 0 + _ + 12 ≤ _; rw [cat_r]; omega) ?_
  exact k p e s m args below meth c Q A ads0 C0 hE ads H locs ls ⟨X.1, X.2.1, (okl_cons.mp X.2.2).2⟩
theorem ev_copyi {idx t n0 n1 a0 a : Nat} {f g : Nat → Int32} {sp dp n : Int32} (hd : decode M.2.1 pc = .ok (.invokestatic idx, 3)) (hl : Cond.methodLink M.1.cls idx arraycopyName ∈ Tb) (hnat : Cond.native arraycopyName ∈ Tb) (hst : Cond.static arraycopyName ∈ Tb) (hi : Cond.initialized "java/lang/System" ∈ Tb) (ht : TYs[t]? = some .int) (h0 : h a0 = mI t n0 f) (h1 : h a = mI t n1 g) (g1 : ¬ sp < 0) (g2 : ¬ dp < 0) (g3 : ¬ n < 0) (g4 : sp.toNatClampNeg + n.toNatClampNeg ≤ n0) (g5 : dp.toNatClampNeg + n.toNatClampNeg ≤ n1)
    (hfr : 1 ≤ R.frames) (hlo : (rest.map fun v => v.category).sum + (nativeFrameWords "java/lang/System" "arraycopy" 5 + 11) ≤ R.locals) (k : ev G M R E (pc + 3) lv rest (va_up h a (mI t n1 (va_cpy f g sp.toNatClampNeg dp.toNatClampNeg n.toNatClampNeg))) cells slots) : ev G M R E pc lv (.int n :: .int dp :: .ref a :: .int sp :: .ref a0 :: rest) h cells slots := by
  intro p e s m args below meth c Q A ads0 C0 hE ads H locs ls X
  obtain ⟨dm, q, hX, hq, hw, -⟩ := wd_pos X.1.1 h1 mI_ne
  obtain ⟨q2, hq2, hw2, -, -⟩ := wd_pos2 hX h0 mI_ne
  refine va_copyi (D := G.2.1) (cl := vwCl) (ty := .int) C0.1.1 C0.1.2.1 (C0.1.2.2.2.1.trans X.2.1.1.1.symm) C0.1.2.2.2.2.1 (C0.1.2.2.2.2.2.1 _ hl) (C0.1.2.2.2.2.2.1 _ hnat) (C0.1.2.2.2.2.2.1 _ hst) (C0.1.2.2.2.2.2.1 _ hi) C0.2.1.1 hX.2.2.1 hX.2.2.2.1 X.1.2.1 q2 q t t hw2 hw (tyl_at G ht) (tyl_at G ht) rfl g1 g2 g3 g4 g5 (fun _ _ => rfl) hfr (by rw [cat_r]; exact hlo) hd (fun H1 locs1 hP hD hS => ?_)
  have hwd := wd_up (c := mI t n1 (va_cpy f g sp.toNatClampNeg dp.toNatClampNeg n.toNatClampNeg)) hX hq hP hD trivial mI_ne
  have o := X.2.2
  simp only [okl_cons] at o
  exact k p e s m args below meth c Q A ads0 C0 hE ads H1 locs1 ls ⟨⟨hwd, hS, X.1.2.2⟩, X.2.1, o.2.2.2.2.2⟩
theorem ev_copyl {idx t n0 n1 a0 a : Nat} {f g : Nat → Int64} {sp dp n : Int32} (hd : decode M.2.1 pc = .ok (.invokestatic idx, 3)) (hl : Cond.methodLink M.1.cls idx arraycopyName ∈ Tb) (hnat : Cond.native arraycopyName ∈ Tb) (hst : Cond.static arraycopyName ∈ Tb) (hi : Cond.initialized "java/lang/System" ∈ Tb) (ht : TYs[t]? = some .long) (h0 : h a0 = mL t n0 f) (h1 : h a = mL t n1 g) (g1 : ¬ sp < 0) (g2 : ¬ dp < 0) (g3 : ¬ n < 0) (g4 : sp.toNatClampNeg + n.toNatClampNeg ≤ n0) (g5 : dp.toNatClampNeg + n.toNatClampNeg ≤ n1)
    (hfr : 1 ≤ R.frames) (hlo : (rest.map fun v => v.category).sum + (nativeFrameWords "java/lang/System" "arraycopy" 5 + 11) ≤ R.locals) (k : ev G M R E (pc + 3) lv rest (va_up h a (mL t n1 (va_cpy f g sp.toNatClampNeg dp.toNatClampNeg n.toNatClampNeg))) cells slots) : ev G M R E pc lv (.int n :: .int dp :: .ref a :: .int sp :: .ref a0 :: rest) h cells slots := by
  intro p e s m args below meth c Q A ads0 C0 hE ads H locs ls X
  obtain ⟨dm, q, hX, hq, hw, -⟩ := wd_pos X.1.1 h1 mL_ne
  obtain ⟨q2, hq2, hw2, -, -⟩ := wd_pos2 hX h0 mL_ne
  refine va_copyl (D := G.2.1) (cl := vwCl) (ty := .long) C0.1.1 C0.1.2.1 (C0.1.2.2.2.1.trans X.2.1.1.1.symm) C0.1.2.2.2.2.1 (C0.1.2.2.2.2.2.1 _ hl) (C0.1.2.2.2.2.2.1 _ hnat) (C0.1.2.2.2.2.2.1 _ hst) (C0.1.2.2.2.2.2.1 _ hi) C0.2.1.1 hX.2.2.1 hX.2.2.2.1 X.1.2.1 q2 q t t hw2 hw (tyl_at G ht) (tyl_at G ht) rfl g1 g2 g3 g4 g5 (fun _ _ => rfl) hfr (by rw [cat_r]; exact hlo) hd (fun H1 locs1 hP hD hS => ?_)
  have hwd := wd_up (c := mL t n1 (va_cpy f g sp.toNatClampNeg dp.toNatClampNeg n.toNatClampNeg)) hX hq hP hD trivial mL_ne
  have o := X.2.2
  simp only [okl_cons] at o
  exact k p e s m args below meth c Q A ads0 C0 hE ads H1 locs1 ls ⟨⟨hwd, hS, X.1.2.2⟩, X.2.1, o.2.2.2.2.2⟩
end EVC
theorem mt_of_ev {G : GW} {M : MW} {d mc ms : Nat} {as : List Value} {h : HP} {P : Option Value → HP → Prop} (hy : plainName M.1.cls = true) (hn : (lg_sl as).length ≤ M.2.2.1) (k : ev G M (rmv d mc ms) (Er M P mc ms) 0 (lv_args 0 as) [] h 0 0) : mt G M d mc ms as h P := by
  intro ads sz
  refine Met.ofW (cc := M.2.1) (maxL := M.2.2.1) (ret := M.2.2.2) hy rfl ?_
  intro p e s m args below meth c s₁ B hml hv
  obtain ⟨rfl, hsz, hw, hg, hok⟩ := hv
  subst hsz
  have hl := lv_entry (as.map (rv ads G.2.2.2.1)) (n := M.2.2.1) (by rw [lg_sl_r]; exact hn)
  rw [lv_args_r] at hl
  rw [lg_entry_eq]
  generalize (lg_sl (as.map (rv ads G.2.2.2.1)) ++ List.replicate (M.2.2.1 - (lg_sl (as.map (rv ads G.2.2.2.1))).length) Slot.unset).toArray = ls at hl ⊢
  have hts := atoms_spec (ws := Cond.code M.1 M.2.1 M.2.2.1 M.2.2.2 :: Tb) B.pre
  have C0 : cx G M p s m (as.map (rv ads G.2.2.2.1)).toArray meth c (aA ads s.heap.size) := ⟨⟨B.exec, B.bytes, B.returns, hml, findClass_of_methodNamed B.named, fun w hw => hts w (List.mem_cons_of_mem _ hw), B.notSynchronized, fun hi => (name_of_methodNamed B.named B.method).1.trans hi⟩, hg, fun q hq => Or.inr hq⟩
  refine k p e s m _ below meth c (MQ below (mQc G ads s.heap.size P) (as.map (rv ads G.2.2.2.1)).toArray s mc ms (aA ads s.heap.size)) (aA ads s.heap.size) ads C0 ?_ ads s.heap [] ls ⟨⟨hw, va_S.rf, fun _ _ hq => hq⟩, ⟨hl, lv_args_ok as 0 hok⟩, okl_nil⟩
  intro pc lv st h' cells slots ads' H locs ls' hE X
  obtain ⟨h1, h2, hE⟩ := hE
  refine W.widen (k := mc) (n := ms) h1 h2 ?_
  rcases hE with ⟨e1, e2, rfl, hP⟩ | ⟨v, ty, e1, e2, e3, rfl, hP⟩ | ⟨v, e1, e2, rfl, hP⟩
  · exact W.vret C0.1.1 C0.1.2.1 (C0.1.2.2.1.trans e1) (fun t ht hW => ⟨⟨none, h', ads', rfl, hP, by rw [ht]; exact X.1.1, X.1.2.2, fun v hv => by cases hv⟩, X.1.2.1.F ht⟩) X.1.2.1.2.2 e2 C0.1.2.2.2.2.2.2.1
  · exact W.zret C0.1.1 C0.1.2.1 (C0.1.2.2.1.trans e1) e2 (fun t ht hW => ⟨⟨some (.int v), h', ads', rfl, hP, by rw [ht]; exact X.1.1, X.1.2.2, fun w hw => by cases hw; trivial⟩, X.1.2.1.F ht⟩) X.1.2.1.2.2 e3 C0.1.2.2.2.2.2.2.1
  · exact W.lret C0.1.1 C0.1.2.1 (C0.1.2.2.1.trans e1) (fun t ht hW => ⟨⟨some (.long v), h', ads', rfl, hP, by rw [ht]; exact X.1.1, X.1.2.2, fun w hw => by cases hw; trivial⟩, X.1.2.1.F ht⟩) X.1.2.1.2.2 e2 C0.1.2.2.2.2.2.2.1

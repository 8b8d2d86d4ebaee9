/-! the heap's instructions -/
/-- what the tables say of a class -/
def ckp (C : String) (T : u_T) (N : Nat) (ty : Nat → FieldType) : Prop := (∀ w ∈ u_ws C T N, w ∈ Tb) ∧ (∀ k, k < N → parseFieldDescriptor (T k).2.2.1 = some (ty k)) ∧ ∀ a, a < N → ∀ b, b < N → a ≠ b → (T a).2.1 ≠ (T b).2.1
theorem mI_ne {t n : Nat} {f : Nat → Int32} : mI t n f ≠ mF := by simp [mF]
theorem mL_ne {t n : Nat} {f : Nat → Int64} : mL t n f ≠ mF := by simp [mF]
theorem mR_ne {t n : Nat} {f : Nat → Option Nat} : mR t n f ≠ mF := by simp [mF]
theorem mO_ne {c k : Nat} {fs : List Value} {v : Value} (h : fs[k]? = some v) : mO c fs ≠ mF := by
  intro e
  simp only [mF, Sum.inr.injEq, Prod.mk.injEq] at e
  rw [e.2] at h
  simp at h
/-- the domain's facts -/
def wdm (G : GW) (ads : AD) (h : HP) (A : Nat → Prop) (H : Heap) (dm : List Nat) : Prop :=
  dm.Nodup ∧ (∀ k, (ads k).isSome = true ↔ k ∈ dm) ∧ va_P G.2.1 vwCl (wl G dm ads h) H ∧ va_D A (wl G dm ads h) ∧ (∀ k ∈ dm, okc ads (h k)) ∧ (∀ k, k ∈ dm ↔ h k ≠ mF) ∧ (∀ k ∈ dm, k < tB)
theorem wd_pos {G : GW} {ads : AD} {h : HP} {A : Nat → Prop} {H : Heap} (X : wd G ads h A H) {a : Nat} {c : MC} (hh : h a = c) (hc : c ≠ mF) : ∃ (dm : List Nat) (q : Nat), wdm G ads h A H dm ∧ dm[q]? = some a ∧ (wl G dm ads h)[q]? = some (ra ads G.2.2.2.1 a, cE G.2.2.1 ads G.2.2.2.1 c) ∧ okc ads c := by
  obtain ⟨dm, h1, h2, h3, h4, h5, h6, h7⟩ := X
  have hm : a ∈ dm := (h6 a).mpr (by rw [hh]; exact hc)
  obtain ⟨q, hq⟩ := List.getElem?_of_mem hm
  exact ⟨dm, q, ⟨h1, h2, h3, h4, h5, h6, h7⟩, hq, by rw [wl_at G ads h hq, hh], by rw [← hh]; exact h5 a hm⟩
theorem wd_pos2 {G : GW} {ads : AD} {h : HP} {A : Nat → Prop} {H : Heap} {dm : List Nat} (X : wdm G ads h A H dm) {a : Nat} {c : MC} (hh : h a = c) (hc : c ≠ mF) : ∃ q : Nat, dm[q]? = some a ∧ (wl G dm ads h)[q]? = some (ra ads G.2.2.2.1 a, cE G.2.2.1 ads G.2.2.2.1 c) ∧ okc ads c ∧ (ads a).isSome = true := by
  obtain ⟨h1, h2, h3, h4, h5, h6, h7⟩ := X
  have hm : a ∈ dm := (h6 a).mpr (by rw [hh]; exact hc)
  obtain ⟨q, hq⟩ := List.getElem?_of_mem hm
  exact ⟨q, hq, by rw [wl_at G ads h hq, hh], by rw [← hh]; exact h5 a hm, (h2 a).mpr hm⟩
theorem wd_up {G : GW} {ads : AD} {h : HP} {A : Nat → Prop} {H H1 : Heap} {dm : List Nat} (X : wdm G ads h A H dm) {q a : Nat} {c : MC} (hq : dm[q]? = some a) (hP : va_P G.2.1 vwCl ((wl G dm ads h).set q (ra ads G.2.2.2.1 a, cE G.2.2.1 ads G.2.2.2.1 c)) H1) (hD : va_D A ((wl G dm ads h).set q (ra ads G.2.2.2.1 a, cE G.2.2.1 ads G.2.2.2.1 c))) (hk : okc ads c) (hne : c ≠ mF) : wd G ads (va_up h a c) A H1 := by
  obtain ⟨h1, h2, h3, h4, h5, h6, h7⟩ := X
  rw [wl_set G h1 ads h hq] at hP hD
  refine ⟨dm, h1, h2, hP, hD, fun k hk' => ?_, fun k => ?_, h7⟩
  · by_cases e : k = a
    · subst e; rw [va_up_self]; exact hk
    · rw [va_up_ne _ _ e]; exact h5 k hk'
  · by_cases e : k = a
    · subst e; rw [va_up_self]; exact ⟨fun _ => hne, fun _ => List.mem_of_getElem? hq⟩
    · rw [va_up_ne _ _ e]; exact h6 k
theorem wd_none {G : GW} {ads : AD} {h : HP} {A : Nat → Prop} {H : Heap} (X : wd G ads h A H) : ∀ j, tB ≤ j → ads j = none := by
  obtain ⟨dm, h1, h2, h3, h4, h5, h6, h7⟩ := X
  intro j hj
  cases e : ads j with
  | none => rfl
  | some z => exact absurd (h7 j ((h2 j).mp (by rw [e]; rfl))) (Nat.not_lt.mpr hj)
theorem wd_new {G : GW} {ads : AD} {h : HP} {A : Nat → Prop} {H H1 : Heap} {dm : List Nat} (X : wdm G ads h A H dm) {q k : Nat} {c : MC} (hf : h k = mF) (hk : k < tB) (hP : va_P G.2.1 vwCl (wl G dm ads h ++ [(q, cE G.2.2.1 ads G.2.2.2.1 c)]) H1) (hD : va_D A (wl G dm ads h ++ [(q, cE G.2.2.1 ads G.2.2.2.1 c)])) (hok : okc ads c) (hne : c ≠ mF) :
    wd G (va_up ads k (some q)) (va_up h k c) A H1 ∧ axt ads (va_up ads k (some q)) := by
  have hno := wd_none ⟨dm, X⟩
  obtain ⟨h1, h2, h3, h4, h5, h6, h7⟩ := X
  have hkn : k ∉ dm := fun hm => (h6 k).mp hm hf
  have hnone : ads k = none := by
    cases e : ads k with
    | none => rfl
    | some z => exact absurd ((h2 k).mp (by rw [e]; rfl)) hkn
  have hx : axt ads (va_up ads k (some q)) := by
    refine ⟨fun j z hj => ?_, fun j hj => ?_⟩
    · by_cases e : j = k
      · subst e; rw [hnone] at hj; cases hj
      · rw [va_up_ne _ _ e]; exact hj
    · rw [va_up_ne _ _ (by omega)]; exact hno j hj
  have hwl : wl G (dm ++ [k]) (va_up ads k (some q)) (va_up h k c) = wl G dm ads h ++ [(q, cE G.2.2.1 ads G.2.2.2.1 c)] := by
    unfold wl
    rw [List.map_append]
    congr 1
    · apply List.map_congr_left
      intro j hj
      have hjk : j ≠ k := fun e => hkn (e ▸ hj)
      rw [ra_ext _ hx ((h2 j).mpr hj), va_up_ne _ _ hjk, cE_ext _ _ hx hno (h5 j hj)]
    · simp only [List.map_cons, List.map_nil, va_up_self]
      rw [cE_ext _ _ hx hno hok]
      simp [ra, va_up]
  refine ⟨⟨dm ++ [k], ?_, fun j => ?_, by rw [hwl]; exact hP, by rw [hwl]; exact hD, fun j hj => ?_, fun j => ?_, fun j hj => ?_⟩, hx⟩
  · rw [List.nodup_append]
    refine ⟨h1, by simp, fun a ha b hb => ?_⟩
    simp only [List.mem_singleton] at hb
    subst hb
    exact fun e => hkn (e ▸ ha)
  · by_cases e : j = k
    · subst e; simp [va_up]
    · rw [va_up_ne _ _ e, h2 j]; simp [e]
  · by_cases e : j = k
    · subst e; rw [va_up_self]; exact okc_ext hx hok
    · rw [va_up_ne _ _ e]
      exact okc_ext hx (h5 j (by simpa [e] using hj))
  · by_cases e : j = k
    · subst e; rw [va_up_self]; simp [hne]
    · rw [va_up_ne _ _ e, ← h6 j]; simp [e]
  · by_cases e : j = k
    · subst e; exact hk
    · exact h7 j (by simpa [e] using hj)
/-- what a place of references holds -/
def orf (o : Option Nat) : Value := match o with
  | none => .null
  | some k => .ref k
theorem orf_r (ads : AD) (tb : Nat → Nat) (o : Option Nat) : va_rf (o.map (ra ads tb)) = rv ads tb (orf o) := by cases o <;> rfl
section EVH
variable {G : GW} {M : MW} {R : Room} {E : Nat → LV → List Value → HP → Nat → Nat → Prop} {pc : Nat} {lv : LV} {rest : List Value} {h : HP} {cells slots : Nat}
theorem ev_getfield {idx ci a kf N : Nat} {C : String} {T : u_T} {ty : Nat → FieldType} {fs : List Value} {v : Value} (hd : decode M.2.1 pc = .ok (.getfield idx, 3)) (hc : vwCl[ci]? = some (C, T, N)) (hck : ckp C T N ty) (hk : kf < N) (hl : Cond.fieldLink M.1.cls idx (T kf).1 (T kf).2.1 (T kf).2.2.1 ∈ Tb) (hh : h a = mO ci fs) (hv : fs[kf]? = some v) (k : ev G M R E (pc + 3) lv (v :: rest) h cells slots) : ev G M R E pc lv (.ref a :: rest) h cells slots := by
  intro p e s m args below meth c Q A ads0 C0 hE ads H locs ls X
  obtain ⟨dm, q, hX, hq, hw, hok⟩ := wd_pos X.1.1 hh (mO_ne hv)
  have hok' : okl ads fs := hok
  refine va_get (D := G.2.1) (cl := vwCl) (ci := ci) (fs := fs.map (rv ads G.2.2.2.1)) (v := rv ads G.2.2.2.1 v) (C := C) (T := T) (N := N) C0.1.1 C0.1.2.1 C0.1.2.2.2.2.2.1 hck.1 C0.1.2.2.2.2.1 C0.2.1.1 hX.2.2.1 q hw hc kf hk (C0.1.2.2.2.2.2.1 _ hl) (fun _ h9 => h9) (by simp [hv]) hd ?_
  exact k p e s m args below meth c Q A ads0 C0 hE ads H locs ls ⟨X.1, X.2.1, okl_cons.mpr ⟨hok' v (List.mem_of_getElem? hv), (okl_cons.mp X.2.2).2⟩⟩
theorem ev_putfield {idx ci a kf N : Nat} {C : String} {T : u_T} {ty : Nat → FieldType} {fs : List Value} {v : Value} (hd : decode M.2.1 pc = .ok (.putfield idx, 3)) (hc : vwCl[ci]? = some (C, T, N)) (hck : ckp C T N ty) (hk : kf < N) (hl : Cond.fieldLink M.1.cls idx (T kf).1 (T kf).2.1 (T kf).2.2.1 ∈ Tb) (hfin : (T kf).2.2.2 = false) (hh : h a = mO ci fs) (hlen : kf < fs.length) (hn : ∀ (ads : AD) (tb : Nat → Nat), narrow (ty kf) (rv ads tb v) = rv ads tb v) (hfit : ∀ (ads : AD) (tb : Nat → Nat), fits (ty kf) (rv ads tb v) = true) (k : ev G M R E (pc + 3) lv rest (va_up h a (mO ci (fs.set kf v))) cells slots) : ev G M R E pc lv (v :: .ref a :: rest) h cells slots := by
  intro p e s m args below meth c Q A ads0 C0 hE ads H locs ls X
  obtain ⟨dm, q, hX, hq, hw, hok⟩ := wd_pos X.1.1 hh (mO_ne (List.getElem?_eq_getElem hlen))
  have hok' : okl ads fs := hok
  have ho := okl_cons.mp X.2.2
  refine va_put (D := G.2.1) (cl := vwCl) (ci := ci) (fs := fs.map (rv ads G.2.2.2.1)) (v := rv ads G.2.2.2.1 v) (ty := ty kf) (C := C) (T := T) (N := N) C0.1.1 C0.1.2.1 C0.1.2.2.2.2.2.1 hck.1 ty hck.2.1 hck.2.2 C0.1.2.2.2.2.1 C0.2.1.1 hX.2.2.1 hX.2.2.2.1 X.1.2.1 q hw hc kf hk (C0.1.2.2.2.2.2.1 _ hl) (fun _ h9 => h9) hfin (hck.2.1 kf hk) (hn ads _) (hfit ads _) (by simpa using hlen) hd (fun H1 locs1 hP hD hS => ?_)
  rw [← List.map_set] at hP hD
  have hset : (fs.set kf v)[kf]? = some v := by simp [hlen]
  have hwd := wd_up (c := mO ci (fs.set kf v)) hX hq hP hD (show okl ads (fs.set kf v) from fun w hw => (List.mem_or_eq_of_mem_set hw).elim (hok' w) (fun e => e ▸ ho.1)) (mO_ne hset)
  exact k p e s m args below meth c Q A ads0 C0 hE ads H1 locs1 ls ⟨⟨hwd, hS, X.1.2.2⟩, X.2.1, (okl_cons.mp ho.2).2⟩
theorem ev_putfinal {idx ci a kf N : Nat} {C : String} {T : u_T} {ty : Nat → FieldType} {fs : List Value} {v : Value} (hd : decode M.2.1 pc = .ok (.putfield idx, 3)) (hc : vwCl[ci]? = some (C, T, N)) (hck : ckp C T N ty) (hk : kf < N) (hl : Cond.fieldLink M.1.cls idx (T kf).1 (T kf).2.1 (T kf).2.2.1 ∈ Tb) (hfin : (T kf).2.2.2 = true) (hini : M.1.name = "<init>") (hdecl : (T kf).1 = M.1.cls) (hh : h a = mO ci fs) (hlen : kf < fs.length) (hn : ∀ (ads : AD) (tb : Nat → Nat), narrow (ty kf) (rv ads tb v) = rv ads tb v) (hfit : ∀ (ads : AD) (tb : Nat → Nat), fits (ty kf) (rv ads tb v) = true) (k : ev G M R E (pc + 3) lv rest (va_up h a (mO ci (fs.set kf v))) cells slots) : ev G M R E pc lv (v :: .ref a :: rest) h cells slots := by
  intro p e s m args below meth c Q A ads0 C0 hE ads H locs ls X
  obtain ⟨dm, q, hX, hq, hw, hok⟩ := wd_pos X.1.1 hh (mO_ne (List.getElem?_eq_getElem hlen))
  have hok' : okl ads fs := hok
  have ho := okl_cons.mp X.2.2
  refine va_putF (D := G.2.1) (cl := vwCl) (ci := ci) (fs := fs.map (rv ads G.2.2.2.1)) (v := rv ads G.2.2.2.1 v) (ty := ty kf) (C := C) (T := T) (N := N) C0.1.1 C0.1.2.1 C0.1.2.2.2.2.2.1 hck.1 ty hck.2.1 hck.2.2 C0.1.2.2.2.2.1 C0.2.1.1 hX.2.2.1 hX.2.2.2.1 X.1.2.1 q hw hc kf hk (C0.1.2.2.2.2.2.1 _ hl) (fun _ h9 => h9) hfin (C0.1.2.2.2.2.2.2.2 hini) hdecl (hck.2.1 kf hk) (hn ads _) (hfit ads _) (by simpa using hlen) hd (fun H1 locs1 hP hD hS => ?_)
  rw [← List.map_set] at hP hD
  have hset : (fs.set kf v)[kf]? = some v := by simp [hlen]
  have hwd := wd_up (c := mO ci (fs.set kf v)) hX hq hP hD (show okl ads (fs.set kf v) from fun w hw => (List.mem_or_eq_of_mem_set hw).elim (hok' w) (fun e => e ▸ ho.1)) (mO_ne hset)
  exact k p e s m args below meth c Q A ads0 C0 hE ads H1 locs1 ls ⟨⟨hwd, hS, X.1.2.2⟩, X.2.1, (okl_cons.mp ho.2).2⟩
theorem ev_iaload {t n a : Nat} {f : Nat → Int32} {i : Int32} (hd : decode M.2.1 pc = .ok (.iaload, 1)) (ht : TYs[t]? = some .int) (hh : h a = mI t n f) (hin : vp_in i n) (k : ev G M R E (pc + 1) lv (.int (f i.toNatClampNeg) :: rest) h cells slots) : ev G M R E pc lv (.int i :: .ref a :: rest) h cells slots := by
  intro p e s m args below meth c Q A ads0 C0 hE ads H locs ls X
  obtain ⟨dm, q, hX, hq, hw, hok⟩ := wd_pos X.1.1 hh mI_ne
  refine va_iald (D := G.2.1) (cl := vwCl) C0.1.1 C0.1.2.1 C0.2.1.1 hX.2.2.1 q t hw (tyl_at G ht) hin hd ?_
  exact k p e s m args below meth c Q A ads0 C0 hE ads H locs ls ⟨X.1, X.2.1, okl_cons.mpr ⟨okv_int, (okl_cons.mp (okl_cons.mp X.2.2).2).2⟩⟩
theorem ev_zaload {t n a : Nat} {f : Nat → Int32} {i : Int32} (hd : decode M.2.1 pc = .ok (.baload, 1)) (ht : TYs[t]? = some .boolean) (hh : h a = mI t n f) (hin : vp_in i n) (k : ev G M R E (pc + 1) lv (.int (f i.toNatClampNeg) :: rest) h cells slots) : ev G M R E pc lv (.int i :: .ref a :: rest) h cells slots := by
  intro p e s m args below meth c Q A ads0 C0 hE ads H locs ls X
  obtain ⟨dm, q, hX, hq, hw, hok⟩ := wd_pos X.1.1 hh mI_ne
  refine va_zald (D := G.2.1) (cl := vwCl) C0.1.1 C0.1.2.1 C0.2.1.1 hX.2.2.1 q t hw (tyl_at G ht) hin hd ?_
  exact k p e s m args below meth c Q A ads0 C0 hE ads H locs ls ⟨X.1, X.2.1, okl_cons.mpr ⟨okv_int, (okl_cons.mp (okl_cons.mp X.2.2).2).2⟩⟩
theorem ev_laload {t n a : Nat} {f : Nat → Int64} {i : Int32} (hd : decode M.2.1 pc = .ok (.laload, 1)) (ht : TYs[t]? = some .long) (hh : h a = mL t n f) (hin : vp_in i n) (k : ev G M R E (pc + 1) lv (.long (f i.toNatClampNeg) :: rest) h cells slots) : ev G M R E pc lv (.int i :: .ref a :: rest) h cells slots := by
  intro p e s m args below meth c Q A ads0 C0 hE ads H locs ls X
  obtain ⟨dm, q, hX, hq, hw, hok⟩ := wd_pos X.1.1 hh mL_ne
  refine va_lald (D := G.2.1) (cl := vwCl) C0.1.1 C0.1.2.1 C0.2.1.1 hX.2.2.1 q t hw (tyl_at G ht) hin hd ?_
  exact k p e s m args below meth c Q A ads0 C0 hE ads H locs ls ⟨X.1, X.2.1, okl_cons.mpr ⟨okv_long, (okl_cons.mp (okl_cons.mp X.2.2).2).2⟩⟩
theorem ev_aaload {t n a : Nat} {C : String} {f : Nat → Option Nat} {i : Int32} (hd : decode M.2.1 pc = .ok (.aaload, 1)) (ht : TYs[t]? = some (.object C)) (hh : h a = mR t n f) (hin : vp_in i n) (k : ev G M R E (pc + 1) lv (orf (f i.toNatClampNeg) :: rest) h cells slots) : ev G M R E pc lv (.int i :: .ref a :: rest) h cells slots := by
  intro p e s m args below meth c Q A ads0 C0 hE ads H locs ls X
  obtain ⟨dm, q, hX, hq, hw, hok⟩ := wd_pos X.1.1 hh mR_ne
  have hok' : ∀ j k, f j = some k → (ads k).isSome = true := hok
  refine va_aldq (D := G.2.1) (cl := vwCl) C0.1.1 C0.1.2.1 C0.2.1.1 hX.2.2.1 q t hw (tyl_at G ht) hin hd ?_
  rw [orf_r]
  refine k p e s m args below meth c Q A ads0 C0 hE ads H locs ls ⟨X.1, X.2.1, okl_cons.mpr ⟨?_, (okl_cons.mp (okl_cons.mp X.2.2).2).2⟩⟩
  cases hf : f i.toNatClampNeg with
  | none => trivial
  | some z => exact Or.inl (hok' _ z hf)
theorem ev_iastore {t n a : Nat} {f : Nat → Int32} {i x : Int32} (hd : decode M.2.1 pc = .ok (.iastore, 1)) (ht : TYs[t]? = some .int) (hh : h a = mI t n f) (hin : vp_in i n) (k : ev G M R E (pc + 1) lv rest (va_up h a (mI t n (upd f i.toNatClampNeg x))) cells slots) : ev G M R E pc lv (.int x :: .int i :: .ref a :: rest) h cells slots := by
  intro p e s m args below meth c Q A ads0 C0 hE ads H locs ls X
  obtain ⟨dm, q, hX, hq, hw, hok⟩ := wd_pos X.1.1 hh mI_ne
  refine va_iast (D := G.2.1) (cl := vwCl) C0.1.1 C0.1.2.1 C0.2.1.1 hX.2.2.1 hX.2.2.2.1 X.1.2.1 q t hw (tyl_at G ht) hin hd (fun H1 locs1 hP hD hS => ?_)
  have hwd := wd_up (c := mI t n (upd f i.toNatClampNeg x)) hX hq hP hD trivial mI_ne
  exact k p e s m args below meth c Q A ads0 C0 hE ads H1 locs1 ls ⟨⟨hwd, hS, X.1.2.2⟩, X.2.1, (okl_cons.mp (okl_cons.mp (okl_cons.mp X.2.2).2).2).2⟩
theorem ev_zastore {t n a : Nat} {f : Nat → Int32} {i x : Int32} (hd : decode M.2.1 pc = .ok (.bastore, 1)) (ht : TYs[t]? = some .boolean) (hh : h a = mI t n f) (hin : vp_in i n) (k : ev G M R E (pc + 1) lv rest (va_up h a (mI t n (upd f i.toNatClampNeg (vp_nar .boolean x)))) cells slots) : ev G M R E pc lv (.int x :: .int i :: .ref a :: rest) h cells slots := by
  intro p e s m args below meth c Q A ads0 C0 hE ads H locs ls X
  obtain ⟨dm, q, hX, hq, hw, hok⟩ := wd_pos X.1.1 hh mI_ne
  refine va_zast (D := G.2.1) (cl := vwCl) C0.1.1 C0.1.2.1 C0.2.1.1 hX.2.2.1 hX.2.2.2.1 X.1.2.1 q t hw (tyl_at G ht) hin hd (fun H1 locs1 hP hD hS => ?_)
  have hwd := wd_up (c := mI t n (upd f i.toNatClampNeg (vp_nar .boolean x))) hX hq hP hD trivial mI_ne
  exact k p e s m args below meth c Q A ads0 C0 hE ads H1 locs1 ls ⟨⟨hwd, hS, X.1.2.2⟩, X.2.1, (okl_cons.mp (okl_cons.mp (okl_cons.mp X.2.2).2).2).2⟩
theorem ev_lastore {t n a : Nat} {f : Nat → Int64} {i : Int32} {x : Int64} (hd : decode M.2.1 pc = .ok (.lastore, 1)) (ht : TYs[t]? = some .long) (hh : h a = mL t n f) (hin : vp_in i n) (k : ev G M R E (pc + 1) lv rest (va_up h a (mL t n (vp_updL f i.toNatClampNeg x))) cells slots) : ev G M R E pc lv (.long x :: .int i :: .ref a :: rest) h cells slots := by
  intro p e s m args below meth c Q A ads0 C0 hE ads H locs ls X
  obtain ⟨dm, q, hX, hq, hw, hok⟩ := wd_pos X.1.1 hh mL_ne
  refine va_last (D := G.2.1) (cl := vwCl) C0.1.1 C0.1.2.1 C0.2.1.1 hX.2.2.1 hX.2.2.2.1 X.1.2.1 q t hw (tyl_at G ht) hin hd (fun H1 locs1 hP hD hS => ?_)
  have hwd := wd_up (c := mL t n (vp_updL f i.toNatClampNeg x)) hX hq hP hD trivial mL_ne
  exact k p e s m args below meth c Q A ads0 C0 hE ads H1 locs1 ls ⟨⟨hwd, hS, X.1.2.2⟩, X.2.1, (okl_cons.mp (okl_cons.mp (okl_cons.mp X.2.2).2).2).2⟩
theorem ev_aastore {t n a b cj : Nat} {r : vw_C} {vs : List Value} {v0 : Value} {f : Nat → Option Nat} {i : Int32} (hd : decode M.2.1 pc = .ok (.aastore, 1)) (ht : TYs[t]? = some (.object r.1)) (hh : h a = mR t n f) (hb : h b = mO cj vs) (hv0 : vs[0]? = some v0) (hcj : vwCl[cj]? = some r) (hin : vp_in i n) (k : ev G M R E (pc + 1) lv rest (va_up h a (mR t n (va_up f i.toNatClampNeg (some b)))) cells slots) : ev G M R E pc lv (.ref b :: .int i :: .ref a :: rest) h cells slots := by
  intro p e s m args below meth c Q A ads0 C0 hE ads H locs ls X
  obtain ⟨dm, q, hX, hq, hw, hok⟩ := wd_pos X.1.1 hh mR_ne
  obtain ⟨q2, hq2, hw2, -, hsb⟩ := wd_pos2 hX hb (mO_ne hv0)
  have hok' : ∀ j k, f j = some k → (ads k).isSome = true := hok
  refine va_astq (D := G.2.1) (cl := vwCl) C0.1.1 C0.1.2.1 C0.2.1.1 hX.2.2.1 hX.2.2.2.1 X.1.2.1 q t q2 cj hw (tyl_at G ht) hw2 hcj hin hd (fun H1 locs1 hP hD hS => ?_)
  have ef : va_up (fun j => (f j).map (ra ads G.2.2.2.1)) i.toNatClampNeg (some (ra ads G.2.2.2.1 b)) = fun j => (va_up f i.toNatClampNeg (some b) j).map (ra ads G.2.2.2.1) := by
    funext j
    by_cases e : j = i.toNatClampNeg
    · simp [va_up, e]
    · simp [va_up, e]
  rw [ef] at hP hD
  have hwd := wd_up (c := mR t n (va_up f i.toNatClampNeg (some b))) hX hq hP hD (fun j z hz => by
    by_cases e : j = i.toNatClampNeg
    · rw [e] at hz
      simp only [va_up_self, Option.some.injEq] at hz
      rw [← hz]; exact hsb
    · have hz' : f j = some z := by simpa [va_up, e] using hz
      exact hok' j z hz') mR_ne
  exact k p e s m args below meth c Q A ads0 C0 hE ads H1 locs1 ls ⟨⟨hwd, hS, X.1.2.2⟩, X.2.1, (okl_cons.mp (okl_cons.mp (okl_cons.mp X.2.2).2).2).2⟩
theorem ev_ilen {t n a : Nat} {f : Nat → Int32} {ty : FieldType} {v : Int32} (hd : decode M.2.1 pc = .ok (.arraylength, 1)) (ht : TYs[t]? = some ty) (hh : h a = mI t n f) (hv : Int32.ofNat n = v) (k : ev G M R E (pc + 1) lv (.int v :: rest) h cells slots) : ev G M R E pc lv (.ref a :: rest) h cells slots := by
  intro p e s m args below meth c Q A ads0 C0 hE ads H locs ls X
  obtain ⟨dm, q, hX, hq, hw, hok⟩ := wd_pos X.1.1 hh mI_ne
  refine va_alen (D := G.2.1) (cl := vwCl) C0.1.1 C0.1.2.1 C0.2.1.1 hX.2.2.1 q t hw (tyl_at G ht) hv hd ?_
  exact k p e s m args below meth c Q A ads0 C0 hE ads H locs ls ⟨X.1, X.2.1, okl_cons.mpr ⟨okv_int, (okl_cons.mp X.2.2).2⟩⟩
theorem ev_llen {t n a : Nat} {f : Nat → Int64} {ty : FieldType} {v : Int32} (hd : decode M.2.1 pc = .ok (.arraylength, 1)) (ht : TYs[t]? = some ty) (hh : h a = mL t n f) (hv : Int32.ofNat n = v) (k : ev G M R E (pc + 1) lv (.int v :: rest) h cells slots) : ev G M R E pc lv (.ref a :: rest) h cells slots := by
  intro p e s m args below meth c Q A ads0 C0 hE ads H locs ls X
  obtain ⟨dm, q, hX, hq, hw, hok⟩ := wd_pos X.1.1 hh mL_ne
  refine va_alen (D := G.2.1) (cl := vwCl) C0.1.1 C0.1.2.1 C0.2.1.1 hX.2.2.1 q t hw (tyl_at G ht) hv hd ?_
  exact k p e s m args below meth c Q A ads0 C0 hE ads H locs ls ⟨X.1, X.2.1, okl_cons.mpr ⟨okv_int, (okl_cons.mp X.2.2).2⟩⟩
theorem ev_rlen {t n a : Nat} {f : Nat → Option Nat} {ty : FieldType} {v : Int32} (hd : decode M.2.1 pc = .ok (.arraylength, 1)) (ht : TYs[t]? = some ty) (hh : h a = mR t n f) (hv : Int32.ofNat n = v) (k : ev G M R E (pc + 1) lv (.int v :: rest) h cells slots) : ev G M R E pc lv (.ref a :: rest) h cells slots := by
  intro p e s m args below meth c Q A ads0 C0 hE ads H locs ls X
  obtain ⟨dm, q, hX, hq, hw, hok⟩ := wd_pos X.1.1 hh mR_ne
  refine va_alen (D := G.2.1) (cl := vwCl) C0.1.1 C0.1.2.1 C0.2.1.1 hX.2.2.1 q t hw (tyl_at G ht) hv hd ?_
  exact k p e s m args below meth c Q A ads0 C0 hE ads H locs ls ⟨X.1, X.2.1, okl_cons.mpr ⟨okv_int, (okl_cons.mp X.2.2).2⟩⟩
/-- behind a new cell the frame is the same -/
theorem wx_new {A : Nat → Prop} {H0 H1 : Heap} {ads0 ads : AD} {st : List Value} {locs : List Loc} {ls : Array Slot} {H : Heap} (X : wx G M A H0 ads0 lv st h ads H locs ls) {k q : Nat} {c : MC} {locs1 : List Loc} (hst : okl ads rest) (hw : wd G (va_up ads k (some q)) (va_up h k c) A H1) (hx : axt ads (va_up ads k (some q))) (hS : va_S A H0 H1 locs1) :
    wx G M A H0 ads0 lv (.ref k :: rest) (va_up h k c) (va_up ads k (some q)) H1 locs1 ls ∧ (Value.ref q :: rest.map (rv ads G.2.2.2.1)) = (Value.ref k :: rest).map (rv (va_up ads k (some q)) G.2.2.2.1) := by
  have hno := wd_none X.1.1
  refine ⟨⟨⟨hw, hS, fun j z hj => hx.1 j z (X.1.2.2 j z hj)⟩, ⟨by rw [lvr_ext _ hx hno X.2.1.2]; exact X.2.1.1, fun q hq => okv_ext hx (X.2.1.2 q hq)⟩, okl_cons.mpr ⟨Or.inl (by simp [va_up]), okl_ext hx hst⟩⟩, ?_⟩
  rw [List.map_cons, map_ext _ hx hno hst]
  simp [rv, ra, va_up]
theorem ev_new {idx ci N kn : Nat} {C : String} {T : u_T} {ty : Nat → FieldType} {fs : List Value} {v0 : Value} (hd : decode M.2.1 pc = .ok (.new idx, 3)) (hc : vwCl[ci]? = some (C, T, N)) (hck : ckp C T N ty) (hl : Cond.classLink M.1.cls idx C ∈ Tb) (hi : Cond.instantiable C N ∈ Tb) (hin : Cond.initialized C ∈ Tb) (hfs : ∀ j, j < N → defaultValue (ty j) = vp_V fs j) (hr : ∀ (ads : AD) (tb : Nat → Nat), fs.map (rv ads tb) = fs) (hok : ∀ ads : AD, okl ads fs) (hv0 : fs[0]? = some v0) (hcl : cells + 1 ≤ R.cells) (hsl : slots + N ≤ R.slots) (hf : h kn = mF) (hk : kn < tB) (k : ev G M R E (pc + 3) lv (.ref kn :: rest) (va_up h kn (mO ci fs)) (cells + 1) (slots + N)) : ev G M R E pc lv rest h cells slots := by
  intro p e s m args below meth c Q A ads0 C0 hE ads H locs ls X
  obtain ⟨dm, hX⟩ := X.1.1
  refine va_new (D := G.2.1) (cl := vwCl) (ci := ci) (fs := fs) (C := C) (T := T) (N := N) C0.1.1 C0.1.2.1 C0.1.2.2.2.2.2.1 hck.1 ty hck.2.1 C0.1.2.2.2.2.1 (C0.1.2.2.2.2.2.1 _ hl) (C0.1.2.2.2.2.2.1 _ hi) (C0.1.2.2.2.2.2.1 _ hin) C0.2.1.1 hX.2.2.1 hX.2.2.2.1 X.1.2.1 C0.2.2 hc hfs hcl hsl hd (fun q H1 hP hD hS => ?_)
  have ec : cE G.2.2.1 ads G.2.2.2.1 (mO ci fs) = .inr (ci, fs) := by simp only [cE, hr]
  rw [← ec] at hP hD
  obtain ⟨hwd, hx⟩ := wd_new hX hf hk hP hD (hok ads) (mO_ne hv0)
  obtain ⟨hW, hs⟩ := wx_new X X.2.2 hwd hx hS
  rw [hs]
  exact k p e s m args below meth c Q A ads0 C0 hE _ H1 locs ls hW
theorem ev_newarray {aty : ArrayType} {ty : FieldType} {t N kn : Nat} {n : Int32} {c0 : MC} {a0 : vp_A} (hd : decode M.2.1 pc = .ok (.newarray aty, 2)) (hty : newarray.typeOf aty = ty) (hw : Cond.arrayClass (newarray.typeOf aty) ∈ Tb) (ht : TYs[t]? = some ty) (hc : ∀ (TC : Nat → ClassId) (ads : AD) (tb : Nat → Nat), cE TC ads tb c0 = .inl (TC t, a0)) (ha : ∀ cA : ClassId, vp_cell cA a0 = arrV cA N (fun _ => defaultValue ty)) (hpr : ∀ (U : State) (cA : ClassId), va_RA U cA ty → U.vm.findClass ("[" ++ ty.toString) = some cA) (hok : ∀ ads : AD, okc ads c0) (hne : c0 ≠ mF) (hn : ¬ n < 0) (hN : n.toNatClampNeg = N) (hby : N * componentBytes ty ≤ 536870912) (hcl : cells + 1 ≤ R.cells) (hsl : slots + N ≤ R.slots) (hf : h kn = mF) (hk : kn < tB) (k : ev G M R E (pc + 2) lv (.ref kn :: rest) (va_up h kn c0) (cells + 1) (slots + N)) : ev G M R E pc lv (.int n :: rest) h cells slots := by
  intro p e s m args below meth c Q A ads0 C0 hE ads H locs ls X
  obtain ⟨dm, hX⟩ := X.1.1
  refine va_newa (D := G.2.1) (cl := vwCl) (ty := ty) (a0 := a0) (N' := N) C0.1.1 C0.1.2.1 (C0.1.2.2.2.2.2.1 _ hw) hty C0.2.1.1 hX.2.2.1 hX.2.2.2.1 X.1.2.1 C0.2.2 ha hn hN hby hcl hsl hd (fun q cA H1 hK hP hD hS => ?_)
  have e1 : s.vm.findClass ("[" ++ ty.toString) = some cA := hpr s cA (hK.2 (tyl G).length (cA, ty) (by simp)).2
  have e2 : s.vm.findClass ("[" ++ ty.toString) = some (G.2.2.1 t) := hpr s _ (C0.2.1.1.2 t _ (tyl_at G ht)).2
  have e3 : cA = G.2.2.1 t := Option.some.inj (e1.symm.trans e2)
  subst e3
  rw [← hc G.2.2.1 ads G.2.2.2.1] at hP hD
  obtain ⟨hwd, hx⟩ := wd_new hX hf hk hP hD (hok ads) hne
  obtain ⟨hW, hs⟩ := wx_new X (okl_cons.mp X.2.2).2 hwd hx hS
  rw [hs]
  exact k p e s m args below meth c Q A ads0 C0 hE _ H1 locs ls hW
theorem ev_anewarray {idx t N kn : Nat} {C : String} {n : Int32} (hd : decode M.2.1 pc = .ok (.anewarray idx, 3)) (hl : Cond.classLink M.1.cls idx C ∈ Tb) (hao : C ∈ AOs) (ht : TYs[t]? = some (.object C)) (hn : ¬ n < 0) (hN : n.toNatClampNeg = N) (hby : N * 4 ≤ 536870912) (hcl : cells + 1 ≤ R.cells) (hsl : slots + N ≤ R.slots) (hf : h kn = mF) (hk : kn < tB) (k : ev G M R E (pc + 3) lv (.ref kn :: rest) (va_up h kn (mR t N (fun _ => none))) (cells + 1) (slots + N)) : ev G M R E pc lv (.int n :: rest) h cells slots := by
  intro p e s m args below meth c Q A ads0 C0 hE ads H locs ls X
  obtain ⟨dm, hX⟩ := X.1.1
  refine va_newq (D := G.2.1) (cl := vwCl) (N' := N) C0.1.1 C0.1.2.1 C0.1.2.2.2.2.1 (C0.1.2.2.2.2.2.1 _ hl) (C0.2.1.2.2.2.2 C hao) C0.2.1.1 hX.2.2.1 hX.2.2.2.1 X.1.2.1 C0.2.2 hn hN hby hcl hsl hd (fun q cA H1 hK hP hD hS => ?_)
  obtain ⟨_, _, _, _, _, e1⟩ := (hK.2 (tyl G).length (cA, .object C) (by simp)).2
  obtain ⟨_, _, _, _, _, e2⟩ := (C0.2.1.1.2 t _ (tyl_at G ht)).2
  have e3 : cA = G.2.2.1 t := Option.some.inj (e1.symm.trans e2)
  subst e3
  have ec : cE G.2.2.1 ads G.2.2.2.1 (mR t N (fun _ => none)) = .inl (G.2.2.1 t, N, .inr (.inr (.inr (.inr (fun _ => none))))) := rfl
  rw [← ec] at hP hD
  obtain ⟨hwd, hx⟩ := wd_new hX hf hk hP hD (fun j z hz => by cases hz) mR_ne
  obtain ⟨hW, hs⟩ := wx_new X (okl_cons.mp X.2.2).2 hwd hx hS
  rw [hs]
  exact k p e s m args below meth c Q A ads0 C0 hE _ H1 locs ls hW
theorem ev_getstatic {idx j : Nat} {C n d : String} (hd : decode M.2.1 pc = .ok (.getstatic idx, 3)) (hz : (C, n, d, j) ∈ ZSs) (hl : Cond.fieldLink M.1.cls idx C n d ∈ Tb) (k : ev G M R E (pc + 3) lv (.ref (tB + j) :: rest) h cells slots) : ev G M R E pc lv rest h cells slots := by
  intro p e s m args below meth c Q A ads0 C0 hE ads H locs ls X
  have er : rv ads G.2.2.2.1 (.ref (tB + j)) = .ref (G.2.2.2.1 (tB + j)) := by simp [rv, ra, wd_none X.1.1 (tB + j) (Nat.le_add_right _ _)]
  refine va_gets C0.1.1 C0.1.2.1 (C0.2.1.2.2.1 _ hz) X.1.2.1 C0.1.2.2.2.2.1 (C0.1.2.2.2.2.2.1 _ hl) (fun _ h9 => h9) hd ?_
  rw [← er]
  exact k p e s m args below meth c Q A ads0 C0 hE ads H locs ls ⟨X.1, X.2.1, okl_cons.mpr ⟨Or.inr (Nat.le_add_right _ _), X.2.2⟩⟩
theorem ev_tload {j N : Nat} {f : Nat → Value} {i x : Int32} (hd : decode M.2.1 pc = .ok (.iaload, 1)) (hj : G.2.2.2.2[j]? = some (.int, N, f)) (hin : vp_in i N) (hv : f i.toNatClampNeg = .int x) (k : ev G M R E (pc + 1) lv (.int x :: rest) h cells slots) : ev G M R E pc lv (.int i :: .ref (tB + j) :: rest) h cells slots := by
  intro p e s m args below meth c Q A ads0 C0 hE ads H locs ls X
  have er : rv ads G.2.2.2.1 (.ref (tB + j)) = .ref (G.2.2.2.1 (tB + j)) := by simp [rv, ra, wd_none X.1.1 (tB + j) (Nat.le_add_right _ _)]
  rw [List.map_cons, List.map_cons, er]
  refine va_ti C0.1.1 C0.1.2.1 (C0.2.1.2.1 j _ hj) X.1.2.1 hin hv hd ?_
  exact k p e s m args below meth c Q A ads0 C0 hE ads H locs ls ⟨X.1, X.2.1, okl_cons.mpr ⟨okv_int, (okl_cons.mp (okl_cons.mp X.2.2).2).2⟩⟩
theorem ev_tlen {j N : Nat} {f : Nat → Value} {ty : FieldType} {v : Int32} (hd : decode M.2.1 pc = .ok (.arraylength, 1)) (hj : G.2.2.2.2[j]? = some (ty, N, f)) (hv : Int32.ofNat N = v) (k : ev G M R E (pc + 1) lv (.int v :: rest) h cells slots) : ev G M R E pc lv (.ref (tB + j) :: rest) h cells slots := by
  intro p e s m args below meth c Q A ads0 C0 hE ads H locs ls X
  have er : rv ads G.2.2.2.1 (.ref (tB + j)) = .ref (G.2.2.2.1 (tB + j)) := by simp [rv, ra, wd_none X.1.1 (tB + j) (Nat.le_add_right _ _)]
  rw [List.map_cons, er]
  refine va_tlen C0.1.1 C0.1.2.1 (C0.2.1.2.1 j _ hj) X.1.2.1 hv hd ?_
  exact k p e s m args below meth c Q A ads0 C0 hE ads H locs ls ⟨X.1, X.2.1, okl_cons.mpr ⟨okv_int, (okl_cons.mp X.2.2).2⟩⟩
end EVH

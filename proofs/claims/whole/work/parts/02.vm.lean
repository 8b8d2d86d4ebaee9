/-! THE MACHINE SEEN FROM ABOVE. A heap of cells under numbers of one's own choice (ids): HP. 'ev': symbolic execution of one method body over such a heap. 'mt': a method's contract over such a heap. One rule an instruction, out of the kit's rows. -/
abbrev MC : Type := (Nat × Nat × (Nat → Int32)) ⊕ (Nat × Nat × (Nat → Int64)) ⊕ (Nat × Nat × (Nat → Option Nat)) ⊕ (Nat × List Value)
abbrev mI (t n : Nat) (f : Nat → Int32) : MC := Sum.inl (t, n, f)
abbrev mL (t n : Nat) (f : Nat → Int64) : MC := Sum.inr (Sum.inl (t, n, f))
abbrev mR (t n : Nat) (f : Nat → Option Nat) : MC := Sum.inr (Sum.inr (Sum.inl (t, n, f)))
abbrev mO (c : Nat) (fs : List Value) : MC := Sum.inr (Sum.inr (Sum.inr (c, fs)))
/-- no cell -/
def mF : MC := mO 999 []
abbrev HP : Type := Nat → MC
abbrev AD : Type := Nat → Option Nat
abbrev LV : Type := List (Nat × Value)
/-- launch, the classes' numbers and slots, the array classes' numbers, the tables' addresses, the tables (type, length, contents) -/
abbrev GW : Type := Launch × va_G × (Nat → ClassId) × (Nat → Nat) × List (FieldType × Nat × (Nat → Value))
/-- a method: its name, code, locals, return type -/
abbrev MW : Type := MethodName × ByteArray × Nat × Option FieldType
/-- ids of tables begin here -/
abbrev tB : Nat := 1000000
def rmv (d mc ms : Nat) : Room := { frames := d, cells := mc, slots := ms, locals := 39 * d }
/-! where a reference is in truth -/
def ra (ads : AD) (tb : Nat → Nat) (k : Nat) : Nat := (ads k).getD (tb k)
def rv (ads : AD) (tb : Nat → Nat) (v : Value) : Value := match v with
  | .ref k => .ref (ra ads tb k)
  | w => w
def okv (ads : AD) (v : Value) : Prop := match v with
  | .ref k => (ads k).isSome = true ∨ tB ≤ k
  | _ => True
def okl (ads : AD) (vs : List Value) : Prop := ∀ v ∈ vs, okv ads v
def okc (ads : AD) (c : MC) : Prop := match c with
  | .inr (.inr (.inl a)) => ∀ j k, a.2.2 j = some k → (ads k).isSome = true
  | .inr (.inr (.inr o)) => okl ads o.2
  | _ => True
def cE (TC : Nat → ClassId) (ads : AD) (tb : Nat → Nat) (c : MC) : va_E := match c with
  | .inl a => .inl (TC a.1, a.2.1, .inl a.2.2)
  | .inr (.inl a) => .inl (TC a.1, a.2.1, .inr (.inl a.2.2))
  | .inr (.inr (.inl a)) => .inl (TC a.1, a.2.1, .inr (.inr (.inr (.inr (fun j => (a.2.2 j).map (ra ads tb))))))
  | .inr (.inr (.inr o)) => .inr (o.1, o.2.map (rv ads tb))
def wl (G : GW) (dm : List Nat) (ads : AD) (h : HP) : va_W := dm.map (fun k => (ra ads G.2.2.2.1 k, cE G.2.2.1 ads G.2.2.2.1 (h k)))
/-- the world: the ids that have an address are those of dm; their cells are in the heap, apart, and may be written -/
def wd (G : GW) (ads : AD) (h : HP) (A : Nat → Prop) (H : Heap) : Prop :=
  ∃ dm : List Nat, dm.Nodup ∧ (∀ k, (ads k).isSome = true ↔ k ∈ dm) ∧ va_P G.2.1 vwCl (wl G dm ads h) H ∧ va_D A (wl G dm ads h) ∧ (∀ k ∈ dm, okc ads (h k)) ∧ (∀ k, k ∈ dm ↔ h k ≠ mF) ∧ (∀ k ∈ dm, k < tB)
def tyl (G : GW) : List (ClassId × FieldType) := TYs.zipIdx.map (fun q => (G.2.2.1 q.2, q.1))
/-- what holds of the tables' words, classes, static fields in a state -/
def gx (G : GW) (A : Nat → Prop) (U : State) : Prop :=
  va_K G.2.1 vwCl (tyl G) U ∧ (∀ (j : Nat) (x : FieldType × Nat × (Nat → Value)), G.2.2.2.2[j]? = some x → va_T x.1 (G.2.2.2.1 (tB + j)) x.2.1 x.2.2 A U U.heap) ∧
  (∀ z ∈ ZSs, va_Z z.1 z.2.1 z.2.2.1 (.ref (G.2.2.2.1 (tB + z.2.2.2))) A U U.heap) ∧ (∀ z ∈ NMs, va_Nw (.methodLinkNest z.1 z.2.1 z.2.2.1 z.2.2.2) U) ∧ ∀ C ∈ AOs, va_AO C U
def cx (G : GW) (M : MW) (p : Program) (s : State) (m : MethodId) (args : Array Value) (meth : Method) (c : Code) (A : Nat → Prop) : Prop :=
  (p.tables.exec = Jvm.exec ∧ c.code = M.2.1 ∧ meth.sig.returnType = M.2.2.2 ∧ c.maxLocals = M.2.2.1 ∧ s.vm.findClass M.1.cls = some m.cls ∧ (∀ w ∈ Tb, w.before args s = true) ∧ meth.locks = false ∧ (M.1.name = "<init>" → meth.name = "<init>")) ∧
  gx G A s ∧ (∀ q, s.heap.size ≤ q → A q)
def lvr (ads : AD) (tb : Nat → Nat) (lv : LV) : LV := lv.map (fun q => (q.1, rv ads tb q.2))
/-- the heap and the frame now -/
def wx (G : GW) (M : MW) (A : Nat → Prop) (H0 : Heap) (ads0 : AD) (lv : LV) (st : List Value) (h : HP) (ads : AD) (H : Heap) (locs : List Loc) (ls : Array Slot) : Prop :=
  (wd G ads h A H ∧ va_S A H0 H locs ∧ (∀ k q, ads0 k = some q → ads k = some q)) ∧ (lv_has ls M.2.2.1 (lvr ads G.2.2.2.1 lv) ∧ ∀ q ∈ lv, okv ads q.2) ∧ okl ads st
/-- from this point of the body every run comes to a point in E -/
def ev (G : GW) (M : MW) (R : Room) (E : Nat → LV → List Value → HP → Nat → Nat → Prop) (pc : Nat) (lv : LV) (st : List Value) (h : HP) (cells slots : Nat) : Prop :=
  ∀ (p : Program) (e : Env) (s : State) (m : MethodId) (args : Array Value) (below : List Frame) (meth : Method) (c : Code) (Q : State → Prop) (A : Nat → Prop) (ads0 : AD), cx G M p s m args meth c A →
    (∀ (pc : Nat) (lv : LV) (st : List Value) (h : HP) (cells slots : Nat) (ads : AD) (H : Heap) (locs : List Loc) (ls : Array Slot), E pc lv st h cells slots → wx G M A s.heap ads0 lv st h ads H locs ls →
      W p G.1 e R s m args below meth c H locs cells slots Q (F0 m pc ls (st.map (rv ads G.2.2.2.1)))) →
    ∀ (ads : AD) (H : Heap) (locs : List Loc) (ls : Array Slot), wx G M A s.heap ads0 lv st h ads H locs ls →
      W p G.1 e R s m args below meth c H locs cells slots Q (F0 m pc ls (st.map (rv ads G.2.2.2.1)))
/-! pure rows -/
theorem okl_cons {ads : AD} {v : Value} {vs : List Value} : okl ads (v :: vs) ↔ okv ads v ∧ okl ads vs := by simp [okl]
theorem okl_nil {ads : AD} : okl ads [] := fun v h => by cases h
theorem okl_append {ads : AD} {v w : List Value} : okl ads (v ++ w) ↔ okl ads v ∧ okl ads w := by
  simp only [okl, List.mem_append]
  exact ⟨fun h => ⟨fun v hv => h v (Or.inl hv), fun v hv => h v (Or.inr hv)⟩, fun h v hv => hv.elim (h.1 v) (h.2 v)⟩
theorem okv_int {ads : AD} {x : Int32} : okv ads (.int x) := trivial
theorem okv_long {ads : AD} {x : Int64} : okv ads (.long x) := trivial
theorem okv_null {ads : AD} : okv ads .null := trivial
theorem rv_cat (ads : AD) (tb : Nat → Nat) (v : Value) : (rv ads tb v).category = v.category := by cases v <;> rfl
def axt (a b : AD) : Prop := (∀ k q, a k = some q → b k = some q) ∧ ∀ k, tB ≤ k → b k = none
theorem okv_ext {a b : AD} (h : axt a b) {v : Value} (hv : okv a v) : okv b v := by
  cases v <;> try trivial
  rename_i k
  rcases hv with hv | hv
  · left
    obtain ⟨q, hq⟩ := Option.isSome_iff_exists.mp hv
    rw [h.1 k q hq]
    rfl
  · exact Or.inr hv
theorem ra_ext {a b : AD} (tb : Nat → Nat) (h : axt a b) {k : Nat} (hv : (a k).isSome = true) : ra b tb k = ra a tb k := by
  obtain ⟨q, hq⟩ := Option.isSome_iff_exists.mp hv
  simp [ra, hq, h.1 k q hq]
theorem rv_ext {a b : AD} (tb : Nat → Nat) (h : axt a b) (ha : ∀ k, tB ≤ k → a k = none) {v : Value} (hv : okv a v) : rv b tb v = rv a tb v := by
  cases v <;> try rfl
  rename_i k
  rcases hv with hv | hv
  · simp [rv, ra_ext tb h hv]
  · simp [rv, ra, h.2 k hv, ha k hv]
theorem okl_ext {a b : AD} (h : axt a b) {vs : List Value} (hv : okl a vs) : okl b vs := fun v hm => okv_ext h (hv v hm)
theorem map_ext {a b : AD} (tb : Nat → Nat) (h : axt a b) (ha : ∀ k, tB ≤ k → a k = none) {vs : List Value} (hv : okl a vs) : vs.map (rv b tb) = vs.map (rv a tb) := List.map_congr_left (fun v hm => rv_ext tb h ha (hv v hm))
theorem okc_ext {a b : AD} (h : axt a b) {c : MC} (hv : okc a c) : okc b c := by
  rcases c with c | c | c | c
  · trivial
  · trivial
  · intro j k hj
    obtain ⟨q, hq⟩ := Option.isSome_iff_exists.mp (hv j k hj)
    rw [h.1 k q hq]
    rfl
  · exact okl_ext h hv
theorem cE_ext {a b : AD} (TC : Nat → ClassId) (tb : Nat → Nat) (h : axt a b) (ha : ∀ k, tB ≤ k → a k = none) {c : MC} (hv : okc a c) : cE TC b tb c = cE TC a tb c := by
  rcases c with c | c | c | c
  · rfl
  · rfl
  · have e : (fun j => (c.2.2 j).map (ra b tb)) = (fun j => (c.2.2 j).map (ra a tb)) := by
      funext j
      cases hj : c.2.2 j with
      | none => rfl
      | some k => simp [ra_ext tb h (hv j k hj)]
    simp only [cE, e]
  · simp only [cE, map_ext tb h ha hv]
theorem wl_at (G : GW) {dm : List Nat} (ads : AD) (h : HP) {q k : Nat} (hq : dm[q]? = some k) : (wl G dm ads h)[q]? = some (ra ads G.2.2.2.1 k, cE G.2.2.1 ads G.2.2.2.1 (h k)) := by
  simp [wl, hq]
theorem nodup_at {dm : List Nat} (hn : dm.Nodup) {i j k : Nat} (hi : dm[i]? = some k) (hj : dm[j]? = some k) : i = j := by
  obtain ⟨h1, e1⟩ := List.getElem?_eq_some_iff.mp hi
  obtain ⟨h2, e2⟩ := List.getElem?_eq_some_iff.mp hj
  have hp := List.pairwise_iff_getElem.mp hn
  rcases Nat.lt_trichotomy i j with q | q | q
  · exact absurd (e1.trans e2.symm) (hp i j h1 h2 q)
  · exact q
  · exact absurd (e2.trans e1.symm) (hp j i h2 h1 q)
theorem wl_set (G : GW) {dm : List Nat} (hn : dm.Nodup) (ads : AD) (h : HP) {q k : Nat} (hq : dm[q]? = some k) (c : MC) : (wl G dm ads h).set q (ra ads G.2.2.2.1 k, cE G.2.2.1 ads G.2.2.2.1 c) = wl G dm ads (va_up h k c) := by
  apply List.ext_getElem?
  intro i
  rw [List.getElem?_set]
  by_cases hi : q = i
  · subst hi
    have hl : q < (wl G dm ads h).length := by simpa [wl] using (List.getElem?_eq_some_iff.mp hq).1
    rw [if_pos rfl, if_pos hl, wl_at G ads (va_up h k c) hq, va_up_self]
  · rw [if_neg hi]
    cases hk : dm[i]? with
    | none => simp [wl, hk]
    | some j =>
      rw [wl_at G ads _ hk, wl_at G ads _ hk]
      have hj : j ≠ k := fun e => hi (nodup_at hn hq (e ▸ hk))
      simp [va_up, hj]
theorem wd_at {G : GW} {ads : AD} {h : HP} {A : Nat → Prop} {H : Heap} {dm : List Nat} (hd : ∀ k, (ads k).isSome = true ↔ k ∈ dm) {k : Nat} (hk : (ads k).isSome = true) : ∃ q : Nat, dm[q]? = some k := List.getElem?_of_mem ((hd k).mp hk)
theorem lvr_cons (ads : AD) (tb : Nat → Nat) (q : Nat × Value) (lv : LV) : lvr ads tb (q :: lv) = (q.1, rv ads tb q.2) :: lvr ads tb lv := rfl
/-- a read of the locals -/
def lg (lv : LV) (i : Nat) : Option Value := (lv.find? (fun q => q.1 == i)).map (fun q => q.2)
theorem lg_mem {lv : LV} {i : Nat} {v : Value} (h : lg lv i = some v) : (i, v) ∈ lv := by
  unfold lg at h
  cases hf : lv.find? (fun q => q.1 == i) with
  | none => rw [hf] at h; cases h
  | some q =>
    rw [hf] at h
    have h1 := List.find?_some hf
    have h2 := List.mem_of_find?_eq_some hf
    obtain ⟨a, b⟩ := q
    simp at h h1
    subst h; subst h1
    exact h2
theorem lg_at {ads : AD} {tb : Nat → Nat} {ls : Array Slot} {nL : Nat} {lv : LV} {i : Nat} {v : Value} (hl : lv_has ls nL (lvr ads tb lv)) (h : lg lv i = some v) : ls[i]? = some (.val (rv ads tb v)) :=
  hl.2.2 (i, rv ads tb v) (List.mem_map.mpr ⟨(i, v), lg_mem h, rfl⟩)
def ls1 (lv : LV) (i : Nat) (v : Value) : LV := (i, v) :: lv.filter (fun q => !(q.1 == i) && !(q.1 + 1 == i && q.2.category == 2))
def ls2 (lv : LV) (i : Nat) (v : Value) : LV := (i, v) :: lv.filter (fun q => !(q.1 == i) && (!(q.1 == i + 1) && !(q.1 + 1 == i && q.2.category == 2)))
theorem ls1_r (ads : AD) (tb : Nat → Nat) (lv : LV) (i : Nat) (v : Value) : (i, rv ads tb v) :: (lvr ads tb lv).filter (fun q => !(q.1 == i) && !(q.1 + 1 == i && q.2.category == 2)) = lvr ads tb (ls1 lv i v) := by
  simp only [ls1, lvr, List.map_cons, List.filter_map]
  congr 2
  apply List.filter_congr
  intro q _
  simp [rv_cat]
theorem ls2_r (ads : AD) (tb : Nat → Nat) (lv : LV) (i : Nat) (v : Value) : (i, rv ads tb v) :: (lvr ads tb lv).filter (fun q => !(q.1 == i) && (!(q.1 == i + 1) && !(q.1 + 1 == i && q.2.category == 2))) = lvr ads tb (ls2 lv i v) := by
  simp only [ls2, lvr, List.map_cons, List.filter_map]
  congr 2
  apply List.filter_congr
  intro q _
  simp [rv_cat]
theorem ls1_ok {ads : AD} {lv : LV} {i : Nat} {v : Value} (h : ∀ q ∈ lv, okv ads q.2) (hv : okv ads v) : ∀ q ∈ ls1 lv i v, okv ads q.2 := by
  intro q hq
  rcases List.mem_cons.mp hq with rfl | hq
  · exact hv
  · exact h q (List.mem_filter.mp hq).1
theorem ls2_ok {ads : AD} {lv : LV} {i : Nat} {v : Value} (h : ∀ q ∈ lv, okv ads q.2) (hv : okv ads v) : ∀ q ∈ ls2 lv i v, okv ads q.2 := by
  intro q hq
  rcases List.mem_cons.mp hq with rfl | hq
  · exact hv
  · exact h q (List.mem_filter.mp hq).1
theorem lvr_ext {a b : AD} (tb : Nat → Nat) (h : axt a b) (ha : ∀ k, tB ≤ k → a k = none) {lv : LV} (hv : ∀ q ∈ lv, okv a q.2) : lvr b tb lv = lvr a tb lv := List.map_congr_left (fun q hq => by rw [rv_ext tb h ha (hv q hq)])
theorem lv_args_r (ads : AD) (tb : Nat → Nat) : ∀ (vs : List Value) (i : Nat), lv_args i (vs.map (rv ads tb)) = lvr ads tb (lv_args i vs)
  | [], _ => rfl
  | v :: vs, i => by
    simp only [List.map_cons, lv_args, lvr, rv_cat]
    congr 1
    exact lv_args_r ads tb vs _
theorem lv_args_ok {ads : AD} : ∀ (vs : List Value) (i : Nat), okl ads vs → ∀ q ∈ lv_args i vs, okv ads q.2
  | [], _, _, q, hq => by cases hq
  | v :: vs, i, h, q, hq => by
    simp only [lv_args] at hq
    rcases List.mem_cons.mp hq with rfl | hq
    · exact h v List.mem_cons_self
    · exact lv_args_ok vs _ (fun w hw => h w (List.mem_cons_of_mem _ hw)) q hq
theorem lg_sl_r (ads : AD) (tb : Nat → Nat) : ∀ vs : List Value, (lg_sl (vs.map (rv ads tb))).length = (lg_sl vs).length
  | [] => rfl
  | v :: vs => by
    have ih := lg_sl_r ads tb vs
    simp only [lg_sl, List.map_cons, List.flatMap_cons, List.length_append, rv_cat] at ih ⊢
    rw [ih]
    split <;> rfl
theorem tyl_at (G : GW) {t : Nat} {ty : FieldType} (h : TYs[t]? = some ty) : (tyl G)[t]? = some (G.2.2.1 t, ty) := by
  unfold tyl
  rw [List.getElem?_map, List.getElem?_zipIdx, h]
  simp

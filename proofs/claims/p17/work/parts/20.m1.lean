/-! THE SMALL MACHINE: one picture of all cells, at fixed places; a judgement ME of a frame over it, MC of a call -/
abbrev mh_T : Type := (Nat → Nat → Int32) × ((Nat → Nat → Int64) × (Nat → Nat → Nat))
def mI (h : mh_T) (k j : Nat) : Int32 := h.1 k j
def mL (h : mh_T) (k j : Nat) : Int64 := h.2.1 k j
def mR (h : mh_T) (k j : Nat) : Nat := h.2.2 k j
def wI (h : mh_T) (k j : Nat) (v : Int32) : mh_T := (fun a b => if a = k ∧ b = j then v else h.1 a b, h.2)
def wL (h : mh_T) (k j : Nat) (v : Int64) : mh_T := (h.1, (fun a b => if a = k ∧ b = j then v else h.2.1 a b, h.2.2))
def wR (h : mh_T) (k j : Nat) (v : Nat) : mh_T := (h.1, (h.2.1, fun a b => if a = k ∧ b = j then v else h.2.2 a b))
/-- launch, classes, addresses, what may change, array classes, strings (objects, bytes), the script -/
abbrev gT : Type := Launch × va_G × (Nat → Nat) × (Nat → Prop) × (Nat → ClassId) × (Nat → Nat) × (Nat → Nat) × Nat × Nat × (Nat → Int32) × Value
def gl (g : gT) : Launch := g.1
def gD (g : gT) : va_G := g.2.1
def gr (g : gT) : Nat → Nat := g.2.2.1
def gA (g : gT) : Nat → Prop := g.2.2.2.1
def gc (g : gT) : Nat → ClassId := g.2.2.2.2.1
def gK (g : gT) : Nat → Nat := g.2.2.2.2.2.1
def gV (g : gT) : Nat → Nat := g.2.2.2.2.2.2.1
def gb (g : gT) : Nat := g.2.2.2.2.2.2.2.1
def gN (g : gT) : Nat := g.2.2.2.2.2.2.2.2.1
def gx (g : gT) : Nat → Int32 := g.2.2.2.2.2.2.2.2.2.1
/-- a static of the JDK's of which nothing is known but that it is a reference or null -/
def gF (g : gT) : Value := match g.2.2.2.2.2.2.2.2.2.2 with
  | .ref a => .ref a
  | _ => .null
/-- the address of a place: cells of the world, the script (900), strings' bytes (2000 ..), strings (1000 ..) -/
def gad (g : gT) (k : Nat) : Nat := if k < 900 then gr g k else if k = 900 then gb g else if k < 2000 then gK g (k - 1000) else gV g (k - 2000)
def tv (g : gT) : Value → Value
  | .ref k => .ref (gad g k)
  | .retAddr 1 => gF g
  | v => v
theorem tv_cat (g : gT) (v : Value) : (tv g v).category = v.category := by
  unfold tv
  split
  · rfl
  · unfold gF; split <;> rfl
  · rfl
def gty (g : gT) : List (ClassId × FieldType) := [(gc g 0, .int), (gc g 1, .boolean), (gc g 2, .long), (gc g 3, .array .long), (gc g 4, .array .int)]
/-- kinds of cells: an object of class k (below 12), 20 int[], 21 boolean[], 22 long[], 23 long[][] and 24 int[][] that never change, 25 int[][] that does; its length; what a reference field or element leads to -/
def shp (k : Nat) : Nat × Nat × List Nat := shpL.getD k (99, 0, [])
def fldV (g : gT) (h : mh_T) (k : Nat) (ts : List Nat) (j t : Nat) : Value := if t = 0 then .int (h.1 k j) else if t = 1 then .long (h.2.1 k j) else .ref (gr g (ts.getD j 0))
def fldL (g : gT) (h : mh_T) (k ci : Nat) (ts : List Nat) : List Value := (List.range (fty ci).length).map (fun j => fldV g h k ts j ((fty ci).getD j 9))
def ent (g : gT) (h : mh_T) (k : Nat) : va_E :=
  if (shp k).1 < 12 then .inr ((shp k).1, fldL g h k (shp k).1 (shp k).2.2)
  else if (shp k).1 = 20 then .inl (gc g 0, (shp k).2.1, .inl (h.1 k))
  else if (shp k).1 = 21 then .inl (gc g 1, (shp k).2.1, .inl (h.1 k))
  else if (shp k).1 = 22 then .inl (gc g 2, (shp k).2.1, .inr (.inl (h.2.1 k)))
  else if (shp k).1 = 23 then .inl (gc g 3, (shp k).2.1, .inr (.inr (.inr (.inr (fun i => some (gr g ((shp k).2.2.getD i 0)))))))
  else if (shp k).1 = 24 then .inl (gc g 4, (shp k).2.1, .inr (.inr (.inr (.inr (fun i => some (gr g ((shp k).2.2.getD i 0)))))))
  else .inl (gc g 4, (shp k).2.1, .inr (.inr (.inr (.inr (fun i => some (gr g (h.2.2 k i)))))))
def mw (g : gT) (h : mh_T) : va_W := (List.range 141).map (fun k => (gr g k, ent g h k))
theorem mw_at (g : gT) (h : mh_T) {k : Nat} (hk : k < 141) : (mw g h)[k]? = some (gr g k, ent g h k) := by
  unfold mw
  rw [List.getElem?_map, List.getElem?_range hk]
  rfl
theorem mw_set {g : gT} {h h' : mh_T} {k : Nat} (hk : k < 141) (he : ∀ q, q ≠ k → ent g h q = ent g h' q) : (mw g h).set k (gr g k, ent g h' k) = mw g h' := by
  apply List.ext_getElem?
  intro i
  by_cases hi : i < 141
  · by_cases hik : i = k
    · subst hik
      rw [List.getElem?_set_self (by unfold mw; simpa using hi), mw_at g h' hi]
    · rw [List.getElem?_set_ne (Ne.symm hik), mw_at g h hi, mw_at g h' hi, he i hik]
  · have h1 : ((mw g h).set k (gr g k, ent g h' k)).length ≤ i := by simp [mw]; omega
    have h2 : (mw g h').length ≤ i := by simp [mw]; omega
    rw [List.getElem?_eq_none h1, List.getElem?_eq_none h2]
/-- the places are apart -/
def gOK (g : gT) : Prop := (∀ i j, i < 141 → j < 141 → gr g i = gr g j → i = j) ∧ ∀ k, k < 141 → gA g (gr g k)
theorem mw_D {g : gT} (hg : gOK g) (h : mh_T) : va_D (gA g) (mw g h) := by
  have key : ∀ (k : Nat) (q : Nat × va_E), (mw g h)[k]? = some q → k < 141 ∧ q.1 = gr g k := by
    intro k q hk
    have hl : k < (mw g h).length := (List.getElem?_eq_some_iff.mp hk).1
    have hl : k < 141 := by simpa [mw] using hl
    rw [mw_at g h hl] at hk
    cases hk
    exact ⟨hl, rfl⟩
  refine ⟨fun i j x y hi hj hxy => ?_, fun k q hk => ?_⟩
  · obtain ⟨a1, a2⟩ := key i x hi
    obtain ⟨b1, b2⟩ := key j y hj
    exact hg.1 i j a1 b1 (by rw [← a2, ← b2]; exact hxy)
  · obtain ⟨a1, a2⟩ := key k q hk
    rw [a2]
    exact hg.2 k a1
/-- a method: its class, code, locals, return type, and how deep calls go from it -/
abbrev uT : Type := String × ByteArray × Nat × Option FieldType × Nat
def mRm (K : Nat) : Room := { frames := K, cells := 0, slots := 0, locals := 64 * K }
/-- locals: by their places; retAddr 0 stands for what isn't known -/
def lR (g : gT) (n : Nat) (lv : List Value) (ls : Array Slot) : Prop := ∃ l, lv_has ls n l ∧ ∀ (i : Nat) (v : Value), lv[i]? = some v → v ≠ .retAddr 0 → (i, tv g v) ∈ l
/-- strings, the script, what else the old heap holds -/
def mXC (g : gT) (U : State) : Prop :=
  vk_S nJS lenJS bytJS (gK g) (gV g) (gA g) U U.heap ∧ (∀ q ∈ strJS, vk_R q.1 q.2.1 q.2.2.1 (gK g q.2.2.2) U) ∧ va_X (gb g) (gN g) (gx g) U U.heap ∧ gb g < U.heap.size ∧ ¬ gA g (gb g)
  ∧ va_Nw (.methodLinkNest RX3 83 yX10_bitAt "NotAtOnce") U ∧ va_Z "java/lang/String" "COMPACT_STRINGS" "Z" (.int 1) (gA g) U U.heap ∧ va_AOA .int U ∧ va_Z "jdk/internal/util/Preconditions" "SIOOBE_FORMATTER" "Ljava/util/function/BiFunction;" (gF g) (gA g) U U.heap
def MX (g : gT) (u : uT) (p : Program) (R : Room) (s : State) (m : MethodId) (args : Array Value) (meth : Method) (c : Code) (H : Heap) (locs : List Loc) (ls : Array Slot) (lv : List Value) (h : mh_T) : Prop :=
  p.tables.exec = Jvm.exec ∧ c.code = u.2.1 ∧ c.maxLocals = u.2.2.1 ∧ meth.sig.returnType = u.2.2.2.1 ∧ meth.locks = false ∧ s.vm.findClass u.1 = some m.cls ∧ (∀ w ∈ lw_tbl, goodWord w = true → w.before args s = true)
  ∧ va_K (gD g) vwCl (gty g) s ∧ va_P (gD g) vwCl (mw g h) H ∧ gOK g ∧ va_S (gA g) s.heap H locs ∧ (u.2.2.2.2 ≤ R.frames ∧ 64 * u.2.2.2.2 ≤ R.locals) ∧ lR g u.2.2.1 lv ls ∧ mXC g s
/-- what a call comes to -/
def mQ (g : gT) (Q : Option Value → mh_T → Prop) : Array Value → State → Outcome → State → Prop := fun _ st oc t => ∃ (v : Option Value) (h' : mh_T), oc = .returned (v.map (tv g)) ∧ Q v h' ∧ va_P (gD g) vwCl (mw g h') t.heap ∧ va_F (gA g) st t
def ME (g : gT) (u : uT) (pc : Nat) (lv st : List Value) (h : mh_T) (Q : Option Value → mh_T → Prop) : Prop :=
  ∀ (p : Program) (e : Env) (R : Room) (s : State) (m : MethodId) (args : Array Value) (below : List Frame) (meth : Method) (c : Code) (H : Heap) (locs : List Loc) (ls : Array Slot),
    MX g u p R s m args meth c H locs ls lv h → W p (gl g) e R s m args below meth c H locs 0 0 (MQ below (mQ g Q) args s 0 0 (gA g)) (F0 m pc ls (st.map (tv g)))
def mPc (g : gT) (As : List Value) (h : mh_T) : Array Value → State → Prop := fun v U => v = (As.map (tv g)).toArray ∧ va_K (gD g) vwCl (gty g) U ∧ va_P (gD g) vwCl (mw g h) U.heap ∧ gOK g ∧ mXC g U
def mWs (y : MethodName) (u : uT) : List Cond := .code y u.2.1 u.2.2.1 u.2.2.2.1 :: lw_tbl.filter goodWord
def MC (g : gT) (y : MethodName) (u : uT) (As : List Value) (h : mh_T) (Q : Option Value → mh_T → Prop) : Prop :=
  Met (gl g) y (mWs y u) (mRm u.2.2.2.2) (mPc g As h) (mQ g Q) 0 0 (gA g)

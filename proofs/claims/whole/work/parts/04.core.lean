/-! THE ABSTRACT WALK. A reference is a place (Nat) in an abstract store M, no address; sl_V says of an abstract state of one method (pc, locals, stack, store) that the machine, in EVERY context that holds this picture, comes to the method's end with Q. The rows that follow turn sl_V at an instruction into sl_V at the next; nothing of the machine is left in them. -/
abbrev sl_E : Type := (FieldType × vp_A) ⊕ (Nat × List Value)
abbrev sl_M : Type := Nat → sl_E
abbrev sl_Y : Type := MethodName × ByteArray × Nat × Option FieldType
/-- from this place on: what lies outside the store (texts, the script) -/
def sl_X : Nat := 1000000
/-- no cell -/
def sl_no : sl_E := .inr (99, [])
def sl_v (ad : Nat → Nat) : Value → Value
  | .ref k => .ref (ad k)
  | v => v
def sl_c (ad : Nat → Nat) (dA : FieldType → ClassId) : sl_E → va_E
  | .inl q => .inl (dA q.1, q.2)
  | .inr q => .inr (q.1, q.2.map (sl_v ad))
def sl_w (ad : Nat → Nat) (dA : FieldType → ClassId) (n : Nat) (M : sl_M) : va_W := (List.range n).map fun k => (ad k, sl_c ad dA (M k))
def sl_tys (dA : FieldType → ClassId) : List (ClassId × FieldType) := [(dA .int, .int), (dA .byte, .byte), (dA .boolean, .boolean), (dA .long, .long)]
def sl_up (M : sl_M) (k : Nat) (x : sl_E) : sl_M := fun j => if j = k then x else M j
/-- the words that last -/
def sl_g : List Cond := lw_tbl.filter goodWord
theorem sl_gi {w : Cond} (i : Nat) (h : lw_tbl[i]? = some w) (hg : goodWord w = true) : w ∈ sl_g := List.mem_filter.mpr ⟨List.mem_of_getElem? h, hg⟩
theorem sl_gg : ∀ w ∈ sl_g, (w.onTables && w.keeps) = true ∨ ∃ ty, w = .arrayClass ty := fun _ h => good_of_word (List.mem_filter.mp h).2
/-- what a throw of the class needs: words that aren't kept by themselves, two statics of Throwable -/
def sl_nse : String := "java/util/NoSuchElementException"
def sl_exs (A : Nat → Prop) (s : State) : Prop :=
  (va_Nw (.castable sl_nse sl_nse) s ∧ va_Nw (.declares (Bundle.initS "java/lang/RuntimeException")) s ∧ va_Nw (.declares (Bundle.initS "java/lang/Exception")) s ∧ va_Nw (.declares (Bundle.initS Bundle.tN)) s) ∧
  vx_Zq Bundle.tN "UNASSIGNED_STACK" Bundle.steD A s s.heap ∧ vx_Zq Bundle.tN "SUPPRESSED_SENTINEL" Bundle.listD A s s.heap
theorem sl_exs_d {x : MethodName} {s U : State} (hW : s.WarmedH U.vm) (hZ : va_Nw (.declares x) s) : va_Nw (.declares x) U := va_tabs rfl (rfl : (s.setVm U.vm).vm = U.vm) (by rw [Cond.declares_setVm hW.alike]; exact hZ)
theorem sl_exs.narrow {A B : Nat → Prop} {s U : State} {H : Heap} (h : sl_exs A s) (hH : ∀ a : Nat, a < s.heap.size → ¬ A a → H[a]? = s.heap[a]?) (hU : U.heap = H) (hW : s.WarmedH U.vm) (hAB : ∀ q, B q → A q) : sl_exs B U := by
  obtain ⟨⟨a1, a2, a3, a4⟩, h3, h4⟩ := h
  refine ⟨⟨a1.warmC hW, sl_exs_d hW a2, sl_exs_d hW a3, sl_exs_d hW a4⟩, ?_, ?_⟩
  · rw [hU]
    exact vx_Zq.moved hW.alike ((h3.kept hH).narrow hAB)
  · rw [hU]
    exact vx_Zq.moved hW.alike ((h4.kept hH).narrow hAB)
theorem sl_exs.same {A : Nat → Prop} {u U : State} (hv : u.vm = U.vm) (hh : U.heap = u.heap) (h : sl_exs A u) : sl_exs A U := by
  obtain ⟨⟨a1, a2, a3, a4⟩, h3, h4⟩ := h
  have hal : u.vm.Alike U.vm := by rw [hv]; exact Vm.Alike.refl _
  refine ⟨⟨a1.same rfl hv, a2.same rfl hv, a3.same rfl hv, a4.same rfl hv⟩, ?_, ?_⟩
  · rw [hh]
    exact vx_Zq.moved hal h3
  · rw [hh]
    exact vx_Zq.moved hal h4
/-- launches that keep no stack traces -/
abbrev sl_L : Type := { l : Launch // l.stackTraces = false }
/-- the texts lie outside, as they were -/
def sl_str (ad : Nat → Nat) (A : Nat → Prop) (s : State) : Prop :=
  vk_S sl_sN sl_sL sl_sB (fun j => ad (sl_X + 2 * j)) (fun j => ad (sl_X + 2 * j + 1)) A s s.heap ∧ (∀ q ∈ sl_lits, vk_R q.1 q.2.1 q.2.2.1 (ad (sl_X + 2 * q.2.2.2)) s) ∧
  va_Z "java/lang/String" "COMPACT_STRINGS" "Z" (.int 1) A s s.heap ∧ va_Zq "jdk/internal/util/Preconditions" "SIOOBE_FORMATTER" "Ljava/util/function/BiFunction;" A s s.heap ∧ (∀ q ∈ sl_nest, va_Nw (.methodLinkNest q.1 q.2.1 q.2.2.1 q.2.2.2) s) ∧ sl_exs A s
def sl_C (Y : sl_Y) (X : Option (Nat × (Nat → Int32))) (d kc ks : Nat) (lv : List (Option Value)) (M : sl_M)
    (p : Program) (R : Room) (s : State) (m : MethodId) (args : Array Value) (meth : Method) (c : Code) (H : Heap) (locs : List Loc) (cells slots mc ms : Nat) (D : va_G) (dA : FieldType → ClassId) (ad ad0 : Nat → Nat) (n n0 : Nat) (A : Nat → Prop) (d0 : Drawn) (ls : Array Slot) : Prop :=
  (p.tables.exec = Jvm.exec ∧ c.code = Y.2.1 ∧ meth.sig.returnType = Y.2.2.2 ∧ c.maxLocals = Y.2.2.1 ∧ meth.locks = false ∧ s.vm.findClass Y.1.cls = some m.cls ∧ (∀ w ∈ sl_g, w.before args s = true) ∧ meth.name = Y.1.name) ∧
  (d ≤ R.frames ∧ 40 * d ≤ R.locals ∧ cells + kc = mc ∧ slots + ks = ms ∧ mc ≤ R.cells ∧ ms ≤ R.slots) ∧
  (va_K D vwCl (sl_tys dA) s ∧ va_P D vwCl (sl_w ad dA n M) H ∧ va_D A (sl_w ad dA n M) ∧ va_S A s.heap H locs ∧ (∀ q : Nat, s.heap.size ≤ q → A q)) ∧
  (s.drawn.sameBut d0 lw_cs ∧ ls.size = Y.2.2.1 ∧ lv_wf ls ∧ (∀ (i : Nat) (v : Value), lv[i]? = some (some v) → ls[i]? = some (.val (sl_v ad v)))) ∧
  ((∀ k : Nat, k < n0 ∨ sl_X ≤ k → ad k = ad0 k) ∧ n0 ≤ n ∧ n ≤ sl_X ∧ (∀ k : Nat, n ≤ k → M k = sl_no)) ∧
  (sl_str ad A s ∧ (mc = 0 → ad = ad0 ∧ n = n0) ∧ ∀ (L : Nat) (xs : Nat → Int32), X = some (L, xs) → va_X (ad (sl_X + 500)) L xs s s.heap ∧ ad (sl_X + 500) < s.heap.size ∧ ¬ A (ad (sl_X + 500)))
/-- what a method's end says: the answer and the store behind it, held by the heap -/
def sl_Qc (D : va_G) (dA : FieldType → ClassId) (ad0 : Nat → Nat) (n0 mc : Nat) (A : Nat → Prop) (Q : Option Value → sl_M → Prop) : Array Value → State → Outcome → State → Prop := fun _ st o t =>
  (∃ (r : Option Value) (M1 : sl_M) (ad1 : Nat → Nat) (n1 : Nat), o = .returned (r.map (sl_v ad1)) ∧ Q r M1 ∧ (∀ k : Nat, k < n0 ∨ sl_X ≤ k → ad1 k = ad0 k) ∧ n0 ≤ n1 ∧ n1 ≤ sl_X ∧ (∀ k : Nat, n1 ≤ k → M1 k = sl_no) ∧
    va_P D vwCl (sl_w ad1 dA n1 M1) t.heap ∧ va_K D vwCl (sl_tys dA) t ∧ va_D A (sl_w ad1 dA n1 M1) ∧ (mc = 0 → ad1 = ad0 ∧ n1 = n0)) ∧ va_F A st t
def sl_V (Y : sl_Y) (X : Option (Nat × (Nat → Int32))) (d kc ks : Nat) (Q : Option Value → sl_M → Prop) (pc : Nat) (lv : List (Option Value)) (st : List Value) (M : sl_M) : Prop :=
  ∀ (p : Program) (l : sl_L) (e : Env) (R : Room) (s : State) (m : MethodId) (args : Array Value) (below : List Frame) (meth : Method) (c : Code) (H : Heap) (locs : List Loc) (cells slots mc ms : Nat) (D : va_G) (dA : FieldType → ClassId) (ad ad0 : Nat → Nat) (n n0 : Nat) (A : Nat → Prop) (d0 : Drawn) (ls : Array Slot),
    sl_C Y X d kc ks lv M p R s m args meth c H locs cells slots mc ms D dA ad ad0 n n0 A d0 ls →
    W p l e R (s.setDrawn d0) m args below meth c H locs cells slots (MQD lw_cs below (sl_Qc D dA ad0 n0 mc A Q) args s mc ms A) (F0 m pc ls (st.map (sl_v ad)))
/-- an instruction at its place, and the place behind it -/
def sl_D (Y : sl_Y) (pc : Nat) (i : Instr) (len q : Nat) : Prop := decode Y.2.1 pc = .ok (i, len) ∧ pc + len = q
/-- a branch at its place: behind it q, its target t -/
def sl_B (Y : sl_Y) (pc : Nat) (i : Int → Instr) (q t : Nat) : Prop := ∃ off : Int, decode Y.2.1 pc = .ok (i off, 3) ∧ pc + 3 = q ∧ (pc : Int) + off = (t : Int)
-- the store as a world
theorem sl_w_get {ad : Nat → Nat} {dA : FieldType → ClassId} {n k : Nat} {M : sl_M} {x : sl_E} (hk : k < n) (h : M k = x) : (sl_w ad dA n M)[k]? = some (ad k, sl_c ad dA x) := by
  subst h
  simp [sl_w, hk]
theorem sl_w_set {ad : Nat → Nat} {dA : FieldType → ClassId} {n k : Nat} {M : sl_M} {x : sl_E} (hk : k < n) : (sl_w ad dA n M).set k (ad k, sl_c ad dA x) = sl_w ad dA n (sl_up M k x) := by
  apply List.ext_getElem?
  intro i
  rw [List.getElem?_set]
  by_cases hi : k = i
  · subst hi
    simp [sl_w, hk, sl_up]
  · by_cases hin : i < n
    · have hik : ¬ i = k := fun h => hi h.symm
      simp [sl_w, hi, hik, hin, sl_up]
    · simp [sl_w, hi, hin]
theorem sl_lt {M : sl_M} {n k : Nat} (h : ∀ j : Nat, n ≤ j → M j = sl_no) (hk : M k ≠ sl_no) : k < n := by
  rcases Nat.lt_or_ge k n with g | g
  · exact g
  · exact absurd (h k g) hk
theorem sl_in_l {q : FieldType × vp_A} : (Sum.inl q : sl_E) ≠ sl_no := fun h => by cases h
theorem sl_in_r {ci : Nat} {fs : List Value} {C : String} {T : u_T} {N : Nat} (hc : vwCl[ci]? = some (C, T, N)) : (Sum.inr (ci, fs) : sl_E) ≠ sl_no := by
  intro h
  have h1 : ci = 99 := congrArg Prod.fst (Sum.inr.inj h)
  subst h1
  simp [vwCl] at hc
theorem sl_v_cat (ad : Nat → Nat) (v : Value) : (sl_v ad v).category = v.category := by cases v <;> rfl
theorem sl_cats (ad : Nat → Nat) (st : List Value) : ((st.map (sl_v ad)).map fun v => v.category).sum = (st.map fun v => v.category).sum := by
  rw [List.map_map]
  congr 1
  apply List.map_congr_left
  intro v _
  exact sl_v_cat ad v
theorem sl_fits (ad : Nat → Nat) (ty : FieldType) (v : Value) : fits ty (sl_v ad v) = fits ty v := by cases v <;> cases ty <;> rfl
theorem sl_narrow {ad : Nat → Nat} {ty : FieldType} {v : Value} (h : narrow ty v = v) : narrow ty (sl_v ad v) = sl_v ad v := by
  cases v <;> first | exact h | (cases ty <;> rfl)

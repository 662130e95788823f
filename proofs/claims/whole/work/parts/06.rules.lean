/-! locals: a value of two words drops its neighbour -/
def sl_c2 : Value → Bool
  | .long _ => true
  | .double _ => true
  | _ => false
def sl_k (lv : List (Option Value)) : Nat → List (Option Value)
  | 0 => lv
  | j + 1 => match lv[j]? with
    | some (some w) => cond (sl_c2 w) (lv.set j none) lv
    | _ => lv
def sl_s1 (lv : List (Option Value)) (i : Nat) (v : Value) : List (Option Value) := (sl_k lv i).set i (some v)
def sl_s2 (lv : List (Option Value)) (i : Nat) (v : Value) : List (Option Value) := ((sl_k lv i).set i (some v)).set (i + 1) none
def sl_l (ad : Nat → Nat) (lv : List (Option Value)) : List (Nat × Value) := (List.range lv.length).filterMap fun i => (lv[i]?.bind id).map fun v => (i, sl_v ad v)
theorem sl_l_mem {ad : Nat → Nat} {lv : List (Option Value)} {i : Nat} {w : Value} (h : lv[i]? = some (some w)) : (i, sl_v ad w) ∈ sl_l ad lv := by
  refine List.mem_filterMap.mpr ⟨i, List.mem_range.mpr ?_, ?_⟩
  · exact (List.getElem?_eq_some_iff.mp h).1
  · simp [h]
theorem sl_l_of {ad : Nat → Nat} {lv : List (Option Value)} {q : Nat × Value} (h : q ∈ sl_l ad lv) : ∃ w, lv[q.1]? = some (some w) ∧ q.2 = sl_v ad w := by
  obtain ⟨i, -, hi⟩ := List.mem_filterMap.mp h
  obtain ⟨w, hw, rfl⟩ := Option.map_eq_some_iff.mp hi
  refine ⟨w, ?_, rfl⟩
  obtain ⟨z, hz, hz2⟩ := Option.bind_eq_some_iff.mp hw
  have hz3 : z = some w := hz2
  rw [hz3] at hz
  exact hz
theorem sl_has {ad : Nat → Nat} {lv : List (Option Value)} {ls : Array Slot} {nL : Nat} (h1 : ls.size = nL) (h2 : lv_wf ls) (h3 : ∀ (i : Nat) (v : Value), lv[i]? = some (some v) → ls[i]? = some (.val (sl_v ad v))) : lv_has ls nL (sl_l ad lv) := by
  refine ⟨h1, h2, fun q hq => ?_⟩
  obtain ⟨w, hw, e⟩ := sl_l_of hq
  rw [e]
  exact h3 _ _ hw
theorem sl_c2_iff (v : Value) : sl_c2 v = true ↔ v.category = 2 := by cases v <;> simp [sl_c2, Value.category]
theorem sl_k_get {lv : List (Option Value)} {i j : Nat} {w : Value} (hj : j ≠ i) (h : (sl_k lv i)[j]? = some (some w)) : lv[j]? = some (some w) ∧ ¬ (j + 1 = i ∧ w.category = 2) := by
  cases i with
  | zero => exact ⟨h, fun g => by omega⟩
  | succ i =>
    change (match lv[i]? with
      | some (some w) => cond (sl_c2 w) (lv.set i none) lv
      | _ => lv)[j]? = some (some w) at h
    split at h
    · rename_i z hz
      cases hc : sl_c2 z with
      | true =>
        rw [hc] at h
        simp only [cond_true] at h
        rw [List.getElem?_set] at h
        by_cases e : i = j
        · rw [if_pos e] at h
          split at h <;> cases h
        · rw [if_neg e] at h
          exact ⟨h, fun g => e (by omega)⟩
      | false =>
        rw [hc] at h
        simp only [cond_false] at h
        refine ⟨h, fun g => ?_⟩
        have e : j = i := by omega
        subst e
        rw [h] at hz
        have e2 : w = z := Option.some.inj (Option.some.inj hz)
        rw [← e2] at hc
        have := (sl_c2_iff w).mpr g.2
        rw [hc] at this
        cases this
    · rename_i hz
      refine ⟨h, fun g => ?_⟩
      have e : j = i := by omega
      subst e
      exact hz w h
theorem sl_s1_get {lv : List (Option Value)} {i j : Nat} {v w : Value} (h : (sl_s1 lv i v)[j]? = some (some w)) : (j = i ∧ w = v) ∨ (j ≠ i ∧ lv[j]? = some (some w) ∧ ¬ (j + 1 = i ∧ w.category = 2)) := by
  unfold sl_s1 at h
  rw [List.getElem?_set] at h
  by_cases e : i = j
  · rw [if_pos e] at h
    split at h
    · exact Or.inl ⟨e.symm, (Option.some.inj (Option.some.inj h)).symm⟩
    · cases h
  · rw [if_neg e] at h
    exact Or.inr ⟨fun z => e z.symm, sl_k_get (fun z => e z.symm) h⟩
theorem sl_s2_get {lv : List (Option Value)} {i j : Nat} {v w : Value} (h : (sl_s2 lv i v)[j]? = some (some w)) : (j = i ∧ w = v) ∨ (j ≠ i ∧ j ≠ i + 1 ∧ lv[j]? = some (some w) ∧ ¬ (j + 1 = i ∧ w.category = 2)) := by
  unfold sl_s2 at h
  rw [List.getElem?_set] at h
  by_cases e : i + 1 = j
  · rw [if_pos e] at h
    split at h <;> cases h
  · rw [if_neg e] at h
    rcases sl_s1_get (lv := lv) (i := i) (v := v) h with g | g
    · exact Or.inl g
    · exact Or.inr ⟨g.1, fun z => e z.symm, g.2⟩
theorem sl_st1 {ad : Nat → Nat} {lv : List (Option Value)} {ls' : Array Slot} {nL i : Nat} {v : Value} (h : lv_has ls' nL ((i, sl_v ad v) :: (sl_l ad lv).filter (fun q => !(q.1 == i) && !(q.1 + 1 == i && q.2.category == 2)))) :
    ls'.size = nL ∧ lv_wf ls' ∧ ∀ (j : Nat) (w : Value), (sl_s1 lv i v)[j]? = some (some w) → ls'[j]? = some (.val (sl_v ad w)) := by
  refine ⟨h.1, h.2.1, fun j w hw => ?_⟩
  rcases sl_s1_get hw with ⟨rfl, rfl⟩ | ⟨h1, h2, h3⟩
  · exact h.2.2 (j, _) List.mem_cons_self
  · refine h.2.2 (j, sl_v ad w) (List.mem_cons_of_mem _ (List.mem_filter.mpr ⟨sl_l_mem h2, ?_⟩))
    rw [sl_v_cat]
    simp only [Bool.and_eq_true, Bool.not_eq_true', beq_eq_false_iff_ne, Bool.and_eq_false_imp, beq_iff_eq]
    exact ⟨h1, fun e1 e2 => h3 ⟨e1, e2⟩⟩
theorem sl_st2 {ad : Nat → Nat} {lv : List (Option Value)} {ls' : Array Slot} {nL i : Nat} {v : Value} (h : lv_has ls' nL ((i, sl_v ad v) :: (sl_l ad lv).filter (fun q => !(q.1 == i) && (!(q.1 == i + 1) && !(q.1 + 1 == i && q.2.category == 2))))) :
    ls'.size = nL ∧ lv_wf ls' ∧ ∀ (j : Nat) (w : Value), (sl_s2 lv i v)[j]? = some (some w) → ls'[j]? = some (.val (sl_v ad w)) := by
  refine ⟨h.1, h.2.1, fun j w hw => ?_⟩
  rcases sl_s2_get hw with ⟨rfl, rfl⟩ | ⟨h1, h0, h2, h3⟩
  · exact h.2.2 (j, _) List.mem_cons_self
  · refine h.2.2 (j, sl_v ad w) (List.mem_cons_of_mem _ (List.mem_filter.mpr ⟨sl_l_mem h2, ?_⟩))
    rw [sl_v_cat]
    simp only [Bool.and_eq_true, Bool.not_eq_true', beq_eq_false_iff_ne, Bool.and_eq_false_imp, beq_iff_eq]
    exact ⟨h1, h0, fun e1 e2 => h3 ⟨e1, e2⟩⟩
section SLS
variable {Y : sl_Y} {X : Option (Nat × (Nat → Int32))} {d kc ks : Nat} {Q : Option Value → sl_M → Prop} {pc q : Nat} {lv lv' : List (Option Value)} {st : List Value} {M : sl_M}
theorem slv_istore_n {k : Fin 4} {i : Nat} {x : Int32} (h : sl_D Y pc (.istore_n k) 1 q) (hk : (k : Nat) = i) (hi : i < Y.2.2.1) (hl : sl_s1 lv i (.int x) = lv') (kk : sl_V Y X d kc ks Q q lv' st M) : sl_V Y X d kc ks Q pc lv (.int x :: st) M := by
  obtain ⟨h, rfl⟩ := h
  subst hl
  intro p l e R s m args below meth c H locs cells slots mc ms D dA ad ad0 n n0 A d0 ls C
  exact lv_istore_n C.1.1 C.1.2.1 h hk (sl_has C.2.2.2.1.2.1 C.2.2.2.1.2.2.1 C.2.2.2.1.2.2.2) hi rfl (fun ls' g => kk p l e R s m args below meth c H locs cells slots mc ms D dA ad ad0 n n0 A d0 ls' ⟨C.1, C.2.1, C.2.2.1, ⟨C.2.2.2.1.1, sl_st1 g⟩, C.2.2.2.2⟩)
theorem slv_istore {i : Nat} {x : Int32} (h : sl_D Y pc (.istore i) 2 q) (hi : i < Y.2.2.1) (hl : sl_s1 lv i (.int x) = lv') (kk : sl_V Y X d kc ks Q q lv' st M) : sl_V Y X d kc ks Q pc lv (.int x :: st) M := by
  obtain ⟨h, rfl⟩ := h
  subst hl
  intro p l e R s m args below meth c H locs cells slots mc ms D dA ad ad0 n n0 A d0 ls C
  exact lv_istore C.1.1 C.1.2.1 h (sl_has C.2.2.2.1.2.1 C.2.2.2.1.2.2.1 C.2.2.2.1.2.2.2) hi rfl (fun ls' g => kk p l e R s m args below meth c H locs cells slots mc ms D dA ad ad0 n n0 A d0 ls' ⟨C.1, C.2.1, C.2.2.1, ⟨C.2.2.2.1.1, sl_st1 g⟩, C.2.2.2.2⟩)
theorem slv_lstore_n {k : Fin 4} {i : Nat} {x : Int64} (h : sl_D Y pc (.lstore_n k) 1 q) (hk : (k : Nat) = i) (hi : i + 1 < Y.2.2.1) (hl : sl_s2 lv i (.long x) = lv') (kk : sl_V Y X d kc ks Q q lv' st M) : sl_V Y X d kc ks Q pc lv (.long x :: st) M := by
  obtain ⟨h, rfl⟩ := h
  subst hl
  intro p l e R s m args below meth c H locs cells slots mc ms D dA ad ad0 n n0 A d0 ls C
  exact lv_lstore_n C.1.1 C.1.2.1 h hk (sl_has C.2.2.2.1.2.1 C.2.2.2.1.2.2.1 C.2.2.2.1.2.2.2) hi rfl (fun ls' g => kk p l e R s m args below meth c H locs cells slots mc ms D dA ad ad0 n n0 A d0 ls' ⟨C.1, C.2.1, C.2.2.1, ⟨C.2.2.2.1.1, sl_st2 g⟩, C.2.2.2.2⟩)
theorem slv_lstore {i : Nat} {x : Int64} (h : sl_D Y pc (.lstore i) 2 q) (hi : i + 1 < Y.2.2.1) (hl : sl_s2 lv i (.long x) = lv') (kk : sl_V Y X d kc ks Q q lv' st M) : sl_V Y X d kc ks Q pc lv (.long x :: st) M := by
  obtain ⟨h, rfl⟩ := h
  subst hl
  intro p l e R s m args below meth c H locs cells slots mc ms D dA ad ad0 n n0 A d0 ls C
  exact lv_lstore C.1.1 C.1.2.1 h (sl_has C.2.2.2.1.2.1 C.2.2.2.1.2.2.1 C.2.2.2.1.2.2.2) hi rfl (fun ls' g => kk p l e R s m args below meth c H locs cells slots mc ms D dA ad ad0 n n0 A d0 ls' ⟨C.1, C.2.1, C.2.2.1, ⟨C.2.2.2.1.1, sl_st2 g⟩, C.2.2.2.2⟩)
theorem slv_fstore_n {k : Fin 4} {i : Nat} {x : UInt32} (h : sl_D Y pc (.fstore_n k) 1 q) (hk : (k : Nat) = i) (hi : i < Y.2.2.1) (hl : sl_s1 lv i (.float x) = lv') (kk : sl_V Y X d kc ks Q q lv' st M) : sl_V Y X d kc ks Q pc lv (.float x :: st) M := by
  obtain ⟨h, rfl⟩ := h
  subst hl
  intro p l e R s m args below meth c H locs cells slots mc ms D dA ad ad0 n n0 A d0 ls C
  exact lv_fstore_n C.1.1 C.1.2.1 h hk (sl_has C.2.2.2.1.2.1 C.2.2.2.1.2.2.1 C.2.2.2.1.2.2.2) hi rfl (fun ls' g => kk p l e R s m args below meth c H locs cells slots mc ms D dA ad ad0 n n0 A d0 ls' ⟨C.1, C.2.1, C.2.2.1, ⟨C.2.2.2.1.1, sl_st1 g⟩, C.2.2.2.2⟩)
theorem slv_fstore {i : Nat} {x : UInt32} (h : sl_D Y pc (.fstore i) 2 q) (hi : i < Y.2.2.1) (hl : sl_s1 lv i (.float x) = lv') (kk : sl_V Y X d kc ks Q q lv' st M) : sl_V Y X d kc ks Q pc lv (.float x :: st) M := by
  obtain ⟨h, rfl⟩ := h
  subst hl
  intro p l e R s m args below meth c H locs cells slots mc ms D dA ad ad0 n n0 A d0 ls C
  exact lv_fstore C.1.1 C.1.2.1 h (sl_has C.2.2.2.1.2.1 C.2.2.2.1.2.2.1 C.2.2.2.1.2.2.2) hi rfl (fun ls' g => kk p l e R s m args below meth c H locs cells slots mc ms D dA ad ad0 n n0 A d0 ls' ⟨C.1, C.2.1, C.2.2.1, ⟨C.2.2.2.1.1, sl_st1 g⟩, C.2.2.2.2⟩)
theorem slv_dstore_n {k : Fin 4} {i : Nat} {x : UInt64} (h : sl_D Y pc (.dstore_n k) 1 q) (hk : (k : Nat) = i) (hi : i + 1 < Y.2.2.1) (hl : sl_s2 lv i (.double x) = lv') (kk : sl_V Y X d kc ks Q q lv' st M) : sl_V Y X d kc ks Q pc lv (.double x :: st) M := by
  obtain ⟨h, rfl⟩ := h
  subst hl
  intro p l e R s m args below meth c H locs cells slots mc ms D dA ad ad0 n n0 A d0 ls C
  exact lv_dstore_n C.1.1 C.1.2.1 h hk (sl_has C.2.2.2.1.2.1 C.2.2.2.1.2.2.1 C.2.2.2.1.2.2.2) hi rfl (fun ls' g => kk p l e R s m args below meth c H locs cells slots mc ms D dA ad ad0 n n0 A d0 ls' ⟨C.1, C.2.1, C.2.2.1, ⟨C.2.2.2.1.1, sl_st2 g⟩, C.2.2.2.2⟩)
theorem slv_dstore {i : Nat} {x : UInt64} (h : sl_D Y pc (.dstore i) 2 q) (hi : i + 1 < Y.2.2.1) (hl : sl_s2 lv i (.double x) = lv') (kk : sl_V Y X d kc ks Q q lv' st M) : sl_V Y X d kc ks Q pc lv (.double x :: st) M := by
  obtain ⟨h, rfl⟩ := h
  subst hl
  intro p l e R s m args below meth c H locs cells slots mc ms D dA ad ad0 n n0 A d0 ls C
  exact lv_dstore C.1.1 C.1.2.1 h (sl_has C.2.2.2.1.2.1 C.2.2.2.1.2.2.1 C.2.2.2.1.2.2.2) hi rfl (fun ls' g => kk p l e R s m args below meth c H locs cells slots mc ms D dA ad ad0 n n0 A d0 ls' ⟨C.1, C.2.1, C.2.2.1, ⟨C.2.2.2.1.1, sl_st2 g⟩, C.2.2.2.2⟩)
theorem slv_astore_n {k : Fin 4} {i : Nat} {x : Nat} (h : sl_D Y pc (.astore_n k) 1 q) (hk : (k : Nat) = i) (hi : i < Y.2.2.1) (hl : sl_s1 lv i (.ref x) = lv') (kk : sl_V Y X d kc ks Q q lv' st M) : sl_V Y X d kc ks Q pc lv (.ref x :: st) M := by
  obtain ⟨h, rfl⟩ := h
  subst hl
  intro p l e R s m args below meth c H locs cells slots mc ms D dA ad ad0 n n0 A d0 ls C
  exact lv_astore_n C.1.1 C.1.2.1 h hk (sl_has C.2.2.2.1.2.1 C.2.2.2.1.2.2.1 C.2.2.2.1.2.2.2) hi rfl (fun ls' g => kk p l e R s m args below meth c H locs cells slots mc ms D dA ad ad0 n n0 A d0 ls' ⟨C.1, C.2.1, C.2.2.1, ⟨C.2.2.2.1.1, sl_st1 g⟩, C.2.2.2.2⟩)
theorem slv_astore {i : Nat} {x : Nat} (h : sl_D Y pc (.astore i) 2 q) (hi : i < Y.2.2.1) (hl : sl_s1 lv i (.ref x) = lv') (kk : sl_V Y X d kc ks Q q lv' st M) : sl_V Y X d kc ks Q pc lv (.ref x :: st) M := by
  obtain ⟨h, rfl⟩ := h
  subst hl
  intro p l e R s m args below meth c H locs cells slots mc ms D dA ad ad0 n n0 A d0 ls C
  exact lv_astore C.1.1 C.1.2.1 h (sl_has C.2.2.2.1.2.1 C.2.2.2.1.2.2.1 C.2.2.2.1.2.2.2) hi rfl (fun ls' g => kk p l e R s m args below meth c H locs cells slots mc ms D dA ad ad0 n n0 A d0 ls' ⟨C.1, C.2.1, C.2.2.1, ⟨C.2.2.2.1.1, sl_st1 g⟩, C.2.2.2.2⟩)
theorem slv_iinc {i : Nat} {a : Int} {x y : Int32} (h : sl_D Y pc (.iinc i a) 3 q) (hv : lv[i]? = some (some (.int x))) (hi : i < Y.2.2.1) (hy : x + Int32.ofInt a = y) (hl : sl_s1 lv i (.int y) = lv') (kk : sl_V Y X d kc ks Q q lv' st M) : sl_V Y X d kc ks Q pc lv st M := by
  obtain ⟨h, rfl⟩ := h
  subst hl
  subst hy
  intro p l e R s m args below meth c H locs cells slots mc ms D dA ad ad0 n n0 A d0 ls C
  have h0 := sl_has C.2.2.2.1.2.1 C.2.2.2.1.2.2.1 C.2.2.2.1.2.2.2
  have h1 : lv_has ls Y.2.2.1 ((i, .int x) :: sl_l ad lv) := ⟨h0.1, h0.2.1, fun z hz => by
    rcases List.mem_cons.mp hz with rfl | hz
    · exact C.2.2.2.1.2.2.2 _ _ hv
    · exact h0.2.2 z hz⟩
  refine lv_iinc C.1.1 C.1.2.1 h h1 (k := 0) rfl rfl hi rfl (fun ls' g => kk p l e R s m args below meth c H locs cells slots mc ms D dA ad ad0 n n0 A d0 ls' ⟨C.1, C.2.1, C.2.2.1, ⟨C.2.2.2.1.1, sl_st1 (v := .int (x + Int32.ofInt a)) ?_⟩, C.2.2.2.2⟩)
  refine ⟨g.1, g.2.1, fun z hz => g.2.2 z ?_⟩
  rcases List.mem_cons.mp hz with rfl | hz
  · exact List.mem_cons_self
  · refine List.mem_cons_of_mem _ ?_
    rw [List.filter_cons]
    split
    · exact List.mem_cons_of_mem _ hz
    · exact hz
theorem slv_ldc {i : Nat} {v : Int32} (h : sl_D Y pc (.ldc i) 2 q) (w : Cond.constant Y.1.cls i v ∈ sl_g) (kk : sl_V Y X d kc ks Q q lv (.int v :: st) M) : sl_V Y X d kc ks Q pc lv st M := by
  obtain ⟨h, rfl⟩ := h
  intro p l e R s m args below meth c H locs cells slots mc ms D dA ad ad0 n n0 A d0 ls C
  exact lv_ldc C.1.1 C.1.2.1 C.1.2.2.2.2.2.1 (dr_words C.1.2.2.2.2.2.2.1 d0 _ w) h (kk p l e R s m args below meth c H locs cells slots mc ms D dA ad ad0 n n0 A d0 ls C)
theorem slv_ldcw {i : Nat} {v : Int32} (h : sl_D Y pc (.ldc_w i) 3 q) (w : Cond.constant Y.1.cls i v ∈ sl_g) (kk : sl_V Y X d kc ks Q q lv (.int v :: st) M) : sl_V Y X d kc ks Q pc lv st M := by
  obtain ⟨h, rfl⟩ := h
  intro p l e R s m args below meth c H locs cells slots mc ms D dA ad ad0 n n0 A d0 ls C
  exact lv_ldcw C.1.1 C.1.2.1 C.1.2.2.2.2.2.1 (dr_words C.1.2.2.2.2.2.2.1 d0 _ w) h (kk p l e R s m args below meth c H locs cells slots mc ms D dA ad ad0 n n0 A d0 ls C)
theorem slv_ldcf {i : Nat} {v : UInt32} (h : sl_D Y pc (.ldc i) 2 q) (w : Cond.constantFloat Y.1.cls i v ∈ sl_g) (kk : sl_V Y X d kc ks Q q lv (.float v :: st) M) : sl_V Y X d kc ks Q pc lv st M := by
  obtain ⟨h, rfl⟩ := h
  intro p l e R s m args below meth c H locs cells slots mc ms D dA ad ad0 n n0 A d0 ls C
  exact lv_ldcf C.1.1 C.1.2.1 C.1.2.2.2.2.2.1 (dr_words C.1.2.2.2.2.2.2.1 d0 _ w) h (kk p l e R s m args below meth c H locs cells slots mc ms D dA ad ad0 n n0 A d0 ls C)
theorem slv_ldc2 {i : Nat} {v : Int64} (h : sl_D Y pc (.ldc2_w i) 3 q) (w : Cond.constantLong Y.1.cls i v ∈ sl_g) (kk : sl_V Y X d kc ks Q q lv (.long v :: st) M) : sl_V Y X d kc ks Q pc lv st M := by
  obtain ⟨h, rfl⟩ := h
  intro p l e R s m args below meth c H locs cells slots mc ms D dA ad ad0 n n0 A d0 ls C
  exact lv_ldc2 C.1.1 C.1.2.1 C.1.2.2.2.2.2.1 (dr_words C.1.2.2.2.2.2.2.1 d0 _ w) h (kk p l e R s m args below meth c H locs cells slots mc ms D dA ad ad0 n n0 A d0 ls C)
theorem slv_ldc2d {i : Nat} {v : UInt64} (h : sl_D Y pc (.ldc2_w i) 3 q) (w : Cond.constantDouble Y.1.cls i v ∈ sl_g) (kk : sl_V Y X d kc ks Q q lv (.double v :: st) M) : sl_V Y X d kc ks Q pc lv st M := by
  obtain ⟨h, rfl⟩ := h
  intro p l e R s m args below meth c H locs cells slots mc ms D dA ad ad0 n n0 A d0 ls C
  exact lv_ldc2d C.1.1 C.1.2.1 C.1.2.2.2.2.2.1 (dr_words C.1.2.2.2.2.2.2.1 d0 _ w) h (kk p l e R s m args below meth c H locs cells slots mc ms D dA ad ad0 n n0 A d0 ls C)
theorem slv_fadd {x y : UInt32} (h : sl_D Y pc .fadd 1 q) (kk : ∀ r : UInt32, alike32 r (FP.fadd x y) = true → sl_V Y X d kc ks Q q lv (.float r :: st) M) : sl_V Y X d kc ks Q pc lv (.float y :: .float x :: st) M := by
  obtain ⟨h, rfl⟩ := h
  intro p l e R s m args below meth c H locs cells slots mc ms D dA ad ad0 n n0 A d0 ls C
  exact lv_fadd_any C.2.2.2.1.1 lw_bits C.1.1 C.1.2.1 h (fun r d1 hal hd1 => kk r hal p l e R s m args below meth c H locs cells slots mc ms D dA ad ad0 n n0 A d1 ls ⟨C.1, C.2.1, C.2.2.1, ⟨hd1, C.2.2.2.1.2⟩, C.2.2.2.2⟩)
theorem slv_fsub {x y : UInt32} (h : sl_D Y pc .fsub 1 q) (kk : ∀ r : UInt32, alike32 r (FP.fsub x y) = true → sl_V Y X d kc ks Q q lv (.float r :: st) M) : sl_V Y X d kc ks Q pc lv (.float y :: .float x :: st) M := by
  obtain ⟨h, rfl⟩ := h
  intro p l e R s m args below meth c H locs cells slots mc ms D dA ad ad0 n n0 A d0 ls C
  exact lv_fsub_any C.2.2.2.1.1 lw_bits C.1.1 C.1.2.1 h (fun r d1 hal hd1 => kk r hal p l e R s m args below meth c H locs cells slots mc ms D dA ad ad0 n n0 A d1 ls ⟨C.1, C.2.1, C.2.2.1, ⟨hd1, C.2.2.2.1.2⟩, C.2.2.2.2⟩)
theorem slv_fmul {x y : UInt32} (h : sl_D Y pc .fmul 1 q) (kk : ∀ r : UInt32, alike32 r (FP.fmul x y) = true → sl_V Y X d kc ks Q q lv (.float r :: st) M) : sl_V Y X d kc ks Q pc lv (.float y :: .float x :: st) M := by
  obtain ⟨h, rfl⟩ := h
  intro p l e R s m args below meth c H locs cells slots mc ms D dA ad ad0 n n0 A d0 ls C
  exact lv_fmul_any C.2.2.2.1.1 lw_bits C.1.1 C.1.2.1 h (fun r d1 hal hd1 => kk r hal p l e R s m args below meth c H locs cells slots mc ms D dA ad ad0 n n0 A d1 ls ⟨C.1, C.2.1, C.2.2.1, ⟨hd1, C.2.2.2.1.2⟩, C.2.2.2.2⟩)
theorem slv_fdiv {x y : UInt32} (h : sl_D Y pc .fdiv 1 q) (kk : ∀ r : UInt32, alike32 r (FP.fdiv x y) = true → sl_V Y X d kc ks Q q lv (.float r :: st) M) : sl_V Y X d kc ks Q pc lv (.float y :: .float x :: st) M := by
  obtain ⟨h, rfl⟩ := h
  intro p l e R s m args below meth c H locs cells slots mc ms D dA ad ad0 n n0 A d0 ls C
  exact lv_fdiv_any C.2.2.2.1.1 lw_bits C.1.1 C.1.2.1 h (fun r d1 hal hd1 => kk r hal p l e R s m args below meth c H locs cells slots mc ms D dA ad ad0 n n0 A d1 ls ⟨C.1, C.2.1, C.2.2.1, ⟨hd1, C.2.2.2.1.2⟩, C.2.2.2.2⟩)
theorem slv_dadd {x y : UInt64} (h : sl_D Y pc .dadd 1 q) (kk : ∀ r : UInt64, alike64 r (FP.dadd x y) = true → sl_V Y X d kc ks Q q lv (.double r :: st) M) : sl_V Y X d kc ks Q pc lv (.double y :: .double x :: st) M := by
  obtain ⟨h, rfl⟩ := h
  intro p l e R s m args below meth c H locs cells slots mc ms D dA ad ad0 n n0 A d0 ls C
  exact lv_dadd_any C.2.2.2.1.1 lw_bits C.1.1 C.1.2.1 h (fun r d1 hal hd1 => kk r hal p l e R s m args below meth c H locs cells slots mc ms D dA ad ad0 n n0 A d1 ls ⟨C.1, C.2.1, C.2.2.1, ⟨hd1, C.2.2.2.1.2⟩, C.2.2.2.2⟩)
theorem slv_dsub {x y : UInt64} (h : sl_D Y pc .dsub 1 q) (kk : ∀ r : UInt64, alike64 r (FP.dsub x y) = true → sl_V Y X d kc ks Q q lv (.double r :: st) M) : sl_V Y X d kc ks Q pc lv (.double y :: .double x :: st) M := by
  obtain ⟨h, rfl⟩ := h
  intro p l e R s m args below meth c H locs cells slots mc ms D dA ad ad0 n n0 A d0 ls C
  exact lv_dsub_any C.2.2.2.1.1 lw_bits C.1.1 C.1.2.1 h (fun r d1 hal hd1 => kk r hal p l e R s m args below meth c H locs cells slots mc ms D dA ad ad0 n n0 A d1 ls ⟨C.1, C.2.1, C.2.2.1, ⟨hd1, C.2.2.2.1.2⟩, C.2.2.2.2⟩)
theorem slv_dmul {x y : UInt64} (h : sl_D Y pc .dmul 1 q) (kk : ∀ r : UInt64, alike64 r (FP.dmul x y) = true → sl_V Y X d kc ks Q q lv (.double r :: st) M) : sl_V Y X d kc ks Q pc lv (.double y :: .double x :: st) M := by
  obtain ⟨h, rfl⟩ := h
  intro p l e R s m args below meth c H locs cells slots mc ms D dA ad ad0 n n0 A d0 ls C
  exact lv_dmul_any C.2.2.2.1.1 lw_bits C.1.1 C.1.2.1 h (fun r d1 hal hd1 => kk r hal p l e R s m args below meth c H locs cells slots mc ms D dA ad ad0 n n0 A d1 ls ⟨C.1, C.2.1, C.2.2.1, ⟨hd1, C.2.2.2.1.2⟩, C.2.2.2.2⟩)
theorem slv_ddiv {x y : UInt64} (h : sl_D Y pc .ddiv 1 q) (kk : ∀ r : UInt64, alike64 r (FP.ddiv x y) = true → sl_V Y X d kc ks Q q lv (.double r :: st) M) : sl_V Y X d kc ks Q pc lv (.double y :: .double x :: st) M := by
  obtain ⟨h, rfl⟩ := h
  intro p l e R s m args below meth c H locs cells slots mc ms D dA ad ad0 n n0 A d0 ls C
  exact lv_ddiv_any C.2.2.2.1.1 lw_bits C.1.1 C.1.2.1 h (fun r d1 hal hd1 => kk r hal p l e R s m args below meth c H locs cells slots mc ms D dA ad ad0 n n0 A d1 ls ⟨C.1, C.2.1, C.2.2.1, ⟨hd1, C.2.2.2.1.2⟩, C.2.2.2.2⟩)
theorem slv_f2d {x : UInt32} (h : sl_D Y pc .f2d 1 q) (kk : ∀ r : UInt64, alike64 r (FP.f2d x) = true → sl_V Y X d kc ks Q q lv (.double r :: st) M) : sl_V Y X d kc ks Q pc lv (.float x :: st) M := by
  obtain ⟨h, rfl⟩ := h
  intro p l e R s m args below meth c H locs cells slots mc ms D dA ad ad0 n n0 A d0 ls C
  exact lv_f2d_any C.2.2.2.1.1 lw_bits C.1.1 C.1.2.1 h (fun r d1 hal hd1 => kk r hal p l e R s m args below meth c H locs cells slots mc ms D dA ad ad0 n n0 A d1 ls ⟨C.1, C.2.1, C.2.2.1, ⟨hd1, C.2.2.2.1.2⟩, C.2.2.2.2⟩)
theorem slv_d2f {x : UInt64} (h : sl_D Y pc .d2f 1 q) (kk : ∀ r : UInt32, alike32 r (FP.d2f x) = true → sl_V Y X d kc ks Q q lv (.float r :: st) M) : sl_V Y X d kc ks Q pc lv (.double x :: st) M := by
  obtain ⟨h, rfl⟩ := h
  intro p l e R s m args below meth c H locs cells slots mc ms D dA ad ad0 n n0 A d0 ls C
  exact lv_d2f_any C.2.2.2.1.1 lw_bits C.1.1 C.1.2.1 h (fun r d1 hal hd1 => kk r hal p l e R s m args below meth c H locs cells slots mc ms D dA ad ad0 n n0 A d1 ls ⟨C.1, C.2.1, C.2.2.1, ⟨hd1, C.2.2.2.1.2⟩, C.2.2.2.2⟩)
theorem slv_tableIn {dflt lo hi : Int} {offs : Array Int} {len : Nat} {x : Int32} {off : Int} {t : Nat} (h : decode Y.2.1 pc = .ok (.tableswitch dflt lo hi offs, len)) (h1 : ¬ x.toInt < lo) (h2 : ¬ hi < x.toInt) (ho : offs[(x.toInt - lo).toNat]? = some off) (ht : (pc : Int) + off = (t : Int)) (kk : sl_V Y X d kc ks Q t lv st M) : sl_V Y X d kc ks Q pc lv (.int x :: st) M := by
  intro p l e R s m args below meth c H locs cells slots mc ms D dA ad ad0 n n0 A d0 ls C
  exact lv_tableIn C.1.1 C.1.2.1 h h1 h2 ho ht (kk p l e R s m args below meth c H locs cells slots mc ms D dA ad ad0 n n0 A d0 ls C)
theorem slv_tableOut {dflt lo hi : Int} {offs : Array Int} {len : Nat} {x : Int32} {t : Nat} (h : decode Y.2.1 pc = .ok (.tableswitch dflt lo hi offs, len)) (h1 : x.toInt < lo ∨ hi < x.toInt) (ht : (pc : Int) + dflt = (t : Int)) (kk : sl_V Y X d kc ks Q t lv st M) : sl_V Y X d kc ks Q pc lv (.int x :: st) M := by
  intro p l e R s m args below meth c H locs cells slots mc ms D dA ad ad0 n n0 A d0 ls C
  exact lv_tableOut C.1.1 C.1.2.1 h h1 ht (kk p l e R s m args below meth c H locs cells slots mc ms D dA ad ad0 n n0 A d0 ls C)
theorem slv_lookup {dflt : Int} {ps : Array (Int × Int)} {len : Nat} {x : Int32} {off : Int} {t : Nat} (h : decode Y.2.1 pc = .ok (.lookupswitch dflt ps, len)) (hp : (ps.toList.zip (ps.toList.drop 1)).all (fun (a, next) => a.1 < next.1) = true) (ho : Op.lookupswitch.offset ps.toList dflt x.toInt = off) (ht : (pc : Int) + off = (t : Int)) (kk : sl_V Y X d kc ks Q t lv st M) : sl_V Y X d kc ks Q pc lv (.int x :: st) M := by
  intro p l e R s m args below meth c H locs cells slots mc ms D dA ad ad0 n n0 A d0 ls C
  exact lv_lookup C.1.1 C.1.2.1 h hp ho ht (kk p l e R s m args below meth c H locs cells slots mc ms D dA ad ad0 n n0 A d0 ls C)
end SLS

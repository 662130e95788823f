/-! ends, entries, contracts, calls -/
section SLE
variable {Y : sl_Y} {X : Option (Nat × (Nat → Int32))} {d kc ks : Nat} {Q : Option Value → sl_M → Prop} {pc q : Nat} {lv lv' : List (Option Value)} {st : List Value} {M : sl_M}
theorem sl_end {p : Program} {R : Room} {s : State} {m : MethodId} {args : Array Value} {meth : Method} {c : Code} {H : Heap} {locs : List Loc} {cells slots mc ms : Nat} {D : va_G} {dA : FieldType → ClassId} {ad ad0 : Nat → Nat} {n n0 : Nat} {A : Nat → Prop} {d0 : Drawn} {ls : Array Slot} {r : Option Value} {o : Outcome}
    (C : sl_C Y X d kc ks lv M p R s m args meth c H locs cells slots mc ms D dA ad ad0 n n0 A d0 ls) (hQ : Q r M) (ho : o = .returned (r.map (sl_v ad))) {t : State} (ht : t.heap = H) (hW : (s.setDrawn d0).WarmedH t.vm) : sl_Qc D dA ad0 n0 mc A Q args (s.setDrawn d0) o t :=
  ⟨⟨r, M, ad, n, ho, hQ, C.2.2.2.2.1.1, C.2.2.2.2.1.2.1, C.2.2.2.2.1.2.2.1, C.2.2.2.2.1.2.2.2, by rw [ht]; exact C.2.2.1.2.1, va_K.moved hW.alike C.2.2.1.1, C.2.2.1.2.2.1, C.2.2.2.2.2.2.1⟩, va_S.F (s := s.setDrawn d0) C.2.2.1.2.2.2.1 ht⟩
theorem slv_iret {v : Int32} (h : sl_D Y pc .ireturn 1 q) (hr : Y.2.2.2 = some .int) (hQ : Q (some (.int v)) M) : sl_V Y X d kc ks Q pc lv [.int v] M := by
  obtain ⟨h, rfl⟩ := h
  intro p l e R s m args below meth c H locs cells slots mc ms D dA ad ad0 n n0 A d0 ls C
  refine W.widen (k := mc) (n := ms) (by have := C.2.1.2.2.1; omega) (by have := C.2.1.2.2.2.1; omega) ?_
  refine W.endD C.2.2.2.1.1 ?_
  exact W.iret (v := v) C.1.1 C.1.2.1 (C.1.2.2.1.trans hr) (fun t ht hW => sl_end C hQ rfl ht hW) C.2.2.1.2.2.2.1.2.2 h C.1.2.2.2.2.1
theorem slv_zret {v : Int32} {ty : FieldType} (h : sl_D Y pc .ireturn 1 q) (hr : Y.2.2.2 = some ty) (hn : narrow ty (.int v) = .int v) (hQ : Q (some (.int v)) M) : sl_V Y X d kc ks Q pc lv [.int v] M := by
  obtain ⟨h, rfl⟩ := h
  intro p l e R s m args below meth c H locs cells slots mc ms D dA ad ad0 n n0 A d0 ls C
  refine W.widen (k := mc) (n := ms) (by have := C.2.1.2.2.1; omega) (by have := C.2.1.2.2.2.1; omega) ?_
  refine W.endD C.2.2.2.1.1 ?_
  exact W.zret (v := v) C.1.1 C.1.2.1 (C.1.2.2.1.trans hr) hn (fun t ht hW => sl_end C hQ rfl ht hW) C.2.2.1.2.2.2.1.2.2 h C.1.2.2.2.2.1
theorem slv_lret {v : Int64} (h : sl_D Y pc .lreturn 1 q) (hr : Y.2.2.2 = some .long) (hQ : Q (some (.long v)) M) : sl_V Y X d kc ks Q pc lv [.long v] M := by
  obtain ⟨h, rfl⟩ := h
  intro p l e R s m args below meth c H locs cells slots mc ms D dA ad ad0 n n0 A d0 ls C
  refine W.widen (k := mc) (n := ms) (by have := C.2.1.2.2.1; omega) (by have := C.2.1.2.2.2.1; omega) ?_
  refine W.endD C.2.2.2.1.1 ?_
  exact W.lret (v := v) C.1.1 C.1.2.1 (C.1.2.2.1.trans hr) (fun t ht hW => sl_end C hQ rfl ht hW) C.2.2.1.2.2.2.1.2.2 h C.1.2.2.2.2.1
theorem slv_fret {v : UInt32} (h : sl_D Y pc .freturn 1 q) (hr : Y.2.2.2 = some .float) (hQ : Q (some (.float v)) M) : sl_V Y X d kc ks Q pc lv [.float v] M := by
  obtain ⟨h, rfl⟩ := h
  intro p l e R s m args below meth c H locs cells slots mc ms D dA ad ad0 n n0 A d0 ls C
  refine W.widen (k := mc) (n := ms) (by have := C.2.1.2.2.1; omega) (by have := C.2.1.2.2.2.1; omega) ?_
  refine W.endD C.2.2.2.1.1 ?_
  exact W.fret (v := v) C.1.1 C.1.2.1 (C.1.2.2.1.trans hr) (fun t ht hW => sl_end C hQ rfl ht hW) C.2.2.1.2.2.2.1.2.2 h C.1.2.2.2.2.1
theorem slv_aret {a : Nat} {ty : FieldType} (h : sl_D Y pc .areturn 1 q) (hr : Y.2.2.2 = some ty) (hty : (∃ n, ty = .object n) ∨ ∃ t, ty = .array t) (hQ : Q (some (.ref a)) M) : sl_V Y X d kc ks Q pc lv [.ref a] M := by
  obtain ⟨h, rfl⟩ := h
  intro p l e R s m args below meth c H locs cells slots mc ms D dA ad ad0 n n0 A d0 ls C
  refine W.widen (k := mc) (n := ms) (by have := C.2.1.2.2.1; omega) (by have := C.2.1.2.2.2.1; omega) ?_
  refine W.endD C.2.2.2.1.1 ?_
  exact W.aret (v := .ref (ad a)) C.1.1 C.1.2.1 (C.1.2.2.1.trans hr) hty (Or.inr ⟨_, rfl⟩) (fun t ht hW => sl_end C hQ rfl ht hW) C.2.2.1.2.2.2.1.2.2 h C.1.2.2.2.2.1
theorem slv_vret (h : sl_D Y pc .return_ 1 q) (hr : Y.2.2.2 = none) (hQ : Q none M) : sl_V Y X d kc ks Q pc lv [] M := by
  obtain ⟨h, rfl⟩ := h
  intro p l e R s m args below meth c H locs cells slots mc ms D dA ad ad0 n n0 A d0 ls C
  refine W.widen (k := mc) (n := ms) (by have := C.2.1.2.2.1; omega) (by have := C.2.1.2.2.2.1; omega) ?_
  refine W.endD C.2.2.2.1.1 ?_
  exact W.vret C.1.1 C.1.2.1 (C.1.2.2.1.trans hr) (fun t ht hW => sl_end C hQ rfl ht hW) C.2.2.1.2.2.2.1.2.2 h C.1.2.2.2.2.1
end SLE
/-! entry -/
def sl_ea : List Value → List (Option Value)
  | [] => []
  | v :: vs => cond (sl_c2 v) (some v :: none :: sl_ea vs) (some v :: sl_ea vs)
def sl_ent (n : Nat) (As : List Value) : List (Option Value) := sl_ea As ++ List.replicate (n - (sl_ea As).length) none
theorem sl_ea_len (ad : Nat → Nat) (As : List Value) : (lg_sl (As.map (sl_v ad))).length = (sl_ea As).length := by
  induction As with
  | nil => rfl
  | cons v vs ih =>
    have h : lg_sl ((v :: vs).map (sl_v ad)) = (if (sl_v ad v).category = 2 then [.val (sl_v ad v), .second] else [.val (sl_v ad v)]) ++ lg_sl (vs.map (sl_v ad)) := by simp [lg_sl]
    rw [h, sl_v_cat, List.length_append, ih]
    cases hc : sl_c2 v with
    | true =>
      rw [if_pos ((sl_c2_iff v).mp hc)]
      simp [sl_ea, hc]
      omega
    | false =>
      rw [if_neg (fun g => by rw [(sl_c2_iff v).mpr g] at hc; cases hc)]
      simp [sl_ea, hc]
      omega
theorem sl_ea_get (ad : Nat → Nat) (As : List Value) : ∀ (b i : Nat) (v : Value), (sl_ea As)[i]? = some (some v) → (b + i, sl_v ad v) ∈ lv_args b (As.map (sl_v ad)) := by
  induction As with
  | nil => intro b i v h; simp [sl_ea] at h
  | cons w vs ih =>
    intro b i v h
    show (b + i, sl_v ad v) ∈ (b, sl_v ad w) :: lv_args (if (sl_v ad w).category = 2 then b + 2 else b + 1) (vs.map (sl_v ad))
    rw [sl_v_cat]
    cases hc : sl_c2 w with
    | true =>
      rw [if_pos ((sl_c2_iff w).mp hc)]
      have h' : (some w :: none :: sl_ea vs)[i]? = some (some v) := by simpa [sl_ea, hc] using h
      match i, h' with
      | 0, h' =>
        have e : w = v := by simpa using h'
        rw [e]
        exact List.mem_cons_self
      | 1, h' => simp at h'
      | j + 2, h' =>
        have := ih (b + 2) j v (by simpa using h')
        rw [show b + (j + 2) = b + 2 + j by omega]
        exact List.mem_cons_of_mem _ this
    | false =>
      rw [if_neg (fun g => by rw [(sl_c2_iff w).mpr g] at hc; cases hc)]
      have h' : (some w :: sl_ea vs)[i]? = some (some v) := by simpa [sl_ea, hc] using h
      match i, h' with
      | 0, h' =>
        have e : w = v := by simpa using h'
        rw [e]
        exact List.mem_cons_self
      | j + 1, h' =>
        have := ih (b + 1) j v (by simpa using h')
        rw [show b + (j + 1) = b + 1 + j by omega]
        exact List.mem_cons_of_mem _ this
theorem sl_ent_get (ad : Nat → Nat) {n : Nat} {As : List Value} {i : Nat} {v : Value} (h : (sl_ent n As)[i]? = some (some v)) : (i, sl_v ad v) ∈ lv_args 0 (As.map (sl_v ad)) := by
  unfold sl_ent at h
  by_cases hi : i < (sl_ea As).length
  · rw [List.getElem?_append_left hi] at h
    have := sl_ea_get ad As 0 i v h
    rwa [Nat.zero_add] at this
  · rw [List.getElem?_append_right (by omega)] at h
    rw [List.getElem?_replicate] at h
    split at h <;> cases h
/-! contracts -/
def sl_ws (Y : sl_Y) : List Cond := Cond.code Y.1 Y.2.1 Y.2.2.1 Y.2.2.2 :: sl_g
def sl_rm (d mc ms : Nat) : Room := { frames := d, cells := mc, slots := ms, locals := 40 * d }
def sl_Pc (D : va_G) (dA : FieldType → ClassId) (ad : Nat → Nat) (n : Nat) (M : sl_M) (sz : Nat) (As : List Value) : Array Value → State → Prop :=
  va_Pc (As.map (sl_v ad)) (fun U => U.heap.size = sz ∧ va_P D vwCl (sl_w ad dA n M) U.heap ∧ va_K D vwCl (sl_tys dA) U ∧ va_D (fun _ => True) (sl_w ad dA n M) ∧ sl_str ad (va_A (sl_w ad dA n M) sz) U)
/-- METHOD Y, called with As in the store M, room for d frames, mc cells, ms slots: comes back, with Q of the answer and the store -/
def sl_T (Y : sl_Y) (d mc ms : Nat) (Q : Option Value → sl_M → Prop) (As : List Value) (M : sl_M) : Prop :=
  ∀ (l : sl_L) (D : va_G) (dA : FieldType → ClassId) (ad : Nat → Nat) (n sz : Nat), n ≤ sl_X → (∀ k : Nat, n ≤ k → M k = sl_no) →
    MetD lw_cs l Y.1 (sl_ws Y) (sl_rm d mc ms) (sl_Pc D dA ad n M sz As) (sl_Qc D dA ad n mc (va_A (sl_w ad dA n M) sz) Q) mc ms (va_A (sl_w ad dA n M) sz)
theorem sl_T.of_V {Y : sl_Y} {d mc ms : Nat} {Q : Option Value → sl_M → Prop} {As : List Value} {M : sl_M} {lv : List (Option Value)} (hy : plainName Y.1.cls = true) (he : sl_ent Y.2.2.1 As = lv) (hlen : (sl_ea As).length ≤ Y.2.2.1)
    (h : sl_V Y none d mc ms Q 0 lv [] M) : sl_T Y d mc ms Q As M := by
  subst he
  intro l D dA ad n sz hn hno
  refine MetD.ofW (cc := Y.2.1) (maxL := Y.2.2.1) (ret := Y.2.2.2) hy rfl ?_
  intro p e s m args below meth c s₁ B hml hv hd0
  obtain ⟨rfl, hsz, hP, hK, hD0, hstr⟩ := hv
  subst hsz
  have hts := atoms_spec (ws := sl_ws Y) B.pre
  have hown : s.vm.findClass Y.1.cls = some m.cls := findClass_of_methodNamed B.named
  have hl := lv_entry (As.map (sl_v ad)) (n := Y.2.2.1) (by rw [sl_ea_len]; exact hlen)
  rw [lg_entry_eq]
  generalize (lg_sl (As.map (sl_v ad)) ++ List.replicate (Y.2.2.1 - (lg_sl (As.map (sl_v ad))).length) Slot.unset).toArray = ls at hl ⊢
  exact h p l e _ s m _ below meth c s.heap [] 0 0 mc ms D dA ad ad n n _ s.drawn ls
    ⟨⟨B.exec, B.bytes, B.returns, hml, B.notSynchronized, hown, fun w hw => hts w (List.mem_cons_of_mem _ hw), (name_of_methodNamed B.named B.method).1⟩,
     ⟨Nat.le_refl d, Nat.le_refl (40 * d), Nat.zero_add _, Nat.zero_add _, Nat.le_refl mc, Nat.le_refl ms⟩,
     ⟨hK, hP, hD0.self, va_S.rf, fun q g => Or.inr g⟩,
     ⟨hd0, hl.1, hl.2.1, fun i v g => hl.2.2 _ (sl_ent_get ad g)⟩,
     ⟨fun _ _ => rfl, Nat.le_refl n, hn, hno⟩, ⟨hstr, fun _ => ⟨rfl, rfl⟩, fun L xs g => by cases g⟩⟩

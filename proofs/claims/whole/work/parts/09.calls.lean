/-! calls -/
def sl_ret : Option Value → List Value → List Value
  | none, st => st
  | some v, st => v :: st
def sl_MI (Z : sl_Y) : Prop := Cond.code Z.1 Z.2.1 Z.2.2.1 Z.2.2.2 ∈ sl_g ∧ Cond.initialized Z.1.cls ∈ sl_g ∧ Z.2.2.1 ≤ 20 ∧ Z.1.cls ≠ "java/lang/invoke/MethodHandle" ∧ Z.1.cls ≠ "java/lang/invoke/VarHandle"
def sl_LS (own : String) (idx : Nat) (Z : sl_Y) (na : Nat) : Prop := sl_MI Z ∧ Cond.methodLink own idx Z.1 ∈ sl_g ∧ Cond.static Z.1 ∈ sl_g ∧ (parseMethodDescriptor Z.1.desc).map (fun d => d.parameters.length) = some na
def sl_LV (own : String) (idx : Nat) (Z : sl_Y) (na : Nat) : Prop := sl_MI Z ∧ Cond.methodLink own idx Z.1 ∈ sl_g ∧ Cond.instanceMethod Z.1 ∈ sl_g ∧ Cond.selects Z.1.cls Z.1 Z.1 ∈ sl_g ∧ (parseMethodDescriptor Z.1.desc).map (fun d => d.parameters.length) = some na
def sl_LI (own : String) (idx : Nat) (Z : sl_Y) (na : Nat) : Prop := sl_MI Z ∧ Cond.methodLink own idx Z.1 ∈ sl_g ∧ Cond.instanceMethod Z.1 ∈ sl_g ∧ Z.1.name = "<init>" ∧ Z.2.2.2 = none ∧ (parseMethodDescriptor Z.1.desc).map (fun d => d.parameters.length) = some na
def sl_LN (own : String) (idx : Nat) (Z : sl_Y) (host : String) (na : Nat) : Prop := sl_MI Z ∧ (own, idx, Z.1, host) ∈ sl_nest ∧ Cond.instanceMethod Z.1 ∈ sl_g ∧ Z.1.name = "<init>" ∧ Z.2.2.2 = none ∧ (parseMethodDescriptor Z.1.desc).map (fun d => d.parameters.length) = some na
theorem sl_good {Z : sl_Y} (h : sl_MI Z) : GoodIn sl_g (sl_ws Z) := by
  intro w hw
  rcases List.mem_cons.mp hw with rfl | hw
  · exact ⟨h.1, sl_gg _ h.1⟩
  · exact ⟨hw, sl_gg _ hw⟩
theorem sl_str.narrow {ad : Nat → Nat} {A B : Nat → Prop} {s U : State} {H : Heap} (h : sl_str ad A s) (hH : ∀ a : Nat, a < s.heap.size → ¬ A a → H[a]? = s.heap[a]?) (hU : U.heap = H) (hW : s.WarmedH U.vm) (hAB : ∀ q, B q → A q) : sl_str ad B U := by
  obtain ⟨h1, h2, h3, h4, h5, h6⟩ := h
  refine ⟨?_, fun q hq => (h2 q hq).warm hW, ?_, ?_, fun q hq => (h5 q hq).warmM hW, h6.narrow hH hU hW hAB⟩
  · rw [hU]
    exact ((h1.kept hH).narrow hAB).moved hW.alike
  · rw [hU]
    exact ((h3.kept hH).narrow hAB).moved hW.alike
  · rw [hU]
    exact ((h4.kept hH).narrow hAB).moved hW.alike
theorem sl_blind {D : va_G} {dA : FieldType → ClassId} {ad : Nat → Nat} {n : Nat} {M : sl_M} {sz : Nat} {As : List Value} : FrameBlind (sl_Pc D dA ad n M sz As) := by
  intro a U g mk h
  obtain ⟨q0, q1, qP, qK, qD, qs⟩ := h
  refine ⟨q0, q1, qP, va_K.moved (u := U) (U := U.calling g mk a) (Vm.Alike.refl U.vm) qK, qD, ?_⟩
  obtain ⟨h1, h2, h3, h4, h5, h6⟩ := qs
  exact ⟨h1.moved (Vm.Alike.refl U.vm), fun q hq => (h2 q hq).same rfl, h3.moved (Vm.Alike.refl U.vm), h4.moved (Vm.Alike.refl U.vm), fun q hq => (h5 q hq).same rfl rfl, h6.same rfl rfl⟩
section SLK
variable {Y : sl_Y} {X : Option (Nat × (Nat → Int32))} {d kc ks : Nat} {Q : Option Value → sl_M → Prop} {pc q : Nat} {lv lv' : List (Option Value)} {st : List Value} {M : sl_M}
variable {p : Program} {l : sl_L} {e : Env} {R : Room} {s : State} {m : MethodId} {args : Array Value} {below : List Frame} {meth : Method} {c : Code} {H : Heap} {locs : List Loc} {cells slots mc ms : Nat} {D : va_G} {dA : FieldType → ClassId} {ad ad0 : Nat → Nat} {n n0 : Nat} {A : Nat → Prop} {d0 : Drawn} {ls : Array Slot}
/-- the callee's own cells lie among the caller's -/
theorem sl_sub (C : sl_C Y X d kc ks lv M p R s m args meth c H locs cells slots mc ms D dA ad ad0 n n0 A d0 ls) : ∀ x : Nat, va_A (sl_w ad dA n M) H.size x → A x := by
  intro x hx
  rcases hx with ⟨k, w, hk⟩ | hx
  · exact C.2.2.1.2.2.1.2 k _ hk
  · exact C.2.2.1.2.2.2.2 x (Nat.le_trans C.2.2.1.2.2.2.1.1 hx)
theorem sl_pre (C : sl_C Y X d kc ks lv M p R s m args meth c H locs cells slots mc ms D dA ad ad0 n n0 A d0 ls) (As : List Value) : ∀ U : State, U.heap = H → (s.setDrawn d0).WarmedH U.vm → sl_Pc D dA ad n M H.size As (As.map (sl_v ad)).toArray U := by
  intro U hU hW
  exact ⟨rfl, by rw [hU], by rw [hU]; exact C.2.2.1.2.1, va_K.moved hW.alike C.2.2.1.1, C.2.2.1.2.2.1.weaken (fun _ _ _ _ => trivial), C.2.2.2.2.2.1.narrow C.2.2.1.2.2.2.1.2.1 hU hW (sl_sub C)⟩
theorem sl_back {Q' : Option Value → sl_M → Prop} {mc' ms' kc' ks' : Nat} {a : Array Value} {st0 : List Value} (C : sl_C Y X d kc ks lv M p R s m args meth c H locs cells slots mc ms D dA ad ad0 n n0 A d0 ls)
    (hr : va_RunD lw_cs p l e R (s.setDrawn d0) m args below meth c H locs cells slots mc' ms' (F0 m pc ls st0) (st.map (sl_v ad)) (sl_Qc D dA ad n mc' (va_A (sl_w ad dA n M) H.size) Q' a) (va_A (sl_w ad dA n M) H.size))
    (hk : kc = mc' + kc') (hs : ks = ms' + ks') (hval : mc' = 0 ∨ ((∀ k : Nat, Value.ref k ∈ st → M k ≠ sl_no ∨ sl_X ≤ k) ∧ ∀ i k : Nat, lv[i]? = some (some (.ref k)) → M k ≠ sl_no ∨ sl_X ≤ k))
    (kk : ∀ (r : Option Value) (M' : sl_M), Q' r M' → sl_V Y X d kc' ks' Q (pc + 3) lv (sl_ret r st) M') :
    W p l e R (s.setDrawn d0) m args below meth c H locs cells slots (MQD lw_cs below (sl_Qc D dA ad0 n0 mc A Q) args s mc ms A) (F0 m pc ls st0) := by
  intro T hT X0
  obtain ⟨v, st₀, t, T', L, d', hd', h0, X', hL, e1, e2, ⟨⟨r, M1, ad1, n1, hv, hq, had, hn1, hnX, hno, hP1, hK1, hD1, hz0⟩, hz, hk1⟩, stp⟩ := hr T hT X0
  have hv2 : v = r.map (sl_v ad1) := by cases hv; rfl
  subst hv2
  rw [h0] at hz hk1
  have hsub := sl_sub C
  -- what was held before is held at the same addresses
  have hsame : ∀ k : Nat, (M k ≠ sl_no ∨ sl_X ≤ k) → ad1 k = ad k := fun k g => had k (g.elim (fun g => Or.inl (sl_lt C.2.2.2.2.1.2.2.2 g)) Or.inr)
  have hst : st.map (sl_v ad1) = st.map (sl_v ad) := by
    rcases hval with g | g
    · rw [(hz0 g).1]
    · apply List.map_congr_left
      intro v hv
      cases v <;> first | rfl | (show Value.ref _ = Value.ref _; rw [hsame _ (g.1 _ hv)])
  have hlv : ∀ (i : Nat) (v : Value), lv[i]? = some (some v) → ls[i]? = some (.val (sl_v ad1 v)) := by
    intro i v hv
    have h1 := C.2.2.2.1.2.2.2 i v hv
    rcases hval with g | g
    · rw [(hz0 g).1]; exact h1
    · cases v <;> first | exact h1 | (show _ = some (Slot.val (Value.ref _)); rw [hsame _ (g.2 i _ hv)]; exact h1)
  have hstr : sl_str ad1 A s := by
    have e : ∀ k : Nat, sl_X ≤ k → ad1 k = ad k := fun k g => had k (Or.inr g)
    obtain ⟨h1, h2, h3, h4, h5, h6⟩ := C.2.2.2.2.2.1
    refine ⟨?_, fun q hq => ?_, h3, h4, h5, h6⟩
    · rw [show (fun j => ad1 (sl_X + 2 * j)) = fun j => ad (sl_X + 2 * j) from funext fun j => e _ (Nat.le_add_right _ _), show (fun j => ad1 (sl_X + 2 * j + 1)) = fun j => ad (sl_X + 2 * j + 1) from funext fun j => e _ (Nat.le_trans (Nat.le_add_right sl_X (2 * j)) (Nat.le_add_right _ _))]
      exact h1
    · rw [e _ (Nat.le_add_right _ _)]; exact h2 q hq
  have C' : sl_C Y X d kc' ks' lv M1 p R s m args meth c T'.heap (locs ++ L) (cells + mc') (slots + ms') mc ms D dA ad1 ad0 n1 n0 A d' ls := by
    obtain ⟨c1, c2, c3, c4, c5, c6⟩ := id C
    refine ⟨c1, ⟨c2.1, c2.2.1, by have := c2.2.2.1; omega, by have := c2.2.2.2.1; omega, c2.2.2.2.2⟩, ⟨c3.1, by rw [e1]; exact hP1, hD1.weaken (fun i z h g => hsub _ g), ?_, c3.2.2.2.2⟩, ⟨?_, c4.2.1, c4.2.2.1, hlv⟩, ⟨fun k g => ?_, Nat.le_trans c5.2.1 hn1, hnX, hno⟩, hstr, fun g => ?_, fun L xs g => ?_⟩
    · refine ⟨Nat.le_trans c3.2.2.2.1.1 (by rw [e1]; exact hz), fun x h1 h2 => ?_, fun x hx => ?_⟩
      · rw [e1, hk1 x (Nat.lt_of_lt_of_le h1 c3.2.2.2.1.1) (fun z => h2 (hsub x z))]
        exact c3.2.2.2.1.2.1 x h1 h2
      · rcases List.mem_append.mp hx with h | h
        · exact c3.2.2.2.1.2.2 x h
        · exact hsub _ (hL x h)
    · exact c4.1.trans hd'
    · rw [had k (g.elim (fun g => Or.inl (Nat.lt_of_lt_of_le g c5.2.1)) Or.inr)]
      exact c5.1 k g
    · have g1 : mc' = 0 := by have := c2.2.2.1; omega
      exact ⟨(hz0 g1).1.trans (c6.2.1 g).1, (hz0 g1).2.trans (c6.2.1 g).2⟩
    · rw [had (sl_X + 500) (Or.inr (Nat.le_add_right _ _))]
      exact c6.2.2 L xs g
  obtain ⟨t2, a1, b1⟩ := kk r M1 hq p l e R s m args below meth c T'.heap (locs ++ L) (cells + mc') (slots + ms') mc ms D dA ad1 ad0 n1 n0 A d' ls C' T' rfl X'
  refine ⟨t2, stp t2 ?_, b1⟩
  have e3 : (sl_ret r st).map (sl_v ad1) = (r.map (sl_v ad1)).toList ++ st.map (sl_v ad) := by
    rw [← hst]
    cases r <;> rfl
  rw [e3] at a1
  exact a1
end SLK
section SLN
variable {Y Z : sl_Y} {X : Option (Nat × (Nat → Int32))} {d dd kc ks kc' ks' mc' ms' na idx a : Nat} {Q Q' : Option Value → sl_M → Prop} {pc q : Nat} {lv : List (Option Value)} {st st0 As : List Value} {M : sl_M} {host : String}
/-- a static method by its contract -/
theorem slv_callS (h : sl_D Y pc (.invokestatic idx) 3 q) (L : sl_LS Y.1.cls idx Z na) (hst : st0 = As.reverse ++ st) (hl : As.length = na) (hT : sl_T Z dd mc' ms' Q' As M) (hd : dd + 1 ≤ d) (h8 : (st.map fun v => v.category).sum ≤ 8) (hk : kc = mc' + kc') (hs : ks = ms' + ks')
    (hval : mc' = 0 ∨ ((∀ k : Nat, Value.ref k ∈ st → M k ≠ sl_no ∨ sl_X ≤ k) ∧ ∀ i k : Nat, lv[i]? = some (some (.ref k)) → M k ≠ sl_no ∨ sl_X ≤ k)) (kk : ∀ (r : Option Value) (M' : sl_M), Q' r M' → sl_V Y X d kc' ks' Q q lv (sl_ret r st) M') : sl_V Y X d kc ks Q pc lv st0 M := by
  obtain ⟨h, rfl⟩ := h
  subst hst
  obtain ⟨hI, l1, l2, l3⟩ := L
  intro p l e R s m args below meth c H locs cells slots mc ms D dA ad ad0 n n0 A d0 ls C
  have hts := dr_words C.1.2.2.2.2.2.2.1 d0
  refine sl_back C (va_runS_D (As := As.map (sl_v ad)) (rest := st.map (sl_v ad)) (n := na) ⟨C.1.1, C.1.2.1, C.1.2.2.2.1, C.1.2.2.2.2.2.1, hts⟩ (hT l D dA ad n H.size C.2.2.2.2.1.2.2.1 C.2.2.2.2.1.2.2.2) ⟨callB_of (ws' := sl_g) na hts (sl_good hI) rfl rfl rfl (hts _ hI.2.1) (hts _ l1) ⟨hI.2.2.2.1, hI.2.2.2.2, l3⟩ ?_, hts _ l2⟩ ⟨sl_blind, sl_pre C As⟩ rfl (by simpa using hl) C.2.2.2.1.2.1 (by simp) (by rw [sl_cats]; exact lv_room h8) h ?_) hk hs hval kk
  · have h1 := C.2.1.1; have h2 := C.2.1.2.1; have h3 := hI.2.2.1
    refine ⟨Nat.le_trans hd h1, ?_⟩
    show 8 + (Z.2.2.1 + 11) + 40 * dd ≤ R.locals
    omega
  · have h1 := C.2.1.2.2
    omega
/-- an instance method by its contract -/
theorem slv_callV {ci : Nat} {fs : List Value} {T : u_T} {N : Nat} (h : sl_D Y pc (.invokevirtual idx) 3 q) (L : sl_LV Y.1.cls idx Z na) (hst : st0 = As.reverse ++ .ref a :: st) (hl : As.length = na) (hM : M a = .inr (ci, fs)) (hc : vwCl[ci]? = some (Z.1.cls, T, N)) (hT : sl_T Z dd mc' ms' Q' (.ref a :: As) M) (hd : dd + 1 ≤ d) (h8 : (st.map fun v => v.category).sum ≤ 8) (hk : kc = mc' + kc') (hs : ks = ms' + ks')
    (hval : mc' = 0 ∨ ((∀ k : Nat, Value.ref k ∈ st → M k ≠ sl_no ∨ sl_X ≤ k) ∧ ∀ i k : Nat, lv[i]? = some (some (.ref k)) → M k ≠ sl_no ∨ sl_X ≤ k)) (kk : ∀ (r : Option Value) (M' : sl_M), Q' r M' → sl_V Y X d kc' ks' Q q lv (sl_ret r st) M') : sl_V Y X d kc ks Q pc lv st0 M := by
  obtain ⟨h, rfl⟩ := h
  subst hst
  obtain ⟨hI, l1, l2, l3, l4⟩ := L
  intro p l e R s m args below meth c H locs cells slots mc ms D dA ad ad0 n n0 A d0 ls C
  have hts := dr_words C.1.2.2.2.2.2.2.1 d0
  have ha : a < n := sl_lt C.2.2.2.2.1.2.2.2 (by rw [hM]; exact sl_in_r hc)
  refine sl_back C (va_runV_D (C := Z.1.cls) (b := ad a) (As := As.map (sl_v ad)) (rest := st.map (sl_v ad)) (n := na) ⟨C.1.1, C.1.2.1, C.1.2.2.2.1, C.1.2.2.2.2.2.1, hts⟩ (hT l D dA ad n H.size C.2.2.2.2.1.2.2.1 C.2.2.2.2.1.2.2.2) ⟨callB_of (ws' := sl_g) na hts (sl_good hI) rfl rfl rfl (hts _ hI.2.1) (hts _ l1) ⟨hI.2.2.2.1, hI.2.2.2.2, l4⟩ ?_, hts _ l2, hts _ l3⟩ ⟨sl_blind, va_recv C.2.2.1.1 C.2.2.1.2.1 hc (sl_w_get ha hM), sl_pre C (.ref a :: As)⟩ rfl (by simpa using hl) C.2.2.2.1.2.1 (by simp [sl_v]) (by rw [sl_cats]; exact lv_room h8) h ?_) hk hs hval kk
  · have h1 := C.2.1.1; have h2 := C.2.1.2.1; have h3 := hI.2.2.1
    refine ⟨Nat.le_trans hd h1, ?_⟩
    show 8 + (Z.2.2.1 + 11) + 40 * dd ≤ R.locals
    omega
  · have h1 := C.2.1.2.2
    omega
/-- a constructor by its contract -/
theorem slv_callI (h : sl_D Y pc (.invokespecial idx) 3 q) (L : sl_LI Y.1.cls idx Z na) (hst : st0 = As.reverse ++ .ref a :: st) (hl : As.length = na) (hT : sl_T Z dd mc' ms' Q' (.ref a :: As) M) (hd : dd + 1 ≤ d) (h8 : (st.map fun v => v.category).sum ≤ 8) (hk : kc = mc' + kc') (hs : ks = ms' + ks')
    (hval : mc' = 0 ∨ ((∀ k : Nat, Value.ref k ∈ st → M k ≠ sl_no ∨ sl_X ≤ k) ∧ ∀ i k : Nat, lv[i]? = some (some (.ref k)) → M k ≠ sl_no ∨ sl_X ≤ k)) (kk : ∀ (r : Option Value) (M' : sl_M), Q' r M' → sl_V Y X d kc' ks' Q q lv (sl_ret r st) M') : sl_V Y X d kc ks Q pc lv st0 M := by
  obtain ⟨h, rfl⟩ := h
  subst hst
  obtain ⟨hI, l1, l2, l3, l4, l5⟩ := L
  intro p l e R s m args below meth c H locs cells slots mc ms D dA ad ad0 n n0 A d0 ls C
  have hts := dr_words C.1.2.2.2.2.2.2.1 d0
  refine sl_back C (va_runI_D (b := ad a) (As := As.map (sl_v ad)) (rest := st.map (sl_v ad)) (n := na) (bytes := Z.2.1) (maxL := Z.2.2.1) ⟨C.1.1, C.1.2.1, C.1.2.2.2.1, C.1.2.2.2.2.2.1, hts⟩ (hT l D dA ad n H.size C.2.2.2.2.1.2.2.1 C.2.2.2.2.1.2.2.2) ⟨callB_of (ws' := sl_g) na hts (sl_good hI) (by rw [← l4]; rfl) rfl rfl (hts _ hI.2.1) (hts _ l1) ⟨hI.2.2.2.1, hI.2.2.2.2, l5⟩ ?_, l3, hts _ l2⟩ ⟨sl_blind, sl_pre C (.ref a :: As)⟩ rfl (by simpa using hl) C.2.2.2.1.2.1 (by simp [sl_v]) (by rw [sl_cats]; exact lv_room h8) h ?_) hk hs hval kk
  · have h1 := C.2.1.1; have h2 := C.2.1.2.1; have h3 := hI.2.2.1
    refine ⟨Nat.le_trans hd h1, ?_⟩
    show 8 + (Z.2.2.1 + 11) + 40 * dd ≤ R.locals
    omega
  · have h1 := C.2.1.2.2
    omega
end SLN

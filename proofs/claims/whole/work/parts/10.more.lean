/-! made cells, natives, calls walked through -/
def sl_okb (n : Nat) : sl_E → Bool
  | .inl _ => true
  | .inr q => q.2.all fun v => !(v == .ref n)
def sl_na (ad : Nat → Nat) (n a : Nat) : Nat → Nat := fun k => if k = n then a else ad k
theorem sl_v_na {ad : Nat → Nat} {n a : Nat} {v : Value} (h : v ≠ .ref n) : sl_v (sl_na ad n a) v = sl_v ad v := by
  cases v <;> first | rfl | (rename_i k; show Value.ref (sl_na ad n a k) = Value.ref (ad k); rw [sl_na, if_neg (fun e => h (by rw [e]))])
theorem sl_c_na {ad : Nat → Nat} {dA : FieldType → ClassId} {n a : Nat} {x : sl_E} (h : sl_okb n x = true) : sl_c (sl_na ad n a) dA x = sl_c ad dA x := by
  cases x with
  | inl q => rfl
  | inr q =>
    show Sum.inr _ = Sum.inr _
    congr 2
    apply List.map_congr_left
    intro v hv
    apply sl_v_na
    have := List.all_eq_true.mp h v hv
    intro e
    simp [e] at this
theorem sl_w_push {ad : Nat → Nat} {dA : FieldType → ClassId} {n a : Nat} {M : sl_M} {x : sl_E} {x' : va_E} (h : ∀ k, k < n → sl_okb n (M k) = true) (hx : x' = sl_c (sl_na ad n a) dA x) : sl_w ad dA n M ++ [(a, x')] = sl_w (sl_na ad n a) dA (n + 1) (sl_up M n x) := by
  subst hx
  unfold sl_w
  rw [List.range_succ, List.map_append]
  congr 1
  · apply List.map_congr_left
    intro k hk
    have hk := List.mem_range.mp hk
    have e : ¬ k = n := by omega
    rw [show sl_up M n x k = M k by simp [sl_up, e], sl_c_na (h k hk), show sl_na ad n a k = ad k by simp [sl_na, e]]
  · simp [sl_na, sl_up]
section SLM
variable {Y Z : sl_Y} {X : Option (Nat × (Nat → Int32))} {d dd kc ks kc' ks' mc' ms' na idx a : Nat} {Q Q' : Option Value → sl_M → Prop} {pc q : Nat} {lv lv1 : List (Option Value)} {st st0 As : List Value} {M : sl_M} {host : String}
/-- the context over a store with one more cell at nn -/
theorem sl_grow {p : Program} {R : Room} {s : State} {m : MethodId} {args : Array Value} {meth : Method} {c : Code} {H H1 : Heap} {locs : List Loc} {cells slots mc ms : Nat} {D : va_G} {dA : FieldType → ClassId} {ad ad0 : Nat → Nat} {n n0 : Nat} {A : Nat → Prop} {d0 : Drawn} {ls : Array Slot} {N : Nat} {x : sl_E} {a : Nat}
    (C : sl_C Y X d (kc + 1) (ks + N) lv M p R s m args meth c H locs cells slots mc ms D dA ad ad0 n n0 A d0 ls) (hn : n < sl_X) (hlv : ∀ i : Nat, lv[i]? ≠ some (some (.ref n)))
    (hP : va_P D vwCl (sl_w (sl_na ad n a) dA (n + 1) (sl_up M n x)) H1) (hD : va_D A (sl_w (sl_na ad n a) dA (n + 1) (sl_up M n x))) (hS : va_S A s.heap H1 locs) :
    sl_C Y X d kc ks lv (sl_up M n x) p R s m args meth c H1 locs (cells + 1) (slots + N) mc ms D dA (sl_na ad n a) ad0 (n + 1) n0 A d0 ls := by
  obtain ⟨c1, c2, c3, c4, c5, c6⟩ := C
  have e : ∀ k : Nat, k < n ∨ sl_X ≤ k → sl_na ad n a k = ad k := fun k g => by
    have : ¬ k = n := by omega
    simp [sl_na, this]
  refine ⟨c1, ⟨c2.1, c2.2.1, by have := c2.2.2.1; omega, by have := c2.2.2.2.1; omega, c2.2.2.2.2⟩, ⟨c3.1, hP, hD, hS, c3.2.2.2.2⟩, ⟨c4.1, c4.2.1, c4.2.2.1, fun i v g => ?_⟩, ⟨fun k g => ?_, by have := c5.2.1; omega, by omega, fun k g => ?_⟩, ?_, fun g => ?_, fun L xs g => ?_⟩
  · rw [sl_v_na (fun z => hlv i (by rw [← z]; exact g))]
    exact c4.2.2.2 i v g
  · have h1 := c5.2.1
    rw [e k (by omega)]
    exact c5.1 k g
  · have : ¬ k = n := by omega
    simp [sl_up, this, c5.2.2.2 k (by omega)]
  · obtain ⟨h1, h2, h3, h4, h5⟩ := c6.1
    refine ⟨?_, fun q hq => ?_, h3, h4, h5⟩
    · rw [show (fun j => sl_na ad n a (sl_X + 2 * j)) = fun j => ad (sl_X + 2 * j) from funext fun j => e _ (Or.inr (Nat.le_add_right _ _)), show (fun j => sl_na ad n a (sl_X + 2 * j + 1)) = fun j => ad (sl_X + 2 * j + 1) from funext fun j => e _ (Or.inr (Nat.le_trans (Nat.le_add_right sl_X (2 * j)) (Nat.le_add_right _ _)))]
      exact h1
    · rw [e _ (Or.inr (Nat.le_add_right _ _))]; exact h2 q hq
  · have := c2.2.2.1; omega
  · rw [e (sl_X + 500) (Or.inr (Nat.le_add_right _ _))]
    exact c6.2.2 L xs g
/-- how many cells there are, by the store alone -/
theorem sl_cnt {D : va_G} {dA : FieldType → ClassId} {ad : Nat → Nat} {n nn : Nat} {H : Heap} (hP : va_P D vwCl (sl_w ad dA n M) H) (hno : ∀ k : Nat, n ≤ k → M k = sl_no) (h1 : ∀ k : Nat, nn ≤ k → M k = sl_no) (h2 : nn = 0 ∨ M (nn - 1) ≠ sl_no) : n = nn := by
  rcases Nat.lt_trichotomy n nn with g | g | g
  · rcases h2 with h2 | h2
    · omega
    · exact absurd (hno (nn - 1) (by omega)) h2
  · exact g
  · exfalso
    have h := hP nn _ (sl_w_get g (h1 nn (Nat.le_refl _)))
    obtain ⟨r, hr, -⟩ := h
    simp [vwCl] at hr
def sl_LC (own : String) (idx ci : Nat) (N : Nat) (fs : List Value) : Prop := ∃ (C : String) (T : u_T) (tf : Nat → FieldType), sl_CL ci C T N tf ∧ Cond.classLink own idx C ∈ sl_g ∧ Cond.instantiable C N ∈ sl_g ∧ Cond.initialized C ∈ sl_g ∧ (∀ j, j < N → defaultValue (tf j) = vp_V fs j) ∧ ∀ v ∈ fs, ∀ k, v ≠ .ref k
theorem slv_new {nn ci N : Nat} {fs : List Value} (h : sl_D Y pc (.new idx) 3 q) (L : sl_LC Y.1.cls idx ci N fs) (h1 : ∀ k : Nat, nn ≤ k → M k = sl_no) (h2 : nn = 0 ∨ M (nn - 1) ≠ sl_no) (hX : nn < sl_X) (hok : ∀ k, k < nn → sl_okb nn (M k) = true) (hst : ∀ v ∈ st, v ≠ .ref nn) (hlv : ∀ i : Nat, lv[i]? ≠ some (some (.ref nn))) (hk : kc = kc' + 1) (hs : ks = ks' + N)
    (kk : sl_V Y X d kc' ks' Q q lv (.ref nn :: st) (sl_up M nn (.inr (ci, fs)))) : sl_V Y X d kc ks Q pc lv st M := by
  obtain ⟨h, rfl⟩ := h
  subst hk hs
  obtain ⟨Cn, T, tf, hCL, l1, l2, l3, l4, l5⟩ := L
  intro p l e R s m args below meth c H locs cells slots mc ms D dA ad ad0 n n0 A d0 ls C
  have hn := sl_cnt C.2.2.1.2.1 C.2.2.2.2.1.2.2.2 h1 h2
  subst hn
  have hts := dr_words C.1.2.2.2.2.2.2.1 d0
  refine va_new (s := s.setDrawn d0) (D := D) (ci := ci) (fs := fs) (C := Cn) (T := T) (N := N) C.1.1 C.1.2.1 hts hCL.2.1 tf hCL.2.2.1 C.1.2.2.2.2.2.1 (hts _ l1) (hts _ l2) (hts _ l3) C.2.2.1.1 C.2.2.1.2.1 C.2.2.1.2.2.1 C.2.2.1.2.2.2.1 C.2.2.1.2.2.2.2 hCL.1 l4 ?_ ?_ h (fun b H1 hP hD hS => ?_)
  · have h1 := C.2.1.2.2; omega
  · have h1 := C.2.1.2.2; omega
  · have hx : (Sum.inr (ci, fs) : va_E) = sl_c (sl_na ad n b) dA (.inr (ci, fs)) := by
      show Sum.inr _ = Sum.inr _
      congr 2
      conv => lhs; rw [← List.map_id fs]
      apply List.map_congr_left
      intro v hv
      have := l5 v hv
      cases v <;> first | rfl | exact absurd rfl (this _)
    rw [sl_w_push hok hx] at hP hD
    have e2 : (Value.ref b :: st.map (sl_v ad)) = (Value.ref n :: st).map (sl_v (sl_na ad n b)) := by
      show _ = Value.ref (sl_na ad n b n) :: _
      rw [show sl_na ad n b n = b by simp [sl_na]]
      congr 1
      apply List.map_congr_left
      intro v hv
      exact (sl_v_na (hst v hv)).symm
    rw [e2]
    exact kk p l e R s m args below meth c H1 locs (cells + 1) (slots + N) mc ms D dA (sl_na ad n b) ad0 (n + 1) n0 A d0 ls (sl_grow C hX hlv hP hD hS)
theorem slv_newa {nn t : Nat} {at_ : ArrayType} {ty : FieldType} {x : Int32} {a0 : vp_A} (h : sl_D Y pc (.newarray at_) 2 q) (hty : newarray.typeOf at_ = ty) (ht : sl_ti ty = some t) (w : Cond.arrayClass ty ∈ sl_g) (ha : ∀ cA : ClassId, vp_cell cA a0 = arrV cA a0.1 (fun _ => defaultValue ty)) (hx : ¬ x < 0) (hN : x.toNatClampNeg = a0.1) (hb : a0.1 * componentBytes ty ≤ 536870912)
    (h1 : ∀ k : Nat, nn ≤ k → M k = sl_no) (h2 : nn = 0 ∨ M (nn - 1) ≠ sl_no) (hX : nn < sl_X) (hok : ∀ k, k < nn → sl_okb nn (M k) = true) (hst : ∀ v ∈ st, v ≠ .ref nn) (hlv : ∀ i : Nat, lv[i]? ≠ some (some (.ref nn))) (hk : kc = kc' + 1) (hs : ks = ks' + a0.1)
    (kk : sl_V Y X d kc' ks' Q q lv (.ref nn :: st) (sl_up M nn (.inl (ty, a0)))) : sl_V Y X d kc ks Q pc lv (.int x :: st) M := by
  obtain ⟨h, rfl⟩ := h
  subst hk hs
  intro p l e R s m args below meth c H locs cells slots mc ms D dA ad ad0 n n0 A d0 ls C
  have hn := sl_cnt C.2.2.1.2.1 C.2.2.2.2.1.2.2.2 h1 h2
  subst hn
  have hts := dr_words C.1.2.2.2.2.2.2.1 d0
  refine va_newa (s := s.setDrawn d0) (D := D) C.1.1 C.1.2.1 (by rw [hty]; exact hts _ w) hty C.2.2.1.1 C.2.2.1.2.1 C.2.2.1.2.2.1 C.2.2.1.2.2.2.1 C.2.2.1.2.2.2.2 (a0 := a0) ha hx hN hb ?_ ?_ h (fun b cA H1 hK hP hD hS => ?_)
  · have h1 := C.2.1.2.2; omega
  · have h1 := C.2.1.2.2; omega
  · have ht1 := sl_ti_get ht dA
    have hA1 : va_RA (s.setDrawn d0) (dA ty) ty := (C.2.2.1.1.2 t _ ht1).2
    have hA2 : va_RA (s.setDrawn d0) cA ty := (hK.2 4 (cA, ty) (by simp [sl_tys])).2
    have hcA : cA = dA ty := by
      cases ty <;> first | exact Option.some.inj (Eq.trans (Eq.symm hA2) hA1) | (cases ht; done)
    rw [hcA] at hP hD
    have hx : (Sum.inl (dA ty, a0) : va_E) = sl_c (sl_na ad n b) dA (.inl (ty, a0)) := rfl
    rw [sl_w_push hok hx] at hP hD
    have e2 : (Value.ref b :: st.map (sl_v ad)) = (Value.ref n :: st).map (sl_v (sl_na ad n b)) := by
      show _ = Value.ref (sl_na ad n b n) :: _
      rw [show sl_na ad n b n = b by simp [sl_na]]
      congr 1
      apply List.map_congr_left
      intro v hv
      exact (sl_v_na (hst v hv)).symm
    rw [e2]
    exact kk p l e R s m args below meth c H1 locs (cells + 1) (slots + a0.1) mc ms D dA (sl_na ad n b) ad0 (n + 1) n0 A d0 ls (sl_grow C hX hlv hP hD hS)
theorem slv_objInit (h : sl_D Y pc (.invokespecial idx) 3 q) (w1 : Cond.methodLink Y.1.cls idx Lib.objectInit ∈ sl_g) (w2 : Cond.instanceMethod Lib.objectInit ∈ sl_g) (w3 : Cond.code Lib.objectInit ⟨#[0xb1]⟩ 1 none ∈ sl_g) (hd : 1 ≤ d) (h8 : (st.map fun v => v.category).sum ≤ 8) (kk : sl_V Y X d kc ks Q q lv st M) : sl_V Y X d kc ks Q pc lv (.ref a :: st) M := by
  obtain ⟨h, rfl⟩ := h
  intro p l e R s m args below meth c H locs cells slots mc ms D dA ad ad0 n n0 A d0 ls C
  have hts := dr_words C.1.2.2.2.2.2.2.1 d0
  refine W.objInit (s := s.setDrawn d0) (g := F0 m pc ls ((Value.ref a :: st).map (sl_v ad))) C.1.1 C.1.2.1 C.1.2.2.2.2.2.1 (hts _ w1) (hts _ w2) (hts _ w3) rfl (C.2.2.2.1.2.1.trans C.1.2.2.2.1.symm) rfl h (Nat.le_trans hd C.2.1.1) ?_ (kk p l e R s m args below meth c H locs cells slots mc ms D dA ad ad0 n n0 A d0 ls C)
  rw [sl_cats]
  have h1 := C.2.1.2.1
  show 2 * 0 + _ + 12 ≤ _
  omega
theorem slv_callN (h : sl_D Y pc (.invokespecial idx) 3 q) (L : sl_LN Y.1.cls idx Z host na) (hst : st0 = As.reverse ++ .ref a :: st) (hl : As.length = na) (hT : sl_T Z dd mc' ms' Q' (.ref a :: As) M) (hd : dd + 1 ≤ d) (h8 : (st.map fun v => v.category).sum ≤ 8) (hk : kc = mc' + kc') (hs : ks = ms' + ks')
    (hval : mc' = 0 ∨ ((∀ k : Nat, Value.ref k ∈ st → M k ≠ sl_no ∨ sl_X ≤ k) ∧ ∀ i k : Nat, lv[i]? = some (some (.ref k)) → M k ≠ sl_no ∨ sl_X ≤ k)) (kk : ∀ (r : Option Value) (M' : sl_M), Q' r M' → sl_V Y X d kc' ks' Q q lv (sl_ret r st) M') : sl_V Y X d kc ks Q pc lv st0 M := by
  obtain ⟨h, rfl⟩ := h
  subst hst
  obtain ⟨hI, l1, l2, l3, l4, l5⟩ := L
  intro p l e R s m args below meth c H locs cells slots mc ms D dA ad ad0 n n0 A d0 ls C
  have hts := dr_words C.1.2.2.2.2.2.2.1 d0
  refine sl_back C (va_runIN_D (b := ad a) (As := As.map (sl_v ad)) (rest := st.map (sl_v ad)) (n := na) (bytes := Z.2.1) (maxL := Z.2.2.1) (host := host) ⟨C.1.1, C.1.2.1, C.1.2.2.2.1, C.1.2.2.2.2.2.1, hts⟩ (hT l D dA ad n H.size C.2.2.2.2.1.2.2.1 C.2.2.2.2.1.2.2.2) ⟨⟨⟨rfl, rfl, ?_, ?_, pay_in hts (sl_good hI), (by rw [← l4]; exact List.mem_cons_self)⟩, (by rw [← l4]; exact hts _ hI.1), hts _ hI.2.1, ⟨hI.2.2.2.1, hI.2.2.2.2⟩, fun sig g => ?_, va_Nw.use rfl (C.2.2.2.2.2.1.2.2.2.2.1 _ l1)⟩, l3, hts _ l2⟩ ⟨sl_blind, sl_pre C (.ref a :: As)⟩ rfl (by simpa using hl) C.2.2.2.1.2.1 (by simp [sl_v]) (by rw [sl_cats]; exact lv_room h8) h ?_) hk hs hval kk
  · have h1 := C.2.1.1
    exact Nat.le_trans hd h1
  · have h1 := C.2.1.1; have h2 := C.2.1.2.1; have h3 := hI.2.2.1
    show 8 + (Z.2.2.1 + 11) + 40 * dd ≤ R.locals
    omega
  · rw [g] at l5
    exact (Option.some.inj l5).symm
  · have h1 := C.2.1.2.2
    omega
-- natives
theorem slv_f2bits {b : UInt32} (h : sl_D Y pc (.invokestatic idx) 3 q) (w1 : Cond.methodLink Y.1.cls idx ⟨"java/lang/Float", "floatToRawIntBits", "(F)I"⟩ ∈ sl_g) (w2 : Cond.native ⟨"java/lang/Float", "floatToRawIntBits", "(F)I"⟩ ∈ sl_g) (w3 : Cond.static ⟨"java/lang/Float", "floatToRawIntBits", "(F)I"⟩ ∈ sl_g) (w4 : Cond.initialized "java/lang/Float" ∈ sl_g) (hd : 1 ≤ d) (h8 : (st.map fun v => v.category).sum ≤ 8) (kk : sl_V Y X d kc ks Q q lv (.int b.toInt32 :: st) M) : sl_V Y X d kc ks Q pc lv (.float b :: st) M := by
  obtain ⟨h, rfl⟩ := h
  intro p l e R s m args below meth c H locs cells slots mc ms D dA ad ad0 n n0 A d0 ls C
  have hts := dr_words C.1.2.2.2.2.2.2.1 d0
  refine vn_f2i (s := s.setDrawn d0) (rest := st.map (sl_v ad)) C.1.1 C.1.2.1 (C.1.2.2.2.1.trans C.2.2.2.1.2.1.symm) C.1.2.2.2.2.2.1 (hts _ w1) (hts _ w2) (hts _ w3) (hts _ w4) (Nat.le_trans hd C.2.1.1) ?_ h (kk p l e R s m args below meth c H locs cells slots mc ms D dA ad ad0 n n0 A d0 ls C)
  rw [sl_cats]
  have h1 := C.2.1.2.1
  omega
theorem slv_bits2f {b : Int32} (h : sl_D Y pc (.invokestatic idx) 3 q) (w1 : Cond.methodLink Y.1.cls idx ⟨"java/lang/Float", "intBitsToFloat", "(I)F"⟩ ∈ sl_g) (w2 : Cond.native ⟨"java/lang/Float", "intBitsToFloat", "(I)F"⟩ ∈ sl_g) (w3 : Cond.static ⟨"java/lang/Float", "intBitsToFloat", "(I)F"⟩ ∈ sl_g) (w4 : Cond.initialized "java/lang/Float" ∈ sl_g) (hd : 1 ≤ d) (h8 : (st.map fun v => v.category).sum ≤ 8) (hv : vn_sni2f b = false) (kk : sl_V Y X d kc ks Q q lv (.float b.toUInt32 :: st) M) : sl_V Y X d kc ks Q pc lv (.int b :: st) M := by
  obtain ⟨h, rfl⟩ := h
  intro p l e R s m args below meth c H locs cells slots mc ms D dA ad ad0 n n0 A d0 ls C
  have hts := dr_words C.1.2.2.2.2.2.2.1 d0
  refine vn_i2f (s := s.setDrawn d0) (rest := st.map (sl_v ad)) C.1.1 C.1.2.1 (C.1.2.2.2.1.trans C.2.2.2.1.2.1.symm) C.1.2.2.2.2.2.1 (hts _ w1) (hts _ w2) (hts _ w3) (hts _ w4) hv (Nat.le_trans hd C.2.1.1) ?_ h (kk p l e R s m args below meth c H locs cells slots mc ms D dA ad ad0 n n0 A d0 ls C)
  rw [sl_cats]
  have h1 := C.2.1.2.1
  omega
theorem slv_d2bits {b : UInt64} (h : sl_D Y pc (.invokestatic idx) 3 q) (w1 : Cond.methodLink Y.1.cls idx ⟨"java/lang/Double", "doubleToRawLongBits", "(D)J"⟩ ∈ sl_g) (w2 : Cond.native ⟨"java/lang/Double", "doubleToRawLongBits", "(D)J"⟩ ∈ sl_g) (w3 : Cond.static ⟨"java/lang/Double", "doubleToRawLongBits", "(D)J"⟩ ∈ sl_g) (w4 : Cond.initialized "java/lang/Double" ∈ sl_g) (hd : 1 ≤ d) (h8 : (st.map fun v => v.category).sum ≤ 8) (kk : sl_V Y X d kc ks Q q lv (.long b.toInt64 :: st) M) : sl_V Y X d kc ks Q pc lv (.double b :: st) M := by
  obtain ⟨h, rfl⟩ := h
  intro p l e R s m args below meth c H locs cells slots mc ms D dA ad ad0 n n0 A d0 ls C
  have hts := dr_words C.1.2.2.2.2.2.2.1 d0
  refine vn_d2l (s := s.setDrawn d0) (rest := st.map (sl_v ad)) C.1.1 C.1.2.1 (C.1.2.2.2.1.trans C.2.2.2.1.2.1.symm) C.1.2.2.2.2.2.1 (hts _ w1) (hts _ w2) (hts _ w3) (hts _ w4) (Nat.le_trans hd C.2.1.1) ?_ h (kk p l e R s m args below meth c H locs cells slots mc ms D dA ad ad0 n n0 A d0 ls C)
  rw [sl_cats]
  have h1 := C.2.1.2.1
  omega
theorem slv_copyi {a b n0' n1' : Nat} {f g : Nat → Int32} {sp dp cn : Int32} (h : sl_D Y pc (.invokestatic idx) 3 q) (w1 : Cond.methodLink Y.1.cls idx arraycopyName ∈ sl_g) (w2 : Cond.native arraycopyName ∈ sl_g) (w3 : Cond.static arraycopyName ∈ sl_g) (w4 : Cond.initialized "java/lang/System" ∈ sl_g) (hd : 1 ≤ d) (h8 : (st.map fun v => v.category).sum ≤ 8) (hM0 : M b = .inl (.int, n0', .inl f)) (hM1 : M a = .inl (.int, n1', .inl g)) (g1 : ¬ sp < 0) (g2 : ¬ dp < 0) (g3 : ¬ cn < 0) (g4 : sp.toNatClampNeg + cn.toNatClampNeg ≤ n0') (g5 : dp.toNatClampNeg + cn.toNatClampNeg ≤ n1')
    (kk : sl_V Y X d kc ks Q q lv st (sl_up M a (.inl (.int, n1', .inl (va_cpy f g sp.toNatClampNeg dp.toNatClampNeg cn.toNatClampNeg))))) : sl_V Y X d kc ks Q pc lv (.int cn :: .int dp :: .ref a :: .int sp :: .ref b :: st) M := by
  obtain ⟨h, rfl⟩ := h
  intro p l e R s m args below meth c H locs cells slots mc ms D dA ad ad0 n n0 A d0 ls C
  have hts := dr_words C.1.2.2.2.2.2.2.1 d0
  have hb : b < n := sl_lt C.2.2.2.2.1.2.2.2 (by rw [hM0]; exact sl_in_l)
  have ha : a < n := sl_lt C.2.2.2.2.1.2.2.2 (by rw [hM1]; exact sl_in_l)
  refine va_copyi (s := s.setDrawn d0) (rest := st.map (sl_v ad)) (ty := .int) C.1.1 C.1.2.1 (C.1.2.2.2.1.trans C.2.2.2.1.2.1.symm) C.1.2.2.2.2.2.1 (hts _ w1) (hts _ w2) (hts _ w3) (hts _ w4) C.2.2.1.1 C.2.2.1.2.1 C.2.2.1.2.2.1 C.2.2.1.2.2.2.1 b a 0 0 (sl_w_get hb hM0) (sl_w_get ha hM1) rfl rfl rfl g1 g2 g3 g4 g5 (fun _ _ => rfl) (Nat.le_trans hd C.2.1.1) ?_ h (fun H1 locs1 hP hD hS => ?_)
  · rw [sl_cats]
    have h1 := C.2.1.2.1
    have hw : nativeFrameWords "java/lang/System" "arraycopy" 5 ≤ 20 := by decide
    omega
  · rw [sl_set_l ha] at hP hD
    exact kk p l e R s m args below meth c H1 locs1 cells slots mc ms D dA ad ad0 n n0 A d0 ls ⟨C.1, C.2.1, ⟨C.2.2.1.1, hP, hD, hS, C.2.2.1.2.2.2.2⟩, C.2.2.2.1, ⟨C.2.2.2.2.1.1, C.2.2.2.2.1.2.1, C.2.2.2.2.1.2.2.1, sl_no_up C.2.2.2.2.1.2.2.2 ha⟩, C.2.2.2.2.2⟩
-- calls walked through, and calls by what they answer
theorem slv_inS (h : sl_D Y pc (.invokestatic idx) 3 q) (L : sl_LS Y.1.cls idx Z na) (hst : st0 = As.reverse ++ st) (hl : As.length = na) (hy : plainName Z.1.cls = true) (he : sl_ent Z.2.2.1 As = lv1) (hlen : (sl_ea As).length ≤ Z.2.2.1) (hd : dd + 1 ≤ d) (h8 : (st.map fun v => v.category).sum ≤ 8)
    (kk : sl_V Z none dd 0 0 (fun r M' => sl_V Y X d kc ks Q q lv (sl_ret r st) M') 0 lv1 [] M) : sl_V Y X d kc ks Q pc lv st0 M :=
  slv_callS h L hst hl (sl_T.of_V hy he hlen kk) hd h8 (Nat.zero_add kc).symm (Nat.zero_add ks).symm (Or.inl rfl) (fun _ _ g => g)
theorem slv_inV {ci : Nat} {fs : List Value} {T : u_T} {N : Nat} (h : sl_D Y pc (.invokevirtual idx) 3 q) (L : sl_LV Y.1.cls idx Z na) (hst : st0 = As.reverse ++ .ref a :: st) (hl : As.length = na) (hM : M a = .inr (ci, fs)) (hc : vwCl[ci]? = some (Z.1.cls, T, N)) (hy : plainName Z.1.cls = true) (he : sl_ent Z.2.2.1 (.ref a :: As) = lv1) (hlen : (sl_ea (.ref a :: As)).length ≤ Z.2.2.1) (hd : dd + 1 ≤ d) (h8 : (st.map fun v => v.category).sum ≤ 8)
    (kk : sl_V Z none dd 0 0 (fun r M' => sl_V Y X d kc ks Q q lv (sl_ret r st) M') 0 lv1 [] M) : sl_V Y X d kc ks Q pc lv st0 M :=
  slv_callV h L hst hl hM hc (sl_T.of_V hy he hlen kk) hd h8 (Nat.zero_add kc).symm (Nat.zero_add ks).symm (Or.inl rfl) (fun _ _ g => g)
/-- method Z answers r and leaves M' -/
def sl_R (Z : sl_Y) (dd : Nat) (As : List Value) (M : sl_M) (r : Option Value) (M' : sl_M) : Prop := sl_T Z dd 0 0 (fun r1 M1 => r1 = r ∧ M1 = M') As M
theorem slv_rS {r : Option Value} {M' : sl_M} (h : sl_D Y pc (.invokestatic idx) 3 q) (L : sl_LS Y.1.cls idx Z na) (hst : st0 = As.reverse ++ st) (hl : As.length = na) (hT : sl_R Z dd As M r M') (hd : dd + 1 ≤ d) (h8 : (st.map fun v => v.category).sum ≤ 8) (kk : sl_V Y X d kc ks Q q lv (sl_ret r st) M') : sl_V Y X d kc ks Q pc lv st0 M :=
  slv_callS h L hst hl hT hd h8 (Nat.zero_add kc).symm (Nat.zero_add ks).symm (Or.inl rfl) (fun r1 M1 g => by obtain ⟨rfl, rfl⟩ := g; exact kk)
theorem slv_rV {ci : Nat} {fs : List Value} {T : u_T} {N : Nat} {r : Option Value} {M' : sl_M} (h : sl_D Y pc (.invokevirtual idx) 3 q) (L : sl_LV Y.1.cls idx Z na) (hst : st0 = As.reverse ++ .ref a :: st) (hl : As.length = na) (hM : M a = .inr (ci, fs)) (hc : vwCl[ci]? = some (Z.1.cls, T, N)) (hT : sl_R Z dd (.ref a :: As) M r M') (hd : dd + 1 ≤ d) (h8 : (st.map fun v => v.category).sum ≤ 8) (kk : sl_V Y X d kc ks Q q lv (sl_ret r st) M') : sl_V Y X d kc ks Q pc lv st0 M :=
  slv_callV h L hst hl hM hc hT hd h8 (Nat.zero_add kc).symm (Nat.zero_add ks).symm (Or.inl rfl) (fun r1 M1 g => by obtain ⟨rfl, rfl⟩ := g; exact kk)
end SLM

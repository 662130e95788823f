/-! fields and arrays -/
/-- a class of the store: its place among vwCl, its fields -/
def sl_CL (ci : Nat) (C : String) (T : u_T) (N : Nat) (ty : Nat → FieldType) : Prop := vwCl[ci]? = some (C, T, N) ∧ (∀ w ∈ u_ws C T N, w ∈ sl_g) ∧ (∀ k, k < N → parseFieldDescriptor (T k).2.2.1 = some (ty k)) ∧ (∀ a, a < N → ∀ b, b < N → a ≠ b → (T a).2.1 ≠ (T b).2.1)
/-- entry idx of class own: field k of class ci, of type ty, final or not -/
def sl_FL (own : String) (idx ci k : Nat) (ty : FieldType) (fin : Bool) : Prop := ∃ (C : String) (T : u_T) (N : Nat) (tf : Nat → FieldType), sl_CL ci C T N tf ∧ k < N ∧ Cond.fieldLink own idx (T k).1 (T k).2.1 (T k).2.2.1 ∈ sl_g ∧ tf k = ty ∧ (T k).2.2.2 = fin
/-- a final field of the class itself -/
def sl_FW (own : String) (idx ci k : Nat) (ty : FieldType) : Prop := ∃ (C : String) (T : u_T) (N : Nat) (tf : Nat → FieldType), sl_CL ci C T N tf ∧ k < N ∧ Cond.fieldLink own idx (T k).1 (T k).2.1 (T k).2.2.1 ∈ sl_g ∧ tf k = ty ∧ (T k).2.2.2 = true ∧ (T k).1 = own
theorem sl_no_up {M : sl_M} {n a : Nat} {x : sl_E} (h : ∀ k : Nat, n ≤ k → M k = sl_no) (ha : a < n) : ∀ k : Nat, n ≤ k → sl_up M a x k = sl_no := by
  intro k hk
  have e : ¬ k = a := by omega
  simp [sl_up, e, h k hk]
section SLF
variable {Y : sl_Y} {X : Option (Nat × (Nat → Int32))} {d kc ks : Nat} {Q : Option Value → sl_M → Prop} {pc q : Nat} {lv lv' : List (Option Value)} {st : List Value} {M : sl_M}
theorem slv_getf {idx ci k a : Nat} {ty : FieldType} {fin : Bool} {fs : List Value} {v : Value} (h : sl_D Y pc (.getfield idx) 3 q) (f : sl_FL Y.1.cls idx ci k ty fin) (hM : M a = .inr (ci, fs)) (hv : fs[k]? = some v) (kk : sl_V Y X d kc ks Q q lv (v :: st) M) : sl_V Y X d kc ks Q pc lv (.ref a :: st) M := by
  obtain ⟨h, rfl⟩ := h
  obtain ⟨Cn, T, N, tf, hCL, hk, hl, -⟩ := f
  intro p l e R s m args below meth c H locs cells slots mc ms D dA ad ad0 n n0 A d0 ls C
  have ha : a < n := sl_lt C.2.2.2.2.1.2.2.2 (by rw [hM]; exact sl_in_r hCL.1)
  have hts := dr_words C.1.2.2.2.2.2.2.1 d0
  exact va_get (s := s.setDrawn d0) (D := D) (ci := ci) (v := sl_v ad v) (C := Cn) (T := T) (N := N) C.1.1 C.1.2.1 hts hCL.2.1 C.1.2.2.2.2.2.1 C.2.2.1.1 C.2.2.1.2.1 a (fs := fs.map (sl_v ad)) (sl_w_get ha hM) hCL.1 k hk (hts _ hl) (fun _ g => g) (by simp [hv]) h (kk p l e R s m args below meth c H locs cells slots mc ms D dA ad ad0 n n0 A d0 ls C)
theorem sl_set_r {ad : Nat → Nat} {dA : FieldType → ClassId} {n a ci k : Nat} {fs : List Value} {v : Value} {M : sl_M} (ha : a < n) : (sl_w ad dA n M).set a (ad a, .inr (ci, (fs.map (sl_v ad)).set k (sl_v ad v))) = sl_w ad dA n (sl_up M a (.inr (ci, fs.set k v))) := by
  rw [← sl_w_set ha]
  simp [sl_c, List.map_set]
theorem slv_putf {idx ci k a : Nat} {ty : FieldType} {fs fs' : List Value} {v : Value} (h : sl_D Y pc (.putfield idx) 3 q) (f : sl_FL Y.1.cls idx ci k ty false) (hM : M a = .inr (ci, fs)) (hk2 : k < fs.length) (hn : narrow ty v = v) (hfit : fits ty v = true) (hs : fs.set k v = fs') (kk : sl_V Y X d kc ks Q q lv st (sl_up M a (.inr (ci, fs')))) : sl_V Y X d kc ks Q pc lv (v :: .ref a :: st) M := by
  obtain ⟨h, rfl⟩ := h
  subst hs
  obtain ⟨Cn, T, N, tf, hCL, hk, hl, hty, hfin⟩ := f
  intro p l e R s m args below meth c H locs cells slots mc ms D dA ad ad0 n n0 A d0 ls C
  have ha : a < n := sl_lt C.2.2.2.2.1.2.2.2 (by rw [hM]; exact sl_in_r hCL.1)
  have hts := dr_words C.1.2.2.2.2.2.2.1 d0
  refine va_put (s := s.setDrawn d0) (D := D) (ci := ci) (v := sl_v ad v) (ty := ty) (C := Cn) (T := T) (N := N) C.1.1 C.1.2.1 hts hCL.2.1 tf hCL.2.2.1 hCL.2.2.2 C.1.2.2.2.2.2.1 C.2.2.1.1 C.2.2.1.2.1 C.2.2.1.2.2.1 C.2.2.1.2.2.2.1 a (fs := fs.map (sl_v ad)) (sl_w_get ha hM) hCL.1 k hk (hts _ hl) (fun _ g => g) hfin (by rw [← hty]; exact hCL.2.2.1 k hk) (sl_narrow hn) (by rw [sl_fits]; exact hfit) (by simpa using hk2) h (fun H1 locs1 hP hD hS => ?_)
  rw [sl_set_r ha] at hP hD
  exact kk p l e R s m args below meth c H1 locs1 cells slots mc ms D dA ad ad0 n n0 A d0 ls ⟨C.1, C.2.1, ⟨C.2.2.1.1, hP, hD, hS, C.2.2.1.2.2.2.2⟩, C.2.2.2.1, ⟨C.2.2.2.2.1.1, C.2.2.2.2.1.2.1, C.2.2.2.2.1.2.2.1, sl_no_up C.2.2.2.2.1.2.2.2 ha⟩, C.2.2.2.2.2⟩
theorem slv_putF {idx ci k a : Nat} {ty : FieldType} {fs fs' : List Value} {v : Value} (h : sl_D Y pc (.putfield idx) 3 q) (f : sl_FW Y.1.cls idx ci k ty) (hY : Y.1.name = "<init>") (hM : M a = .inr (ci, fs)) (hk2 : k < fs.length) (hn : narrow ty v = v) (hfit : fits ty v = true) (hs : fs.set k v = fs') (kk : sl_V Y X d kc ks Q q lv st (sl_up M a (.inr (ci, fs')))) : sl_V Y X d kc ks Q pc lv (v :: .ref a :: st) M := by
  obtain ⟨h, rfl⟩ := h
  subst hs
  obtain ⟨Cn, T, N, tf, hCL, hk, hl, hty, hfin, hdecl⟩ := f
  intro p l e R s m args below meth c H locs cells slots mc ms D dA ad ad0 n n0 A d0 ls C
  have ha : a < n := sl_lt C.2.2.2.2.1.2.2.2 (by rw [hM]; exact sl_in_r hCL.1)
  have hts := dr_words C.1.2.2.2.2.2.2.1 d0
  refine va_putF (s := s.setDrawn d0) (D := D) (ci := ci) (v := sl_v ad v) (ty := ty) (C := Cn) (T := T) (N := N) C.1.1 C.1.2.1 hts hCL.2.1 tf hCL.2.2.1 hCL.2.2.2 C.1.2.2.2.2.2.1 C.2.2.1.1 C.2.2.1.2.1 C.2.2.1.2.2.1 C.2.2.1.2.2.2.1 a (fs := fs.map (sl_v ad)) (sl_w_get ha hM) hCL.1 k hk (hts _ hl) (fun _ g => g) hfin (C.1.2.2.2.2.2.2.2.trans hY) hdecl (by rw [← hty]; exact hCL.2.2.1 k hk) (sl_narrow hn) (by rw [sl_fits]; exact hfit) (by simpa using hk2) h (fun H1 locs1 hP hD hS => ?_)
  rw [sl_set_r ha] at hP hD
  exact kk p l e R s m args below meth c H1 locs1 cells slots mc ms D dA ad ad0 n n0 A d0 ls ⟨C.1, C.2.1, ⟨C.2.2.1.1, hP, hD, hS, C.2.2.1.2.2.2.2⟩, C.2.2.2.1, ⟨C.2.2.2.2.1.1, C.2.2.2.2.1.2.1, C.2.2.2.2.1.2.2.1, sl_no_up C.2.2.2.2.1.2.2.2 ha⟩, C.2.2.2.2.2⟩
theorem slv_iald {a len : Nat} {f : Nat → Int32} {i : Int32} (h : sl_D Y pc .iaload 1 q) (hM : M a = .inl (.int, len, .inl f)) (hi : vp_in i len) (kk : sl_V Y X d kc ks Q q lv (.int (f i.toNatClampNeg) :: st) M) : sl_V Y X d kc ks Q pc lv (.int i :: .ref a :: st) M := by
  obtain ⟨h, rfl⟩ := h
  intro p l e R s m args below meth c H locs cells slots mc ms D dA ad ad0 n n0 A d0 ls C
  have ha : a < n := sl_lt C.2.2.2.2.1.2.2.2 (by rw [hM]; exact sl_in_l)
  exact va_iald (s := s.setDrawn d0) C.1.1 C.1.2.1 C.2.2.1.1 C.2.2.1.2.1 a 0 (sl_w_get ha hM) rfl hi h (kk p l e R s m args below meth c H locs cells slots mc ms D dA ad ad0 n n0 A d0 ls C)
theorem slv_bald {a len : Nat} {f : Nat → Int32} {i : Int32} (h : sl_D Y pc .baload 1 q) (hM : M a = .inl (.byte, len, .inl f)) (hi : vp_in i len) (kk : sl_V Y X d kc ks Q q lv (.int (f i.toNatClampNeg) :: st) M) : sl_V Y X d kc ks Q pc lv (.int i :: .ref a :: st) M := by
  obtain ⟨h, rfl⟩ := h
  intro p l e R s m args below meth c H locs cells slots mc ms D dA ad ad0 n n0 A d0 ls C
  have ha : a < n := sl_lt C.2.2.2.2.1.2.2.2 (by rw [hM]; exact sl_in_l)
  exact va_bald (s := s.setDrawn d0) C.1.1 C.1.2.1 C.2.2.1.1 C.2.2.1.2.1 a 1 (sl_w_get ha hM) rfl hi h (kk p l e R s m args below meth c H locs cells slots mc ms D dA ad ad0 n n0 A d0 ls C)
theorem slv_zald {a len : Nat} {f : Nat → Int32} {i : Int32} (h : sl_D Y pc .baload 1 q) (hM : M a = .inl (.boolean, len, .inl f)) (hi : vp_in i len) (kk : sl_V Y X d kc ks Q q lv (.int (f i.toNatClampNeg) :: st) M) : sl_V Y X d kc ks Q pc lv (.int i :: .ref a :: st) M := by
  obtain ⟨h, rfl⟩ := h
  intro p l e R s m args below meth c H locs cells slots mc ms D dA ad ad0 n n0 A d0 ls C
  have ha : a < n := sl_lt C.2.2.2.2.1.2.2.2 (by rw [hM]; exact sl_in_l)
  exact va_zald (s := s.setDrawn d0) C.1.1 C.1.2.1 C.2.2.1.1 C.2.2.1.2.1 a 2 (sl_w_get ha hM) rfl hi h (kk p l e R s m args below meth c H locs cells slots mc ms D dA ad ad0 n n0 A d0 ls C)
theorem slv_lald {a len : Nat} {f : Nat → Int64} {i : Int32} (h : sl_D Y pc .laload 1 q) (hM : M a = .inl (.long, len, .inr (.inl f))) (hi : vp_in i len) (kk : sl_V Y X d kc ks Q q lv (.long (f i.toNatClampNeg) :: st) M) : sl_V Y X d kc ks Q pc lv (.int i :: .ref a :: st) M := by
  obtain ⟨h, rfl⟩ := h
  intro p l e R s m args below meth c H locs cells slots mc ms D dA ad ad0 n n0 A d0 ls C
  have ha : a < n := sl_lt C.2.2.2.2.1.2.2.2 (by rw [hM]; exact sl_in_l)
  exact va_lald (s := s.setDrawn d0) C.1.1 C.1.2.1 C.2.2.1.1 C.2.2.1.2.1 a 3 (sl_w_get ha hM) rfl hi h (kk p l e R s m args below meth c H locs cells slots mc ms D dA ad ad0 n n0 A d0 ls C)
theorem sl_set_l {ad : Nat → Nat} {dA : FieldType → ClassId} {n a : Nat} {ty : FieldType} {x : vp_A} {M : sl_M} (ha : a < n) : (sl_w ad dA n M).set a (ad a, .inl (dA ty, x)) = sl_w ad dA n (sl_up M a (.inl (ty, x))) := sl_w_set (x := .inl (ty, x)) ha
theorem slv_iast {a len : Nat} {f : Nat → Int32} {i x : Int32} (h : sl_D Y pc .iastore 1 q) (hM : M a = .inl (.int, len, .inl f)) (hi : vp_in i len) (kk : sl_V Y X d kc ks Q q lv st (sl_up M a (.inl (.int, len, .inl (upd f i.toNatClampNeg x))))) : sl_V Y X d kc ks Q pc lv (.int x :: .int i :: .ref a :: st) M := by
  obtain ⟨h, rfl⟩ := h
  intro p l e R s m args below meth c H locs cells slots mc ms D dA ad ad0 n n0 A d0 ls C
  have ha : a < n := sl_lt C.2.2.2.2.1.2.2.2 (by rw [hM]; exact sl_in_l)
  refine va_iast (s := s.setDrawn d0) C.1.1 C.1.2.1 C.2.2.1.1 C.2.2.1.2.1 C.2.2.1.2.2.1 C.2.2.1.2.2.2.1 a 0 (sl_w_get ha hM) rfl hi h (fun H1 locs1 hP hD hS => ?_)
  rw [sl_set_l ha] at hP hD
  exact kk p l e R s m args below meth c H1 locs1 cells slots mc ms D dA ad ad0 n n0 A d0 ls ⟨C.1, C.2.1, ⟨C.2.2.1.1, hP, hD, hS, C.2.2.1.2.2.2.2⟩, C.2.2.2.1, ⟨C.2.2.2.2.1.1, C.2.2.2.2.1.2.1, C.2.2.2.2.1.2.2.1, sl_no_up C.2.2.2.2.1.2.2.2 ha⟩, C.2.2.2.2.2⟩
theorem slv_bast {a len : Nat} {f : Nat → Int32} {i x : Int32} (h : sl_D Y pc .bastore 1 q) (hM : M a = .inl (.byte, len, .inl f)) (hi : vp_in i len) (kk : sl_V Y X d kc ks Q q lv st (sl_up M a (.inl (.byte, len, .inl (upd f i.toNatClampNeg (vp_nar .byte x)))))) : sl_V Y X d kc ks Q pc lv (.int x :: .int i :: .ref a :: st) M := by
  obtain ⟨h, rfl⟩ := h
  intro p l e R s m args below meth c H locs cells slots mc ms D dA ad ad0 n n0 A d0 ls C
  have ha : a < n := sl_lt C.2.2.2.2.1.2.2.2 (by rw [hM]; exact sl_in_l)
  refine va_bast (s := s.setDrawn d0) C.1.1 C.1.2.1 C.2.2.1.1 C.2.2.1.2.1 C.2.2.1.2.2.1 C.2.2.1.2.2.2.1 a 1 (sl_w_get ha hM) rfl hi h (fun H1 locs1 hP hD hS => ?_)
  rw [sl_set_l ha] at hP hD
  exact kk p l e R s m args below meth c H1 locs1 cells slots mc ms D dA ad ad0 n n0 A d0 ls ⟨C.1, C.2.1, ⟨C.2.2.1.1, hP, hD, hS, C.2.2.1.2.2.2.2⟩, C.2.2.2.1, ⟨C.2.2.2.2.1.1, C.2.2.2.2.1.2.1, C.2.2.2.2.1.2.2.1, sl_no_up C.2.2.2.2.1.2.2.2 ha⟩, C.2.2.2.2.2⟩
theorem slv_zast {a len : Nat} {f : Nat → Int32} {i x : Int32} (h : sl_D Y pc .bastore 1 q) (hM : M a = .inl (.boolean, len, .inl f)) (hi : vp_in i len) (kk : sl_V Y X d kc ks Q q lv st (sl_up M a (.inl (.boolean, len, .inl (upd f i.toNatClampNeg (vp_nar .boolean x)))))) : sl_V Y X d kc ks Q pc lv (.int x :: .int i :: .ref a :: st) M := by
  obtain ⟨h, rfl⟩ := h
  intro p l e R s m args below meth c H locs cells slots mc ms D dA ad ad0 n n0 A d0 ls C
  have ha : a < n := sl_lt C.2.2.2.2.1.2.2.2 (by rw [hM]; exact sl_in_l)
  refine va_zast (s := s.setDrawn d0) C.1.1 C.1.2.1 C.2.2.1.1 C.2.2.1.2.1 C.2.2.1.2.2.1 C.2.2.1.2.2.2.1 a 2 (sl_w_get ha hM) rfl hi h (fun H1 locs1 hP hD hS => ?_)
  rw [sl_set_l ha] at hP hD
  exact kk p l e R s m args below meth c H1 locs1 cells slots mc ms D dA ad ad0 n n0 A d0 ls ⟨C.1, C.2.1, ⟨C.2.2.1.1, hP, hD, hS, C.2.2.1.2.2.2.2⟩, C.2.2.2.1, ⟨C.2.2.2.2.1.1, C.2.2.2.2.1.2.1, C.2.2.2.2.1.2.2.1, sl_no_up C.2.2.2.2.1.2.2.2 ha⟩, C.2.2.2.2.2⟩
theorem slv_last {a len : Nat} {f : Nat → Int64} {i : Int32} {x : Int64} (h : sl_D Y pc .lastore 1 q) (hM : M a = .inl (.long, len, .inr (.inl f))) (hi : vp_in i len) (kk : sl_V Y X d kc ks Q q lv st (sl_up M a (.inl (.long, len, .inr (.inl (vp_updL f i.toNatClampNeg x)))))) : sl_V Y X d kc ks Q pc lv (.long x :: .int i :: .ref a :: st) M := by
  obtain ⟨h, rfl⟩ := h
  intro p l e R s m args below meth c H locs cells slots mc ms D dA ad ad0 n n0 A d0 ls C
  have ha : a < n := sl_lt C.2.2.2.2.1.2.2.2 (by rw [hM]; exact sl_in_l)
  refine va_last (s := s.setDrawn d0) C.1.1 C.1.2.1 C.2.2.1.1 C.2.2.1.2.1 C.2.2.1.2.2.1 C.2.2.1.2.2.2.1 a 3 (sl_w_get ha hM) rfl hi h (fun H1 locs1 hP hD hS => ?_)
  rw [sl_set_l ha] at hP hD
  exact kk p l e R s m args below meth c H1 locs1 cells slots mc ms D dA ad ad0 n n0 A d0 ls ⟨C.1, C.2.1, ⟨C.2.2.1.1, hP, hD, hS, C.2.2.1.2.2.2.2⟩, C.2.2.2.1, ⟨C.2.2.2.2.1.1, C.2.2.2.2.1.2.1, C.2.2.2.2.1.2.2.1, sl_no_up C.2.2.2.2.1.2.2.2 ha⟩, C.2.2.2.2.2⟩
/-- the arrays' types by their places -/
def sl_ti : FieldType → Option Nat
  | .int => some 0
  | .byte => some 1
  | .boolean => some 2
  | .long => some 3
  | _ => none
theorem sl_ti_get {ty : FieldType} {t : Nat} (h : sl_ti ty = some t) (dA : FieldType → ClassId) : (sl_tys dA)[t]? = some (dA ty, ty) := by
  cases ty <;> first | (cases h; rfl) | (cases h; done)
theorem slv_alen {a t : Nat} {ty : FieldType} {x : vp_A} {v : Int32} (h : sl_D Y pc .arraylength 1 q) (hM : M a = .inl (ty, x)) (ht : sl_ti ty = some t) (hv : Int32.ofNat x.1 = v) (kk : sl_V Y X d kc ks Q q lv (.int v :: st) M) : sl_V Y X d kc ks Q pc lv (.ref a :: st) M := by
  obtain ⟨h, rfl⟩ := h
  intro p l e R s m args below meth c H locs cells slots mc ms D dA ad ad0 n n0 A d0 ls C
  have ha : a < n := sl_lt C.2.2.2.2.1.2.2.2 (by rw [hM]; exact sl_in_l)
  exact va_alen (s := s.setDrawn d0) C.1.1 C.1.2.1 C.2.2.1.1 C.2.2.1.2.1 a t (sl_w_get ha hM) (sl_ti_get ht dA) hv h (kk p l e R s m args below meth c H locs cells slots mc ms D dA ad ad0 n n0 A d0 ls C)
/-- the law's script -/
theorem slv_sld {L : Nat} {xs : Nat → Int32} {i : Int32} (h : sl_D Y pc .iaload 1 q) (hX : X = some (L, xs)) (hi : vp_in i L) (kk : sl_V Y X d kc ks Q q lv (.int (xs i.toNatClampNeg) :: st) M) : sl_V Y X d kc ks Q pc lv (.int i :: .ref (sl_X + 500) :: st) M := by
  obtain ⟨h, rfl⟩ := h
  intro p l e R s m args below meth c H locs cells slots mc ms D dA ad ad0 n n0 A d0 ls C
  obtain ⟨h1, h2, h3⟩ := C.2.2.2.2.2.2.2 L xs hX
  exact va_sld (s := s.setDrawn d0) C.1.1 C.1.2.1 h1 h2 h3 C.2.2.1.2.2.2.1 hi h (kk p l e R s m args below meth c H locs cells slots mc ms D dA ad ad0 n n0 A d0 ls C)
theorem slv_slen {L : Nat} {xs : Nat → Int32} (h : sl_D Y pc .arraylength 1 q) (hX : X = some (L, xs)) (kk : sl_V Y X d kc ks Q q lv (.int (Int32.ofNat L) :: st) M) : sl_V Y X d kc ks Q pc lv (.ref (sl_X + 500) :: st) M := by
  obtain ⟨h, rfl⟩ := h
  intro p l e R s m args below meth c H locs cells slots mc ms D dA ad ad0 n n0 A d0 ls C
  obtain ⟨h1, h2, h3⟩ := C.2.2.2.2.2.2.2 L xs hX
  exact va_slen (s := s.setDrawn d0) C.1.1 C.1.2.1 h1 h2 h3 C.2.2.1.2.2.2.1 h (kk p l e R s m args below meth c H locs cells slots mc ms D dA ad ad0 n n0 A d0 ls C)
end SLF

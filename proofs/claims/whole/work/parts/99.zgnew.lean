/-! things made: rows that count the places -/
def sl_tag : sl_E → Nat
  | .inl _ => 0
  | .inr q => q.1 + 1
def sl_rv (n : Nat) : Value → Bool
  | .ref k => decide (k < n)
  | _ => true
def sl_rb (n : Nat) : sl_E → Bool
  | .inl _ => true
  | .inr q => q.2.all (sl_rv n)
def sl_rl (n : Nat) (lv : List (Option Value)) : Bool := lv.all fun o => match o with
  | some (.ref k) => decide (k < n) || decide (sl_X ≤ k)
  | _ => true
def sl_rt (n : Nat) (st : List Value) : Bool := st.all fun v => match v with
  | .ref k => decide (k < n) || decide (sl_X ≤ k)
  | _ => true
/-- the first nn places are taken, none of them names one that is not -/
def nw (nn : Nat) (M : sl_M) : Prop := (∀ k, nn ≤ k → M k = sl_no) ∧ (∀ m, nn ≤ m → ∀ k, sl_okb m (M k) = true) ∧ (∀ k, k < nn → sl_tag (M k) ≠ 100)
theorem sl_rb_ok {n : Nat} {x : sl_E} (h : sl_rb n x = true) : ∀ m, n ≤ m → sl_okb m x = true := by
  intro m hm
  cases x with
  | inl q => rfl
  | inr q =>
    show q.2.all (fun v => !(v == .ref m)) = true
    have h' : q.2.all (sl_rv n) = true := h
    rw [List.all_eq_true] at h' ⊢
    intro v hv
    have := h' v hv
    cases v with
    | ref k =>
      have hk : k < n := of_decide_eq_true this
      show (!((Value.ref k) == (.ref m))) = true
      have : ((Value.ref k) == (Value.ref m)) = false := by
        apply beq_eq_false_iff_ne.mpr
        intro e
        have e2 : k = m := Value.ref.inj e
        rw [e2] at hk
        exact absurd hk (Nat.not_lt.mpr hm)
      rw [this]; rfl
    | _ => rfl
theorem nw_push {nn : Nat} {M : sl_M} {x : sl_E} (h : nw nn M) (hx : sl_rb nn x = true) (ht : sl_tag x ≠ 100) : nw (nn + 1) (sl_up M nn x) := by
  refine ⟨fun k hk => ?_, fun m hm k => ?_, fun k hk => ?_⟩
  · rw [up_out (by omega)]; exact h.1 k (by omega)
  · by_cases e : k = nn
    · rw [e, sl_up_eq]; exact sl_rb_ok hx m (by omega)
    · rw [up_out e]; exact h.2.1 m (by omega) k
  · by_cases e : k = nn
    · rw [e, sl_up_eq]; exact ht
    · rw [up_out e]; exact h.2.2 k (by omega)
theorem nw_up {nn j : Nat} {M : sl_M} {x : sl_E} (h : nw nn M) (hj : j < nn) (hx : sl_rb nn x = true) (ht : sl_tag x ≠ 100) : nw nn (sl_up M j x) := by
  refine ⟨fun k hk => ?_, fun m hm k => ?_, fun k hk => ?_⟩
  · rw [up_out (by omega)]; exact h.1 k hk
  · by_cases e : k = j
    · rw [e, sl_up_eq]; exact sl_rb_ok hx m hm
    · rw [up_out e]; exact h.2.1 m hm k
  · by_cases e : k = j
    · rw [e, sl_up_eq]; exact ht
    · rw [up_out e]; exact h.2.2 k hk
theorem sl_rt_ok {n : Nat} {st : List Value} (h : sl_rt n st = true) (hX : n < sl_X) : ∀ v ∈ st, v ≠ .ref n := by
  intro v hv e
  unfold sl_rt at h
  rw [List.all_eq_true] at h
  have := h v hv
  rw [e] at this
  simp only [Bool.or_eq_true, decide_eq_true_eq] at this
  rcases this with c | c
  · exact absurd c (Nat.lt_irrefl _)
  · exact absurd hX (Nat.not_lt.mpr c)
theorem sl_rl_ok {n : Nat} {lv : List (Option Value)} (h : sl_rl n lv = true) (hX : n < sl_X) : ∀ i : Nat, lv[i]? ≠ some (some (.ref n)) := by
  intro i e
  unfold sl_rl at h
  rw [List.all_eq_true] at h
  have := h _ (List.mem_of_getElem? e)
  simp only [Bool.or_eq_true, decide_eq_true_eq] at this
  rcases this with c | c
  · exact absurd c (Nat.lt_irrefl _)
  · exact absurd hX (Nat.not_lt.mpr c)
section NWR
variable {Y : sl_Y} {X : Option (Nat × (Nat → Int32))} {d kc ks kc' ks' : Nat} {Q : Option Value → sl_M → Prop} {pc q idx : Nat} {lv : List (Option Value)} {st : List Value} {M : sl_M}
theorem nw_h2 {nn : Nat} (h : nw nn M) : nn = 0 ∨ M (nn - 1) ≠ sl_no := by
  rcases Nat.eq_zero_or_pos nn with e | e
  · exact Or.inl e
  · exact Or.inr (fun z => h.2.2 (nn - 1) (by omega) (by rw [z]; rfl))
theorem nw_val {nn : Nat} (h : nw nn M) (hs : sl_rt nn st = true) : ∀ k : Nat, Value.ref k ∈ st → M k ≠ sl_no ∨ sl_X ≤ k := by
  intro k hk
  unfold sl_rt at hs
  rw [List.all_eq_true] at hs
  have := hs _ hk
  simp only [Bool.or_eq_true, decide_eq_true_eq] at this
  rcases this with c | c
  · exact Or.inl (fun z => h.2.2 k c (by rw [z]; rfl))
  · exact Or.inr c
theorem nw_vlv {nn : Nat} (h : nw nn M) (hs : sl_rl nn lv = true) : ∀ i k : Nat, lv[i]? = some (some (.ref k)) → M k ≠ sl_no ∨ sl_X ≤ k := by
  intro i k hk
  unfold sl_rl at hs
  rw [List.all_eq_true] at hs
  have := hs _ (List.mem_of_getElem? hk)
  simp only [Bool.or_eq_true, decide_eq_true_eq] at this
  rcases this with c | c
  · exact Or.inl (fun z => h.2.2 k c (by rw [z]; rfl))
  · exact Or.inr c
theorem slv_nwc {Z : sl_Y} {host : String} {na a dd mc' ms' nn : Nat} {st0 : List Value} {As : List Value} {Q' : Option Value → sl_M → Prop} (h : sl_D Y pc (.invokespecial idx) 3 q) (L : sl_LN Y.1.cls idx Z host na) (hst : st0 = As.reverse ++ .ref a :: st) (hl : As.length = na) (hT : sl_T Z dd mc' ms' Q' (.ref a :: As) M) (hd : dd + 1 ≤ d) (h8 : (st.map fun v => v.category).sum ≤ 8) (hk : kc = mc' + kc') (hs : ks = ms' + ks') (hw : nw nn M) (h1 : sl_rt nn st = true) (h2 : sl_rl nn lv = true) (kk : ∀ (r : Option Value) (M' : sl_M), Q' r M' → sl_V Y X d kc' ks' Q q lv (sl_ret r st) M') : sl_V Y X d kc ks Q pc lv st0 M := slv_callN h L hst hl hT hd h8 hk hs (Or.inr ⟨nw_val hw h1, nw_vlv hw h2⟩) kk
theorem slv_nwo {nn ci N : Nat} {fs : List Value} (h : sl_D Y pc (.new idx) 3 q) (L : sl_LC Y.1.cls idx ci N fs) (hw : nw nn M) (hX : nn < sl_X) (hst : sl_rt nn st = true) (hlv : sl_rl nn lv = true) (hfs : sl_rb nn (.inr (ci, fs)) = true) (hci : ci ≠ 99) (hk : kc = kc' + 1) (hs : ks = ks' + N) (kk : nw (nn + 1) (sl_up M nn (.inr (ci, fs))) → sl_V Y X d kc' ks' Q q lv (.ref nn :: st) (sl_up M nn (.inr (ci, fs)))) : sl_V Y X d kc ks Q pc lv st M :=
  slv_new h L hw.1 (nw_h2 hw) hX (fun k _ => hw.2.1 nn (Nat.le_refl _) k) (sl_rt_ok hst hX) (sl_rl_ok hlv hX) hk hs (kk (nw_push hw hfs (fun e => hci (by have e' : ci + 1 = 100 := e; omega))))
theorem slv_nwa {nn t : Nat} {at_ : ArrayType} {ty : FieldType} {x : Int32} {a0 : vp_A} (h : sl_D Y pc (.newarray at_) 2 q) (hty : newarray.typeOf at_ = ty) (ht : sl_ti ty = some t) (w : Cond.arrayClass ty ∈ sl_g) (ha : ∀ cA : ClassId, vp_cell cA a0 = arrV cA a0.1 (fun _ => defaultValue ty)) (hx : ¬ x < 0) (hN : x.toNatClampNeg = a0.1) (hb : a0.1 * componentBytes ty ≤ 536870912) (hw : nw nn M) (hX : nn < sl_X) (hst : sl_rt nn st = true) (hlv : sl_rl nn lv = true) (hk : kc = kc' + 1) (hs : ks = ks' + a0.1) (kk : nw (nn + 1) (sl_up M nn (.inl (ty, a0))) → sl_V Y X d kc' ks' Q q lv (.ref nn :: st) (sl_up M nn (.inl (ty, a0)))) : sl_V Y X d kc ks Q pc lv (.int x :: st) M :=
  slv_newa h hty ht w ha hx hN hb hw.1 (nw_h2 hw) hX (fun k _ => hw.2.1 nn (Nat.le_refl _) k) (sl_rt_ok hst hX) (sl_rl_ok hlv hX) hk hs (kk (nw_push hw rfl (by show (0 : Nat) ≠ 100; decide)))
end NWR

/-! the start of the law, out of what the tables say: classes and arrays -/
theorem gl_sub {w : Cond} (h : w ∈ sl_g) : w ∈ lw_tbl := (List.mem_filter.mp h).1
theorem gl_cls {s : State} {args : Array Value} (hts : ∀ w ∈ lw_tbl, w.before args s = true) {own : String} {idx ci N : Nat} {fs : List Value} (L : sl_LC own idx ci N fs) : ∃ p : ClassId × (Nat → Nat), ∀ q, vwCl[ci]? = some q → u_Kn s q.1 q.2.1 q.2.2 p.1 p.2 := by
  obtain ⟨C, T, tf, hCL, -, hi, -⟩ := L
  obtain ⟨cC, iS, h⟩ := u_known (n := N) hts (fun w hw => gl_sub (hCL.2.1 w hw)) (hts _ (gl_sub hi))
  exact ⟨(cC, iS), fun q hq => by rw [hCL.1] at hq; cases hq; exact h⟩
theorem gl_arr {s : State} {args : Array Value} (hts : ∀ w ∈ lw_tbl, w.before args s = true) {ty : FieldType} (h : Cond.arrayClass ty ∈ sl_g) : ∃ cA : ClassId, ArrOfT s cA ty ∧ s.vm.findClass ("[" ++ ty.toString) = some cA := by
  obtain ⟨cA, kA, comp, h1, h2, h3⟩ := Cond.arrayClass_spec (hts _ (gl_sub h))
  exact ⟨cA, fun n z => ⟨fun k h => (by cases h), kA, h2, comp, h3⟩, h1⟩
theorem gl_K {s : State} {args : Array Value} (hts : ∀ w ∈ lw_tbl, w.before args s = true) : ∃ (D : va_G) (dA : FieldType → ClassId), va_K D vwCl (sl_tys dA) s := by
  have h : ∀ k : Nat, ∃ p : ClassId × (Nat → Nat), ∀ q, vwCl[k]? = some q → u_Kn s q.1 q.2.1 q.2.2 p.1 p.2 := by
    intro k
    match k with
    | 0 => exact gl_cls hts nX11_44
    | 1 => exact gl_cls hts nX11_51
    | 2 => exact gl_cls hts nX11_13
    | 3 => exact gl_cls hts nX11_23
    | 4 => exact gl_cls hts nX7_28
    | 5 => exact gl_cls hts nX11_37
    | 6 => exact gl_cls hts nX7_9
    | 7 => exact gl_cls hts nX11_58
    | 8 => exact gl_cls hts nX7_35
    | 9 => exact gl_cls hts nX11_30
    | 10 => exact gl_cls hts nL_8
    | 11 => exact gl_cls hts nL_16
    | k + 12 => exact ⟨(default, fun _ => 0), fun q hq => by
        have : vwCl[k + 12]? = none := List.getElem?_eq_none (by show 12 ≤ k + 12; omega)
        rw [this] at hq
        cases hq⟩
  obtain ⟨f, hf⟩ := Classical.axiomOfChoice h
  obtain ⟨c1, i1, j1⟩ := gl_arr hts ac_int
  obtain ⟨c2, i2, j2⟩ := gl_arr hts ac_byte
  obtain ⟨c3, i3, j3⟩ := gl_arr hts ac_boolean
  obtain ⟨c4, i4, j4⟩ := gl_arr hts ac_long
  refine ⟨(fun k => (f k).1, fun k => (f k).2), fun ty => match ty with
    | .int => c1
    | .byte => c2
    | .boolean => c3
    | _ => c4, fun c q hq => hf c q hq, fun k q hq => ?_⟩
  match k, hq with
  | 0, hq => cases hq; exact ⟨i1, j1⟩
  | 1, hq => cases hq; exact ⟨i2, j2⟩
  | 2, hq => cases hq; exact ⟨i3, j3⟩
  | 3, hq => cases hq; exact ⟨i4, j4⟩
  | k + 4, hq => cases hq

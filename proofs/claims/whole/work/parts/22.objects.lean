/-- a node, or none: -2 -/
def sl_nd : Option Nat → Int32
  | none => -2
  | some k => nI k
/-! Acts, at 30 -/
def ac_at (c : Nat) (o : Nat → Int32) (w : Nat → Int32) (M : sl_M) : Prop := M (30) = .inr (0, [.int (nI c), .ref 31, .ref 32]) ∧ M (31) = .inl (.int, 10, .inl o) ∧ M (32) = .inl (.int, 10, .inl w)
abbrev ac_set (c : Nat) (o : Nat → Int32) (w : Nat → Int32) (M : sl_M) : sl_M := sl_up (sl_up (sl_up (M) (30) (.inr (0, [.int (nI c), .ref 31, .ref 32]))) (31) (.inl (.int, 10, .inl o))) (32) (.inl (.int, 10, .inl w))
theorem ac_self {c : Nat} {o : Nat → Int32} {w : Nat → Int32} {M : sl_M} (h : ac_at c o w M) : ac_set c o w M = M := by
  obtain ⟨a0, a1, a2⟩ := h
  funext k
  simp only [sl_up]
  by_cases h2 : k = 32
  · rw [if_pos h2, h2]; exact a2.symm
  rw [if_neg h2]
  by_cases h1 : k = 31
  · rw [if_pos h1, h1]; exact a1.symm
  rw [if_neg h1]
  by_cases h0 : k = 30
  · rw [if_pos h0, h0]; exact a0.symm
  rw [if_neg h0]
theorem ac_of {c : Nat} {o : Nat → Int32} {w : Nat → Int32} {M : sl_M} : ac_at c o w (ac_set c o w M) := by
  refine ⟨?_, ?_, ?_⟩ <;> simp [sl_up]
theorem ac_ss {c : Nat} {o : Nat → Int32} {w : Nat → Int32} {c' : Nat} {o' : Nat → Int32} {w' : Nat → Int32} {M : sl_M} : ac_set c o w (ac_set c' o' w' M) = ac_set c o w M := by
  funext k
  simp only [sl_up]
  by_cases h2 : k = 32
  · simp only [if_pos h2]
  simp only [if_neg h2]
  by_cases h1 : k = 31
  · simp only [if_pos h1]
  simp only [if_neg h1]
  by_cases h0 : k = 30
  · simp only [if_pos h0]
  simp only [if_neg h0]
theorem ac_out {c : Nat} {o : Nat → Int32} {w : Nat → Int32} {M : sl_M} {k : Nat} (h : k ≠ 30 ∧ k ≠ 31 ∧ k ≠ 32) : ac_set c o w M k = M k := by
  obtain ⟨b0, b1, b2⟩ := h
  simp only [sl_up]
  rw [if_neg b2, if_neg b1, if_neg b0]
theorem ac_u30 {c : Nat} {o : Nat → Int32} {w : Nat → Int32} {c' : Nat} {M : sl_M} : sl_up (ac_set c o w M) (30) (.inr (0, [.int (nI c'), .ref 31, .ref 32])) = ac_set c' o w M := by
  funext k
  simp only [sl_up]
  by_cases h : k = 30
  · simp [h]
  simp only [if_neg h]
theorem ac_u31 {c : Nat} {o : Nat → Int32} {w : Nat → Int32} {o' : Nat → Int32} {M : sl_M} : sl_up (ac_set c o w M) (31) (.inl (.int, 10, .inl o')) = ac_set c o' w M := by
  funext k
  simp only [sl_up]
  by_cases h : k = 31
  · simp [h]
  simp only [if_neg h]
theorem ac_u32 {c : Nat} {o : Nat → Int32} {w : Nat → Int32} {w' : Nat → Int32} {M : sl_M} : sl_up (ac_set c o w M) (32) (.inl (.int, 10, .inl w')) = ac_set c o w' M := by
  funext k
  simp only [sl_up]
  by_cases h : k = 32
  · simp [h]
  simp only [if_neg h]
/-! Nodes, at b -/
def no_at (b : Nat) (c : Nat) (ru : Nat → Nat) (fi : Nat → Option Nat) (se : Nat → Option Nat) (de : Nat → Nat) (si : Nat → Nat) (rl : Nat → Bool) (bi : Nat → Int32) (M : sl_M) : Prop := M (b) = .inr (6, [.int (nI c), .ref (b + 1), .ref (b + 2), .ref (b + 3), .ref (b + 4), .ref (b + 5), .ref (b + 6), .ref (b + 7)]) ∧ M (b + 1) = .inl (.int, 60, .inl fun i => nI (ru i)) ∧ M (b + 2) = .inl (.int, 60, .inl fun i => sl_nd (fi i)) ∧ M (b + 3) = .inl (.int, 60, .inl fun i => sl_nd (se i)) ∧ M (b + 4) = .inl (.int, 60, .inl fun i => nI (de i)) ∧ M (b + 5) = .inl (.int, 60, .inl fun i => nI (si i)) ∧ M (b + 6) = .inl (.boolean, 60, .inl fun i => sl_bi (rl i)) ∧ M (b + 7) = .inl (.int, 60, .inl bi)
abbrev no_set (b : Nat) (c : Nat) (ru : Nat → Nat) (fi : Nat → Option Nat) (se : Nat → Option Nat) (de : Nat → Nat) (si : Nat → Nat) (rl : Nat → Bool) (bi : Nat → Int32) (M : sl_M) : sl_M := sl_up (sl_up (sl_up (sl_up (sl_up (sl_up (sl_up (sl_up (M) (b) (.inr (6, [.int (nI c), .ref (b + 1), .ref (b + 2), .ref (b + 3), .ref (b + 4), .ref (b + 5), .ref (b + 6), .ref (b + 7)]))) (b + 1) (.inl (.int, 60, .inl fun i => nI (ru i)))) (b + 2) (.inl (.int, 60, .inl fun i => sl_nd (fi i)))) (b + 3) (.inl (.int, 60, .inl fun i => sl_nd (se i)))) (b + 4) (.inl (.int, 60, .inl fun i => nI (de i)))) (b + 5) (.inl (.int, 60, .inl fun i => nI (si i)))) (b + 6) (.inl (.boolean, 60, .inl fun i => sl_bi (rl i)))) (b + 7) (.inl (.int, 60, .inl bi))
theorem no_self {b : Nat} {c : Nat} {ru : Nat → Nat} {fi : Nat → Option Nat} {se : Nat → Option Nat} {de : Nat → Nat} {si : Nat → Nat} {rl : Nat → Bool} {bi : Nat → Int32} {M : sl_M} (h : no_at b c ru fi se de si rl bi M) : no_set b c ru fi se de si rl bi M = M := by
  obtain ⟨a0, a1, a2, a3, a4, a5, a6, a7⟩ := h
  funext k
  simp only [sl_up]
  by_cases h7 : k = b + 7
  · rw [if_pos h7, h7]; exact a7.symm
  rw [if_neg h7]
  by_cases h6 : k = b + 6
  · rw [if_pos h6, h6]; exact a6.symm
  rw [if_neg h6]
  by_cases h5 : k = b + 5
  · rw [if_pos h5, h5]; exact a5.symm
  rw [if_neg h5]
  by_cases h4 : k = b + 4
  · rw [if_pos h4, h4]; exact a4.symm
  rw [if_neg h4]
  by_cases h3 : k = b + 3
  · rw [if_pos h3, h3]; exact a3.symm
  rw [if_neg h3]
  by_cases h2 : k = b + 2
  · rw [if_pos h2, h2]; exact a2.symm
  rw [if_neg h2]
  by_cases h1 : k = b + 1
  · rw [if_pos h1, h1]; exact a1.symm
  rw [if_neg h1]
  by_cases h0 : k = b
  · rw [if_pos h0, h0]; exact a0.symm
  rw [if_neg h0]
theorem no_of {b : Nat} {c : Nat} {ru : Nat → Nat} {fi : Nat → Option Nat} {se : Nat → Option Nat} {de : Nat → Nat} {si : Nat → Nat} {rl : Nat → Bool} {bi : Nat → Int32} {M : sl_M} : no_at b c ru fi se de si rl bi (no_set b c ru fi se de si rl bi M) := by
  refine ⟨?_, ?_, ?_, ?_, ?_, ?_, ?_, ?_⟩ <;> simp [sl_up]
theorem no_ss {b : Nat} {c : Nat} {ru : Nat → Nat} {fi : Nat → Option Nat} {se : Nat → Option Nat} {de : Nat → Nat} {si : Nat → Nat} {rl : Nat → Bool} {bi : Nat → Int32} {c' : Nat} {ru' : Nat → Nat} {fi' : Nat → Option Nat} {se' : Nat → Option Nat} {de' : Nat → Nat} {si' : Nat → Nat} {rl' : Nat → Bool} {bi' : Nat → Int32} {M : sl_M} : no_set b c ru fi se de si rl bi (no_set b c' ru' fi' se' de' si' rl' bi' M) = no_set b c ru fi se de si rl bi M := by
  funext k
  simp only [sl_up]
  by_cases h7 : k = b + 7
  · simp only [if_pos h7]
  simp only [if_neg h7]
  by_cases h6 : k = b + 6
  · simp only [if_pos h6]
  simp only [if_neg h6]
  by_cases h5 : k = b + 5
  · simp only [if_pos h5]
  simp only [if_neg h5]
  by_cases h4 : k = b + 4
  · simp only [if_pos h4]
  simp only [if_neg h4]
  by_cases h3 : k = b + 3
  · simp only [if_pos h3]
  simp only [if_neg h3]
  by_cases h2 : k = b + 2
  · simp only [if_pos h2]
  simp only [if_neg h2]
  by_cases h1 : k = b + 1
  · simp only [if_pos h1]
  simp only [if_neg h1]
  by_cases h0 : k = b
  · simp only [if_pos h0]
  simp only [if_neg h0]
theorem no_out {b : Nat} {c : Nat} {ru : Nat → Nat} {fi : Nat → Option Nat} {se : Nat → Option Nat} {de : Nat → Nat} {si : Nat → Nat} {rl : Nat → Bool} {bi : Nat → Int32} {M : sl_M} {k : Nat} (h : k ≠ b ∧ k ≠ b + 1 ∧ k ≠ b + 2 ∧ k ≠ b + 3 ∧ k ≠ b + 4 ∧ k ≠ b + 5 ∧ k ≠ b + 6 ∧ k ≠ b + 7) : no_set b c ru fi se de si rl bi M k = M k := by
  obtain ⟨b0, b1, b2, b3, b4, b5, b6, b7⟩ := h
  simp only [sl_up]
  rw [if_neg b7, if_neg b6, if_neg b5, if_neg b4, if_neg b3, if_neg b2, if_neg b1, if_neg b0]
theorem no_u0 {b : Nat} {c : Nat} {ru : Nat → Nat} {fi : Nat → Option Nat} {se : Nat → Option Nat} {de : Nat → Nat} {si : Nat → Nat} {rl : Nat → Bool} {bi : Nat → Int32} {c' : Nat} {M : sl_M} : sl_up (no_set b c ru fi se de si rl bi M) (b) (.inr (6, [.int (nI c'), .ref (b + 1), .ref (b + 2), .ref (b + 3), .ref (b + 4), .ref (b + 5), .ref (b + 6), .ref (b + 7)])) = no_set b c' ru fi se de si rl bi M := by
  funext k
  simp only [sl_up]
  by_cases h : k = b
  · subst h; simp
  simp only [if_neg h]
theorem no_u1 {b : Nat} {c : Nat} {ru : Nat → Nat} {fi : Nat → Option Nat} {se : Nat → Option Nat} {de : Nat → Nat} {si : Nat → Nat} {rl : Nat → Bool} {bi : Nat → Int32} {ru' : Nat → Nat} {M : sl_M} : sl_up (no_set b c ru fi se de si rl bi M) (b + 1) (.inl (.int, 60, .inl fun i => nI (ru' i))) = no_set b c ru' fi se de si rl bi M := by
  funext k
  simp only [sl_up]
  by_cases h : k = b + 1
  · subst h; simp
  simp only [if_neg h]
theorem no_u2 {b : Nat} {c : Nat} {ru : Nat → Nat} {fi : Nat → Option Nat} {se : Nat → Option Nat} {de : Nat → Nat} {si : Nat → Nat} {rl : Nat → Bool} {bi : Nat → Int32} {fi' : Nat → Option Nat} {M : sl_M} : sl_up (no_set b c ru fi se de si rl bi M) (b + 2) (.inl (.int, 60, .inl fun i => sl_nd (fi' i))) = no_set b c ru fi' se de si rl bi M := by
  funext k
  simp only [sl_up]
  by_cases h : k = b + 2
  · subst h; simp
  simp only [if_neg h]
theorem no_u3 {b : Nat} {c : Nat} {ru : Nat → Nat} {fi : Nat → Option Nat} {se : Nat → Option Nat} {de : Nat → Nat} {si : Nat → Nat} {rl : Nat → Bool} {bi : Nat → Int32} {se' : Nat → Option Nat} {M : sl_M} : sl_up (no_set b c ru fi se de si rl bi M) (b + 3) (.inl (.int, 60, .inl fun i => sl_nd (se' i))) = no_set b c ru fi se' de si rl bi M := by
  funext k
  simp only [sl_up]
  by_cases h : k = b + 3
  · subst h; simp
  simp only [if_neg h]
theorem no_u4 {b : Nat} {c : Nat} {ru : Nat → Nat} {fi : Nat → Option Nat} {se : Nat → Option Nat} {de : Nat → Nat} {si : Nat → Nat} {rl : Nat → Bool} {bi : Nat → Int32} {de' : Nat → Nat} {M : sl_M} : sl_up (no_set b c ru fi se de si rl bi M) (b + 4) (.inl (.int, 60, .inl fun i => nI (de' i))) = no_set b c ru fi se de' si rl bi M := by
  funext k
  simp only [sl_up]
  by_cases h : k = b + 4
  · subst h; simp
  simp only [if_neg h]
theorem no_u5 {b : Nat} {c : Nat} {ru : Nat → Nat} {fi : Nat → Option Nat} {se : Nat → Option Nat} {de : Nat → Nat} {si : Nat → Nat} {rl : Nat → Bool} {bi : Nat → Int32} {si' : Nat → Nat} {M : sl_M} : sl_up (no_set b c ru fi se de si rl bi M) (b + 5) (.inl (.int, 60, .inl fun i => nI (si' i))) = no_set b c ru fi se de si' rl bi M := by
  funext k
  simp only [sl_up]
  by_cases h : k = b + 5
  · subst h; simp
  simp only [if_neg h]
theorem no_u6 {b : Nat} {c : Nat} {ru : Nat → Nat} {fi : Nat → Option Nat} {se : Nat → Option Nat} {de : Nat → Nat} {si : Nat → Nat} {rl : Nat → Bool} {bi : Nat → Int32} {rl' : Nat → Bool} {M : sl_M} : sl_up (no_set b c ru fi se de si rl bi M) (b + 6) (.inl (.boolean, 60, .inl fun i => sl_bi (rl' i))) = no_set b c ru fi se de si rl' bi M := by
  funext k
  simp only [sl_up]
  by_cases h : k = b + 6
  · subst h; simp
  simp only [if_neg h]
theorem no_u7 {b : Nat} {c : Nat} {ru : Nat → Nat} {fi : Nat → Option Nat} {se : Nat → Option Nat} {de : Nat → Nat} {si : Nat → Nat} {rl : Nat → Bool} {bi : Nat → Int32} {bi' : Nat → Int32} {M : sl_M} : sl_up (no_set b c ru fi se de si rl bi M) (b + 7) (.inl (.int, 60, .inl bi')) = no_set b c ru fi se de si rl bi' M := by
  funext k
  simp only [sl_up]
  by_cases h : k = b + 7
  · subst h; simp
  simp only [if_neg h]
/-! Handle, at b -/
def hn_at (b : Nat) (f : Option Nat) (s : Option Nat) (n : Nat) (it : Nat → Nat) (M : sl_M) : Prop := M (b) = .inr (4, [.int (sl_nd f), .int (sl_nd s), .int (nI n), .ref (b + 1)]) ∧ M (b + 1) = .inl (.int, 31, .inl fun i => nI (it i))
abbrev hn_set (b : Nat) (f : Option Nat) (s : Option Nat) (n : Nat) (it : Nat → Nat) (M : sl_M) : sl_M := sl_up (sl_up (M) (b) (.inr (4, [.int (sl_nd f), .int (sl_nd s), .int (nI n), .ref (b + 1)]))) (b + 1) (.inl (.int, 31, .inl fun i => nI (it i)))
theorem hn_self {b : Nat} {f : Option Nat} {s : Option Nat} {n : Nat} {it : Nat → Nat} {M : sl_M} (h : hn_at b f s n it M) : hn_set b f s n it M = M := by
  obtain ⟨a0, a1⟩ := h
  funext k
  simp only [sl_up]
  by_cases h1 : k = b + 1
  · rw [if_pos h1, h1]; exact a1.symm
  rw [if_neg h1]
  by_cases h0 : k = b
  · rw [if_pos h0, h0]; exact a0.symm
  rw [if_neg h0]
theorem hn_of {b : Nat} {f : Option Nat} {s : Option Nat} {n : Nat} {it : Nat → Nat} {M : sl_M} : hn_at b f s n it (hn_set b f s n it M) := by
  refine ⟨?_, ?_⟩ <;> simp [sl_up]
theorem hn_ss {b : Nat} {f : Option Nat} {s : Option Nat} {n : Nat} {it : Nat → Nat} {f' : Option Nat} {s' : Option Nat} {n' : Nat} {it' : Nat → Nat} {M : sl_M} : hn_set b f s n it (hn_set b f' s' n' it' M) = hn_set b f s n it M := by
  funext k
  simp only [sl_up]
  by_cases h1 : k = b + 1
  · simp only [if_pos h1]
  simp only [if_neg h1]
  by_cases h0 : k = b
  · simp only [if_pos h0]
  simp only [if_neg h0]
theorem hn_out {b : Nat} {f : Option Nat} {s : Option Nat} {n : Nat} {it : Nat → Nat} {M : sl_M} {k : Nat} (h : k ≠ b ∧ k ≠ b + 1) : hn_set b f s n it M k = M k := by
  obtain ⟨b0, b1⟩ := h
  simp only [sl_up]
  rw [if_neg b1, if_neg b0]
theorem hn_u0 {b : Nat} {f : Option Nat} {s : Option Nat} {n : Nat} {it : Nat → Nat} {f' : Option Nat} {s' : Option Nat} {n' : Nat} {M : sl_M} : sl_up (hn_set b f s n it M) (b) (.inr (4, [.int (sl_nd f'), .int (sl_nd s'), .int (nI n'), .ref (b + 1)])) = hn_set b f' s' n' it M := by
  funext k
  simp only [sl_up]
  by_cases h : k = b
  · subst h; simp
  simp only [if_neg h]
theorem hn_u1 {b : Nat} {f : Option Nat} {s : Option Nat} {n : Nat} {it : Nat → Nat} {it' : Nat → Nat} {M : sl_M} : sl_up (hn_set b f s n it M) (b + 1) (.inl (.int, 31, .inl fun i => nI (it' i))) = hn_set b f s n it' M := by
  funext k
  simp only [sl_up]
  by_cases h : k = b + 1
  · subst h; simp
  simp only [if_neg h]
/-! Reckoner, at b -/
def rc_at (b : Nat) (r : Bool) (i : Int32) (M : sl_M) : Prop := M (b) = .inr (8, [.int (sl_bi r), .int i])
abbrev rc_set (b : Nat) (r : Bool) (i : Int32) (M : sl_M) : sl_M := sl_up (M) (b) (.inr (8, [.int (sl_bi r), .int i]))
theorem rc_self {b : Nat} {r : Bool} {i : Int32} {M : sl_M} (h : rc_at b r i M) : rc_set b r i M = M := by
  have a0 := h
  funext k
  simp only [sl_up]
  by_cases h0 : k = b
  · rw [if_pos h0, h0]; exact a0.symm
  rw [if_neg h0]
theorem rc_of {b : Nat} {r : Bool} {i : Int32} {M : sl_M} : rc_at b r i (rc_set b r i M) := by
  show rc_set b r i M (b) = _ <;> simp [sl_up]
theorem rc_ss {b : Nat} {r : Bool} {i : Int32} {r' : Bool} {i' : Int32} {M : sl_M} : rc_set b r i (rc_set b r' i' M) = rc_set b r i M := by
  funext k
  simp only [sl_up]
  by_cases h0 : k = b
  · simp only [if_pos h0]
  simp only [if_neg h0]
theorem rc_out {b : Nat} {r : Bool} {i : Int32} {M : sl_M} {k : Nat} (h : k ≠ b) : rc_set b r i M k = M k := by
  have b0 := h
  simp only [sl_up]
  rw [if_neg b0]
theorem rc_u0 {b : Nat} {r : Bool} {i : Int32} {r' : Bool} {i' : Int32} {M : sl_M} : sl_up (rc_set b r i M) (b) (.inr (8, [.int (sl_bi r'), .int i'])) = rc_set b r' i' M := by
  funext k
  simp only [sl_up]
  by_cases h : k = b
  · subst h; simp
  simp only [if_neg h]

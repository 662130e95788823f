/-! Reading, at b -/
def rg_at (b : Nat) (ho : Nat) (fa : Nat) (pl : Int32) (sp : Nat) (mo : Nat) (gv : Value) (rv : Value) (lv : Value) (fv : Value) (nx : Nat) (en : Bool) (tp : Nat) (stk : Nat → Nat) (tok : Nat → Nat) (beh : Nat → Option Nat) (c : Nat) (ru : Nat → Nat) (fi : Nat → Option Nat) (se : Nat → Option Nat) (de : Nat → Nat) (si : Nat → Nat) (rl : Nat → Bool) (bi : Nat → Int32) (f : Option Nat) (s : Option Nat) (n : Nat) (it : Nat → Nat) (r : Bool) (i : Int32) (M : sl_M) : Prop := M (b) = .inr (7, [.int (nI ho), .int (nI fa), .int pl, .int (nI sp), .int (nI mo), .ref (b + 1), gv, rv, lv, fv, .int (nI nx), .int (sl_bi en), .int (nI tp), .ref (b + 9), .ref (b + 10), .ref (b + 11), .ref (b + 12), .ref (b + 14)]) ∧ M (b + 9) = .inl (.int, 16, .inl fun i => nI (stk i)) ∧ M (b + 10) = .inl (.int, 16, .inl fun i => nI (tok i)) ∧ M (b + 11) = .inl (.int, 16, .inl fun i => sl_nd (beh i)) ∧ M (b + 1) = .inr (6, [.int (nI c), .ref (b + 1 + 1), .ref (b + 1 + 2), .ref (b + 1 + 3), .ref (b + 1 + 4), .ref (b + 1 + 5), .ref (b + 1 + 6), .ref (b + 1 + 7)]) ∧ M (b + 1 + 1) = .inl (.int, 60, .inl fun i => nI (ru i)) ∧ M (b + 1 + 2) = .inl (.int, 60, .inl fun i => sl_nd (fi i)) ∧ M (b + 1 + 3) = .inl (.int, 60, .inl fun i => sl_nd (se i)) ∧ M (b + 1 + 4) = .inl (.int, 60, .inl fun i => nI (de i)) ∧ M (b + 1 + 5) = .inl (.int, 60, .inl fun i => nI (si i)) ∧ M (b + 1 + 6) = .inl (.boolean, 60, .inl fun i => sl_bi (rl i)) ∧ M (b + 1 + 7) = .inl (.int, 60, .inl bi) ∧ M (b + 12) = .inr (4, [.int (sl_nd f), .int (sl_nd s), .int (nI n), .ref (b + 12 + 1)]) ∧ M (b + 12 + 1) = .inl (.int, 31, .inl fun i => nI (it i)) ∧ M (b + 14) = .inr (8, [.int (sl_bi r), .int i])
abbrev rg_set (b : Nat) (ho : Nat) (fa : Nat) (pl : Int32) (sp : Nat) (mo : Nat) (gv : Value) (rv : Value) (lv : Value) (fv : Value) (nx : Nat) (en : Bool) (tp : Nat) (stk : Nat → Nat) (tok : Nat → Nat) (beh : Nat → Option Nat) (c : Nat) (ru : Nat → Nat) (fi : Nat → Option Nat) (se : Nat → Option Nat) (de : Nat → Nat) (si : Nat → Nat) (rl : Nat → Bool) (bi : Nat → Int32) (f : Option Nat) (s : Option Nat) (n : Nat) (it : Nat → Nat) (r : Bool) (i : Int32) (M : sl_M) : sl_M := sl_up (sl_up (sl_up (sl_up (sl_up (sl_up (sl_up (sl_up (sl_up (sl_up (sl_up (sl_up (sl_up (sl_up (sl_up (M) (b) (.inr (7, [.int (nI ho), .int (nI fa), .int pl, .int (nI sp), .int (nI mo), .ref (b + 1), gv, rv, lv, fv, .int (nI nx), .int (sl_bi en), .int (nI tp), .ref (b + 9), .ref (b + 10), .ref (b + 11), .ref (b + 12), .ref (b + 14)]))) (b + 9) (.inl (.int, 16, .inl fun i => nI (stk i)))) (b + 10) (.inl (.int, 16, .inl fun i => nI (tok i)))) (b + 11) (.inl (.int, 16, .inl fun i => sl_nd (beh i)))) (b + 1) (.inr (6, [.int (nI c), .ref (b + 1 + 1), .ref (b + 1 + 2), .ref (b + 1 + 3), .ref (b + 1 + 4), .ref (b + 1 + 5), .ref (b + 1 + 6), .ref (b + 1 + 7)]))) (b + 1 + 1) (.inl (.int, 60, .inl fun i => nI (ru i)))) (b + 1 + 2) (.inl (.int, 60, .inl fun i => sl_nd (fi i)))) (b + 1 + 3) (.inl (.int, 60, .inl fun i => sl_nd (se i)))) (b + 1 + 4) (.inl (.int, 60, .inl fun i => nI (de i)))) (b + 1 + 5) (.inl (.int, 60, .inl fun i => nI (si i)))) (b + 1 + 6) (.inl (.boolean, 60, .inl fun i => sl_bi (rl i)))) (b + 1 + 7) (.inl (.int, 60, .inl bi))) (b + 12) (.inr (4, [.int (sl_nd f), .int (sl_nd s), .int (nI n), .ref (b + 12 + 1)]))) (b + 12 + 1) (.inl (.int, 31, .inl fun i => nI (it i)))) (b + 14) (.inr (8, [.int (sl_bi r), .int i]))
theorem rg_self {b : Nat} {ho : Nat} {fa : Nat} {pl : Int32} {sp : Nat} {mo : Nat} {gv : Value} {rv : Value} {lv : Value} {fv : Value} {nx : Nat} {en : Bool} {tp : Nat} {stk : Nat → Nat} {tok : Nat → Nat} {beh : Nat → Option Nat} {c : Nat} {ru : Nat → Nat} {fi : Nat → Option Nat} {se : Nat → Option Nat} {de : Nat → Nat} {si : Nat → Nat} {rl : Nat → Bool} {bi : Nat → Int32} {f : Option Nat} {s : Option Nat} {n : Nat} {it : Nat → Nat} {r : Bool} {i : Int32} {M : sl_M} (h : rg_at b ho fa pl sp mo gv rv lv fv nx en tp stk tok beh c ru fi se de si rl bi f s n it r i M) : rg_set b ho fa pl sp mo gv rv lv fv nx en tp stk tok beh c ru fi se de si rl bi f s n it r i M = M := by
  obtain ⟨a0, a1, a2, a3, a4, a5, a6, a7, a8, a9, a10, a11, a12, a13, a14⟩ := h
  funext k
  simp only [sl_up]
  by_cases h14 : k = b + 14
  · rw [if_pos h14, h14]; exact a14.symm
  rw [if_neg h14]
  by_cases h13 : k = b + 12 + 1
  · rw [if_pos h13, h13]; exact a13.symm
  rw [if_neg h13]
  by_cases h12 : k = b + 12
  · rw [if_pos h12, h12]; exact a12.symm
  rw [if_neg h12]
  by_cases h11 : k = b + 1 + 7
  · rw [if_pos h11, h11]; exact a11.symm
  rw [if_neg h11]
  by_cases h10 : k = b + 1 + 6
  · rw [if_pos h10, h10]; exact a10.symm
  rw [if_neg h10]
  by_cases h9 : k = b + 1 + 5
  · rw [if_pos h9, h9]; exact a9.symm
  rw [if_neg h9]
  by_cases h8 : k = b + 1 + 4
  · rw [if_pos h8, h8]; exact a8.symm
  rw [if_neg h8]
  by_cases h7 : k = b + 1 + 3
  · rw [if_pos h7, h7]; exact a7.symm
  rw [if_neg h7]
  by_cases h6 : k = b + 1 + 2
  · rw [if_pos h6, h6]; exact a6.symm
  rw [if_neg h6]
  by_cases h5 : k = b + 1 + 1
  · rw [if_pos h5, h5]; exact a5.symm
  rw [if_neg h5]
  by_cases h4 : k = b + 1
  · rw [if_pos h4, h4]; exact a4.symm
  rw [if_neg h4]
  by_cases h3 : k = b + 11
  · rw [if_pos h3, h3]; exact a3.symm
  rw [if_neg h3]
  by_cases h2 : k = b + 10
  · rw [if_pos h2, h2]; exact a2.symm
  rw [if_neg h2]
  by_cases h1 : k = b + 9
  · rw [if_pos h1, h1]; exact a1.symm
  rw [if_neg h1]
  by_cases h0 : k = b
  · rw [if_pos h0, h0]; exact a0.symm
  rw [if_neg h0]
theorem rg_of {b : Nat} {ho : Nat} {fa : Nat} {pl : Int32} {sp : Nat} {mo : Nat} {gv : Value} {rv : Value} {lv : Value} {fv : Value} {nx : Nat} {en : Bool} {tp : Nat} {stk : Nat → Nat} {tok : Nat → Nat} {beh : Nat → Option Nat} {c : Nat} {ru : Nat → Nat} {fi : Nat → Option Nat} {se : Nat → Option Nat} {de : Nat → Nat} {si : Nat → Nat} {rl : Nat → Bool} {bi : Nat → Int32} {f : Option Nat} {s : Option Nat} {n : Nat} {it : Nat → Nat} {r : Bool} {i : Int32} {M : sl_M} : rg_at b ho fa pl sp mo gv rv lv fv nx en tp stk tok beh c ru fi se de si rl bi f s n it r i (rg_set b ho fa pl sp mo gv rv lv fv nx en tp stk tok beh c ru fi se de si rl bi f s n it r i M) := by
  refine ⟨?_, ?_, ?_, ?_, ?_, ?_, ?_, ?_, ?_, ?_, ?_, ?_, ?_, ?_, ?_⟩ <;> simp [sl_up, Nat.add_assoc]
theorem rg_out {b : Nat} {ho : Nat} {fa : Nat} {pl : Int32} {sp : Nat} {mo : Nat} {gv : Value} {rv : Value} {lv : Value} {fv : Value} {nx : Nat} {en : Bool} {tp : Nat} {stk : Nat → Nat} {tok : Nat → Nat} {beh : Nat → Option Nat} {c : Nat} {ru : Nat → Nat} {fi : Nat → Option Nat} {se : Nat → Option Nat} {de : Nat → Nat} {si : Nat → Nat} {rl : Nat → Bool} {bi : Nat → Int32} {f : Option Nat} {s : Option Nat} {n : Nat} {it : Nat → Nat} {r : Bool} {i : Int32} {M : sl_M} {k : Nat} (h : k < b ∨ b + 15 ≤ k) : rg_set b ho fa pl sp mo gv rv lv fv nx en tp stk tok beh c ru fi se de si rl bi f s n it r i M k = M k := by
  simp only [sl_up]
  rw [if_neg (show ¬ k = b + 14 by omega), if_neg (show ¬ k = b + 12 + 1 by omega), if_neg (show ¬ k = b + 12 by omega), if_neg (show ¬ k = b + 1 + 7 by omega), if_neg (show ¬ k = b + 1 + 6 by omega), if_neg (show ¬ k = b + 1 + 5 by omega), if_neg (show ¬ k = b + 1 + 4 by omega), if_neg (show ¬ k = b + 1 + 3 by omega), if_neg (show ¬ k = b + 1 + 2 by omega), if_neg (show ¬ k = b + 1 + 1 by omega), if_neg (show ¬ k = b + 1 by omega), if_neg (show ¬ k = b + 11 by omega), if_neg (show ¬ k = b + 10 by omega), if_neg (show ¬ k = b + 9 by omega), if_neg (show ¬ k = b by omega)]
theorem rg_ss {b : Nat} {ho : Nat} {fa : Nat} {pl : Int32} {sp : Nat} {mo : Nat} {gv : Value} {rv : Value} {lv : Value} {fv : Value} {nx : Nat} {en : Bool} {tp : Nat} {stk : Nat → Nat} {tok : Nat → Nat} {beh : Nat → Option Nat} {c : Nat} {ru : Nat → Nat} {fi : Nat → Option Nat} {se : Nat → Option Nat} {de : Nat → Nat} {si : Nat → Nat} {rl : Nat → Bool} {bi : Nat → Int32} {f : Option Nat} {s : Option Nat} {n : Nat} {it : Nat → Nat} {r : Bool} {i : Int32} {ho' : Nat} {fa' : Nat} {pl' : Int32} {sp' : Nat} {mo' : Nat} {gv' : Value} {rv' : Value} {lv' : Value} {fv' : Value} {nx' : Nat} {en' : Bool} {tp' : Nat} {stk' : Nat → Nat} {tok' : Nat → Nat} {beh' : Nat → Option Nat} {c' : Nat} {ru' : Nat → Nat} {fi' : Nat → Option Nat} {se' : Nat → Option Nat} {de' : Nat → Nat} {si' : Nat → Nat} {rl' : Nat → Bool} {bi' : Nat → Int32} {f' : Option Nat} {s' : Option Nat} {n' : Nat} {it' : Nat → Nat} {r' : Bool} {i' : Int32} {M : sl_M} : rg_set b ho fa pl sp mo gv rv lv fv nx en tp stk tok beh c ru fi se de si rl bi f s n it r i (rg_set b ho' fa' pl' sp' mo' gv' rv' lv' fv' nx' en' tp' stk' tok' beh' c' ru' fi' se' de' si' rl' bi' f' s' n' it' r' i' M) = rg_set b ho fa pl sp mo gv rv lv fv nx en tp stk tok beh c ru fi se de si rl bi f s n it r i M := by
  funext k
  simp only [sl_up]
  by_cases h14 : k = b + 14
  · simp only [if_pos h14]
  simp only [if_neg h14]
  by_cases h13 : k = b + 12 + 1
  · simp only [if_pos h13]
  simp only [if_neg h13]
  by_cases h12 : k = b + 12
  · simp only [if_pos h12]
  simp only [if_neg h12]
  by_cases h11 : k = b + 1 + 7
  · simp only [if_pos h11]
  simp only [if_neg h11]
  by_cases h10 : k = b + 1 + 6
  · simp only [if_pos h10]
  simp only [if_neg h10]
  by_cases h9 : k = b + 1 + 5
  · simp only [if_pos h9]
  simp only [if_neg h9]
  by_cases h8 : k = b + 1 + 4
  · simp only [if_pos h8]
  simp only [if_neg h8]
  by_cases h7 : k = b + 1 + 3
  · simp only [if_pos h7]
  simp only [if_neg h7]
  by_cases h6 : k = b + 1 + 2
  · simp only [if_pos h6]
  simp only [if_neg h6]
  by_cases h5 : k = b + 1 + 1
  · simp only [if_pos h5]
  simp only [if_neg h5]
  by_cases h4 : k = b + 1
  · simp only [if_pos h4]
  simp only [if_neg h4]
  by_cases h3 : k = b + 11
  · simp only [if_pos h3]
  simp only [if_neg h3]
  by_cases h2 : k = b + 10
  · simp only [if_pos h2]
  simp only [if_neg h2]
  by_cases h1 : k = b + 9
  · simp only [if_pos h1]
  simp only [if_neg h1]
  by_cases h0 : k = b
  · simp only [if_pos h0]
  simp only [if_neg h0]
theorem rg_u0 {b : Nat} {ho : Nat} {fa : Nat} {pl : Int32} {sp : Nat} {mo : Nat} {gv : Value} {rv : Value} {lv : Value} {fv : Value} {nx : Nat} {en : Bool} {tp : Nat} {stk : Nat → Nat} {tok : Nat → Nat} {beh : Nat → Option Nat} {c : Nat} {ru : Nat → Nat} {fi : Nat → Option Nat} {se : Nat → Option Nat} {de : Nat → Nat} {si : Nat → Nat} {rl : Nat → Bool} {bi : Nat → Int32} {f : Option Nat} {s : Option Nat} {n : Nat} {it : Nat → Nat} {r : Bool} {i : Int32} {ho' : Nat} {fa' : Nat} {pl' : Int32} {sp' : Nat} {mo' : Nat} {gv' : Value} {rv' : Value} {lv' : Value} {fv' : Value} {nx' : Nat} {en' : Bool} {tp' : Nat} {M : sl_M} : sl_up (rg_set b ho fa pl sp mo gv rv lv fv nx en tp stk tok beh c ru fi se de si rl bi f s n it r i M) (b) (.inr (7, [.int (nI ho'), .int (nI fa'), .int pl', .int (nI sp'), .int (nI mo'), .ref (b + 1), gv', rv', lv', fv', .int (nI nx'), .int (sl_bi en'), .int (nI tp'), .ref (b + 9), .ref (b + 10), .ref (b + 11), .ref (b + 12), .ref (b + 14)])) = rg_set b ho' fa' pl' sp' mo' gv' rv' lv' fv' nx' en' tp' stk tok beh c ru fi se de si rl bi f s n it r i M := by
  funext k
  simp only [sl_up]
  by_cases h : k = b
  · subst h; simp [Nat.add_assoc]
  simp only [if_neg h]
theorem rg_uS {b : Nat} {ho : Nat} {fa : Nat} {pl : Int32} {sp : Nat} {mo : Nat} {gv : Value} {rv : Value} {lv : Value} {fv : Value} {nx : Nat} {en : Bool} {tp : Nat} {stk : Nat → Nat} {tok : Nat → Nat} {beh : Nat → Option Nat} {c : Nat} {ru : Nat → Nat} {fi : Nat → Option Nat} {se : Nat → Option Nat} {de : Nat → Nat} {si : Nat → Nat} {rl : Nat → Bool} {bi : Nat → Int32} {f : Option Nat} {s : Option Nat} {n : Nat} {it : Nat → Nat} {r : Bool} {i : Int32} {stk' : Nat → Nat} {M : sl_M} : sl_up (rg_set b ho fa pl sp mo gv rv lv fv nx en tp stk tok beh c ru fi se de si rl bi f s n it r i M) (b + 9) (.inl (.int, 16, .inl fun i => nI (stk' i))) = rg_set b ho fa pl sp mo gv rv lv fv nx en tp stk' tok beh c ru fi se de si rl bi f s n it r i M := by
  funext k
  simp only [sl_up]
  by_cases h : k = b + 9
  · subst h; simp [Nat.add_assoc]
  simp only [if_neg h]
theorem rg_uT {b : Nat} {ho : Nat} {fa : Nat} {pl : Int32} {sp : Nat} {mo : Nat} {gv : Value} {rv : Value} {lv : Value} {fv : Value} {nx : Nat} {en : Bool} {tp : Nat} {stk : Nat → Nat} {tok : Nat → Nat} {beh : Nat → Option Nat} {c : Nat} {ru : Nat → Nat} {fi : Nat → Option Nat} {se : Nat → Option Nat} {de : Nat → Nat} {si : Nat → Nat} {rl : Nat → Bool} {bi : Nat → Int32} {f : Option Nat} {s : Option Nat} {n : Nat} {it : Nat → Nat} {r : Bool} {i : Int32} {tok' : Nat → Nat} {M : sl_M} : sl_up (rg_set b ho fa pl sp mo gv rv lv fv nx en tp stk tok beh c ru fi se de si rl bi f s n it r i M) (b + 10) (.inl (.int, 16, .inl fun i => nI (tok' i))) = rg_set b ho fa pl sp mo gv rv lv fv nx en tp stk tok' beh c ru fi se de si rl bi f s n it r i M := by
  funext k
  simp only [sl_up]
  by_cases h : k = b + 10
  · subst h; simp [Nat.add_assoc]
  simp only [if_neg h]
theorem rg_uB {b : Nat} {ho : Nat} {fa : Nat} {pl : Int32} {sp : Nat} {mo : Nat} {gv : Value} {rv : Value} {lv : Value} {fv : Value} {nx : Nat} {en : Bool} {tp : Nat} {stk : Nat → Nat} {tok : Nat → Nat} {beh : Nat → Option Nat} {c : Nat} {ru : Nat → Nat} {fi : Nat → Option Nat} {se : Nat → Option Nat} {de : Nat → Nat} {si : Nat → Nat} {rl : Nat → Bool} {bi : Nat → Int32} {f : Option Nat} {s : Option Nat} {n : Nat} {it : Nat → Nat} {r : Bool} {i : Int32} {beh' : Nat → Option Nat} {M : sl_M} : sl_up (rg_set b ho fa pl sp mo gv rv lv fv nx en tp stk tok beh c ru fi se de si rl bi f s n it r i M) (b + 11) (.inl (.int, 16, .inl fun i => sl_nd (beh' i))) = rg_set b ho fa pl sp mo gv rv lv fv nx en tp stk tok beh' c ru fi se de si rl bi f s n it r i M := by
  funext k
  simp only [sl_up]
  by_cases h : k = b + 11
  · subst h; simp [Nat.add_assoc]
  simp only [if_neg h]
theorem rg_uN {b : Nat} {ho : Nat} {fa : Nat} {pl : Int32} {sp : Nat} {mo : Nat} {gv : Value} {rv : Value} {lv : Value} {fv : Value} {nx : Nat} {en : Bool} {tp : Nat} {stk : Nat → Nat} {tok : Nat → Nat} {beh : Nat → Option Nat} {c : Nat} {ru : Nat → Nat} {fi : Nat → Option Nat} {se : Nat → Option Nat} {de : Nat → Nat} {si : Nat → Nat} {rl : Nat → Bool} {bi : Nat → Int32} {f : Option Nat} {s : Option Nat} {n : Nat} {it : Nat → Nat} {r : Bool} {i : Int32} {c' : Nat} {M : sl_M} : sl_up (rg_set b ho fa pl sp mo gv rv lv fv nx en tp stk tok beh c ru fi se de si rl bi f s n it r i M) (b + 1) (.inr (6, [.int (nI c'), .ref (b + 1 + 1), .ref (b + 1 + 2), .ref (b + 1 + 3), .ref (b + 1 + 4), .ref (b + 1 + 5), .ref (b + 1 + 6), .ref (b + 1 + 7)])) = rg_set b ho fa pl sp mo gv rv lv fv nx en tp stk tok beh c' ru fi se de si rl bi f s n it r i M := by
  funext k
  simp only [sl_up]
  by_cases h : k = b + 1
  · subst h; simp [Nat.add_assoc]
  simp only [if_neg h]
theorem rg_no {b : Nat} {ho : Nat} {fa : Nat} {pl : Int32} {sp : Nat} {mo : Nat} {gv : Value} {rv : Value} {lv : Value} {fv : Value} {nx : Nat} {en : Bool} {tp : Nat} {stk : Nat → Nat} {tok : Nat → Nat} {beh : Nat → Option Nat} {c : Nat} {ru : Nat → Nat} {fi : Nat → Option Nat} {se : Nat → Option Nat} {de : Nat → Nat} {si : Nat → Nat} {rl : Nat → Bool} {bi : Nat → Int32} {f : Option Nat} {s : Option Nat} {n : Nat} {it : Nat → Nat} {r : Bool} {i : Int32} {c' : Nat} {ru' : Nat → Nat} {fi' : Nat → Option Nat} {se' : Nat → Option Nat} {de' : Nat → Nat} {si' : Nat → Nat} {rl' : Nat → Bool} {bi' : Nat → Int32} {M : sl_M} : no_set (b + 1) c' ru' fi' se' de' si' rl' bi' (rg_set b ho fa pl sp mo gv rv lv fv nx en tp stk tok beh c ru fi se de si rl bi f s n it r i M) = rg_set b ho fa pl sp mo gv rv lv fv nx en tp stk tok beh c' ru' fi' se' de' si' rl' bi' f s n it r i M := by
  funext k
  simp only [sl_up]
  by_cases h11 : k = b + 1 + 7
  · subst h11; simp
  simp only [if_neg h11]
  by_cases h10 : k = b + 1 + 6
  · subst h10; simp
  simp only [if_neg h10]
  by_cases h9 : k = b + 1 + 5
  · subst h9; simp
  simp only [if_neg h9]
  by_cases h8 : k = b + 1 + 4
  · subst h8; simp
  simp only [if_neg h8]
  by_cases h7 : k = b + 1 + 3
  · subst h7; simp
  simp only [if_neg h7]
  by_cases h6 : k = b + 1 + 2
  · subst h6; simp
  simp only [if_neg h6]
  by_cases h5 : k = b + 1 + 1
  · subst h5; simp
  simp only [if_neg h5]
  by_cases h4 : k = b + 1
  · subst h4; simp
  simp only [if_neg h4]
theorem rg_no_at {b : Nat} {ho : Nat} {fa : Nat} {pl : Int32} {sp : Nat} {mo : Nat} {gv : Value} {rv : Value} {lv : Value} {fv : Value} {nx : Nat} {en : Bool} {tp : Nat} {stk : Nat → Nat} {tok : Nat → Nat} {beh : Nat → Option Nat} {c : Nat} {ru : Nat → Nat} {fi : Nat → Option Nat} {se : Nat → Option Nat} {de : Nat → Nat} {si : Nat → Nat} {rl : Nat → Bool} {bi : Nat → Int32} {f : Option Nat} {s : Option Nat} {n : Nat} {it : Nat → Nat} {r : Bool} {i : Int32} {M : sl_M} : no_at (b + 1) c ru fi se de si rl bi (rg_set b ho fa pl sp mo gv rv lv fv nx en tp stk tok beh c ru fi se de si rl bi f s n it r i M) := by
  refine ⟨?_, ?_, ?_, ?_, ?_, ?_, ?_, ?_⟩ <;> simp [sl_up, Nat.add_assoc]
theorem rg_hn {b : Nat} {ho : Nat} {fa : Nat} {pl : Int32} {sp : Nat} {mo : Nat} {gv : Value} {rv : Value} {lv : Value} {fv : Value} {nx : Nat} {en : Bool} {tp : Nat} {stk : Nat → Nat} {tok : Nat → Nat} {beh : Nat → Option Nat} {c : Nat} {ru : Nat → Nat} {fi : Nat → Option Nat} {se : Nat → Option Nat} {de : Nat → Nat} {si : Nat → Nat} {rl : Nat → Bool} {bi : Nat → Int32} {f : Option Nat} {s : Option Nat} {n : Nat} {it : Nat → Nat} {r : Bool} {i : Int32} {f' : Option Nat} {s' : Option Nat} {n' : Nat} {it' : Nat → Nat} {M : sl_M} : hn_set (b + 12) f' s' n' it' (rg_set b ho fa pl sp mo gv rv lv fv nx en tp stk tok beh c ru fi se de si rl bi f s n it r i M) = rg_set b ho fa pl sp mo gv rv lv fv nx en tp stk tok beh c ru fi se de si rl bi f' s' n' it' r i M := by
  funext k
  simp only [sl_up]
  by_cases h13 : k = b + 12 + 1
  · subst h13; simp
  simp only [if_neg h13]
  by_cases h12 : k = b + 12
  · subst h12; simp
  simp only [if_neg h12]
theorem rg_hn_at {b : Nat} {ho : Nat} {fa : Nat} {pl : Int32} {sp : Nat} {mo : Nat} {gv : Value} {rv : Value} {lv : Value} {fv : Value} {nx : Nat} {en : Bool} {tp : Nat} {stk : Nat → Nat} {tok : Nat → Nat} {beh : Nat → Option Nat} {c : Nat} {ru : Nat → Nat} {fi : Nat → Option Nat} {se : Nat → Option Nat} {de : Nat → Nat} {si : Nat → Nat} {rl : Nat → Bool} {bi : Nat → Int32} {f : Option Nat} {s : Option Nat} {n : Nat} {it : Nat → Nat} {r : Bool} {i : Int32} {M : sl_M} : hn_at (b + 12) f s n it (rg_set b ho fa pl sp mo gv rv lv fv nx en tp stk tok beh c ru fi se de si rl bi f s n it r i M) := by
  refine ⟨?_, ?_⟩ <;> simp [sl_up, Nat.add_assoc]
theorem rg_rc {b : Nat} {ho : Nat} {fa : Nat} {pl : Int32} {sp : Nat} {mo : Nat} {gv : Value} {rv : Value} {lv : Value} {fv : Value} {nx : Nat} {en : Bool} {tp : Nat} {stk : Nat → Nat} {tok : Nat → Nat} {beh : Nat → Option Nat} {c : Nat} {ru : Nat → Nat} {fi : Nat → Option Nat} {se : Nat → Option Nat} {de : Nat → Nat} {si : Nat → Nat} {rl : Nat → Bool} {bi : Nat → Int32} {f : Option Nat} {s : Option Nat} {n : Nat} {it : Nat → Nat} {r : Bool} {i : Int32} {r' : Bool} {i' : Int32} {M : sl_M} : rc_set (b + 14) r' i' (rg_set b ho fa pl sp mo gv rv lv fv nx en tp stk tok beh c ru fi se de si rl bi f s n it r i M) = rg_set b ho fa pl sp mo gv rv lv fv nx en tp stk tok beh c ru fi se de si rl bi f s n it r' i' M := by
  funext k
  simp only [sl_up]
  by_cases h14 : k = b + 14
  · subst h14; simp
  simp only [if_neg h14]
theorem rg_rc_at {b : Nat} {ho : Nat} {fa : Nat} {pl : Int32} {sp : Nat} {mo : Nat} {gv : Value} {rv : Value} {lv : Value} {fv : Value} {nx : Nat} {en : Bool} {tp : Nat} {stk : Nat → Nat} {tok : Nat → Nat} {beh : Nat → Option Nat} {c : Nat} {ru : Nat → Nat} {fi : Nat → Option Nat} {se : Nat → Option Nat} {de : Nat → Nat} {si : Nat → Nat} {rl : Nat → Bool} {bi : Nat → Int32} {f : Option Nat} {s : Option Nat} {n : Nat} {it : Nat → Nat} {r : Bool} {i : Int32} {M : sl_M} : rc_at (b + 14) r i (rg_set b ho fa pl sp mo gv rv lv fv nx en tp stk tok beh c ru fi se de si rl bi f s n it r i M) := by
  show rg_set b ho fa pl sp mo gv rv lv fv nx en tp stk tok beh c ru fi se de si rl bi f s n it r i M (b + 14) = _ <;> simp [sl_up, Nat.add_assoc]

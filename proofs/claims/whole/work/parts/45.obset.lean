/-! SignLadders, at 0 -/
def ob_at (fd : Nat) (db : Nat) (sb : Nat) (sn : Bool) (tl : Bool) (lf : Nat) (lt : Nat) (lp : Int32) (M : sl_M) : Prop := M (0) = .inr (10, [.ref 1, .int (nI fd), .ref db, .ref sb, .int (sl_bi sn), .ref 18, .ref 19, .ref 23, .ref 30, .ref 33, .ref 38, .ref 53, .int (sl_bi tl), .int (nI lf), .int (nI lt), .int lp])
abbrev ob_set (fd : Nat) (db : Nat) (sb : Nat) (sn : Bool) (tl : Bool) (lf : Nat) (lt : Nat) (lp : Int32) (M : sl_M) : sl_M := sl_up (M) (0) (.inr (10, [.ref 1, .int (nI fd), .ref db, .ref sb, .int (sl_bi sn), .ref 18, .ref 19, .ref 23, .ref 30, .ref 33, .ref 38, .ref 53, .int (sl_bi tl), .int (nI lf), .int (nI lt), .int lp]))
theorem ob_self {fd : Nat} {db : Nat} {sb : Nat} {sn : Bool} {tl : Bool} {lf : Nat} {lt : Nat} {lp : Int32} {M : sl_M} (h : ob_at fd db sb sn tl lf lt lp M) : ob_set fd db sb sn tl lf lt lp M = M := by
  have a0 := h
  funext k
  simp only [sl_up]
  by_cases h0 : k = 0
  · rw [if_pos h0, h0]; exact a0.symm
  rw [if_neg h0]
theorem ob_of {fd : Nat} {db : Nat} {sb : Nat} {sn : Bool} {tl : Bool} {lf : Nat} {lt : Nat} {lp : Int32} {M : sl_M} : ob_at fd db sb sn tl lf lt lp (ob_set fd db sb sn tl lf lt lp M) := by
  show ob_set fd db sb sn tl lf lt lp M (0) = _ <;> simp [sl_up]
theorem ob_ss {fd : Nat} {db : Nat} {sb : Nat} {sn : Bool} {tl : Bool} {lf : Nat} {lt : Nat} {lp : Int32} {fd' : Nat} {db' : Nat} {sb' : Nat} {sn' : Bool} {tl' : Bool} {lf' : Nat} {lt' : Nat} {lp' : Int32} {M : sl_M} : ob_set fd db sb sn tl lf lt lp (ob_set fd' db' sb' sn' tl' lf' lt' lp' M) = ob_set fd db sb sn tl lf lt lp M := by
  funext k
  simp only [sl_up]
  by_cases h0 : k = 0
  · simp only [if_pos h0]
  simp only [if_neg h0]
theorem ob_out {fd : Nat} {db : Nat} {sb : Nat} {sn : Bool} {tl : Bool} {lf : Nat} {lt : Nat} {lp : Int32} {M : sl_M} {k : Nat} (h : k ≠ 0) : ob_set fd db sb sn tl lf lt lp M k = M k := by
  have b0 := h
  simp only [sl_up]
  rw [if_neg b0]
theorem ob_u0 {fd : Nat} {db : Nat} {sb : Nat} {sn : Bool} {tl : Bool} {lf : Nat} {lt : Nat} {lp : Int32} {fd' : Nat} {db' : Nat} {sb' : Nat} {sn' : Bool} {tl' : Bool} {lf' : Nat} {lt' : Nat} {lp' : Int32} {M : sl_M} : sl_up (ob_set fd db sb sn tl lf lt lp M) (0) (.inr (10, [.ref 1, .int (nI fd'), .ref db', .ref sb', .int (sl_bi sn'), .ref 18, .ref 19, .ref 23, .ref 30, .ref 33, .ref 38, .ref 53, .int (sl_bi tl'), .int (nI lf'), .int (nI lt'), .int lp'])) = ob_set fd' db' sb' sn' tl' lf' lt' lp' M := by
  funext k
  simp only [sl_up]
  by_cases h : k = 0
  · simp [h]
  simp only [if_neg h]

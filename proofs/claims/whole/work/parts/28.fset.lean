def fm_at (ln : Nat) (bd : Option Nat) (cn : Nat) (at_ : Nat) (sg : Nat → Nat) (pl : Nat → Nat) (rl : Nat → Bool) (bt : Nat → Int32) (M : sl_M) : Prop := M (33) = .inr (1, [.int (nI ln), .int (sl_io bd), .ref 34, .ref 35, .ref 36, .ref 37, .ref 1, .int (nI cn), .int (nI at_)]) ∧ M (34) = .inl (.int, 60, .inl fun i => nI (sg i)) ∧ M (35) = .inl (.int, 60, .inl fun i => nI (pl i)) ∧ M (36) = .inl (.boolean, 60, .inl fun i => sl_bi (rl i)) ∧ M (37) = .inl (.int, 60, .inl bt)
abbrev fm_set (ln : Nat) (bd : Option Nat) (cn : Nat) (at_ : Nat) (sg : Nat → Nat) (pl : Nat → Nat) (rl : Nat → Bool) (bt : Nat → Int32) (M : sl_M) : sl_M := sl_up (sl_up (sl_up (sl_up (sl_up (M) (33) (.inr (1, [.int (nI ln), .int (sl_io bd), .ref 34, .ref 35, .ref 36, .ref 37, .ref 1, .int (nI cn), .int (nI at_)]))) (34) (.inl (.int, 60, .inl fun i => nI (sg i)))) (35) (.inl (.int, 60, .inl fun i => nI (pl i)))) (36) (.inl (.boolean, 60, .inl fun i => sl_bi (rl i)))) (37) (.inl (.int, 60, .inl bt))
theorem fm_self {ln : Nat} {bd : Option Nat} {cn : Nat} {at_ : Nat} {sg : Nat → Nat} {pl : Nat → Nat} {rl : Nat → Bool} {bt : Nat → Int32} {M : sl_M} (h : fm_at ln bd cn at_ sg pl rl bt M) : fm_set ln bd cn at_ sg pl rl bt M = M := by
  obtain ⟨a0, a1, a2, a3, a4⟩ := h
  funext k
  simp only [sl_up]
  by_cases h4 : k = 37
  · rw [if_pos h4, h4]; exact a4.symm
  rw [if_neg h4]
  by_cases h3 : k = 36
  · rw [if_pos h3, h3]; exact a3.symm
  rw [if_neg h3]
  by_cases h2 : k = 35
  · rw [if_pos h2, h2]; exact a2.symm
  rw [if_neg h2]
  by_cases h1 : k = 34
  · rw [if_pos h1, h1]; exact a1.symm
  rw [if_neg h1]
  by_cases h0 : k = 33
  · rw [if_pos h0, h0]; exact a0.symm
  rw [if_neg h0]
theorem fm_of {ln : Nat} {bd : Option Nat} {cn : Nat} {at_ : Nat} {sg : Nat → Nat} {pl : Nat → Nat} {rl : Nat → Bool} {bt : Nat → Int32} {M : sl_M} : fm_at ln bd cn at_ sg pl rl bt (fm_set ln bd cn at_ sg pl rl bt M) := by
  refine ⟨?_, ?_, ?_, ?_, ?_⟩ <;> simp [sl_up]
theorem fm_ss {ln : Nat} {bd : Option Nat} {cn : Nat} {at_ : Nat} {sg : Nat → Nat} {pl : Nat → Nat} {rl : Nat → Bool} {bt : Nat → Int32} {ln' : Nat} {bd' : Option Nat} {cn' : Nat} {at_' : Nat} {sg' : Nat → Nat} {pl' : Nat → Nat} {rl' : Nat → Bool} {bt' : Nat → Int32} {M : sl_M} : fm_set ln bd cn at_ sg pl rl bt (fm_set ln' bd' cn' at_' sg' pl' rl' bt' M) = fm_set ln bd cn at_ sg pl rl bt M := by
  funext k
  simp only [sl_up]
  by_cases h4 : k = 37
  · simp only [if_pos h4]
  simp only [if_neg h4]
  by_cases h3 : k = 36
  · simp only [if_pos h3]
  simp only [if_neg h3]
  by_cases h2 : k = 35
  · simp only [if_pos h2]
  simp only [if_neg h2]
  by_cases h1 : k = 34
  · simp only [if_pos h1]
  simp only [if_neg h1]
  by_cases h0 : k = 33
  · simp only [if_pos h0]
  simp only [if_neg h0]
theorem fm_out {ln : Nat} {bd : Option Nat} {cn : Nat} {at_ : Nat} {sg : Nat → Nat} {pl : Nat → Nat} {rl : Nat → Bool} {bt : Nat → Int32} {M : sl_M} {k : Nat} (h : k ≠ 33 ∧ k ≠ 34 ∧ k ≠ 35 ∧ k ≠ 36 ∧ k ≠ 37) : fm_set ln bd cn at_ sg pl rl bt M k = M k := by
  obtain ⟨b0, b1, b2, b3, b4⟩ := h
  simp only [sl_up]
  rw [if_neg b4, if_neg b3, if_neg b2, if_neg b1, if_neg b0]
theorem fm_u33 {ln : Nat} {bd : Option Nat} {cn : Nat} {at_ : Nat} {sg : Nat → Nat} {pl : Nat → Nat} {rl : Nat → Bool} {bt : Nat → Int32} {ln' : Nat} {bd' : Option Nat} {cn' : Nat} {at_' : Nat} {M : sl_M} : sl_up (fm_set ln bd cn at_ sg pl rl bt M) (33) (.inr (1, [.int (nI ln'), .int (sl_io bd'), .ref 34, .ref 35, .ref 36, .ref 37, .ref 1, .int (nI cn'), .int (nI at_')])) = fm_set ln' bd' cn' at_' sg pl rl bt M := by
  funext k
  simp only [sl_up]
  by_cases h : k = 33
  · simp [h]
  simp only [if_neg h]
theorem fm_u34 {ln : Nat} {bd : Option Nat} {cn : Nat} {at_ : Nat} {sg : Nat → Nat} {pl : Nat → Nat} {rl : Nat → Bool} {bt : Nat → Int32} {sg' : Nat → Nat} {M : sl_M} : sl_up (fm_set ln bd cn at_ sg pl rl bt M) (34) (.inl (.int, 60, .inl fun i => nI (sg' i))) = fm_set ln bd cn at_ sg' pl rl bt M := by
  funext k
  simp only [sl_up]
  by_cases h : k = 34
  · simp [h]
  simp only [if_neg h]
theorem fm_u35 {ln : Nat} {bd : Option Nat} {cn : Nat} {at_ : Nat} {sg : Nat → Nat} {pl : Nat → Nat} {rl : Nat → Bool} {bt : Nat → Int32} {pl' : Nat → Nat} {M : sl_M} : sl_up (fm_set ln bd cn at_ sg pl rl bt M) (35) (.inl (.int, 60, .inl fun i => nI (pl' i))) = fm_set ln bd cn at_ sg pl' rl bt M := by
  funext k
  simp only [sl_up]
  by_cases h : k = 35
  · simp [h]
  simp only [if_neg h]
theorem fm_u36 {ln : Nat} {bd : Option Nat} {cn : Nat} {at_ : Nat} {sg : Nat → Nat} {pl : Nat → Nat} {rl : Nat → Bool} {bt : Nat → Int32} {rl' : Nat → Bool} {M : sl_M} : sl_up (fm_set ln bd cn at_ sg pl rl bt M) (36) (.inl (.boolean, 60, .inl fun i => sl_bi (rl' i))) = fm_set ln bd cn at_ sg pl rl' bt M := by
  funext k
  simp only [sl_up]
  by_cases h : k = 36
  · simp [h]
  simp only [if_neg h]
theorem fm_u37 {ln : Nat} {bd : Option Nat} {cn : Nat} {at_ : Nat} {sg : Nat → Nat} {pl : Nat → Nat} {rl : Nat → Bool} {bt : Nat → Int32} {bt' : Nat → Int32} {M : sl_M} : sl_up (fm_set ln bd cn at_ sg pl rl bt M) (37) (.inl (.int, 60, .inl bt')) = fm_set ln bd cn at_ sg pl rl bt' M := by
  funext k
  simp only [sl_up]
  by_cases h : k = 37
  · simp [h]
  simp only [if_neg h]
/-- a byte of the tape -/
def by_ (f : Nat → Int32) (i : Nat) : Nat := (f i &&& nI 255).toBitVec.toNat
theorem by_and (x : Int32) : x &&& nI 255 = nI (x &&& nI 255).toBitVec.toNat ∧ (x &&& nI 255).toBitVec.toNat < 256 := by
  have h : (x &&& nI 255).toBitVec.toNat < 256 := by
    rw [Int32.toBitVec_and, BitVec.toNat_and]
    have e : (nI 255).toBitVec.toNat = 255 := by decide
    rw [e]
    exact Nat.lt_succ_of_le Nat.and_le_right
  refine ⟨?_, h⟩
  apply Int32.toBitVec_inj.mp
  show _ = BitVec.ofNat 32 _
  rw [BitVec.ofNat_toNat]
  simp
theorem by_lt (f : Nat → Int32) (i : Nat) : by_ f i < 256 := (by_and (f i)).2
theorem by_eq (f : Nat → Int32) (i : Nat) : f i &&& nI 255 = nI (by_ f i) := (by_and (f i)).1

theorem sl_up_up {M : sl_M} {a : Nat} {x y : sl_E} : sl_up (sl_up M a x) a y = sl_up M a y := by
  funext k
  simp only [sl_up]
  by_cases h : k = a <;> simp [h]
theorem sl_up_self {M : sl_M} {a : Nat} {x : sl_E} (h : M a = x) : sl_up M a x = M := by
  funext k
  simp only [sl_up]
  by_cases g : k = a
  · rw [if_pos g, g, h]
  · rw [if_neg g]
/-! Relations, at 19 -/
def rl_at (e : Nat) (l : Nat → Int32) (t : Nat → Int32) (s : Nat → Int32) (M : sl_M) : Prop := M 19 = .inr (9, [.ref 20, .ref 21, .int (nI e), .ref 22]) ∧ M 20 = .inl (.int, 6, .inl l) ∧ M 21 = .inl (.int, 6, .inl t) ∧ M 22 = .inl (.int, 144, .inl s)
abbrev rl_set (e : Nat) (l : Nat → Int32) (t : Nat → Int32) (s : Nat → Int32) (M : sl_M) : sl_M := sl_up (sl_up (sl_up (sl_up (M) 19 (.inr (9, [.ref 20, .ref 21, .int (nI e), .ref 22]))) 20 (.inl (.int, 6, .inl l))) 21 (.inl (.int, 6, .inl t))) 22 (.inl (.int, 144, .inl s))
theorem rl_self {e : Nat} {l : Nat → Int32} {t : Nat → Int32} {s : Nat → Int32} {M : sl_M} (h : rl_at e l t s M) : rl_set e l t s M = M := by
  obtain ⟨a19, a20, a21, a22⟩ := h
  funext k
  simp only [sl_up]
  by_cases h22 : k = 22
  · rw [if_pos h22, h22]; exact a22.symm
  rw [if_neg h22]
  by_cases h21 : k = 21
  · rw [if_pos h21, h21]; exact a21.symm
  rw [if_neg h21]
  by_cases h20 : k = 20
  · rw [if_pos h20, h20]; exact a20.symm
  rw [if_neg h20]
  by_cases h19 : k = 19
  · rw [if_pos h19, h19]; exact a19.symm
  rw [if_neg h19]
theorem rl_of {e : Nat} {l : Nat → Int32} {t : Nat → Int32} {s : Nat → Int32} {M : sl_M} : rl_at e l t s (rl_set e l t s M) := by
  refine ⟨?_, ?_, ?_, ?_⟩ <;> simp [sl_up]
theorem rl_ss {e : Nat} {l : Nat → Int32} {t : Nat → Int32} {s : Nat → Int32} {e' : Nat} {l' : Nat → Int32} {t' : Nat → Int32} {s' : Nat → Int32} {M : sl_M} : rl_set e l t s (rl_set e' l' t' s' M) = rl_set e l t s M := by
  funext k
  simp only [sl_up]
  by_cases h22 : k = 22
  · simp only [if_pos h22]
  simp only [if_neg h22]
  by_cases h21 : k = 21
  · simp only [if_pos h21]
  simp only [if_neg h21]
  by_cases h20 : k = 20
  · simp only [if_pos h20]
  simp only [if_neg h20]
  by_cases h19 : k = 19
  · simp only [if_pos h19]
  simp only [if_neg h19]
theorem rl_out {e : Nat} {l : Nat → Int32} {t : Nat → Int32} {s : Nat → Int32} {M : sl_M} {k : Nat} (h : k ≠ 19 ∧ k ≠ 20 ∧ k ≠ 21 ∧ k ≠ 22) : rl_set e l t s M k = M k := by
  obtain ⟨b19, b20, b21, b22⟩ := h
  simp only [sl_up]
  rw [if_neg b22, if_neg b21, if_neg b20, if_neg b19]
theorem rl_u19 {e : Nat} {l : Nat → Int32} {t : Nat → Int32} {s : Nat → Int32} {e' : Nat} {M : sl_M} : sl_up (rl_set e l t s M) 19 (.inr (9, [.ref 20, .ref 21, .int (nI e'), .ref 22])) = rl_set e' l t s M := by
  funext k
  simp only [sl_up]
  by_cases h19 : k = 19
  · simp [h19]
  simp only [if_neg h19]
theorem rl_u20 {e : Nat} {l : Nat → Int32} {t : Nat → Int32} {s : Nat → Int32} {l' : Nat → Int32} {M : sl_M} : sl_up (rl_set e l t s M) 20 (.inl (.int, 6, .inl l')) = rl_set e l' t s M := by
  funext k
  simp only [sl_up]
  by_cases h20 : k = 20
  · simp [h20]
  simp only [if_neg h20]
theorem rl_u21 {e : Nat} {l : Nat → Int32} {t : Nat → Int32} {s : Nat → Int32} {t' : Nat → Int32} {M : sl_M} : sl_up (rl_set e l t s M) 21 (.inl (.int, 6, .inl t')) = rl_set e l t' s M := by
  funext k
  simp only [sl_up]
  by_cases h21 : k = 21
  · simp [h21]
  simp only [if_neg h21]
theorem rl_u22 {e : Nat} {l : Nat → Int32} {t : Nat → Int32} {s : Nat → Int32} {s' : Nat → Int32} {M : sl_M} : sl_up (rl_set e l t s M) 22 (.inl (.int, 144, .inl s')) = rl_set e l t s' M := by
  funext k
  simp only [sl_up]
  by_cases h22 : k = 22
  · simp [h22]
  simp only [if_neg h22]
/-! Ladders, at 23 -/
def ld_at (rn : Nat) (e : Nat) (rk : Nat → Nat) (kn : Nat → Nat) (ar : Nat → Int32) (re : Nat → Int32) (nu : Nat → Nat) (ba : Nat → Nat) (M : sl_M) : Prop := M 23 = .inr (5, [.int (nI rn), .ref 24, .int (nI e), .ref 25, .ref 26, .ref 27, .ref 28, .ref 29]) ∧ M 24 = .inl (.int, 28, .inl fun i => nI (rk i)) ∧ M 25 = .inl (.int, 28, .inl fun i => nI (kn i)) ∧ M 26 = .inl (.int, 28, .inl ar) ∧ M 27 = .inl (.int, 28, .inl re) ∧ M 28 = .inl (.int, 28, .inl fun i => nI (nu i)) ∧ M 29 = .inl (.int, 28, .inl fun i => nI (ba i))
abbrev ld_set (rn : Nat) (e : Nat) (rk : Nat → Nat) (kn : Nat → Nat) (ar : Nat → Int32) (re : Nat → Int32) (nu : Nat → Nat) (ba : Nat → Nat) (M : sl_M) : sl_M := sl_up (sl_up (sl_up (sl_up (sl_up (sl_up (sl_up (M) 23 (.inr (5, [.int (nI rn), .ref 24, .int (nI e), .ref 25, .ref 26, .ref 27, .ref 28, .ref 29]))) 24 (.inl (.int, 28, .inl fun i => nI (rk i)))) 25 (.inl (.int, 28, .inl fun i => nI (kn i)))) 26 (.inl (.int, 28, .inl ar))) 27 (.inl (.int, 28, .inl re))) 28 (.inl (.int, 28, .inl fun i => nI (nu i)))) 29 (.inl (.int, 28, .inl fun i => nI (ba i)))
theorem ld_self {rn : Nat} {e : Nat} {rk : Nat → Nat} {kn : Nat → Nat} {ar : Nat → Int32} {re : Nat → Int32} {nu : Nat → Nat} {ba : Nat → Nat} {M : sl_M} (h : ld_at rn e rk kn ar re nu ba M) : ld_set rn e rk kn ar re nu ba M = M := by
  obtain ⟨a23, a24, a25, a26, a27, a28, a29⟩ := h
  funext k
  simp only [sl_up]
  by_cases h29 : k = 29
  · rw [if_pos h29, h29]; exact a29.symm
  rw [if_neg h29]
  by_cases h28 : k = 28
  · rw [if_pos h28, h28]; exact a28.symm
  rw [if_neg h28]
  by_cases h27 : k = 27
  · rw [if_pos h27, h27]; exact a27.symm
  rw [if_neg h27]
  by_cases h26 : k = 26
  · rw [if_pos h26, h26]; exact a26.symm
  rw [if_neg h26]
  by_cases h25 : k = 25
  · rw [if_pos h25, h25]; exact a25.symm
  rw [if_neg h25]
  by_cases h24 : k = 24
  · rw [if_pos h24, h24]; exact a24.symm
  rw [if_neg h24]
  by_cases h23 : k = 23
  · rw [if_pos h23, h23]; exact a23.symm
  rw [if_neg h23]
theorem ld_of {rn : Nat} {e : Nat} {rk : Nat → Nat} {kn : Nat → Nat} {ar : Nat → Int32} {re : Nat → Int32} {nu : Nat → Nat} {ba : Nat → Nat} {M : sl_M} : ld_at rn e rk kn ar re nu ba (ld_set rn e rk kn ar re nu ba M) := by
  refine ⟨?_, ?_, ?_, ?_, ?_, ?_, ?_⟩ <;> simp [sl_up]
theorem ld_ss {rn : Nat} {e : Nat} {rk : Nat → Nat} {kn : Nat → Nat} {ar : Nat → Int32} {re : Nat → Int32} {nu : Nat → Nat} {ba : Nat → Nat} {rn' : Nat} {e' : Nat} {rk' : Nat → Nat} {kn' : Nat → Nat} {ar' : Nat → Int32} {re' : Nat → Int32} {nu' : Nat → Nat} {ba' : Nat → Nat} {M : sl_M} : ld_set rn e rk kn ar re nu ba (ld_set rn' e' rk' kn' ar' re' nu' ba' M) = ld_set rn e rk kn ar re nu ba M := by
  funext k
  simp only [sl_up]
  by_cases h29 : k = 29
  · simp only [if_pos h29]
  simp only [if_neg h29]
  by_cases h28 : k = 28
  · simp only [if_pos h28]
  simp only [if_neg h28]
  by_cases h27 : k = 27
  · simp only [if_pos h27]
  simp only [if_neg h27]
  by_cases h26 : k = 26
  · simp only [if_pos h26]
  simp only [if_neg h26]
  by_cases h25 : k = 25
  · simp only [if_pos h25]
  simp only [if_neg h25]
  by_cases h24 : k = 24
  · simp only [if_pos h24]
  simp only [if_neg h24]
  by_cases h23 : k = 23
  · simp only [if_pos h23]
  simp only [if_neg h23]
theorem ld_out {rn : Nat} {e : Nat} {rk : Nat → Nat} {kn : Nat → Nat} {ar : Nat → Int32} {re : Nat → Int32} {nu : Nat → Nat} {ba : Nat → Nat} {M : sl_M} {k : Nat} (h : k ≠ 23 ∧ k ≠ 24 ∧ k ≠ 25 ∧ k ≠ 26 ∧ k ≠ 27 ∧ k ≠ 28 ∧ k ≠ 29) : ld_set rn e rk kn ar re nu ba M k = M k := by
  obtain ⟨b23, b24, b25, b26, b27, b28, b29⟩ := h
  simp only [sl_up]
  rw [if_neg b29, if_neg b28, if_neg b27, if_neg b26, if_neg b25, if_neg b24, if_neg b23]
theorem ld_u23 {rn : Nat} {e : Nat} {rk : Nat → Nat} {kn : Nat → Nat} {ar : Nat → Int32} {re : Nat → Int32} {nu : Nat → Nat} {ba : Nat → Nat} {rn' : Nat} {e' : Nat} {M : sl_M} : sl_up (ld_set rn e rk kn ar re nu ba M) 23 (.inr (5, [.int (nI rn'), .ref 24, .int (nI e'), .ref 25, .ref 26, .ref 27, .ref 28, .ref 29])) = ld_set rn' e' rk kn ar re nu ba M := by
  funext k
  simp only [sl_up]
  by_cases h23 : k = 23
  · simp [h23]
  simp only [if_neg h23]
theorem ld_u24 {rn : Nat} {e : Nat} {rk : Nat → Nat} {kn : Nat → Nat} {ar : Nat → Int32} {re : Nat → Int32} {nu : Nat → Nat} {ba : Nat → Nat} {rk' : Nat → Nat} {M : sl_M} : sl_up (ld_set rn e rk kn ar re nu ba M) 24 (.inl (.int, 28, .inl fun i => nI (rk' i))) = ld_set rn e rk' kn ar re nu ba M := by
  funext k
  simp only [sl_up]
  by_cases h24 : k = 24
  · simp [h24]
  simp only [if_neg h24]
theorem ld_u25 {rn : Nat} {e : Nat} {rk : Nat → Nat} {kn : Nat → Nat} {ar : Nat → Int32} {re : Nat → Int32} {nu : Nat → Nat} {ba : Nat → Nat} {kn' : Nat → Nat} {M : sl_M} : sl_up (ld_set rn e rk kn ar re nu ba M) 25 (.inl (.int, 28, .inl fun i => nI (kn' i))) = ld_set rn e rk kn' ar re nu ba M := by
  funext k
  simp only [sl_up]
  by_cases h25 : k = 25
  · simp [h25]
  simp only [if_neg h25]
theorem ld_u26 {rn : Nat} {e : Nat} {rk : Nat → Nat} {kn : Nat → Nat} {ar : Nat → Int32} {re : Nat → Int32} {nu : Nat → Nat} {ba : Nat → Nat} {ar' : Nat → Int32} {M : sl_M} : sl_up (ld_set rn e rk kn ar re nu ba M) 26 (.inl (.int, 28, .inl ar')) = ld_set rn e rk kn ar' re nu ba M := by
  funext k
  simp only [sl_up]
  by_cases h26 : k = 26
  · simp [h26]
  simp only [if_neg h26]
theorem ld_u27 {rn : Nat} {e : Nat} {rk : Nat → Nat} {kn : Nat → Nat} {ar : Nat → Int32} {re : Nat → Int32} {nu : Nat → Nat} {ba : Nat → Nat} {re' : Nat → Int32} {M : sl_M} : sl_up (ld_set rn e rk kn ar re nu ba M) 27 (.inl (.int, 28, .inl re')) = ld_set rn e rk kn ar re' nu ba M := by
  funext k
  simp only [sl_up]
  by_cases h27 : k = 27
  · simp [h27]
  simp only [if_neg h27]
theorem ld_u28 {rn : Nat} {e : Nat} {rk : Nat → Nat} {kn : Nat → Nat} {ar : Nat → Int32} {re : Nat → Int32} {nu : Nat → Nat} {ba : Nat → Nat} {nu' : Nat → Nat} {M : sl_M} : sl_up (ld_set rn e rk kn ar re nu ba M) 28 (.inl (.int, 28, .inl fun i => nI (nu' i))) = ld_set rn e rk kn ar re nu' ba M := by
  funext k
  simp only [sl_up]
  by_cases h28 : k = 28
  · simp [h28]
  simp only [if_neg h28]
theorem ld_u29 {rn : Nat} {e : Nat} {rk : Nat → Nat} {kn : Nat → Nat} {ar : Nat → Int32} {re : Nat → Int32} {nu : Nat → Nat} {ba : Nat → Nat} {ba' : Nat → Nat} {M : sl_M} : sl_up (ld_set rn e rk kn ar re nu ba M) 29 (.inl (.int, 28, .inl fun i => nI (ba' i))) = ld_set rn e rk kn ar re nu ba' M := by
  funext k
  simp only [sl_up]
  by_cases h29 : k = 29
  · simp [h29]
  simp only [if_neg h29]

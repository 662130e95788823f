def gs_at (b : Nat) (kd : Nat) (R : Nat) (N : Nat) (T : Nat) (w : Nat → Int32) (s : Nat → Nat) (hd : Nat → Nat) (dd : Nat → Nat) (ln : Nat → Nat) (im : Nat → Nat) (p : Nat → Bool) (M : sl_M) : Prop := M (b) = .inr (2, [.int (nI kd), .int (nI R), .int (nI N), .int (nI T), .ref (b + 1), .ref (b + 2), .ref (b + 3), .ref (b + 4), .ref (b + 5), .ref (b + 6), .ref (b + 7)]) ∧ M (b + 1) = .inl (.int, 6, .inl w) ∧ M (b + 2) = .inl (.int, 11, .inl fun z => nI (s z)) ∧ M (b + 3) = .inl (.int, 12, .inl fun z => nI (hd z)) ∧ M (b + 4) = .inl (.int, 12, .inl fun z => nI (dd z)) ∧ M (b + 5) = .inl (.int, 12, .inl fun z => nI (ln z)) ∧ M (b + 6) = .inl (.int, 60, .inl fun z => nI (im z)) ∧ M (b + 7) = .inl (.boolean, 12, .inl fun z => sl_bi (p z))
abbrev gs_set (b : Nat) (kd : Nat) (R : Nat) (N : Nat) (T : Nat) (w : Nat → Int32) (s : Nat → Nat) (hd : Nat → Nat) (dd : Nat → Nat) (ln : Nat → Nat) (im : Nat → Nat) (p : Nat → Bool) (M : sl_M) : sl_M := sl_up (sl_up (sl_up (sl_up (sl_up (sl_up (sl_up (sl_up (M) (b) (.inr (2, [.int (nI kd), .int (nI R), .int (nI N), .int (nI T), .ref (b + 1), .ref (b + 2), .ref (b + 3), .ref (b + 4), .ref (b + 5), .ref (b + 6), .ref (b + 7)]))) (b + 1) (.inl (.int, 6, .inl w))) (b + 2) (.inl (.int, 11, .inl fun z => nI (s z)))) (b + 3) (.inl (.int, 12, .inl fun z => nI (hd z)))) (b + 4) (.inl (.int, 12, .inl fun z => nI (dd z)))) (b + 5) (.inl (.int, 12, .inl fun z => nI (ln z)))) (b + 6) (.inl (.int, 60, .inl fun z => nI (im z)))) (b + 7) (.inl (.boolean, 12, .inl fun z => sl_bi (p z)))
theorem gs_self {b : Nat} {kd : Nat} {R : Nat} {N : Nat} {T : Nat} {w : Nat → Int32} {s : Nat → Nat} {hd : Nat → Nat} {dd : Nat → Nat} {ln : Nat → Nat} {im : Nat → Nat} {p : Nat → Bool} {M : sl_M} (h : gs_at b kd R N T w s hd dd ln im p M) : gs_set b kd R N T w s hd dd ln im p M = M := by
  obtain ⟨a0, a1, a2, a3, a4, a5, a6, a7⟩ := h
  funext k
  simp only [sl_up]
  by_cases h7 : k = b + 7
  · rw [if_pos h7, h7]; exact a7.symm
  rw [if_neg h7]
  by_cases h6 : k = b + 6
  · rw [if_pos h6, h6]; exact a6.symm
  rw [if_neg h6]
  by_cases h5 : k = b + 5
  · rw [if_pos h5, h5]; exact a5.symm
  rw [if_neg h5]
  by_cases h4 : k = b + 4
  · rw [if_pos h4, h4]; exact a4.symm
  rw [if_neg h4]
  by_cases h3 : k = b + 3
  · rw [if_pos h3, h3]; exact a3.symm
  rw [if_neg h3]
  by_cases h2 : k = b + 2
  · rw [if_pos h2, h2]; exact a2.symm
  rw [if_neg h2]
  by_cases h1 : k = b + 1
  · rw [if_pos h1, h1]; exact a1.symm
  rw [if_neg h1]
  by_cases h0 : k = b
  · rw [if_pos h0, h0]; exact a0.symm
  rw [if_neg h0]
theorem gs_of {b : Nat} {kd : Nat} {R : Nat} {N : Nat} {T : Nat} {w : Nat → Int32} {s : Nat → Nat} {hd : Nat → Nat} {dd : Nat → Nat} {ln : Nat → Nat} {im : Nat → Nat} {p : Nat → Bool} {M : sl_M} : gs_at b kd R N T w s hd dd ln im p (gs_set b kd R N T w s hd dd ln im p M) := by
  refine ⟨?_, ?_, ?_, ?_, ?_, ?_, ?_, ?_⟩ <;> simp [sl_up]
theorem gs_ss {b : Nat} {kd : Nat} {R : Nat} {N : Nat} {T : Nat} {w : Nat → Int32} {s : Nat → Nat} {hd : Nat → Nat} {dd : Nat → Nat} {ln : Nat → Nat} {im : Nat → Nat} {p : Nat → Bool} {kd' : Nat} {R' : Nat} {N' : Nat} {T' : Nat} {w' : Nat → Int32} {s' : Nat → Nat} {hd' : Nat → Nat} {dd' : Nat → Nat} {ln' : Nat → Nat} {im' : Nat → Nat} {p' : Nat → Bool} {M : sl_M} : gs_set b kd R N T w s hd dd ln im p (gs_set b kd' R' N' T' w' s' hd' dd' ln' im' p' M) = gs_set b kd R N T w s hd dd ln im p M := by
  funext k
  simp only [sl_up]
  by_cases h7 : k = b + 7
  · simp only [if_pos h7]
  simp only [if_neg h7]
  by_cases h6 : k = b + 6
  · simp only [if_pos h6]
  simp only [if_neg h6]
  by_cases h5 : k = b + 5
  · simp only [if_pos h5]
  simp only [if_neg h5]
  by_cases h4 : k = b + 4
  · simp only [if_pos h4]
  simp only [if_neg h4]
  by_cases h3 : k = b + 3
  · simp only [if_pos h3]
  simp only [if_neg h3]
  by_cases h2 : k = b + 2
  · simp only [if_pos h2]
  simp only [if_neg h2]
  by_cases h1 : k = b + 1
  · simp only [if_pos h1]
  simp only [if_neg h1]
  by_cases h0 : k = b
  · simp only [if_pos h0]
  simp only [if_neg h0]
theorem gs_out {b : Nat} {kd : Nat} {R : Nat} {N : Nat} {T : Nat} {w : Nat → Int32} {s : Nat → Nat} {hd : Nat → Nat} {dd : Nat → Nat} {ln : Nat → Nat} {im : Nat → Nat} {p : Nat → Bool} {M : sl_M} {k : Nat} (h : k ≠ b ∧ k ≠ b + 1 ∧ k ≠ b + 2 ∧ k ≠ b + 3 ∧ k ≠ b + 4 ∧ k ≠ b + 5 ∧ k ≠ b + 6 ∧ k ≠ b + 7) : gs_set b kd R N T w s hd dd ln im p M k = M k := by
  obtain ⟨b0, b1, b2, b3, b4, b5, b6, b7⟩ := h
  simp only [sl_up]
  rw [if_neg b7, if_neg b6, if_neg b5, if_neg b4, if_neg b3, if_neg b2, if_neg b1, if_neg b0]
theorem gs_u0 {b : Nat} {kd : Nat} {R : Nat} {N : Nat} {T : Nat} {w : Nat → Int32} {s : Nat → Nat} {hd : Nat → Nat} {dd : Nat → Nat} {ln : Nat → Nat} {im : Nat → Nat} {p : Nat → Bool} {kd' : Nat} {R' : Nat} {N' : Nat} {T' : Nat} {M : sl_M} : sl_up (gs_set b kd R N T w s hd dd ln im p M) (b) (.inr (2, [.int (nI kd'), .int (nI R'), .int (nI N'), .int (nI T'), .ref (b + 1), .ref (b + 2), .ref (b + 3), .ref (b + 4), .ref (b + 5), .ref (b + 6), .ref (b + 7)])) = gs_set b kd' R' N' T' w s hd dd ln im p M := by
  funext k
  simp only [sl_up]
  by_cases h : k = b
  · subst h; simp
  simp only [if_neg h]
theorem gs_u1 {b : Nat} {kd : Nat} {R : Nat} {N : Nat} {T : Nat} {w : Nat → Int32} {s : Nat → Nat} {hd : Nat → Nat} {dd : Nat → Nat} {ln : Nat → Nat} {im : Nat → Nat} {p : Nat → Bool} {w' : Nat → Int32} {M : sl_M} : sl_up (gs_set b kd R N T w s hd dd ln im p M) (b + 1) (.inl (.int, 6, .inl w')) = gs_set b kd R N T w' s hd dd ln im p M := by
  funext k
  simp only [sl_up]
  by_cases h : k = b + 1
  · subst h; simp
  simp only [if_neg h]
theorem gs_u2 {b : Nat} {kd : Nat} {R : Nat} {N : Nat} {T : Nat} {w : Nat → Int32} {s : Nat → Nat} {hd : Nat → Nat} {dd : Nat → Nat} {ln : Nat → Nat} {im : Nat → Nat} {p : Nat → Bool} {s' : Nat → Nat} {M : sl_M} : sl_up (gs_set b kd R N T w s hd dd ln im p M) (b + 2) (.inl (.int, 11, .inl fun z => nI (s' z))) = gs_set b kd R N T w s' hd dd ln im p M := by
  funext k
  simp only [sl_up]
  by_cases h : k = b + 2
  · subst h; simp
  simp only [if_neg h]
theorem gs_u3 {b : Nat} {kd : Nat} {R : Nat} {N : Nat} {T : Nat} {w : Nat → Int32} {s : Nat → Nat} {hd : Nat → Nat} {dd : Nat → Nat} {ln : Nat → Nat} {im : Nat → Nat} {p : Nat → Bool} {hd' : Nat → Nat} {M : sl_M} : sl_up (gs_set b kd R N T w s hd dd ln im p M) (b + 3) (.inl (.int, 12, .inl fun z => nI (hd' z))) = gs_set b kd R N T w s hd' dd ln im p M := by
  funext k
  simp only [sl_up]
  by_cases h : k = b + 3
  · subst h; simp
  simp only [if_neg h]
theorem gs_u4 {b : Nat} {kd : Nat} {R : Nat} {N : Nat} {T : Nat} {w : Nat → Int32} {s : Nat → Nat} {hd : Nat → Nat} {dd : Nat → Nat} {ln : Nat → Nat} {im : Nat → Nat} {p : Nat → Bool} {dd' : Nat → Nat} {M : sl_M} : sl_up (gs_set b kd R N T w s hd dd ln im p M) (b + 4) (.inl (.int, 12, .inl fun z => nI (dd' z))) = gs_set b kd R N T w s hd dd' ln im p M := by
  funext k
  simp only [sl_up]
  by_cases h : k = b + 4
  · subst h; simp
  simp only [if_neg h]
theorem gs_u5 {b : Nat} {kd : Nat} {R : Nat} {N : Nat} {T : Nat} {w : Nat → Int32} {s : Nat → Nat} {hd : Nat → Nat} {dd : Nat → Nat} {ln : Nat → Nat} {im : Nat → Nat} {p : Nat → Bool} {ln' : Nat → Nat} {M : sl_M} : sl_up (gs_set b kd R N T w s hd dd ln im p M) (b + 5) (.inl (.int, 12, .inl fun z => nI (ln' z))) = gs_set b kd R N T w s hd dd ln' im p M := by
  funext k
  simp only [sl_up]
  by_cases h : k = b + 5
  · subst h; simp
  simp only [if_neg h]
theorem gs_u6 {b : Nat} {kd : Nat} {R : Nat} {N : Nat} {T : Nat} {w : Nat → Int32} {s : Nat → Nat} {hd : Nat → Nat} {dd : Nat → Nat} {ln : Nat → Nat} {im : Nat → Nat} {p : Nat → Bool} {im' : Nat → Nat} {M : sl_M} : sl_up (gs_set b kd R N T w s hd dd ln im p M) (b + 6) (.inl (.int, 60, .inl fun z => nI (im' z))) = gs_set b kd R N T w s hd dd ln im' p M := by
  funext k
  simp only [sl_up]
  by_cases h : k = b + 6
  · subst h; simp
  simp only [if_neg h]
theorem gs_u7 {b : Nat} {kd : Nat} {R : Nat} {N : Nat} {T : Nat} {w : Nat → Int32} {s : Nat → Nat} {hd : Nat → Nat} {dd : Nat → Nat} {ln : Nat → Nat} {im : Nat → Nat} {p : Nat → Bool} {p' : Nat → Bool} {M : sl_M} : sl_up (gs_set b kd R N T w s hd dd ln im p M) (b + 7) (.inl (.boolean, 12, .inl fun z => sl_bi (p' z))) = gs_set b kd R N T w s hd dd ln im p' M := by
  funext k
  simp only [sl_up]
  by_cases h : k = b + 7
  · subst h; simp
  simp only [if_neg h]
theorem gs_sg {b k R N T : Nat} {w : Nat → Int32} {s h d l i : Nat → Nat} {p : Nat → Bool} {M : sl_M} : gs_at b k R N T w s h d l i p M = sg_at b (k, R, N, T, w, s, h, d, l, i, p) M := rfl

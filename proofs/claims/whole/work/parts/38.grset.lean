/-! GrammarReader, at 18, over the Grammar at b -/
def gr_at (fa : Nat) (pl : Nat) (bv : Value) (ln : Nat) (a : Nat) (mv : Value) (st : Nat) (hd : Bool) (en : Bool) (tk : Nat) (tp : Nat) (wd : Int32) (sg : Nat) (M : sl_M) : Prop := M (18) = .inr (3, [.int (nI fa), .int (nI pl), bv, .int (nI ln), .int (nI a), mv, .int (nI st), .int (sl_bi hd), .int (sl_bi en), .int (nI tk), .int (nI tp), .int wd, .int (nI sg)])
abbrev gr_set (fa : Nat) (pl : Nat) (bv : Value) (ln : Nat) (a : Nat) (mv : Value) (st : Nat) (hd : Bool) (en : Bool) (tk : Nat) (tp : Nat) (wd : Int32) (sg : Nat) (M : sl_M) : sl_M := sl_up (M) (18) (.inr (3, [.int (nI fa), .int (nI pl), bv, .int (nI ln), .int (nI a), mv, .int (nI st), .int (sl_bi hd), .int (sl_bi en), .int (nI tk), .int (nI tp), .int wd, .int (nI sg)]))
theorem gr_self {fa : Nat} {pl : Nat} {bv : Value} {ln : Nat} {a : Nat} {mv : Value} {st : Nat} {hd : Bool} {en : Bool} {tk : Nat} {tp : Nat} {wd : Int32} {sg : Nat} {M : sl_M} (h : gr_at fa pl bv ln a mv st hd en tk tp wd sg M) : gr_set fa pl bv ln a mv st hd en tk tp wd sg M = M := by
  have a0 := h
  funext k
  simp only [sl_up]
  by_cases h0 : k = 18
  · rw [if_pos h0, h0]; exact a0.symm
  rw [if_neg h0]
theorem gr_of {fa : Nat} {pl : Nat} {bv : Value} {ln : Nat} {a : Nat} {mv : Value} {st : Nat} {hd : Bool} {en : Bool} {tk : Nat} {tp : Nat} {wd : Int32} {sg : Nat} {M : sl_M} : gr_at fa pl bv ln a mv st hd en tk tp wd sg (gr_set fa pl bv ln a mv st hd en tk tp wd sg M) := by
  show gr_set fa pl bv ln a mv st hd en tk tp wd sg M (18) = _ <;> simp [sl_up]
theorem gr_ss {fa : Nat} {pl : Nat} {bv : Value} {ln : Nat} {a : Nat} {mv : Value} {st : Nat} {hd : Bool} {en : Bool} {tk : Nat} {tp : Nat} {wd : Int32} {sg : Nat} {fa' : Nat} {pl' : Nat} {bv' : Value} {ln' : Nat} {a' : Nat} {mv' : Value} {st' : Nat} {hd' : Bool} {en' : Bool} {tk' : Nat} {tp' : Nat} {wd' : Int32} {sg' : Nat} {M : sl_M} : gr_set fa pl bv ln a mv st hd en tk tp wd sg (gr_set fa' pl' bv' ln' a' mv' st' hd' en' tk' tp' wd' sg' M) = gr_set fa pl bv ln a mv st hd en tk tp wd sg M := by
  funext k
  simp only [sl_up]
  by_cases h0 : k = 18
  · simp only [if_pos h0]
  simp only [if_neg h0]
theorem gr_out {fa : Nat} {pl : Nat} {bv : Value} {ln : Nat} {a : Nat} {mv : Value} {st : Nat} {hd : Bool} {en : Bool} {tk : Nat} {tp : Nat} {wd : Int32} {sg : Nat} {M : sl_M} {k : Nat} (h : k ≠ 18) : gr_set fa pl bv ln a mv st hd en tk tp wd sg M k = M k := by
  have b0 := h
  simp only [sl_up]
  rw [if_neg b0]
theorem gr_u18 {fa : Nat} {pl : Nat} {bv : Value} {ln : Nat} {a : Nat} {mv : Value} {st : Nat} {hd : Bool} {en : Bool} {tk : Nat} {tp : Nat} {wd : Int32} {sg : Nat} {fa' : Nat} {pl' : Nat} {bv' : Value} {ln' : Nat} {a' : Nat} {mv' : Value} {st' : Nat} {hd' : Bool} {en' : Bool} {tk' : Nat} {tp' : Nat} {wd' : Int32} {sg' : Nat} {M : sl_M} : sl_up (gr_set fa pl bv ln a mv st hd en tk tp wd sg M) (18) (.inr (3, [.int (nI fa'), .int (nI pl'), bv', .int (nI ln'), .int (nI a'), mv', .int (nI st'), .int (sl_bi hd'), .int (sl_bi en'), .int (nI tk'), .int (nI tp'), .int wd', .int (nI sg')])) = gr_set fa' pl' bv' ln' a' mv' st' hd' en' tk' tp' wd' sg' M := by
  funext k
  simp only [sl_up]
  by_cases h : k = 18
  · simp [h]
  simp only [if_neg h]
theorem sl_up_comm {M : sl_M} {a c : Nat} {x y : sl_E} (h : c ≠ a) : sl_up (sl_up M a x) c y = sl_up (sl_up M c y) a x := by
  funext k
  simp only [sl_up]
  by_cases h1 : k = c
  · rw [if_pos h1, if_neg (fun e => h (h1.symm.trans e)), if_pos h1]
  · rw [if_neg h1, if_neg h1]
/-- fault, place, at, state, hasDesk, ended, token, its place, word, sign -/
abbrev gr_T : Type := Nat × Nat × Nat × Nat × Bool × Bool × Nat × Nat × Int32 × Nat
abbrev gr_fa (R : gr_T) : Nat := R.1
abbrev gr_pl (R : gr_T) : Nat := R.2.1
abbrev gr_a (R : gr_T) : Nat := R.2.2.1
abbrev gr_st (R : gr_T) : Nat := R.2.2.2.1
abbrev gr_hd (R : gr_T) : Bool := R.2.2.2.2.1
abbrev gr_en (R : gr_T) : Bool := R.2.2.2.2.2.1
abbrev gr_tk (R : gr_T) : Nat := R.2.2.2.2.2.2.1
abbrev gr_tp (R : gr_T) : Nat := R.2.2.2.2.2.2.2.1
abbrev gr_wd (R : gr_T) : Int32 := R.2.2.2.2.2.2.2.2.1
abbrev gr_sg (R : gr_T) : Nat := R.2.2.2.2.2.2.2.2.2
abbrev gp_R (b ln : Nat) (R : gr_T) (M : sl_M) : sl_M := gr_set (gr_fa R) (gr_pl R) (.ref 1) ln (gr_a R) (.ref b) (gr_st R) (gr_hd R) (gr_en R) (gr_tk R) (gr_tp R) (gr_wd R) (gr_sg R) M
abbrev gp_G (b : Nat) (g : sg_T) (M : sl_M) : sl_M := gs_set b (sg_kind g) (sg_rules g) (sg_names g) (sg_terms g) (sg_words g) (sg_signs g) (sg_heads g) (sg_deeds g) (sg_lens g) (sg_items g) (sg_put g) M
abbrev gp_S (b ln : Nat) (R : gr_T) (g : sg_T) (M : sl_M) : sl_M := gp_R b ln R (gp_G b g M)
theorem gp_u0 {b : Nat} (hb : b = 2 ∨ b = 10) {cc : sl_E} {kd : Nat} {R : Nat} {N : Nat} {T : Nat} {w : Nat → Int32} {s : Nat → Nat} {hh : Nat → Nat} {dd : Nat → Nat} {ll : Nat → Nat} {im : Nat → Nat} {p : Nat → Bool} {kd' : Nat} {R' : Nat} {N' : Nat} {T' : Nat} {M : sl_M} : sl_up (sl_up (gs_set b kd R N T w s hh dd ll im p M) 18 cc) (b) (.inr (2, [.int (nI kd'), .int (nI R'), .int (nI N'), .int (nI T'), .ref (b + 1), .ref (b + 2), .ref (b + 3), .ref (b + 4), .ref (b + 5), .ref (b + 6), .ref (b + 7)])) = sl_up (gs_set b kd' R' N' T' w s hh dd ll im p M) 18 cc := by
  rw [sl_up_comm (by omega), gs_u0]
theorem gp_u1 {b : Nat} (hb : b = 2 ∨ b = 10) {cc : sl_E} {kd : Nat} {R : Nat} {N : Nat} {T : Nat} {w : Nat → Int32} {s : Nat → Nat} {hh : Nat → Nat} {dd : Nat → Nat} {ll : Nat → Nat} {im : Nat → Nat} {p : Nat → Bool} {w' : Nat → Int32} {M : sl_M} : sl_up (sl_up (gs_set b kd R N T w s hh dd ll im p M) 18 cc) (b + 1) (.inl (.int, 6, .inl w')) = sl_up (gs_set b kd R N T w' s hh dd ll im p M) 18 cc := by
  rw [sl_up_comm (by omega), gs_u1]
theorem gp_u2 {b : Nat} (hb : b = 2 ∨ b = 10) {cc : sl_E} {kd : Nat} {R : Nat} {N : Nat} {T : Nat} {w : Nat → Int32} {s : Nat → Nat} {hh : Nat → Nat} {dd : Nat → Nat} {ll : Nat → Nat} {im : Nat → Nat} {p : Nat → Bool} {s' : Nat → Nat} {M : sl_M} : sl_up (sl_up (gs_set b kd R N T w s hh dd ll im p M) 18 cc) (b + 2) (.inl (.int, 11, .inl fun z => nI (s' z))) = sl_up (gs_set b kd R N T w s' hh dd ll im p M) 18 cc := by
  rw [sl_up_comm (by omega), gs_u2]
theorem gp_u3 {b : Nat} (hb : b = 2 ∨ b = 10) {cc : sl_E} {kd : Nat} {R : Nat} {N : Nat} {T : Nat} {w : Nat → Int32} {s : Nat → Nat} {hh : Nat → Nat} {dd : Nat → Nat} {ll : Nat → Nat} {im : Nat → Nat} {p : Nat → Bool} {hh' : Nat → Nat} {M : sl_M} : sl_up (sl_up (gs_set b kd R N T w s hh dd ll im p M) 18 cc) (b + 3) (.inl (.int, 12, .inl fun z => nI (hh' z))) = sl_up (gs_set b kd R N T w s hh' dd ll im p M) 18 cc := by
  rw [sl_up_comm (by omega), gs_u3]
theorem gp_u4 {b : Nat} (hb : b = 2 ∨ b = 10) {cc : sl_E} {kd : Nat} {R : Nat} {N : Nat} {T : Nat} {w : Nat → Int32} {s : Nat → Nat} {hh : Nat → Nat} {dd : Nat → Nat} {ll : Nat → Nat} {im : Nat → Nat} {p : Nat → Bool} {dd' : Nat → Nat} {M : sl_M} : sl_up (sl_up (gs_set b kd R N T w s hh dd ll im p M) 18 cc) (b + 4) (.inl (.int, 12, .inl fun z => nI (dd' z))) = sl_up (gs_set b kd R N T w s hh dd' ll im p M) 18 cc := by
  rw [sl_up_comm (by omega), gs_u4]
theorem gp_u5 {b : Nat} (hb : b = 2 ∨ b = 10) {cc : sl_E} {kd : Nat} {R : Nat} {N : Nat} {T : Nat} {w : Nat → Int32} {s : Nat → Nat} {hh : Nat → Nat} {dd : Nat → Nat} {ll : Nat → Nat} {im : Nat → Nat} {p : Nat → Bool} {ll' : Nat → Nat} {M : sl_M} : sl_up (sl_up (gs_set b kd R N T w s hh dd ll im p M) 18 cc) (b + 5) (.inl (.int, 12, .inl fun z => nI (ll' z))) = sl_up (gs_set b kd R N T w s hh dd ll' im p M) 18 cc := by
  rw [sl_up_comm (by omega), gs_u5]
theorem gp_u6 {b : Nat} (hb : b = 2 ∨ b = 10) {cc : sl_E} {kd : Nat} {R : Nat} {N : Nat} {T : Nat} {w : Nat → Int32} {s : Nat → Nat} {hh : Nat → Nat} {dd : Nat → Nat} {ll : Nat → Nat} {im : Nat → Nat} {p : Nat → Bool} {im' : Nat → Nat} {M : sl_M} : sl_up (sl_up (gs_set b kd R N T w s hh dd ll im p M) 18 cc) (b + 6) (.inl (.int, 60, .inl fun z => nI (im' z))) = sl_up (gs_set b kd R N T w s hh dd ll im' p M) 18 cc := by
  rw [sl_up_comm (by omega), gs_u6]
theorem gp_sg {b ln : Nat} (hb : b = 2 ∨ b = 10) {R : gr_T} {g : sg_T} {M : sl_M} : sg_at b g (gp_S b ln R g M) := by
  have h := gs_sg.mp (gs_of (b := b) (kd := sg_kind g) (R := sg_rules g) (N := sg_names g) (T := sg_terms g) (w := sg_words g) (s := sg_signs g) (hd := sg_heads g) (dd := sg_deeds g) (ln := sg_lens g) (im := sg_items g) (p := sg_put g) (M := M))
  obtain ⟨a0, a1, a2, a3, a4, a5, a6, a7⟩ := h
  exact ⟨sl_up_ne (by omega) a0, sl_up_ne (by omega) a1, sl_up_ne (by omega) a2, sl_up_ne (by omega) a3, sl_up_ne (by omega) a4, sl_up_ne (by omega) a5, sl_up_ne (by omega) a6, sl_up_ne (by omega) a7⟩

/-! the law's invariant: the class, the reference, and what holds between them -/
abbrev cT_o : Type := Nat × Nat × Nat × Bool × Bool × Nat × Nat × Int32
abbrev cT_tp : Type := (Nat → Int32)
abbrev cT_gg : Type := sg_T × sg_T
abbrev cT_rr : Type := gr_T × Value × Value × Nat
abbrev cT_re_ : Type := Nat × (Nat → Int32) × (Nat → Int32) × (Nat → Int32)
abbrev cT_la : Type := Nat × Nat × (Nat → Nat) × (Nat → Nat) × (Nat → Nat) × (Nat → Nat) × (Nat → Int32) × (Nat → Int32)
abbrev cT_ac : Type := Nat × (Nat → Option Nat) × (Nat → Nat)
abbrev cT_fm : Type := Value × Value × Value × Value × Value × (Nat → Nat) × (Nat → Nat) × (Nat → Bool) × (Nat → Int32)
abbrev cT_r1 : Type := Nat × Value × Value × Value × Value × rd_T
abbrev cT_r2 : Type := Nat × Value × Value × Value × Value × rd_T
abbrev cT : Type := cT_o × cT_tp × cT_gg × cT_rr × cT_re_ × cT_la × cT_ac × cT_fm × cT_r1 × cT_r2
abbrev cT.fd (C : cT) : Nat := C.1.1
abbrev cT.db (C : cT) : Nat := C.1.2.1
abbrev cT.sb (C : cT) : Nat := C.1.2.2.1
abbrev cT.sn (C : cT) : Bool := C.1.2.2.2.1
abbrev cT.tl (C : cT) : Bool := C.1.2.2.2.2.1
abbrev cT.lf (C : cT) : Nat := C.1.2.2.2.2.2.1
abbrev cT.lt (C : cT) : Nat := C.1.2.2.2.2.2.2.1
abbrev cT.lp (C : cT) : Int32 := C.1.2.2.2.2.2.2.2
abbrev cT.f (C : cT) : Nat → Int32 := C.2.1
abbrev cT.g (C : cT) : sg_T := C.2.2.1.1
abbrev cT.gs (C : cT) : sg_T := C.2.2.1.2
abbrev cT.R (C : cT) : gr_T := C.2.2.2.1.1
abbrev cT.bv (C : cT) : Value := C.2.2.2.1.2.1
abbrev cT.mv (C : cT) : Value := C.2.2.2.1.2.2.1
abbrev cT.ln0 (C : cT) : Nat := C.2.2.2.1.2.2.2
abbrev cT.e0 (C : cT) : Nat := C.2.2.2.2.1.1
abbrev cT.l (C : cT) : Nat → Int32 := C.2.2.2.2.1.2.1
abbrev cT.t (C : cT) : Nat → Int32 := C.2.2.2.2.1.2.2.1
abbrev cT.s (C : cT) : Nat → Int32 := C.2.2.2.2.1.2.2.2
abbrev cT.rn (C : cT) : Nat := C.2.2.2.2.2.1.1
abbrev cT.e (C : cT) : Nat := C.2.2.2.2.2.1.2.1
abbrev cT.rk (C : cT) : Nat → Nat := C.2.2.2.2.2.1.2.2.1
abbrev cT.kn (C : cT) : Nat → Nat := C.2.2.2.2.2.1.2.2.2.1
abbrev cT.nu (C : cT) : Nat → Nat := C.2.2.2.2.2.1.2.2.2.2.1
abbrev cT.ba (C : cT) : Nat → Nat := C.2.2.2.2.2.1.2.2.2.2.2.1
abbrev cT.ar (C : cT) : Nat → Int32 := C.2.2.2.2.2.1.2.2.2.2.2.2.1
abbrev cT.re (C : cT) : Nat → Int32 := C.2.2.2.2.2.1.2.2.2.2.2.2.2
abbrev cT.c (C : cT) : Nat := C.2.2.2.2.2.2.1.1
abbrev cT.ak (C : cT) : Nat → Option Nat := C.2.2.2.2.2.2.1.2.1
abbrev cT.av (C : cT) : Nat → Nat := C.2.2.2.2.2.2.1.2.2
abbrev cT.x0 (C : cT) : Value := C.2.2.2.2.2.2.2.1.1
abbrev cT.x1 (C : cT) : Value := C.2.2.2.2.2.2.2.1.2.1
abbrev cT.x6 (C : cT) : Value := C.2.2.2.2.2.2.2.1.2.2.1
abbrev cT.x7 (C : cT) : Value := C.2.2.2.2.2.2.2.1.2.2.2.1
abbrev cT.x8 (C : cT) : Value := C.2.2.2.2.2.2.2.1.2.2.2.2.1
abbrev cT.sg (C : cT) : Nat → Nat := C.2.2.2.2.2.2.2.1.2.2.2.2.2.1
abbrev cT.pl (C : cT) : Nat → Nat := C.2.2.2.2.2.2.2.1.2.2.2.2.2.2.1
abbrev cT.rl (C : cT) : Nat → Bool := C.2.2.2.2.2.2.2.1.2.2.2.2.2.2.2.1
abbrev cT.bt (C : cT) : Nat → Int32 := C.2.2.2.2.2.2.2.1.2.2.2.2.2.2.2.2
abbrev cT.ho (C : cT) : Nat := C.2.2.2.2.2.2.2.2.1.1
abbrev cT.gv (C : cT) : Value := C.2.2.2.2.2.2.2.2.1.2.1
abbrev cT.rv (C : cT) : Value := C.2.2.2.2.2.2.2.2.1.2.2.1
abbrev cT.lv (C : cT) : Value := C.2.2.2.2.2.2.2.2.1.2.2.2.1
abbrev cT.fv (C : cT) : Value := C.2.2.2.2.2.2.2.2.1.2.2.2.2.1
abbrev cT.S (C : cT) : rd_T := C.2.2.2.2.2.2.2.2.1.2.2.2.2.2
abbrev cT.ho2 (C : cT) : Nat := C.2.2.2.2.2.2.2.2.2.1
abbrev cT.gv2 (C : cT) : Value := C.2.2.2.2.2.2.2.2.2.2.1
abbrev cT.rv2 (C : cT) : Value := C.2.2.2.2.2.2.2.2.2.2.2.1
abbrev cT.lv2 (C : cT) : Value := C.2.2.2.2.2.2.2.2.2.2.2.2.1
abbrev cT.fv2 (C : cT) : Value := C.2.2.2.2.2.2.2.2.2.2.2.2.2.1
abbrev cT.S2 (C : cT) : rd_T := C.2.2.2.2.2.2.2.2.2.2.2.2.2.2
/-- the class as it lies in the store -/
def clA (C : cT) (M : sl_M) : Prop := ob_at C.fd C.db C.sb C.sn C.tl C.lf C.lt C.lp M ∧ M 1 = .inl (.byte, 900, .inl C.f) ∧ sg_at C.db C.g M ∧ sg_at C.sb C.gs M ∧ gr_at (gr_fa C.R) (gr_pl C.R) C.bv C.ln0 (gr_a C.R) C.mv (gr_st C.R) (gr_hd C.R) (gr_en C.R) (gr_tk C.R) (gr_tp C.R) (gr_wd C.R) (gr_sg C.R) M ∧ rl_at C.e0 C.l C.t C.s M ∧ ld_at C.rn C.e C.rk C.kn C.ar C.re C.nu C.ba M ∧ ac_at C.c (fun i => sl_io (C.ak i)) (fun i => nI (C.av i)) M ∧ (M 33 = .inr (1, [C.x0, C.x1, .ref 34, .ref 35, .ref 36, .ref 37, C.x6, C.x7, C.x8]) ∧ M 34 = .inl (.int, 60, .inl fun i => nI (C.sg i)) ∧ M 35 = .inl (.int, 60, .inl fun i => nI (C.pl i)) ∧ M 36 = .inl (.boolean, 60, .inl fun i => sl_bi (C.rl i)) ∧ M 37 = .inl (.int, 60, .inl C.bt)) ∧ rg_A 38 C.ho C.gv C.rv C.lv C.fv C.S M ∧ rg_A 53 C.ho2 C.gv2 C.rv2 C.lv2 C.fv2 C.S2 M
/-- what the class keeps by itself -/
def clK (C : cT) : Prop := ((C.db = 2 ∧ C.sb = 10) ∨ (C.db = 10 ∧ C.sb = 2)) ∧ (C.fd ≤ 900 ∧ C.lt < 100 ∧ C.c ≤ 10 ∧ C.e ≤ 11) ∧ (sg_ok C.g ∧ sg_ok C.gs ∧ sg_z C.g ∧ sg_z C.gs) ∧ (gr_tk C.R ≤ 4 ∧ gr_sg C.R < 256) ∧ ((∀ i, 6 ≤ i → C.l i = nI 0 ∧ C.t i = nI 0) ∧ ∀ i, 144 ≤ i → C.s i = nI 0) ∧ (∀ p, 28 ≤ p → C.kn p = 0 ∧ C.ar p = nI 0 ∧ C.re p = nI 0 ∧ C.nu p = 0 ∧ C.ba p = 0) ∧ ((∀ p, p < 28 → C.kn p < 28) ∧ (∀ p, p < 28 → C.nu p < 1000000) ∧ C.rn ≤ 28) ∧ (rd_rest C.S ∧ rd_rest C.S2 ∧ nd_c (rd_nd C.S) ≤ 60 ∧ rd_fa C.S < 100)
/-- the acts kept, both ways -/
def ac_ok : Nat → sg_T → (Nat → Option Nat) → (Nat → Nat) → (Nat → Int32) → (Nat → Nat → Int32) → Prop
  | 0, _, _, _, _, _ => True
  | c + 1, g, ak, av, v, a => (sg_ok (un_g g (ak c) (av c)) ∧ sg_str (un_g g (ak c) (av c)) ∧ rf_G (un_g g (ak c) (av c)) (sl_u (sl_u v 22 (a 24 c)) 23 (a 25 c)) a ∧ (∀ r, ak c = some r → r < 12) ∧ av c < 1000 ∧ (ak c = none → av c ≤ 2)) ∧ ac_ok c (un_g g (ak c) (av c)) ak av v a
/-- numbers and knots as they are reckoned -/
def ldK (g : sg_T) (C : cT) : Prop := C.e0 = sg_terms g ∧ C.l = (rl_LT g).1 ∧ C.t = (rl_LT g).2 ∧ C.s = rl_S g ∧ C.e = sg_terms g ∧ ∃ rk0 ba0, C.rn = (lk_F (rl_S g) (sg_terms g) rk0 ba0).1 ∧ C.rk = (lk_F (rl_S g) (sg_terms g) rk0 ba0).2.1 ∧ C.kn = lk_K (rl_S g) (sg_terms g) ∧ C.nu = lk_N (rl_S g) (sg_terms g) (lk_F (rl_S g) (sg_terms g) rk0 ba0).1
/-- the formula told, both ways -/
def toldR (C : cT) (v : Nat → Int32) (a : Nat → Nat → Int32) : Prop := ∃ (ln : Nat) (q : fs_T) (S0 : rd_T), C.x0 = .int (nI ln) ∧ C.x1 = .int (sl_io q.1) ∧ C.x6 = .ref 1 ∧ C.x7 = .int (nI q.2.1) ∧ C.x8 = .int (nI q.2.2.1) ∧ C.sg = q.2.2.2.1 ∧ C.pl = q.2.2.2.2.1 ∧ C.rl = q.2.2.2.2.2.1 ∧ C.bt = q.2.2.2.2.2.2 ∧ rqH C.g C.s C.rn C.rk C.kn C.nu ln q C.ho S0 C.S v a
def lwR (C : cT) (v : Nat → Int32) (a : Nat → Nat → Int32) : Prop := (v 1 = nI C.lt ∧ v 2 = an_where C.lt C.lp ∧ v 34 = nI C.lf ∧ v 28 = nI C.fd ∧ a 27 = C.f ∧ v 21 = sl_bi C.sn ∧ v 53 = sl_bi C.tl ∧ v 26 = nI C.c ∧ rf_z0 a) ∧ (C.sn = false → C.c = 0 ∧ C.tl = false) ∧ (C.sn = true → sg_str C.g ∧ rf_G C.g v a ∧ rf_laid C.g v a ∧ ldK C.g C) ∧ ac_ok C.c C.g C.ak C.av v a ∧ (C.tl = true → toldR C v a)
def lwI (M : sl_M) : Prop := ∃ (C : cT) (v : Nat → Int32) (w : Int64) (a : Nat → Nat → Int32) (nm : Nat → Int64), clA C M ∧ rf_S v w a nm M = M ∧ (∃ z : Nat → Int64, M 113 = .inl (.long, 1, .inr (.inl z))) ∧ clK C ∧ lwR C v a
theorem rf_keep {v : Nat → Int32} {w : Int64} {a : Nat → Nat → Int32} {nm : Nat → Int64} {M M' : sl_M} (h : rf_S v w a nm M = M) (hk : ∀ k, 68 ≤ k → k < 113 → M' k = M k) : rf_S v w a nm M' = M' := by
  funext k
  by_cases h1 : k < 68
  · exact rf_lo h1
  · by_cases h2 : k < 113
    · rw [hk k (by omega) h2, ← h]
      simp only [rf_S, rf_P, if_neg h1, if_pos h2]
    · exact rf_hi (by omega)
theorem rf_rf {v v' : Nat → Int32} {w w' : Int64} {a a' : Nat → Nat → Int32} {nm nm' : Nat → Int64} {M : sl_M} : rf_S v' w' a' nm' (rf_S v w a nm M) = rf_S v' w' a' nm' M := by
  funext k
  simp only [rf_S, rf_P]
  by_cases h1 : k < 68
  · simp only [if_pos h1]
  · by_cases h2 : k < 113
    · simp only [if_neg h1, if_pos h2]
    · simp only [if_neg h1, if_neg h2]
theorem clA_lo {C : cT} {M M' : sl_M} (hd : (C.db = 2 ∧ C.sb = 10) ∨ (C.db = 10 ∧ C.sb = 2)) (h : clA C M) (e : ∀ k, k < 68 → M' k = M k) : clA C M' := by
  obtain ⟨h0, h1, h2, h3, h4, h5, h6, h7, h8, h9, h10⟩ := h
  refine ⟨?_, ?_, ?_, ?_, ?_, ?_, ?_, ?_, ?_, ?_, ?_⟩
  · exact (e 0 (by decide)).trans h0
  · exact (e 1 (by decide)).trans h1
  · obtain ⟨g0, g1, g2, g3, g4, g5, g6, g7⟩ := h2
    exact ⟨(e _ (by omega)).trans g0, (e _ (by omega)).trans g1, (e _ (by omega)).trans g2, (e _ (by omega)).trans g3, (e _ (by omega)).trans g4, (e _ (by omega)).trans g5, (e _ (by omega)).trans g6, (e _ (by omega)).trans g7⟩
  · obtain ⟨g0, g1, g2, g3, g4, g5, g6, g7⟩ := h3
    exact ⟨(e _ (by omega)).trans g0, (e _ (by omega)).trans g1, (e _ (by omega)).trans g2, (e _ (by omega)).trans g3, (e _ (by omega)).trans g4, (e _ (by omega)).trans g5, (e _ (by omega)).trans g6, (e _ (by omega)).trans g7⟩
  · exact (e 18 (by decide)).trans h4
  · obtain ⟨a0, a1, a2, a3⟩ := h5
    exact ⟨(e _ (by decide)).trans a0, (e _ (by decide)).trans a1, (e _ (by decide)).trans a2, (e _ (by decide)).trans a3⟩
  · obtain ⟨a0, a1, a2, a3, a4, a5, a6⟩ := h6
    exact ⟨(e _ (by decide)).trans a0, (e _ (by decide)).trans a1, (e _ (by decide)).trans a2, (e _ (by decide)).trans a3, (e _ (by decide)).trans a4, (e _ (by decide)).trans a5, (e _ (by decide)).trans a6⟩
  · obtain ⟨a0, a1, a2⟩ := h7
    exact ⟨(e _ (by decide)).trans a0, (e _ (by decide)).trans a1, (e _ (by decide)).trans a2⟩
  · obtain ⟨a0, a1, a2, a3, a4⟩ := h8
    exact ⟨(e _ (by decide)).trans a0, (e _ (by decide)).trans a1, (e _ (by decide)).trans a2, (e _ (by decide)).trans a3, (e _ (by decide)).trans a4⟩
  · unfold rg_A rg_at at *
    simp only [e 38 (by decide), e 39 (by decide), e 40 (by decide), e 41 (by decide), e 42 (by decide), e 43 (by decide), e 44 (by decide), e 45 (by decide), e 46 (by decide), e 47 (by decide), e 48 (by decide), e 49 (by decide), e 50 (by decide), e 51 (by decide), e 52 (by decide), Nat.reduceAdd] at h9 ⊢
    exact h9
  · unfold rg_A rg_at at *
    simp only [e 53 (by decide), e 54 (by decide), e 55 (by decide), e 56 (by decide), e 57 (by decide), e 58 (by decide), e 59 (by decide), e 60 (by decide), e 61 (by decide), e 62 (by decide), e 63 (by decide), e 64 (by decide), e 65 (by decide), e 66 (by decide), e 67 (by decide), Nat.reduceAdd] at h10 ⊢
    exact h10

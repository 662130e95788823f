/-! grammar: both answer alike -/
theorem fa_fl {k : Nat} (h : k < 100) (R : gr_T) : gr_fa (gr_fl k R) < 100 := h
theorem fa_to {k : Nat} {R : gr_T} (h : gr_fa R < 100) : gr_fa (gr_to k R) < 100 := h
theorem fa_gm {R : gr_T} {g : sg_T} (h : gr_fa R < 100) : gr_fa (gm_s R g).1 < 100 := by
  unfold gm_s
  repeat' (first | exact h | exact (by decide : (4 : Nat) < 100) | exact (by decide : (5 : Nat) < 100) | exact (by decide : (3 : Nat) < 100) | split)
theorem fa_gt {R : gr_T} {g : sg_T} {x : Nat} (h : gr_fa R < 100) : gr_fa (gt_s R g x).1 < 100 := by
  unfold gt_s
  repeat' (first | exact h | exact (by decide : (4 : Nat) < 100) | exact (by decide : (5 : Nat) < 100) | exact (by decide : (3 : Nat) < 100) | split)
theorem fa_cond {α : Type} {b : Bool} {x y : α} {P : α → Prop} (hx : P x) (hy : P y) : P (cond b x y) := by cases b <;> assumption
theorem fa_jo {o : Option Nat} {q : gr_T × sg_T} {z : Nat} (h : gr_fa q.1 < 100) : gr_fa (gp_jo o q z).1 < 100 := by
  cases o with
  | none => exact h
  | some k => exact h
theorem fa_take {R : gr_T} {g : sg_T} (h : gr_fa R < 100) : gr_fa (gp_take R g).1 < 100 := by
  have hti : ∀ x, gr_fa (gp_ti R g x).1 < 100 := fun x => by
    unfold gp_ti
    split
    · exact fa_jo (fa_gt h)
    · exact (by decide : (4 : Nat) < 100)
  have hit : gr_fa (gp_item R g).1 < 100 := by
    unfold gp_item
    refine fa_cond (P := fun q : gr_T × sg_T => gr_fa q.1 < 100) h (fa_cond (P := fun q : gr_T × sg_T => gr_fa q.1 < 100) ?_ ?_)
    · unfold gp_ni
      refine fa_cond (P := fun q : gr_T × sg_T => gr_fa q.1 < 100) (by decide : (3 : Nat) < 100) ?_
      split
      · exact fa_jo (fa_gm h)
      · exact (by decide : (4 : Nat) < 100)
    · split
      · exact hti _
      · exact fa_cond (P := fun q : gr_T × sg_T => gr_fa q.1 < 100) (hti 0) (by decide : (1 : Nat) < 100)
  unfold gp_take
  split
  · exact (by decide : (1 : Nat) < 100)
  · split
    · show gr_fa (gp_line R g) < 100
      unfold gp_line
      refine fa_cond (P := fun q : gr_T => gr_fa q < 100) (fa_cond (P := fun q : gr_T => gr_fa q < 100) (by decide : (6 : Nat) < 100) h) (fa_cond (P := fun q : gr_T => gr_fa q < 100) ?_ (by decide : (1 : Nat) < 100))
      split
      · exact fa_cond (P := fun q : gr_T => gr_fa q < 100) h (by decide : (5 : Nat) < 100)
      · exact (by decide : (4 : Nat) < 100)
    · unfold gp_kind
      exact fa_cond (P := fun q : gr_T × sg_T => gr_fa q.1 < 100) h (fa_cond (P := fun q : gr_T × sg_T => gr_fa q.1 < 100) h (fa_cond (P := fun q : gr_T × sg_T => gr_fa q.1 < 100) h (by decide : (1 : Nat) < 100)))
    · unfold gp_head
      refine fa_cond (P := fun q : gr_T × sg_T => gr_fa q.1 < 100) ?_ (by decide : (1 : Nat) < 100)
      split
      · exact fa_gm h
      · exact fa_to (fa_gm h)
    · show gr_fa (gp_is R) < 100
      unfold gp_is
      exact fa_cond (P := fun q : gr_T => gr_fa q < 100) h (by decide : (1 : Nat) < 100)
    · exact hit
    · exact hit
    · unfold gp_deed
      split
      · exact (by decide : (1 : Nat) < 100)
      · exact fa_cond (P := fun q : gr_T × sg_T => gr_fa q.1 < 100) h (by decide : (2 : Nat) < 100)
    · show gr_fa (gp_part R g) < 100
      unfold gp_part
      split
      · exact h
      · split
        · exact fa_cond (P := fun q : gr_T => gr_fa q < 100) (by decide : (5 : Nat) < 100) h
        · exact (by decide : (1 : Nat) < 100)
theorem fa_tok {f : Nat → Int32} {ln : Nat} {R : gr_T} (h : gr_fa R < 100) : gr_fa (gr_tok f ln R) < 100 := by
  unfold gr_tok gr_t1
  split
  · exact h
  · refine fa_cond (P := fun q : gr_T => gr_fa q < 100) h ?_
    split
    · exact h
    · exact fa_cond (P := fun q : gr_T => gr_fa q < 100) h h
theorem fa_run {f : Nat → Int32} {ln : Nat} : ∀ (n : Nat) (q : gr_T × sg_T), gr_fa q.1 < 100 → gr_fa (gp_run f ln n q).1 < 100 := by
  intro n
  induction n with
  | zero => intro q h; exact h
  | succ n ih =>
    intro q h
    rw [gp_run]
    exact fa_cond (P := fun q : gr_T × sg_T => gr_fa q.1 < 100) h (ih _ (fa_take (fa_tok h)))
theorem fa_E {f : Nat → Int32} {ln : Nat} {R : gr_T} {g : sg_T} : gr_fa (gr_E f ln R g).1 < 100 := fa_run (ln + 1) _ (by show (0 : Nat) < 100; decide)
section AGM
variable {C : cT} {v : Nat → Int32} {w : Int64} {a : Nat → Nat → Int32} {nm : Nat → Int64} {M : sl_M}
/-- a grammar refused -/
abbrev cT.wbad (C : cT) (ln : Nat) (EE : gr_T × sg_T) : cT := ((0, C.db, C.sb, C.sn, C.tl, gr_fa EE.1, 4, nI (gr_pl EE.1)), C.2.1, (C.g, EE.2), (EE.1, .ref 1, .ref C.sb, ln), C.2.2.2.2)
/-- a grammar taken -/
abbrev cT.wgood (C : cT) (ln : Nat) (EE : gr_T × sg_T) : cT := ((0, C.sb, C.db, true, false, 0, 0, C.lp), C.2.1, (EE.2, C.g), (EE.1, .ref 1, .ref C.sb, ln), (sg_terms EE.2, (rl_LT EE.2).1, (rl_LT EE.2).2, rl_S EE.2), ((lk_F (rl_S EE.2) (sg_terms EE.2) C.rk C.ba).1, sg_terms EE.2, (lk_F (rl_S EE.2) (sg_terms EE.2) C.rk C.ba).2.1, lk_K (rl_S EE.2) (sg_terms EE.2), lk_N (rl_S EE.2) (sg_terms EE.2) (lk_F (rl_S EE.2) (sg_terms EE.2) C.rk C.ba).1, (lk_F (rl_S EE.2) (sg_terms EE.2) C.rk C.ba).2.2, lk_A (rl_S EE.2) (sg_terms EE.2), lk_R (rl_S EE.2) (sg_terms EE.2)), (0, C.ak, C.av), C.2.2.2.2.2.2.2)
set_option maxRecDepth 100000 in
theorem ag_grammar (hSS : st_all) (hA : clA C M) (hS : rf_S v w a nm M = M) (h113 : ∃ z : Nat → Int64, M 113 = .inl (.long, 1, .inr (.inl z))) (hK : clK C) (hR : lwR C v a) (x : Int32) : lw_ag 10 12 YX11_grammar YX12_grammar [.int x] M := by
  have hb : C.db = 2 ∨ C.db = 10 := by have := hK.1; omega
  have hb2 : C.sb = 2 ∨ C.sb = 10 := by have := hK.1; omega
  have hfd := hK.2.1.1
  obtain ⟨hok, hoks, hzg, hzs⟩ := hK.2.2.1
  obtain ⟨h2k, h4k⟩ := hK.2.2.2.1
  have e0 : ob_set C.fd C.db C.sb C.sn C.tl C.lf C.lt C.lp M = M := ob_self hA.1
  have h1 := c_X11_grammar (fd := C.fd) (db := C.db) (sb := C.sb) (sn := C.sn) (tl := C.tl) (lf := C.lf) (lt := C.lt) (lp := C.lp) hSS hb hb2 hA.2.1 hfd hA.2.2.1 hA.2.2.2.1 hoks hzs hA.2.2.2.2.1 h2k h4k hA.2.2.2.2.2.1 hK.2.2.2.2.1 hA.2.2.2.2.2.2.1 hK.2.2.2.2.2.1 hA.2.2.2.2.2.2.2.1 (fun ln _ => fa_E) x
  have h2 := fun M => c_X12_grammar (w := w) (nm := nm) (M := M) (R := C.R) (g := C.gs) hSS hR.1.2.2.2.2.1 hfd hR.1.2.2.2.1 h2k h4k hoks hR.1.2.2.2.2.2.2.2.2 x
  cases hx : sl_vi x (C.fd + 1) with
  | none =>
    simp only [hx] at h1 h2
    exact ag_q (A := (-1, 2)) hA hS h113 hK hR ⟨by show (2 : Nat) ≠ 4; decide, by show (2 : Nat) ≠ 6; decide, by show (2 : Nat) < 100; decide⟩ h1 h2 (fun _ _ _ h => qA_an h)
  | some ln =>
    simp only [hx] at h1 h2
    rw [e0] at h1
    have hok' := (gpo_k_run (f := C.f) (ln := ln) (ln + 1) (gp_R0 C.R, gp_g0 C.gs) (gpo_k_0 h2k h4k hoks))
    change gpo_k ln (gr_E C.f ln C.R C.gs).1 (gr_E C.f ln C.R C.gs).2 at hok'
    have hfa : gr_fa (gr_E C.f ln C.R C.gs).1 < 100 := fa_E
    generalize gr_E C.f ln C.R C.gs = EE at *
    obtain ⟨k1, k2, k3, k4, k5, k6, k7, k8⟩ := hok'
    obtain ⟨g0, g1, g2, g3, g4, g5, g6, g7, g8, g9, g10⟩ := hA
    have hne : C.db ≠ C.sb := by have := hK.1; omega
    have hgr : gr_at (gr_fa EE.1) (gr_pl EE.1) (.ref 1) ln (gr_a EE.1) (.ref C.sb) (gr_st EE.1) (gr_hd EE.1) (gr_en EE.1) (gr_tk EE.1) (gr_tp EE.1) (gr_wd EE.1) (gr_sg EE.1) (gp_S C.sb ln EE.1 EE.2 M) := gr_of
    have p1 : gp_S C.sb ln EE.1 EE.2 M 1 = .inl (.byte, 900, .inl C.f) := t_gr_1 (t_gs_1 hb2 g1)
    have p2 : sg_at C.db C.g (gp_S C.sb ln EE.1 EE.2 M) := t_gr_sg hb (t_gs_sg hb hb2 (by omega) g2)
    have p3 : sg_at C.sb EE.2 (gp_S C.sb ln EE.1 EE.2 M) := gp_sg hb2
    have p5 : rl_at C.e0 C.l C.t C.s (gp_S C.sb ln EE.1 EE.2 M) := t_gr_rl (t_gs_rl hb2 g5)
    have p6 : ld_at C.rn C.e C.rk C.kn C.ar C.re C.nu C.ba (gp_S C.sb ln EE.1 EE.2 M) := t_gr_ld (t_gs_ld hb2 g6)
    have p7 : ac_at C.c (fun i => sl_io (C.ak i)) (fun i => nI (C.av i)) (gp_S C.sb ln EE.1 EE.2 M) := t_gr_ac (t_gs_ac hb2 g7)
    have hso : ∀ k, 18 < k → gp_S C.sb ln EE.1 EE.2 M k = M k := fun k hk => (gr_out (by omega)).trans (gs_out (by omega))
    have p8 := fun k (hk : 18 < k) {x : sl_E} (hx : M k = x) => (hso k hk).trans hx
    have p9 : rg_A 38 C.ho C.gv C.rv C.lv C.fv C.S (gp_S C.sb ln EE.1 EE.2 M) := t_gr_rg (Or.inl rfl) (t_gs_rg (Or.inl rfl) hb2 g9)
    have p10 : rg_A 53 C.ho2 C.gv2 C.rv2 C.lv2 C.fv2 C.S2 (gp_S C.sb ln EE.1 EE.2 M) := t_gr_rg (Or.inr rfl) (t_gs_rg (Or.inr rfl) hb2 g10)
    have q8 : gp_S C.sb ln EE.1 EE.2 M 33 = .inr (1, [C.x0, C.x1, .ref 34, .ref 35, .ref 36, .ref 37, C.x6, C.x7, C.x8]) ∧ gp_S C.sb ln EE.1 EE.2 M 34 = .inl (.int, 60, .inl fun i => nI (C.sg i)) ∧ gp_S C.sb ln EE.1 EE.2 M 35 = .inl (.int, 60, .inl fun i => nI (C.pl i)) ∧ gp_S C.sb ln EE.1 EE.2 M 36 = .inl (.boolean, 60, .inl fun i => sl_bi (C.rl i)) ∧ gp_S C.sb ln EE.1 EE.2 M 37 = .inl (.int, 60, .inl C.bt) := ⟨p8 33 (by decide) g8.1, p8 34 (by decide) g8.2.1, p8 35 (by decide) g8.2.2.1, p8 36 (by decide) g8.2.2.2.1, p8 37 (by decide) g8.2.2.2.2⟩
    generalize gp_S C.sb ln EE.1 EE.2 M = M0 at *
    by_cases h0 : 0 < gr_fa EE.1
    · simp only [h0, if_true] at h1 h2
      have hA1 : clA (C.wbad ln EE) (ob_set 0 C.db C.sb C.sn C.tl (gr_fa EE.1) 4 (nI (gr_pl EE.1)) M0) := ⟨ob_of, t_ob_1 p1, t_ob_sg hb p2, t_ob_sg hb2 p3, t_ob_gr hgr, t_ob_rl p5, t_ob_ld p6, t_ob_ac p7, ⟨(ob_out (by decide)).trans q8.1, (ob_out (by decide)).trans q8.2.1, (ob_out (by decide)).trans q8.2.2.1, (ob_out (by decide)).trans q8.2.2.2.1, (ob_out (by decide)).trans q8.2.2.2.2⟩, t_ob_rg (Or.inl rfl) p9, t_ob_rg (Or.inr rfl) p10⟩
      have hout : ∀ k, 68 ≤ k → (ob_set 0 C.db C.sb C.sn C.tl (gr_fa EE.1) 4 (nI (gr_pl EE.1)) M0) k = M k := fun k hk => (ob_out (by omega)).trans (hso k (by omega))
      refine ⟨_, h1, ?_⟩
      rintro _ M1 ⟨rfl, hM1⟩
      rw [← hM1] at hA1 hout
      have hS1 : rf_S v w a nm M1 = M1 := rf_keep hS (fun k q _ => hout k q)
      refine ⟨_, rfl, ⟨rf_c v w, by rw [← hS1]; exact rf_68⟩, _, by have := h2 M1; rw [hS1] at this; exact this, ?_⟩
      rintro _ _ ⟨rfl, v', w', a', nm', rfl, hv, ha, t0, t1, t2, t3, t4⟩
      refine ⟨rfl, C.wbad ln EE, v', w', a', nm', clA_lo hK.1 hA1 (fun k hk => rf_lo hk), rf_rf, h113.imp (fun z hz => (rf_hi (by decide)).trans ((hout 113 (by decide)).trans hz)), ?_, ?_⟩
      · exact ⟨hK.1, ⟨Nat.zero_le _, (show (4 : Nat) < 100 by decide), hK.2.1.2.2⟩, ⟨hok, k5, hzg, k6⟩, ⟨k2, k4⟩, hK.2.2.2.2⟩
      · obtain ⟨⟨a1, a2, a3, a4, a5, a6, a7, a8, a9⟩, b1, b2, b3, b4⟩ := hR
        have hv' : ∀ k, k ∈ lwV → k ≠ 34 → v' k = v k := fun k hk h34 => hv k (fun q => by
          simp only [lwV, rg_v, List.mem_cons, List.mem_nil_iff, or_false] at hk q; omega)
        have ha' : ∀ k, k ∈ 27 :: lwA → a' k = a k := fun k hk => ha k (fun q => by
          simp only [lwA, rg_a, List.mem_cons, List.mem_nil_iff, or_false] at hk q; omega)
        refine ⟨⟨t1, t2.trans ?_, t3, t4, (ha' _ (by decide)).trans a5, (hv' _ (by decide) (by decide)).trans a6, (hv' _ (by decide) (by decide)).trans a7, (hv' _ (by decide) (by decide)).trans a8, rf_z0_F a9 (fun k hk => ha' k ?_)⟩, b1, fun e => ?_, ac_ok_F (fun k hk => hv' k ?_ ?_) (fun k hk => ha' k ?_) _ _ b3, fun e => ?_⟩
        · exact (if_pos (Or.inl rfl)).symm
        · simp only [lwA, List.mem_cons, List.mem_nil_iff, or_false] at hk ⊢; omega
        · obtain ⟨c1, c2, c3, c4⟩ := b2 e
          refine ⟨c1, rf_G_same c2 (fun k hk => hv' k ?_ ?_) (fun k hk => ha' k ?_), rf_laid_F c3 (fun k hk => hv' k ?_ ?_) (fun k hk => ha' k ?_), c4⟩
          all_goals (simp only [lwA, lwV, List.mem_cons, List.mem_nil_iff, or_false] at hk ⊢; omega)
        · simp only [lwV, List.mem_cons, List.mem_nil_iff, or_false] at hk ⊢; omega
        · simp only [List.mem_cons, List.mem_nil_iff, or_false] at hk; omega
        · simp only [lwA, List.mem_cons, List.mem_nil_iff, or_false] at hk ⊢; omega
        · obtain ⟨ln, q, S0, e1, e2, e3, e4, e5, e6, e7, e8, e9, f1, f2, f3, f4, f5⟩ := b4 e
          refine ⟨ln, q, S0, e1, e2, e3, e4, e5, e6, e7, e8, e9, f1, f2, rlaid_F f3 (fun k hk => hv' k ?_ ?_) (fun k hk => ha' k ?_), ⟨(hv' _ (by decide) (by decide)).trans f4.1, (hv' _ (by decide) (by decide)).trans f4.2.1, (hv' _ (by decide) (by decide)).trans f4.2.2.1, fun z => rtk_F (f4.2.2.2 z) (fun k hk => ha' k ?_)⟩, f5⟩
          all_goals (simp only [lwA, lwV, List.mem_cons, List.mem_nil_iff, or_false] at hk ⊢; omega)
    · simp only [h0, if_false] at h1 h2
      have he11 : sg_terms EE.2 ≤ 11 := k5.2.2.2.1
      have hA1 : clA (C.wgood ln EE) (ob_set 0 C.sb C.db true false 0 0 C.lp (sd_set EE.2 C.rk C.ba (ac_set 0 (fun i => sl_io (C.ak i)) (fun i => nI (C.av i)) M0))) := ⟨ob_of, t_ob_1 (t_ld_1 (t_rl_1 (t_ac_1 p1))), t_ob_sg hb2 (t_ld_sg hb2 (t_rl_sg hb2 (t_ac_sg hb2 p3))), t_ob_sg hb (t_ld_sg hb (t_rl_sg hb (t_ac_sg hb p2))), t_ob_gr (t_ld_gr (t_rl_gr (t_ac_gr hgr))), t_ob_rl (t_ld_rl rl_of), t_ob_ld ld_of, t_ob_ac (t_ld_ac (t_rl_ac ac_of)), ⟨(ob_out (by decide)).trans ((ld_out (by decide)).trans ((rl_out (by decide)).trans ((ac_out (by decide)).trans q8.1))), (ob_out (by decide)).trans ((ld_out (by decide)).trans ((rl_out (by decide)).trans ((ac_out (by decide)).trans q8.2.1))), (ob_out (by decide)).trans ((ld_out (by decide)).trans ((rl_out (by decide)).trans ((ac_out (by decide)).trans q8.2.2.1))), (ob_out (by decide)).trans ((ld_out (by decide)).trans ((rl_out (by decide)).trans ((ac_out (by decide)).trans q8.2.2.2.1))), (ob_out (by decide)).trans ((ld_out (by decide)).trans ((rl_out (by decide)).trans ((ac_out (by decide)).trans q8.2.2.2.2)))⟩, t_ob_rg (Or.inl rfl) (t_ld_rg (Or.inl rfl) (t_rl_rg (Or.inl rfl) (t_ac_rg (Or.inl rfl) p9))), t_ob_rg (Or.inr rfl) (t_ld_rg (Or.inr rfl) (t_rl_rg (Or.inr rfl) (t_ac_rg (Or.inr rfl) p10)))⟩
      have hout : ∀ k, 68 ≤ k → (ob_set 0 C.sb C.db true false 0 0 C.lp (sd_set EE.2 C.rk C.ba (ac_set 0 (fun i => sl_io (C.ak i)) (fun i => nI (C.av i)) M0))) k = M k := fun k hk => (ob_out (by omega)).trans ((ld_out (by omega)).trans ((rl_out (by omega)).trans ((ac_out (by omega)).trans (hso k (by omega)))))
      refine ⟨_, h1, ?_⟩
      rintro _ M1 ⟨rfl, hM1⟩
      rw [← hM1] at hA1 hout
      have hS1 : rf_S v w a nm M1 = M1 := rf_keep hS (fun k q _ => hout k q)
      refine ⟨_, rfl, ⟨rf_c v w, by rw [← hS1]; exact rf_68⟩, _, by have := h2 M1; rw [hS1] at this; exact this, ?_⟩
      rintro _ _ ⟨rfl, v', w', a', nm', rfl, hv, ha, t0, t1, t2, t3, t4, t5, t6, t7, t8, t9, t10, t11⟩
      have hKd : (C.sb = 2 ∧ C.db = 10) ∨ (C.sb = 10 ∧ C.db = 2) := by have := hK.1; omega
      obtain ⟨-, -, -, -, z5, z6, z7⟩ := t10.2.2.2 C.rk C.ba
      refine ⟨rfl, C.wgood ln EE, v', w', a', nm', clA_lo hKd hA1 (fun k hk => rf_lo hk), rf_rf, h113.imp (fun z hz => (rf_hi (by decide)).trans ((hout 113 (by decide)).trans hz)), ?_, ?_⟩
      · exact ⟨hKd, ⟨Nat.zero_le _, (show (0 : Nat) < 100 by decide), Nat.zero_le _, he11⟩, ⟨k5, hok, k6, hzg⟩, ⟨k2, k4⟩, ⟨rl_LT_6 k5, rl_S_144 k5 t11⟩, fun p hp => ⟨lk_K_z p hp, lk_A_z he11 p hp, lk_R_z he11 p hp, lk_N_z p hp, lk_F_z (fun p hp => (hK.2.2.2.2.2.1 p hp).2.2.2.2) p hp⟩, ⟨z6, z7, z5⟩, hK.2.2.2.2.2.2.2⟩
      · obtain ⟨⟨a1, a2, a3, a4, a5, a6, a7, a8, a9⟩, b1, b2, b3, b4⟩ := hR
        refine ⟨⟨t1, t2.trans ?_, t3, t4, (ha 27 (by decide)).trans a5, t5, t8, t6, rf_z0_laid k5 t11 t10⟩, fun e => (by cases e), fun _ => ⟨t11, t9, t10, rfl, rfl, rfl, rfl, rfl, C.rk, C.ba, rfl, rfl, rfl, rfl⟩, trivial, fun e => (by cases e)⟩
        exact (if_neg (by decide : ¬ ((0 : Nat) = 4 ∨ (0 : Nat) = 6))).symm
end AGM

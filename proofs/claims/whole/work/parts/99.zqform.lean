/-! formula, otherwise, later: both answer alike -/
theorem fq_inr {sn : Bool} {fd : Nat} {s : Nat → Int32} {rn : Nat} {x y : Int32} {ln how : Nat} (h : fq_ask sn fd s rn x y = .inr (ln, how)) : sn = true ∧ how < 2 ∧ ln ≤ fd ∧ an_can s rn how = true := by
  unfold fq_ask at h
  cases hy : sl_vr sn y 2 with
  | none => rw [hy] at h; cases h
  | some k =>
    rw [hy] at h
    obtain ⟨h1, h2, h3⟩ := vr_some hy
    cases hx : sl_vi x (fd + 1) with
    | none => rw [hx] at h; cases h
    | some n =>
      rw [hx] at h
      have h4 := (vi_some hx).2
      cases hc : an_can s rn k with
      | false => simp only [hc, cond_false] at h; cases h
      | true =>
        simp only [hc, cond_true] at h
        have e := Sum.inr.inj h
        have e1 : n = ln := congrArg Prod.fst e
        have e2 : k = how := congrArg Prod.snd e
        subst e1 e2
        exact ⟨h1, h3, by omega, hc⟩
theorem fq_inl {sn : Bool} {fd : Nat} {s : Nat → Int32} {rn : Nat} {x y : Int32} {k : Nat} (h : fq_ask sn fd s rn x y = .inl k) : k ≠ 4 ∧ k ≠ 6 ∧ k < 100 := by
  unfold fq_ask at h
  split at h
  · have := Sum.inl.inj h; omega
  · split at h
    · have := Sum.inl.inj h; omega
    · rename_i ln _ _
      generalize an_can s rn _ = b at h
      cases b with
      | false => have := Sum.inl.inj h; omega
      | true => cases h
theorem an_stw (T : rd_T) (lp : Int32) : (if rd_fa T = 0 then -1 else rd_pl T) = an_where (an_stt T) (an_stp T lp) := by
  unfold an_where an_stt an_stp
  by_cases h : rd_fa T = 0
  · rw [if_pos h, if_pos h, if_neg (by decide)]
  · rw [if_neg h, if_neg h, if_neg h, if_pos (by decide)]
theorem an_stt_lt (T : rd_T) : an_stt T < 100 := by unfold an_stt; split <;> decide
section AGG
variable {C : cT} {v : Nat → Int32} {w : Int64} {a : Nat → Nat → Int32} {nm : Nat → Int64} {M : sl_M}
/-- a formula told -/
abbrev cT.wfm (C : cT) (ln how : Nat) (q : fs_T) (T : rd_T) : cT := ((0, C.db, C.sb, C.sn, true, C.lf, an_stt T, an_stp T C.lp), C.2.1, C.2.2.1, C.2.2.2.1, C.2.2.2.2.1, C.2.2.2.2.2.1, C.2.2.2.2.2.2.1, (.int (nI ln), .int (sl_io q.1), .ref 1, .int (nI q.2.1), .int (nI q.2.2.1), q.2.2.2.1, q.2.2.2.2.1, q.2.2.2.2.2.1, q.2.2.2.2.2.2), (how, .ref C.db, .ref 19, .ref 23, .ref 33, T), C.2.2.2.2.2.2.2.2.2)
theorem ag_formula (hRR : rr_all) (hSS : st_all) (hA : clA C M) (hS : rf_S v w a nm M = M) (h113 : ∃ z : Nat → Int64, M 113 = .inl (.long, 1, .inr (.inl z))) (hK : clK C) (hR : lwR C v a) (x y : Int32) : lw_ag 8 9 YX11_formula YX12_formula [.int x, .int y] M := by
  have hb : C.db = 2 ∨ C.db = 10 := by have := hK.1; omega
  have hb2 : C.sb = 2 ∨ C.sb = 10 := by have := hK.1; omega
  have hok := hK.2.2.1.1
  have hfd := hK.2.1.1
  obtain ⟨hkn, hnu, hrn⟩ := hK.2.2.2.2.2.2.1
  have hrest := hK.2.2.2.2.2.2.2.1
  have hX := fun e => lwR_x hK hR e
  have e0 : ob_set C.fd C.db C.sb C.sn C.tl C.lf C.lt C.lp M = M := ob_self hA.1
  have h1 := c_X11_formula (fd := C.fd) (db := C.db) (sb := C.sb) (sn := C.sn) (tl := C.tl) (lf := C.lf) (lt := C.lt) (lp := C.lp) hRR hSS hb hA.2.2.1 hok hA.2.2.2.2.2.1 hA.2.2.2.2.2.2.1 hkn hnu (by omega) (fun e => (hX e).2.2.2.2.2.1.2.2.2.2.2) hA.2.1 hfd hA.2.2.2.2.2.2.2.2.1.1 hA.2.2.2.2.2.2.2.2.1.2.1 hA.2.2.2.2.2.2.2.2.1.2.2.1 hA.2.2.2.2.2.2.2.2.1.2.2.2.1 hA.2.2.2.2.2.2.2.2.1.2.2.2.2 hA.2.2.2.2.2.2.2.2.2.1 hrest x y
  have h2 := fun M => c_X12_formula (w := w) (nm := nm) (M := M) hR.1.2.2.2.2.2.1 hok (fun e => (hX e).2.2.2.2.1) (fun e => (hX e).2.2.2.2.2.1) hR.1.2.2.2.1 hfd hR.1.2.2.2.2.1 hrest x y C.sg C.pl C.rl C.bt
  cases hq : fq_ask C.sn C.fd C.s C.rn x y with
  | inl k =>
    simp only [hq] at h1 h2
    exact ag_q (A := (-1, k)) hA hS h113 hK hR (fq_inl hq) h1 h2 (fun _ _ _ h => qA_an h)
  | inr p =>
    obtain ⟨ln, how⟩ := p
    simp only [hq] at h1 h2
    obtain ⟨hsn, hh, hln, hcan⟩ := fq_inr hq
    obtain ⟨x1, x2, x3, x4, x5, x6, x7⟩ := hX hsn
    have hqo := fs_all_ok (f := C.f) (ln := ln) (show ln ≤ 900 by omega) ln (none, 0, 0, C.sg, C.pl, C.rl, C.bt) (Nat.zero_le _) (Nat.zero_le _) (fun k q => by cases q)
    have hqP := fs_all_P (f := C.f) (ln := ln) ln (none, 0, 0, C.sg, C.pl, C.rl, C.bt) (fun j hj => absurd hj (Nat.not_lt_zero j))
    rw [e0] at h1
    generalize fs_all C.f ln ln (none, 0, 0, C.sg, C.pl, C.rl, C.bt) = q at *
    have hE := rxE_ok (ln := ln) hok x5 hqo.1 hqP (ro_g_o (kn := C.kn) (nu := C.nu) x6.2.2.2.2 how)
    have hTo := rdS_ok hE hrest
    have hTf := rdS_fa (g := C.g) (ln := ln) (s := C.s) (nu := C.nu) (kn := C.kn) (how := how) (S0 := C.S) (q := q)
    have hTe : rdS C.g ln q C.s C.nu C.kn how C.S = rdS C.g ln q C.s C.nu C.kn how C.S := rfl
    generalize hTT : rdS C.g ln q C.s C.nu C.kn how C.S = T at *
    have hA1 : clA (C.wfm ln how q T) (ob_set 0 C.db C.sb C.sn true C.lf (an_stt T) (an_stp T C.lp) (rg_S 38 how C.db T (fm_mem ln q M))) := by
      obtain ⟨g0, g1, g2, g3, g4, g5, g6, g7, g8, g9, g10⟩ := hA
      exact ⟨ob_of, t_ob_1 (t_rg_1 (Or.inl rfl) (t_fm_1 g1)), t_ob_sg hb (t_rg_sg hb (Or.inl rfl) (t_fm_sg hb g2)), t_ob_sg hb2 (t_rg_sg hb2 (Or.inl rfl) (t_fm_sg hb2 g3)), t_ob_gr (t_rg_gr (Or.inl rfl) (t_fm_gr g4)), t_ob_rl (t_rg_rl (Or.inl rfl) (t_fm_rl g5)), t_ob_ld (t_rg_ld (Or.inl rfl) (t_fm_ld g6)), t_ob_ac (t_rg_ac (Or.inl rfl) (t_fm_ac g7)), t_ob_fm (t_rg_fm (Or.inl rfl) fm_of), t_ob_rg (Or.inl rfl) rg_of, t_ob_rg (Or.inr rfl) (t_rg_rg (Or.inr rfl) (Or.inl rfl) (by decide) (t_fm_rg (Or.inr rfl) g10))⟩
    have hout : ∀ k, 68 ≤ k → (ob_set 0 C.db C.sb C.sn true C.lf (an_stt T) (an_stp T C.lp) (rg_S 38 how C.db T (fm_mem ln q M))) k = M k := fun k hk => (ob_out (by omega)).trans ((rg_out (by omega)).trans (fm_out (by omega)))
    refine ⟨_, h1, ?_⟩
    rintro _ M1 ⟨rfl, hM1⟩
    rw [← hM1] at hA1 hout
    have hS1 : rf_S v w a nm M1 = M1 := rf_keep hS (fun k q _ => hout k q)
    refine ⟨_, rfl, ⟨rf_c v w, by rw [← hS1]; exact rf_68⟩, _, by have := h2 M1; rw [hS1] at this; exact this, ?_⟩
    rintro _ _ ⟨rfl, v', a', rfl, t1, t2, t3, t4, t5, hF⟩
    refine ⟨rfl, C.wfm ln how q T, v', w, a', nm, clA_lo hK.1 hA1 (fun k hk => rf_lo hk), rf_rf, h113.imp (fun z hz => (rf_hi (by decide)).trans ((hout 113 (by decide)).trans hz)), ?_, ?_⟩
    · exact ⟨hK.1, ⟨Nat.zero_le _, an_stt_lt T, hK.2.1.2.2⟩, hK.2.2.1, hK.2.2.2.1, hK.2.2.2.2.1, hK.2.2.2.2.2.1, hK.2.2.2.2.2.2.1, ⟨rd_ok_rest hTo, hK.2.2.2.2.2.2.2.2.1, hTo.2.2.2.1, hTf⟩⟩
    · obtain ⟨⟨a1, a2, a3, a4, a5, a6, a7, a8, a9⟩, b1, b2, b3, b4⟩ := hR
      have hv : ∀ k, k ∈ [14, 15, 16, 22, 23, 44, 21, 26, 34] → v' k = v k := fun k hk => hF.1 k (fun q => by
        simp only [List.mem_cons, List.mem_nil_iff, or_false] at hk q; omega)
      have ha : ∀ k, k ∈ [3, 4, 5, 6, 7, 24, 25, 36, 37, 38, 39, 40, 45, 27] → a' k = a k := fun k hk => hF.2 k (fun q => by
        simp only [List.mem_cons, List.mem_nil_iff, or_false] at hk q; omega)
      refine ⟨⟨t1, t2.trans (an_stw T C.lp), (hv _ (by decide)).trans a3, t5, (ha _ (by decide)).trans a5, (hv _ (by decide)).trans a6, t3, (hv _ (by decide)).trans a8, rf_z0_F a9 (fun k hk => ha k ?_)⟩, fun e => ?_, fun e => ?_, ac_ok_F (fun k hk => hv k ?_) (fun k hk => ha k ?_) _ _ b3, fun e => ?_⟩
      · simp only [List.mem_cons, List.mem_nil_iff, or_false] at hk ⊢; omega
      · have e' : C.sn = false := e
        rw [hsn] at e'; cases e'
      · obtain ⟨c1, c2, c3, c4⟩ := b2 e
        refine ⟨c1, rf_G_same c2 (fun k hk => hv k ?_) (fun k hk => ha k ?_), rf_laid_F c3 (fun k hk => hv k ?_) (fun k hk => ha k ?_), c4⟩
        all_goals (simp only [List.mem_cons, List.mem_nil_iff, or_false] at hk ⊢; omega)
      · simp only [List.mem_cons, List.mem_nil_iff, or_false] at hk ⊢; omega
      · simp only [List.mem_cons, List.mem_nil_iff, or_false] at hk ⊢; omega
      · refine ⟨ln, q, C.S, rfl, rfl, rfl, rfl, rfl, rfl, rfl, rfl, rfl, hok, x5, rlaid_F x6 (fun k hk => hv k ?_) (fun k hk => ha k ?_), t4, hqo.1, hqP, hqo.2.2, hh, an_can_1 hcan, hrest, hTT.symm⟩
        all_goals (simp only [List.mem_cons, List.mem_nil_iff, or_false] at hk ⊢; omega)
end AGG

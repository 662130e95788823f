/-! otherwise, later: both answer alike -/
theorem oq_some {tl : Bool} {s : Nat → Int32} {rn how k : Nat} (h : oq_ask tl s rn how = some k) : k ≠ 4 ∧ k ≠ 6 ∧ k < 100 := by
  unfold oq_ask at h
  cases tl with
  | false => have := Option.some.inj h; omega
  | true =>
    simp only [cond_true] at h
    cases hc : an_can s rn (1 - how) with
    | true => rw [hc] at h; cases h
    | false => rw [hc] at h; have := Option.some.inj h; omega
theorem lq_some {tl : Bool} {s : Nat → Int32} {rn k : Nat} (h : lq_ask tl s rn = some k) : k ≠ 4 ∧ k ≠ 6 ∧ k < 100 := by
  unfold lq_ask at h
  generalize (an_can s rn 0 && an_can s rn 1) = b at h
  cases tl with
  | false => have := Option.some.inj h; omega
  | true =>
    cases b with
    | true => cases h
    | false => have := Option.some.inj h; omega
theorem oq_none {tl : Bool} {s : Nat → Int32} {rn how : Nat} (h : oq_ask tl s rn how = none) : tl = true := by
  cases tl with
  | false => cases h
  | true => rfl
theorem lq_none {tl : Bool} {s : Nat → Int32} {rn : Nat} (h : lq_ask tl s rn = none) : tl = true := by
  cases tl with
  | false => cases h
  | true => rfl
section AGH
variable {C : cT} {v : Nat → Int32} {w : Int64} {a : Nat → Nat → Int32} {nm : Nat → Int64} {M : sl_M}
/-- the other reading -/
abbrev cT.wr2 (C : cT) (lt : Nat) (lp : Int32) (ho : Nat) (T : rd_T) : cT := ((C.fd, C.db, C.sb, C.sn, C.tl, C.lf, lt, lp), C.2.1, C.2.2.1, C.2.2.2.1, C.2.2.2.2.1, C.2.2.2.2.2.1, C.2.2.2.2.2.2.1, C.2.2.2.2.2.2.2.1, C.2.2.2.2.2.2.2.2.1, (ho, .ref C.db, .ref 19, .ref 23, .ref 33, T))
theorem clA_r2 (hK : clK C) (hA : clA C M) (lt : Nat) (lp : Int32) (ho : Nat) (T : rd_T) : clA (C.wr2 lt lp ho T) (ob_set C.fd C.db C.sb C.sn C.tl C.lf lt lp (rg_S 53 ho C.db T M)) := by
  have hb : C.db = 2 ∨ C.db = 10 := by have := hK.1; omega
  have hb2 : C.sb = 2 ∨ C.sb = 10 := by have := hK.1; omega
  obtain ⟨g0, g1, g2, g3, g4, g5, g6, g7, g8, g9, g10⟩ := hA
  exact ⟨ob_of, t_ob_1 (t_rg_1 (Or.inr rfl) g1), t_ob_sg hb (t_rg_sg hb (Or.inr rfl) g2), t_ob_sg hb2 (t_rg_sg hb2 (Or.inr rfl) g3), t_ob_gr (t_rg_gr (Or.inr rfl) g4), t_ob_rl (t_rg_rl (Or.inr rfl) g5), t_ob_ld (t_rg_ld (Or.inr rfl) g6), t_ob_ac (t_rg_ac (Or.inr rfl) g7), ⟨(ob_out (by decide)).trans ((rg_out (by decide)).trans g8.1), (ob_out (by decide)).trans ((rg_out (by decide)).trans g8.2.1), (ob_out (by decide)).trans ((rg_out (by decide)).trans g8.2.2.1), (ob_out (by decide)).trans ((rg_out (by decide)).trans g8.2.2.2.1), (ob_out (by decide)).trans ((rg_out (by decide)).trans g8.2.2.2.2)⟩, t_ob_rg (Or.inl rfl) (t_rg_rg (Or.inl rfl) (Or.inr rfl) (by decide) g9), t_ob_rg (Or.inr rfl) rg_of⟩
theorem ag_otherwise (hRR : rr_all) (hA : clA C M) (hS : rf_S v w a nm M = M) (h113 : ∃ z : Nat → Int64, M 113 = .inl (.long, 1, .inr (.inl z))) (hK : clK C) (hR : lwR C v a) : lw_ag 7 9 YX11_otherwise YX12_otherwise [] M := by
  have hb : C.db = 2 ∨ C.db = 10 := by have := hK.1; omega
  have hok := hK.2.2.1.1
  obtain ⟨hkn, hnu, hrn⟩ := hK.2.2.2.2.2.2.1
  have hrest2 := hK.2.2.2.2.2.2.2.2.1
  obtain ⟨ln, q, S0, hq⟩ := lw_told hA hR
  have hts := lw_hts hR
  have hX := fun e => lwR_x hK hR (hts e)
  have e0 : ob_set C.fd C.db C.sb C.sn C.tl C.lf C.lt C.lp M = M := ob_self hA.1
  have h1 := c_X11_otherwise (fd := C.fd) (db := C.db) (sb := C.sb) (sn := C.sn) (tl := C.tl) (lf := C.lf) (lt := C.lt) (lp := C.lp) hRR hb hA.2.2.1 hok hA.2.2.2.2.2.1 hA.2.2.2.2.2.2.1 hkn hnu (by omega) (fun e => (hX e).2.2.2.2.2.1.2.2.2.2.2) (fun e => (hq e).1) (fun e => (hq e).2.2.2.2.2.2.2.1) (fun e => (hq e).2.2.2.2.2.1) hA.2.2.2.2.2.2.2.2.2.1 (fun e => (hq e).2.2.2.2.2.2.2.2.1) hA.2.2.2.2.2.2.2.2.2.2 hrest2
  have h2 := fun M => c_X12_otherwise (w := w) (nm := nm) (M := M) hR.1.2.2.2.2.2.1 hR.1.2.2.2.2.2.2.1 hts (fun e => (hq e).2) hrest2
  cases ho : oq_ask C.tl C.s C.rn C.ho with
  | some k =>
    simp only [ho] at h1 h2
    exact ag_q (A := (-1, k)) hA hS h113 hK hR (oq_some ho) h1 h2 (fun _ _ _ h => h)
  | none =>
    simp only [ho] at h1 h2
    have htl := oq_none ho
    obtain ⟨hfm, hH⟩ := hq htl
    obtain ⟨x1, x2, x3, x4, x5, x6, x7⟩ := hX htl
    rw [e0] at h1
    have hE := rxE_ok (ln := ln) hok x5 hH.2.2.2.2.1 hH.2.2.2.2.2.1 (ro_g_o (kn := C.kn) (nu := C.nu) x6.2.2.2.2 (1 - C.ho))
    have hTo := rdS_ok hE hrest2
    generalize rdS C.g ln q C.s C.nu C.kn (1 - C.ho) C.S2 = T at *
    have hA1 := clA_r2 hK hA (an_stt T) (an_stp T C.lp) (1 - C.ho) T
    have hout : ∀ k, 68 ≤ k → (ob_set C.fd C.db C.sb C.sn C.tl C.lf (an_stt T) (an_stp T C.lp) (rg_S 53 (1 - C.ho) C.db T M)) k = M k := fun k hk => (ob_out (by omega)).trans (rg_out (by omega))
    refine ⟨_, h1, ?_⟩
    rintro _ M1 ⟨rfl, hM1⟩
    rw [← hM1] at hA1 hout
    have hS1 : rf_S v w a nm M1 = M1 := rf_keep hS (fun k q _ => hout k q)
    refine ⟨_, rfl, ⟨rf_c v w, by rw [← hS1]; exact rf_68⟩, _, by have := h2 M1; rw [hS1] at this; exact this, ?_⟩
    rintro _ _ ⟨rfl, v', a', rfl, t1, t2, hF⟩
    exact ⟨rfl, C.wr2 (an_stt T) (an_stp T C.lp) (1 - C.ho) T, v', w, a', nm, clA_lo hK.1 hA1 (fun k hk => rf_lo hk), rf_rf, h113.imp (fun z hz => (rf_hi (by decide)).trans ((hout 113 (by decide)).trans hz)), ⟨hK.1, ⟨hK.2.1.1, an_stt_lt T, hK.2.1.2.2⟩, hK.2.2.1, hK.2.2.2.1, hK.2.2.2.2.1, hK.2.2.2.2.2.1, hK.2.2.2.2.2.2.1, ⟨hK.2.2.2.2.2.2.2.1, rd_ok_rest hTo, hK.2.2.2.2.2.2.2.2.2⟩⟩, lwR_q (k := an_stt T) (p := an_stp T C.lp) hR hF t1 (t2.trans (an_stw T C.lp))⟩
theorem ag_later (hRR : rr_all) (hA : clA C M) (hS : rf_S v w a nm M = M) (h113 : ∃ z : Nat → Int64, M 113 = .inl (.long, 1, .inr (.inl z))) (hK : clK C) (hR : lwR C v a) : lw_ag 7 9 YX11_later YX12_later [] M := by
  have hb : C.db = 2 ∨ C.db = 10 := by have := hK.1; omega
  have hok := hK.2.2.1.1
  obtain ⟨hkn, hnu, hrn⟩ := hK.2.2.2.2.2.2.1
  have hrest2 := hK.2.2.2.2.2.2.2.2.1
  obtain ⟨ln, q, S0, hq⟩ := lw_told hA hR
  have hts := lw_hts hR
  have hX := fun e => lwR_x hK hR (hts e)
  have e0 : ob_set C.fd C.db C.sb C.sn C.tl C.lf C.lt C.lp M = M := ob_self hA.1
  have h1 := c_X11_later (fd := C.fd) (db := C.db) (sb := C.sb) (sn := C.sn) (tl := C.tl) (lf := C.lf) (lt := C.lt) (lp := C.lp) hRR hb hA.2.2.1 hok hA.2.2.2.2.2.1 hA.2.2.2.2.2.2.1 hkn hnu (by omega) (fun e => (hX e).2.2.2.2.2.1.2.2.2.2.2) (fun e => (hq e).1) (fun e => (hq e).2.2.2.2.2.2.2.1) (fun e => (hq e).2.2.2.2.2.1) hA.2.2.2.2.2.2.2.2.2.1 (fun e => (hq e).2.2.2.2.2.2.2.2.1) hA.2.2.2.2.2.2.2.2.2.2 hrest2
  have h2 := fun (S1 S2 : rd_T) (hr1 : rd_rest S1) (hr2 : rd_rest S2) M => c_X12_later (w := w) (nm := nm) (M := M) hR.1.2.2.2.2.2.1 hR.1.2.2.2.2.2.2.1 hts (fun e => (hq e).2) hr1 hr2
  cases ho : lq_ask C.tl C.s C.rn with
  | some k =>
    simp only [ho] at h1 h2
    exact ag_q (A := (-1, k)) hA hS h113 hK hR (lq_some ho) h1 (h2 C.S2 C.S2 hrest2 hrest2) (fun _ _ _ h => h)
  | none =>
    simp only [ho] at h1 h2
    have htl := lq_none ho
    obtain ⟨hfm, hH⟩ := hq htl
    obtain ⟨x1, x2, x3, x4, x5, x6, x7⟩ := hX htl
    have hho := hH.2.2.2.2.2.2.2.1
    have hr0 := hH.2.2.2.2.2.2.2.2.2.1
    have hSS := hH.2.2.2.2.2.2.2.2.2.2
    rw [e0] at h1
    have hE := rxE_ok (ln := ln) hok x5 hH.2.2.2.2.1 hH.2.2.2.2.2.1 (ro_g_o (kn := C.kn) (nu := C.nu) x6.2.2.2.2 (1 - C.ho))
    have hTo := rdS_ok hE hrest2
    obtain ⟨P2, h3⟩ : ∃ X : Int32, X = (if C.ho = 0 then nI (rd_sp (rdS C.g ln q C.s C.nu C.kn (1 - C.ho) C.S2)) - nI (rd_sp C.S) else nI (rd_sp C.S) - nI (rd_sp (rdS C.g ln q C.s C.nu C.kn (1 - C.ho) C.S2))) ∧ ∀ M, sl_T YX12_later 9 0 0 (qA v w a nm M (X, 0)) [.ref 68] (rf_S v w a nm M) := by
      rcases (show C.ho = 0 ∨ C.ho = 1 by omega) with z | z
      · refine ⟨_, rfl, fun M => ?_⟩
        have := h2 S0 C.S2 hr0 hrest2 M
        rw [if_pos z, hSS, z]
        exact this
      · refine ⟨_, rfl, fun M => ?_⟩
        have := h2 C.S2 S0 hrest2 hr0 M
        rw [if_neg (by omega), hSS, z]
        exact this
    obtain ⟨hX0, h3⟩ := h3
    rw [← hX0] at h1
    generalize rdS C.g ln q C.s C.nu C.kn (1 - C.ho) C.S2 = T at *
    have hA1 := clA_r2 hK hA 0 C.lp (1 - C.ho) T
    have hout : ∀ k, 68 ≤ k → (ob_set C.fd C.db C.sb C.sn C.tl C.lf 0 C.lp (rg_S 53 (1 - C.ho) C.db T M)) k = M k := fun k hk => (ob_out (by omega)).trans (rg_out (by omega))
    refine ⟨_, h1, ?_⟩
    rintro _ M1 ⟨rfl, hM1⟩
    rw [← hM1] at hA1 hout
    have hS1 : rf_S v w a nm M1 = M1 := rf_keep hS (fun k q _ => hout k q)
    refine ⟨_, rfl, ⟨rf_c v w, by rw [← hS1]; exact rf_68⟩, _, by have := h3 M1; rw [hS1] at this; exact this, ?_⟩
    rintro _ _ ⟨rfl, v', a', rfl, t1, t2, hF⟩
    exact ⟨rfl, C.wr2 0 C.lp (1 - C.ho) T, v', w, a', nm, clA_lo hK.1 hA1 (fun k hk => rf_lo hk), rf_rf, h113.imp (fun z hz => (rf_hi (by decide)).trans ((hout 113 (by decide)).trans hz)), ⟨hK.1, ⟨hK.2.1.1, (show (0 : Nat) < 100 by decide), hK.2.1.2.2⟩, hK.2.2.1, hK.2.2.2.1, hK.2.2.2.2.1, hK.2.2.2.2.2.1, hK.2.2.2.2.2.2.1, ⟨hK.2.2.2.2.2.2.2.1, rd_ok_rest hTo, hK.2.2.2.2.2.2.2.2.2⟩⟩, lwR_q (k := 0) (p := C.lp) hR hF t1 t2⟩
end AGH

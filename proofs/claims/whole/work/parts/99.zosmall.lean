/-! fault, where, trouble, size, feed: both answer alike -/
section AGS
variable {C : cT} {v : Nat → Int32} {w : Int64} {a : Nat → Nat → Int32} {nm : Nat → Int64} {M : sl_M}
theorem ag_n (hA : clA C M) (hS : rf_S v w a nm M = M) (h113 : ∃ z : Nat → Int64, M 113 = .inl (.long, 1, .inr (.inl z))) (hK : clK C) (hR : lwR C v a) {x : Int32} {Y1 Y2 : sl_Y} {d1 d2 : Nat} {As : List Value} (h1 : sl_R Y1 d1 (.ref 0 :: As) (ob_set C.fd C.db C.sb C.sn C.tl C.lf C.lt C.lp M) (some (.int x)) (ob_set C.fd C.db C.sb C.sn C.tl C.lf C.lt C.lp M)) (h2 : ∀ M, sl_R Y2 d2 (.ref 68 :: As) (rf_S v w a nm M) (some (.int x)) (rf_S (sl_u v 0 (nI 0)) w a nm M)) : lw_ag d1 d2 Y1 Y2 As M := by
  have e0 : ob_set C.fd C.db C.sb C.sn C.tl C.lf C.lt C.lp M = M := ob_self hA.1
  rw [e0] at h1
  refine ⟨_, h1, ?_⟩
  rintro _ M1 ⟨rfl, hM⟩
  rw [hM]
  refine ⟨x, rfl, ⟨rf_c v w, by rw [← hS]; exact rf_68⟩, _, by have := h2 M; rw [hS] at this; exact this, ?_⟩
  rintro _ _ ⟨rfl, rfl⟩
  exact ⟨rfl, C, sl_u v 0 (nI 0), w, a, nm, clA_lo hK.1 hA (fun k hk => rf_lo hk), rf_rf, h113.imp (fun z hz => (rf_hi (by decide)).trans hz), hK, lwR_q (k := C.lt) (p := C.lp) hR (rqF_0 v a (nI 0)) hR.1.1 hR.1.2.1⟩
theorem ag_fault (hA : clA C M) (hS : rf_S v w a nm M = M) (h113 : ∃ z : Nat → Int64, M 113 = .inl (.long, 1, .inr (.inl z))) (hK : clK C) (hR : lwR C v a) : lw_ag 0 0 YX11_fault YX12_fault [] M :=
  ag_n (x := nI C.lf) hA hS h113 hK hR c_X11_fault (fun M => by have := c_X12_fault (v := v) (w := w) (a := a) (nm := nm) (M := M); rw [show v 34 = nI C.lf from hR.1.2.2.1] at this; exact this)
theorem ag_trouble (hA : clA C M) (hS : rf_S v w a nm M = M) (h113 : ∃ z : Nat → Int64, M 113 = .inl (.long, 1, .inr (.inl z))) (hK : clK C) (hR : lwR C v a) : lw_ag 0 0 YX11_trouble YX12_trouble [] M :=
  ag_n (x := nI C.lt) hA hS h113 hK hR c_X11_trouble (fun M => by have := c_X12_trouble (v := v) (w := w) (a := a) (nm := nm) (M := M); rw [show v 1 = nI C.lt from hR.1.1] at this; exact this)
theorem ag_where (hA : clA C M) (hS : rf_S v w a nm M = M) (h113 : ∃ z : Nat → Int64, M 113 = .inl (.long, 1, .inr (.inl z))) (hK : clK C) (hR : lwR C v a) : lw_ag 0 0 YX11_where YX12_where [] M :=
  ag_n (x := an_where C.lt C.lp) hA hS h113 hK hR (c_X11_where hK.2.1.2.1) (fun M => by have := c_X12_where (v := v) (w := w) (a := a) (nm := nm) (M := M); rw [show v 2 = an_where C.lt C.lp from hR.1.2.1] at this; exact this)
theorem ag_size (hA : clA C M) (hS : rf_S v w a nm M = M) (h113 : ∃ z : Nat → Int64, M 113 = .inl (.long, 1, .inr (.inl z))) (hK : clK C) (hR : lwR C v a) (x : Int32) : lw_ag 1 3 YX11_size YX12_size [.int x] M :=
  ag_n hA hS h113 hK hR (c_X11_size (by have := hK.1; omega) hA.2.2.1 hK.2.2.1.1 hA.2.2.2.2.2.2.2.1 x) (fun M => c_X12_size hR.1.2.2.2.2.2.1 hK.2.2.1.1 (fun e => (lwR_x hK hR e).1) hR.1.2.2.2.1 hR.1.2.2.2.2.2.2.2.1 x)
/-- what must stay for the rest to hold -/
abbrev lwV : List Nat := [14, 15, 16, 22, 23, 44, 21, 53, 26, 34, 52, 51, 50]
abbrev lwA : List Nat := [3, 4, 5, 6, 7, 24, 25, 36, 37, 38, 39, 40, 45, 47, 46, 48, 49]
abbrev cT.wf (C : cT) (fd : Nat) (f : Nat → Int32) : cT := ((fd, C.db, C.sb, C.sn, C.tl, C.lf, C.lt, C.lp), f, C.2.2)
theorem lwR_m {v' : Nat → Int32} {a' : Nat → Nat → Int32} {fd : Nat} {f : Nat → Int32} (h : lwR C v a) (hv : ∀ k, k ∈ lwV → v' k = v k) (ha : ∀ k, k ∈ lwA → a' k = a k) (h1 : v' 1 = nI C.lt) (h2 : v' 2 = an_where C.lt C.lp) (h3 : v' 28 = nI fd) (h4 : a' 27 = f) : lwR (C.wf fd f) v' a' := by
  obtain ⟨⟨a1, a2, a3, a4, a5, a6, a7, a8, a9⟩, b1, b2, b3, b4⟩ := h
  refine ⟨⟨h1, h2, (hv _ (by decide)).trans a3, h3, h4, (hv _ (by decide)).trans a6, (hv _ (by decide)).trans a7, (hv _ (by decide)).trans a8, rf_z0_F a9 (fun k hk => ha k ?_)⟩, b1, fun e => ?_, ac_ok_F (fun k hk => hv k ?_) (fun k hk => ha k ?_) _ _ b3, fun e => ?_⟩
  · simp only [List.mem_cons, List.mem_nil_iff, or_false] at hk ⊢; omega
  · obtain ⟨c1, c2, c3, c4⟩ := b2 e
    refine ⟨c1, rf_G_same c2 (fun k hk => hv k ?_) (fun k hk => ha k ?_), rf_laid_F c3 (fun k hk => hv k ?_) (fun k hk => ha k ?_), c4⟩
    all_goals (simp only [List.mem_cons, List.mem_nil_iff, or_false] at hk ⊢; omega)
  · simp only [List.mem_cons, List.mem_nil_iff, or_false] at hk ⊢; omega
  · simp only [List.mem_cons, List.mem_nil_iff, or_false] at hk ⊢; omega
  · obtain ⟨ln, q, S0, e1, e2, e3, e4, e5, e6, e7, e8, e9, f1, f2, f3, f4, f5⟩ := b4 e
    refine ⟨ln, q, S0, e1, e2, e3, e4, e5, e6, e7, e8, e9, f1, f2, rlaid_F f3 (fun k hk => hv k ?_) (fun k hk => ha k ?_), ⟨(hv _ (by decide)).trans f4.1, (hv _ (by decide)).trans f4.2.1, (hv _ (by decide)).trans f4.2.2.1, fun z => rtk_F (f4.2.2.2 z) (fun k hk => ha k ?_)⟩, f5⟩
    all_goals (simp only [List.mem_cons, List.mem_nil_iff, or_false] at hk ⊢; omega)
theorem ag_feed (hA : clA C M) (hS : rf_S v w a nm M = M) (h113 : ∃ z : Nat → Int64, M 113 = .inl (.long, 1, .inr (.inl z))) (hK : clK C) (hR : lwR C v a) (x1 x2 x3 x4 x5 : Int32) : lw_ag 1 1 YX11_feed YX12_feed [.int x1, .int x2, .int x3, .int x4, .int x5] M := by
  have hf := hK.2.1.1
  have e1 : tp_set C.f M = M := by
    funext k
    by_cases q : k = 1
    · rw [q]; exact sl_up_eq.trans hA.2.1.symm
    · exact up_out q
  have e0 : ob_set C.fd C.db C.sb C.sn C.tl C.lf C.lt C.lp M = M := ob_self hA.1
  have h1 := c_X11_feed (fd := C.fd) (db := C.db) (sb := C.sb) (sn := C.sn) (tl := C.tl) (lf := C.lf) (lt := C.lt) (lp := C.lp) (f := C.f) (M := M) hf x1 x2 x3 x4 x5
  have h2 := fun M => c_X12_feed (v := v) (w := w) (a := a) (nm := nm) (M := M) hf hR.1.2.2.2.1 x1 x2 x3 x4 x5
  rw [e1, e0] at h1
  by_cases h20 : C.fd + 20 ≤ 900
  · simp only [if_pos h20] at h1 h2
    refine ⟨_, h1, ?_⟩
    rintro _ _ ⟨rfl, rfl⟩
    have hd1 : C.db = 2 ∨ C.db = 10 := by have := hK.1; omega
    have hd2 : C.sb = 2 ∨ C.sb = 10 := by have := hK.1; omega
    have hT : clA (C.wf C.fd (fd_20 C.f C.fd x1 x2 x3 x4 x5)) (tp_set (fd_20 C.f C.fd x1 x2 x3 x4 x5) M) := by
      obtain ⟨g0, g1, g2, g3, g4, g5, g6, g7, g8, g9, g10⟩ := hA
      exact ⟨(up_out (by decide)).trans g0, sl_up_eq, t_tp_sg hd1 g2, t_tp_sg hd2 g3, t_tp_gr g4, t_tp_rl g5, t_tp_ld g6, t_tp_ac g7, ⟨(up_out (by decide)).trans g8.1, (up_out (by decide)).trans g8.2.1, (up_out (by decide)).trans g8.2.2.1, (up_out (by decide)).trans g8.2.2.2.1, (up_out (by decide)).trans g8.2.2.2.2⟩, t_tp_rg (Or.inl rfl) g9, t_tp_rg (Or.inr rfl) g10⟩
    have hA1 := clA_ob (C := C.wf C.fd (fd_20 C.f C.fd x1 x2 x3 x4 x5)) hK.1 hT (C.fd + 20) C.tl C.lf C.lt C.lp
    have hS1 : rf_S v w a nm (ob_set (C.fd + 20) C.db C.sb C.sn C.tl C.lf C.lt C.lp (tp_set (fd_20 C.f C.fd x1 x2 x3 x4 x5) M)) = ob_set (C.fd + 20) C.db C.sb C.sn C.tl C.lf C.lt C.lp (tp_set (fd_20 C.f C.fd x1 x2 x3 x4 x5) M) := rf_keep hS (fun k q _ => (up_out (by omega)).trans (up_out (by omega)))
    have h113' : ∃ z : Nat → Int64, ob_set (C.fd + 20) C.db C.sb C.sn C.tl C.lf C.lt C.lp (tp_set (fd_20 C.f C.fd x1 x2 x3 x4 x5) M) 113 = .inl (.long, 1, .inr (.inl z)) := h113.imp (fun z hz => (up_out (by decide)).trans ((up_out (by decide)).trans hz))
    change clA (C.wf (C.fd + 20) (fd_20 C.f C.fd x1 x2 x3 x4 x5)) (ob_set (C.fd + 20) C.db C.sb C.sn C.tl C.lf C.lt C.lp (tp_set (fd_20 C.f C.fd x1 x2 x3 x4 x5) M)) at hA1
    generalize ob_set (C.fd + 20) C.db C.sb C.sn C.tl C.lf C.lt C.lp (tp_set (fd_20 C.f C.fd x1 x2 x3 x4 x5) M) = M1 at *
    refine ⟨_, rfl, ⟨rf_c v w, by rw [← hS1]; exact rf_68⟩, _, by have := h2 M1; rw [hS1] at this; exact this, ?_⟩
    rintro _ _ ⟨rfl, rfl⟩
    refine ⟨rfl, C.wf (C.fd + 20) (fd_20 C.f C.fd x1 x2 x3 x4 x5), _, w, _, nm, clA_lo hK.1 hA1 (fun k hk => rf_lo hk), rf_rf, h113'.imp (fun z hz => (rf_hi (by decide)).trans hz), ⟨hK.1, ⟨h20, hK.2.1.2⟩, hK.2.2⟩, lwR_m hR (fun k hk => ?_) (fun k hk => ?_) hR.1.1 hR.1.2.1 rfl ?_⟩
    · rw [sl_u_ne (fun e => by rw [e] at hk; revert hk; decide), sl_u_ne (fun e => by rw [e] at hk; revert hk; decide)]
    · rw [sl_u_ne (fun e => by rw [e] at hk; revert hk; decide)]
    · rw [sl_u_eq, show a 27 = C.f from hR.1.2.2.2.2.1]
  · simp only [if_neg h20] at h1 h2
    exact ag_n hA hS h113 hK hR (by rw [e0]; exact h1) h2
end AGS

/-! aside, undo: both answer alike -/
theorem da_some {sn : Bool} {g : sg_T} {x y : Int32} {k j : Nat} (h : do_aside sn g x y = some (k, j)) : sn = true ∧ k < sg_rules g ∧ j < 2 ∧ sg_put g k = !(decide (j = 1)) := by
  unfold do_aside at h
  cases hx : sl_vr sn x (sg_rules g) with
  | none => rw [hx] at h; cases h
  | some k' =>
    rw [hx] at h
    obtain ⟨h1, -, h3⟩ := vr_some hx
    cases hy : sl_vi y 2 with
    | none => simp only [hy] at h; cases h
    | some j' =>
      simp only [hy] at h
      have h4 := (vi_some hy).2
      split at h
      · cases h
      · rename_i hne
        have e := Option.some.inj h
        have e1 : k' = k := congrArg Prod.fst e
        have e2 : j' = j := congrArg Prod.snd e
        subst e1 e2
        refine ⟨h1, h3, h4, ?_⟩
        cases hp : sg_put g k' with
        | true =>
          cases hd : decide (j' = 1) with
          | true => rw [hp, hd] at hne; exact absurd rfl hne
          | false => rfl
        | false =>
          cases hd : decide (j' = 1) with
          | true => rfl
          | false => rw [hp, hd] at hne; exact absurd rfl hne
section AGC
variable {C : cT} {v : Nat → Int32} {w : Int64} {a : Nat → Nat → Int32} {nm : Nat → Int64} {M : sl_M}
set_option maxRecDepth 100000 in
theorem ag_aside (hA : clA C M) (hS : rf_S v w a nm M = M) (h113 : ∃ z : Nat → Int64, M 113 = .inl (.long, 1, .inr (.inl z))) (hK : clK C) (hR : lwR C v a) (x y : Int32) : lw_ag 7 4 YX11_aside YX12_aside [.int x, .int y] M := by
  have hb : C.db = 2 ∨ C.db = 10 := by have := hK.1; omega
  have hok := hK.2.2.1.1
  have hc := hK.2.1.2.2.1
  have hX := fun e => lwR_x hK hR e
  have e0 : ob_set C.fd C.db C.sb C.sn C.tl C.lf C.lt C.lp M = M := ob_self hA.1
  have h1 := c_X11_aside (fd := C.fd) (db := C.db) (sb := C.sb) (sn := C.sn) (tl := C.tl) (lf := C.lf) (lt := C.lt) (lp := C.lp) hb hA.2.2.1 hok hA.2.2.2.2.2.1 hK.2.2.2.2.1 hA.2.2.2.2.2.2.1 hK.2.2.2.2.2.1 hA.2.2.2.2.2.2.2.1 hc x y
  have h2 := fun M => c_X12_aside (w := w) (nm := nm) (M := M) hR.1.2.2.2.2.2.1 hok (fun e => (hX e).2.2.2.2.1) (fun e => (hX e).1) hR.1.2.2.2.2.2.2.2.2 hc hR.1.2.2.2.2.2.2.2.1 x y
  have hk : okA (an_aside C.sn C.g x y) := by
    unfold an_aside
    repeat' (first | exact okA_ok _ | exact okA_no (by decide) | exact okA_low | refine okA_cond ?_ ?_ | split)
  cases hd : do_aside C.sn C.g x y with
  | none =>
    simp only [hd] at h1 h2
    exact ag_q hA hS h113 hK hR hk h1 h2 (fun _ _ _ h => qA_an h)
  | some p =>
    obtain ⟨k, j⟩ := p
    simp only [hd] at h1 h2
    obtain ⟨hsn, hkr, hj2, hpk⟩ := da_some hd
    obtain ⟨x1, x2, x3, x4, x5, x6, x7⟩ := hX hsn
    have hr12 : sg_rules C.g ≤ 12 := hok.2.1
    rw [e0] at h1
    have eo : ac_kf C.c (fun i => sl_io (C.ak i)) (nI k) = fun i => sl_io (ac_kF C.c C.ak (some k) i) := ac_kf_h sl_io C.c C.ak (some k)
    have ew : ac_kf C.c (fun i => nI (C.av i)) (nI (1 - j)) = fun i => nI (ac_kF C.c C.av (1 - j) i) := ac_kf_h nI C.c C.av (1 - j)
    rw [eo, ew] at h1
    have hout : ∀ i, 68 ≤ i → (ob_set C.fd C.db C.sb C.sn false C.lf 0 C.lp (sd_set (sg_pt C.g (sl_u (sg_put C.g) k (decide (j = 1)))) C.rk C.ba (gp_G C.db (sg_pt C.g (sl_u (sg_put C.g) k (decide (j = 1)))) (ac_set (ac_kc C.c) (fun i => sl_io (ac_kF C.c C.ak (some k) i)) (fun i => nI (ac_kF C.c C.av (1 - j) i)) M)))) i = M i := fun i hi => (ob_out (by omega)).trans ((ld_out (by omega)).trans ((rl_out (by omega)).trans ((gs_out (by omega)).trans (ac_out (by omega)))))
    refine ⟨_, h1, ?_⟩
    rintro _ M1 ⟨rfl, hM1⟩
    rw [← hM1] at hout
    have hS1 : rf_S v w a nm M1 = M1 := rf_keep hS (fun k q _ => hout k q)
    refine ⟨_, rfl, ⟨rf_c v w, by rw [← hS1]; exact rf_68⟩, _, by have := h2 M1; rw [hS1] at this; exact this, ?_⟩
    rintro _ _ ⟨rfl, v', a', rfl, hmv, t23, t26, t24, t25⟩
    refine ⟨rfl, ?_⟩
    rw [hM1]
    have hmv' := hmv
    obtain ⟨m1, m2, m3, m4, m5, m6, m7⟩ := hmv
    have hv : ∀ i, i ∈ [14, 15, 16, 22] → v' i = v i := fun i hi => m1 i (fun q => by
      simp only [List.mem_cons, List.mem_nil_iff, or_false] at hi q; omega)
    have ha : ∀ i, i ∈ [3, 4, 5, 6, 7] → a' i = a i := fun i hi => m6 i (fun q => by
      simp only [List.mem_cons, List.mem_nil_iff, or_false] at hi q; omega)
    have hG' : rf_G (sg_pt C.g (sl_u (sg_put C.g) k (decide (j = 1)))) v' a' := by
      obtain ⟨d1, d2, d3, d4, d5, d6, d7⟩ := x1
      refine ⟨(hv 14 (by decide)).trans d1, (hv 15 (by decide)).trans d2, (hv 16 (by decide)).trans d3, (hv 22 (by decide)).trans d4, fun r hr => ?_, fun r i hr hi => ?_, fun i hi => ?_⟩
      · have hr' : r < sg_rules C.g := hr
        obtain ⟨f1, f2, f3, f4⟩ := d5 r hr'
        rw [ha 3 (by decide), ha 5 (by decide), ha 6 (by decide), t23]
        refine ⟨f1, f2, f3, ?_⟩
        rw [bt_tog (v 23) (r := k) (k := r) (by omega) (by omega)]
        show _ = sl_u (sg_put C.g) k (decide (j = 1)) r
        by_cases q : r = k
        · rw [if_pos q, q, sl_u_eq, (d5 k hkr).2.2.2, hpk, Bool.not_not]
        · rw [if_neg q, sl_u_ne q]
          exact f4
      · rw [ha 4 (by decide)]; exact d6 r i hr hi
      · rw [ha 7 (by decide)]; exact d7 i hi
    have hun : un_g (sg_pt C.g (sl_u (sg_put C.g) k (decide (j = 1)))) (some k) (1 - j) = C.g := by
      have hp : sl_u (sl_u (sg_put C.g) k (decide (j = 1))) k (decide (1 - j = 1)) = sg_put C.g := by
        funext i
        by_cases q : i = k
        · rw [q, sl_u_eq, hpk]
          rcases (show j = 0 ∨ j = 1 by omega) with z | z <;> subst z <;> rfl
        · rw [sl_u_ne q, sl_u_ne q]
      show sg_pt C.g (sl_u (sl_u (sg_put C.g) k (decide (j = 1))) k (decide (1 - j = 1))) = C.g
      rw [hp]
      rfl
    refine lwI_lay hK hA hS h113 hR hsn (sg_pt_ok hok) x5 (fun i hi => ⟨(hK.2.2.1.2.2.1 i hi).1, ?_⟩) (by unfold ac_kc; split <;> omega) hmv' (fun i hi => by simp only [List.mem_cons, List.mem_nil_iff, or_false] at hi ⊢; omega) (fun i hi => hi) t26 hG' (ac_ok_push hc hR.2.2.2.1 hun hok x5 x1 (fun r e => by have := Option.some.inj e; omega) (by omega) (fun e => by cases e) (fun i hi => hv i (by simp only [List.mem_cons, List.mem_nil_iff, or_false] at hi ⊢; omega)) ha t24 t25)
    show sl_u (sg_put C.g) k (decide (j = 1)) i = false
    rw [sl_u_ne (by omega)]
    exact (hK.2.2.1.2.2.1 i hi).2
section UN0
variable {fd db sb lf lt : Nat} {sn tl : Bool} {lp : Int32} {o q : Nat → Int32}
set_option maxRecDepth 100000 in
theorem c_X11_undo_0 (ha : ac_at 0 o q M) : sl_R YX11_undo 7 [.ref 0] (ob_set fd db sb sn tl lf lt lp M) (some (.int (sl_bi false))) (ob_set fd db sb sn tl lf 1 lp M) := by
  have k30 := ha.1
  refine sl_T.of_V (lv := [_]) (by decide) rfl (Nat.le_of_ble_eq_true rfl) ?_
  refine slv_aload_n eX11_undo_0 rfl ?_
  refine slv_getf eX11_undo_1 fX11_47 (by repeat (first | assumption | exact sl_up_eq | refine sl_up_ne (by first | decide | omega) ?_)) rfl ?_
  refine slv_getf eX11_undo_4 fX11_305 (by repeat (first | assumption | exact sl_up_eq | refine sl_up_ne (by first | decide | omega) ?_)) rfl ?_
  refine slv_if_neN eX11_undo_7 (by omega) (fun h7 => absurd h7 (by omega)) (fun h7 => ?_)
  refine slv_aload_n eX11_undo_10 rfl ?_
  refine slv_iconst (v := nI 1) eX11_undo_11 (by decide) ?_
  refine slv_rV (As := [_]) eX11_undo_12 lX11_76 rfl rfl (by repeat (first | assumption | exact sl_up_eq | refine sl_up_ne (by first | decide | omega) ?_)) rfl (c_X11_refuse 1) (by decide) (Nat.le_of_ble_eq_true rfl) ?_
  refine slv_pop eX11_undo_15 rfl ?_
  refine slv_iconst (v := nI 0) eX11_undo_16 (by decide) ?_
  refine slv_zret eX11_undo_17 rfl rfl ?_
  exact ⟨rfl, rfl⟩
end UN0
theorem un_str {g : sg_T} {o : Option Nat} {x : Nat} (h : sg_str g) : sg_str (un_g g o x) := by
  cases o with
  | none => exact h
  | some r => exact h
theorem un_z {g : sg_T} {o : Option Nat} {x : Nat} (h : sg_z g) (hr : ∀ r, o = some r → r < 12) : sg_z (un_g g o x) := by
  cases o with
  | none => exact h
  | some r =>
    intro j hj
    refine ⟨(h j hj).1, ?_⟩
    show sl_u (sg_put g) r (decide (x = 1)) j = false
    have := hr r rfl
    rw [sl_u_ne (by omega)]
    exact (h j hj).2
set_option maxRecDepth 100000 in
theorem ag_undo (hA : clA C M) (hS : rf_S v w a nm M = M) (h113 : ∃ z : Nat → Int64, M 113 = .inl (.long, 1, .inr (.inl z))) (hK : clK C) (hR : lwR C v a) : lw_ag 7 4 YX11_undo YX12_undo [] M := by
  have hb : C.db = 2 ∨ C.db = 10 := by have := hK.1; omega
  have hok := hK.2.2.1.1
  have hc := hK.2.1.2.2.1
  have hX := fun e => lwR_x hK hR e
  have e0 : ob_set C.fd C.db C.sb C.sn C.tl C.lf C.lt C.lp M = M := ob_self hA.1
  by_cases h0 : 0 < C.c
  · have hsn : C.sn = true := by
      cases h : C.sn with
      | true => rfl
      | false => have := (hR.2.1 h).1; omega
    obtain ⟨x1, x2, x3, x4, x5, x6, x7⟩ := hX hsn
    have hac := hR.2.2.2.1
    obtain ⟨n, hn⟩ : ∃ n, C.c = n + 1 := ⟨C.c - 1, by omega⟩
    rw [hn] at hac
    obtain ⟨⟨p1, p2, p3, p4, p5, p6⟩, p7⟩ := hac
    have hn1 : C.c - 1 = n := by omega
    have h1 := c_X11_undo (fd := C.fd) (db := C.db) (sb := C.sb) (sn := C.sn) (tl := C.tl) (lf := C.lf) (lt := C.lt) (lp := C.lp) hb hA.2.2.1 hok hA.2.2.2.2.2.1 hK.2.2.2.2.1 hA.2.2.2.2.2.2.1 hK.2.2.2.2.2.1 hA.2.2.2.2.2.2.2.1 hc (by rw [hn1]; exact p4) (by rw [hn1]; exact p5) (by rw [hn1]; exact p6)
    have h2 := fun M => c_X12_undo (w := w) (nm := nm) (M := M) (g' := un_g C.g (C.ak n) (C.av n)) hR.1.2.2.2.2.2.1 p1 (fun _ => p2) (fun e => (hR.2.1 e).1) (fun _ => by rw [hn1]; exact p3) hR.1.2.2.2.2.2.2.2.2 hc hR.1.2.2.2.2.2.2.2.1
    simp only [h0, if_true, decide_true, hn1] at h1 h2
    rw [e0] at h1
    have hout : ∀ i, 68 ≤ i → (ob_set C.fd C.db C.sb C.sn false C.lf 0 C.lp (sd_set (un_g C.g (C.ak n) (C.av n)) C.rk C.ba (gp_G C.db (un_g C.g (C.ak n) (C.av n)) (ac_set n (fun i => sl_io (C.ak i)) (fun i => nI (C.av i)) M)))) i = M i := fun i hi => (ob_out (by omega)).trans ((ld_out (by omega)).trans ((rl_out (by omega)).trans ((gs_out (by omega)).trans (ac_out (by omega)))))
    refine ⟨_, h1, ?_⟩
    rintro _ M1 ⟨rfl, hM1⟩
    rw [← hM1] at hout
    have hS1 : rf_S v w a nm M1 = M1 := rf_keep hS (fun k q _ => hout k q)
    refine ⟨_, rfl, ⟨rf_c v w, by rw [← hS1]; exact rf_68⟩, _, by have := h2 M1; rw [hS1] at this; exact this, ?_⟩
    rintro _ _ ⟨rfl, v', a', rfl, hmv, t22, t23, t26⟩
    refine ⟨rfl, ?_⟩
    rw [hM1]
    have hmv' := hmv
    obtain ⟨m1, m2, m3, m4, m5, m6, m7⟩ := hmv
    have hv : ∀ i, i ∈ [14, 15, 16] → v' i = v i := fun i hi => m1 i (fun q => by
      simp only [List.mem_cons, List.mem_nil_iff, or_false] at hi q; omega)
    have ha : ∀ i, i ∈ [3, 4, 5, 6, 7, 24, 25] → a' i = a i := fun i hi => m6 i (fun q => by
      simp only [List.mem_cons, List.mem_nil_iff, or_false] at hi q; omega)
    have hG' : rf_G (un_g C.g (C.ak n) (C.av n)) v' a' := rf_G_same p3 (fun i hi => by
      by_cases q1 : i = 23
      · rw [q1, sl_u_eq]; exact t23
      · rw [sl_u_ne q1]
        by_cases q2 : i = 22
        · rw [q2, sl_u_eq]; exact t22
        · rw [sl_u_ne q2]
          exact hv i (by simp only [List.mem_cons, List.mem_nil_iff, or_false] at hi ⊢; omega)) (fun i hi => ha i (by simp only [List.mem_cons, List.mem_nil_iff, or_false] at hi ⊢; omega))
    exact lwI_lay hK hA hS h113 hR hsn p1 p2 (un_z hK.2.2.1.2.2.1 p4) (by omega) hmv' (fun i hi => hi) (fun i hi => by cases hi) t26 hG' (ac_ok_F hv ha _ _ p7)
  · have ec : C.c = 0 := by omega
    have h7 := hA.2.2.2.2.2.2.2.1
    rw [ec] at h7
    have h1 := c_X11_undo_0 (fd := C.fd) (db := C.db) (sb := C.sb) (sn := C.sn) (tl := C.tl) (lf := C.lf) (lt := C.lt) (lp := C.lp) h7
    have h2 := fun M => c_X12_undo (w := w) (nm := nm) (M := M) (g' := C.g) hR.1.2.2.2.2.2.1 hok (fun e => absurd e h0) (fun e => (hR.2.1 e).1) (fun e => absurd e h0) hR.1.2.2.2.2.2.2.2.2 hc hR.1.2.2.2.2.2.2.2.1
    simp only [h0, if_false, decide_false] at h2
    exact ag_q (A := (sl_bi false, 1)) hA hS h113 hK hR ⟨by show (1 : Nat) ≠ 4; decide, by show (1 : Nat) ≠ 6; decide, by show (1 : Nat) < 100; decide⟩ h1 h2 (fun _ _ _ h => qA_an h)
end AGC

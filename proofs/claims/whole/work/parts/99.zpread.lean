/-! the questions of a formula: both answer alike -/
section AGF
variable {C : cT} {v : Nat → Int32} {w : Int64} {a : Nat → Nat → Int32} {nm : Nat → Int64} {M : sl_M}
theorem lw_told (hA : clA C M) (hR : lwR C v a) : ∃ (ln : Nat) (q : fs_T) (S0 : rd_T), C.tl = true → fm_at ln q.1 q.2.1 q.2.2.1 q.2.2.2.1 q.2.2.2.2.1 q.2.2.2.2.2.1 q.2.2.2.2.2.2 M ∧ rqH C.g C.s C.rn C.rk C.kn C.nu ln q C.ho S0 C.S v a := by
  cases h : C.tl with
  | false => exact ⟨0, (none, 0, 0, fun _ => 0, fun _ => 0, fun _ => false, fun _ => 0), C.S, fun e => by cases e⟩
  | true =>
    obtain ⟨ln, q, S0, e1, e2, e3, e4, e5, e6, e7, e8, e9, e10⟩ := hR.2.2.2.2 h
    refine ⟨ln, q, S0, fun _ => ⟨?_, e10⟩⟩
    obtain ⟨f0, f1, f2, f3, f4⟩ := hA.2.2.2.2.2.2.2.2.1
    rw [e1, e2, e3, e4, e5] at f0
    rw [e6] at f1
    rw [e7] at f2
    rw [e8] at f3
    rw [e9] at f4
    exact ⟨f0, f1, f2, f3, f4⟩
theorem lw_hts (hR : lwR C v a) : C.tl = true → C.sn = true := fun e => by
  cases h : C.sn with
  | true => rfl
  | false => rw [(hR.2.1 h).2] at e; cases e
theorem ag_read (hA : clA C M) (hS : rf_S v w a nm M = M) (h113 : ∃ z : Nat → Int64, M 113 = .inl (.long, 1, .inr (.inl z))) (hK : clK C) (hR : lwR C v a) (x : Int32) : lw_ag 1 9 YX11_read YX12_read [.int x] M := by
  obtain ⟨ln, q, S0, hq⟩ := lw_told hA hR
  by_cases ht : C.tl = true
  · have hk : okA (an_read C.tl C.S (if q.1 = none then q.2.1 else 0) x) := by
      unfold an_read
      repeat' (first | exact okA_ok _ | exact okA_no (by decide) | exact okA_low | refine okA_cond ?_ ?_ | split)
    exact ag_q hA hS h113 hK hR hk (c_X11_read hA.2.2.2.2.2.2.2.2.2.1 (fun e => (hq e).1) (fun k e => by have := (hq ht).2.2.2.2.2.2.2.1 k e; omega) x) (fun M => c_X12_read hR.1.2.2.2.2.2.1 hR.1.2.2.2.2.2.2.1 (lw_hts hR) (fun e => (hq e).2) x) (fun _ _ _ h => h)
  · have hf : C.tl = false := by cases h : C.tl with
      | true => exact absurd h ht
      | false => rfl
    have hk : okA (an_read C.tl C.S (if (none : Option Nat) = none then 0 else 0) x) := by
      unfold an_read
      repeat' (first | exact okA_ok _ | exact okA_no (by decide) | exact okA_low | refine okA_cond ?_ ?_ | split)
    exact ag_q hA hS h113 hK hR hk (c_X11_read (ln := 0) (cn := 0) (at_ := 0) (bd := none) (sg := fun _ => 0) (pl := fun _ => 0) (rl := fun _ => false) (bt := fun _ => 0) hA.2.2.2.2.2.2.2.2.2.1 (fun e => absurd e ht) (fun k e => by cases e) x) (fun M => c_X12_read (g := C.g) (s := C.s) (rn := 0) (rk := C.rk) (kn := C.kn) (nu := C.nu) (ln := 0) (how := 0) (q := (none, 0, 0, fun _ => 0, fun _ => 0, fun _ => false, fun _ => 0)) (S0 := C.S) hR.1.2.2.2.2.2.1 hR.1.2.2.2.2.2.2.1 (lw_hts hR) (fun e => absurd e ht) x) (fun _ _ _ h => h)
theorem ag_reduced (hA : clA C M) (hS : rf_S v w a nm M = M) (h113 : ∃ z : Nat → Int64, M 113 = .inl (.long, 1, .inr (.inl z))) (hK : clK C) (hR : lwR C v a) (x : Int32) : lw_ag 1 9 YX11_reduced YX12_reduced [.int x] M := by
  obtain ⟨ln, q, S0, hq⟩ := lw_told hA hR
  have hc := hK.2.2.2.2.2.2.2.2.2.1
  have hk : okA (an_reduced C.tl (rd_nd C.S) x) := by
    unfold an_reduced
    repeat' (first | exact okA_ok _ | exact okA_no (by decide) | exact okA_low | refine okA_cond ?_ ?_ | split)
  exact ag_q hA hS h113 hK hR hk (c_X11_reduced hA.2.2.2.2.2.2.2.2.2.1 hc x) (fun M => c_X12_reduced hR.1.2.2.2.2.2.1 hR.1.2.2.2.2.2.2.1 (lw_hts hR) (fun e => (hq e).2) hc x) (fun _ _ _ h => h)
theorem ag_node (hA : clA C M) (hS : rf_S v w a nm M = M) (h113 : ∃ z : Nat → Int64, M 113 = .inl (.long, 1, .inr (.inl z))) (hK : clK C) (hR : lwR C v a) (x y : Int32) : lw_ag 1 10 YX11_node YX12_node [.int x, .int y] M := by
  obtain ⟨ln, q, S0, hq⟩ := lw_told hA hR
  have hc := hK.2.2.2.2.2.2.2.2.2.1
  have hk : okA (an_node C.tl (rd_nd C.S) x y) := by
    unfold an_node
    repeat' (first | exact okA_ok _ | exact okA_no (by decide) | exact okA_low | refine okA_cond ?_ ?_ | split)
  exact ag_q hA hS h113 hK hR hk (c_X11_node hA.2.2.2.2.2.2.2.2.2.1 hc x y) (fun M => c_X12_node hR.1.2.2.2.2.2.1 hR.1.2.2.2.2.2.2.1 (lw_hts hR) (fun e => (hq e).2) hc x y) (fun _ _ _ h => h)
theorem ag_under (hA : clA C M) (hS : rf_S v w a nm M = M) (h113 : ∃ z : Nat → Int64, M 113 = .inl (.long, 1, .inr (.inl z))) (hK : clK C) (hR : lwR C v a) (x y : Int32) : lw_ag 2 62 YX11_under YX12_under [.int x, .int y] M := by
  obtain ⟨ln, q, S0, hq⟩ := lw_told hA hR
  have hc := hK.2.2.2.2.2.2.2.2.2.1
  obtain ⟨s1, s2, s3, s4, s5, s6, s7, s8⟩ := hK.2.2.2.2.2.2.2.1
  have hk : okA (an_under C.tl (rd_nd C.S) x y) := by
    unfold an_under
    repeat' (first | exact okA_ok _ | exact okA_no (by decide) | exact okA_low | refine okA_cond ?_ ?_ | split)
  exact ag_q hA hS h113 hK hR hk (c_X11_under hA.2.2.2.2.2.2.2.2.2.1 hc (fun k h => by have := s8 k h; omega) (fun k j h e => by have := s6 k j h e; omega) (fun k j h e => by have := s7 k j h e; omega) x y) (fun M => c_X12_under hR.1.2.2.2.2.2.1 hR.1.2.2.2.2.2.2.1 (lw_hts hR) (fun e => (hq e).2) hc x y) (fun _ _ _ h => h)
section FV
variable {fd db sb lf lt : Nat} {sn : Bool} {lp : Int32}
set_option maxRecDepth 100000 in
theorem c_X11_hasValue_f : sl_R YX11_hasValue 0 [.ref 0] (ob_set fd db sb sn false lf lt lp M) (some (.int (sl_bi false))) (ob_set fd db sb sn false lf lt lp M) := by
  refine sl_T.of_V (lv := [_]) (by decide) rfl (Nat.le_of_ble_eq_true rfl) ?_
  refine slv_aload_n eX11_hasValue_0 rfl ?_
  refine slv_getf eX11_hasValue_1 fX11_212 (by repeat (first | assumption | exact sl_up_eq | refine sl_up_ne (by first | decide | omega) ?_)) rfl ?_
  refine slv_if_eqB eX11_hasValue_4 (fun h4 => ?_) (fun h4 => absurd h4 (by decide))
  refine slv_iconst (v := nI 0) eX11_hasValue_35 (by decide) ?_
  refine slv_zret eX11_hasValue_36 rfl rfl ?_
  exact ⟨rfl, rfl⟩
set_option maxRecDepth 100000 in
theorem c_X11_value_f (x : Int32) : sl_R YX11_value 2 [.ref 0, .int x] (ob_set fd db sb sn false lf lt lp M) (some (.int an_low.1)) (ob_set fd db sb sn false lf an_low.2 lp M) := by
  refine sl_T.of_V (lv := [_, _, _, _]) (by decide) rfl (Nat.le_of_ble_eq_true rfl) ?_
  refine slv_aload_n eX11_value_0 rfl ?_
  refine slv_rV (As := []) eX11_value_1 lX11_273 rfl rfl (by repeat (first | assumption | exact sl_up_eq | refine sl_up_ne (by first | decide | omega) ?_)) rfl c_X11_hasValue_f (by decide) (Nat.le_of_ble_eq_true rfl) ?_
  refine slv_if_eqB eX11_value_4 (fun h4 => ?_) (fun h4 => absurd h4 (by decide))
  refine slv_aload_n eX11_value_16 rfl ?_
  refine slv_iconst (v := nI 1) eX11_value_17 (by decide) ?_
  refine slv_rV (As := [_]) eX11_value_18 lX11_76 rfl rfl (by repeat (first | assumption | exact sl_up_eq | refine sl_up_ne (by first | decide | omega) ?_)) rfl (c_X11_refuse 1) (by decide) (Nat.le_of_ble_eq_true rfl) ?_
  refine slv_pop eX11_value_21 rfl ?_
  refine slv_ldc eX11_value_22 kX11_251 ?_
  refine slv_iret eX11_value_24 rfl ?_
  exact ⟨rfl, rfl⟩
set_option maxRecDepth 100000 in
theorem c_X11_third_f : sl_R YX11_third 2 [.ref 0] (ob_set fd db sb sn false lf lt lp M) (some (.long (-9223372036854775808))) (ob_set fd db sb sn false lf 1 lp M) := by
  refine sl_T.of_V (lv := [_, _]) (by decide) rfl (Nat.le_of_ble_eq_true rfl) ?_
  refine slv_aload_n eX11_third_0 rfl ?_
  refine slv_rV (As := []) eX11_third_1 lX11_273 rfl rfl (by repeat (first | assumption | exact sl_up_eq | refine sl_up_ne (by first | decide | omega) ?_)) rfl c_X11_hasValue_f (by decide) (Nat.le_of_ble_eq_true rfl) ?_
  refine slv_if_neB eX11_third_4 (fun h4 => absurd h4 (by decide)) (fun h4 => ?_)
  refine slv_aload_n eX11_third_7 rfl ?_
  refine slv_iconst (v := nI 1) eX11_third_8 (by decide) ?_
  refine slv_rV (As := [_]) eX11_third_9 lX11_76 rfl rfl (by repeat (first | assumption | exact sl_up_eq | refine sl_up_ne (by first | decide | omega) ?_)) rfl (c_X11_refuse 1) (by decide) (Nat.le_of_ble_eq_true rfl) ?_
  refine slv_pop eX11_third_12 rfl ?_
  refine slv_ldc2 eX11_third_13 kX11_286 ?_
  refine slv_lret eX11_third_16 rfl ?_
  exact ⟨rfl, rfl⟩
end FV
theorem ag_value (hRR : rr_all) (hA : clA C M) (hS : rf_S v w a nm M = M) (h113 : ∃ z : Nat → Int64, M 113 = .inl (.long, 1, .inr (.inl z))) (hK : clK C) (hR : lwR C v a) (x : Int32) : lw_ag 2 10 YX11_value YX12_value [.int x] M := by
  obtain ⟨ln, q, S0, hq⟩ := lw_told hA hR
  have hc := hK.2.2.2.2.2.2.2.2.2.1
  have hfa := hK.2.2.2.2.2.2.2.2.2.2
  have hk : okA (an_value C.tl C.S x) := by
    unfold an_value
    repeat' (first | exact okA_ok _ | exact okA_no (by decide) | exact okA_low | refine okA_cond ?_ ?_ | split)
  have h2 := fun M => c_X12_value (w := w) (nm := nm) (M := M) hR.1.2.2.2.2.2.1 hR.1.2.2.2.2.2.2.1 (lw_hts hR) (fun e => (hq e).2) (fun e => rqH_C (hq e).2) x
  by_cases ht : C.tl = true
  · exact ag_q hA hS h113 hK hR hk (c_X11_value hRR hA.2.2.2.2.2.2.2.2.2.1 hc hfa (fun k e => (rqH_E (hq ht).2).2.1.2.2.2.2.2.2.2.1 0 k (Nat.zero_le _) e) x) h2 (fun _ _ _ h => h)
  · have hf : C.tl = false := by cases h : C.tl with
      | true => exact absurd h ht
      | false => rfl
    have e : an_value C.tl C.S x = an_low := by rw [hf]; rfl
    have h1 := c_X11_value_f (fd := C.fd) (db := C.db) (sb := C.sb) (sn := C.sn) (lf := C.lf) (lt := C.lt) (lp := C.lp) (M := M) x
    rw [← hf, ← e] at h1
    exact ag_q hA hS h113 hK hR hk h1 h2 (fun _ _ _ h => h)
end AGF

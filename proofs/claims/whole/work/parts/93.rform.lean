/-! the reference: the scan whole, whether it can read, what it tells -/
section RFO
variable {v : Nat → Int32} {w : Int64} {a : Nat → Nat → Int32} {nm : Nat → Int64} {M : sl_M} {f : Nat → Int32} {ln : Nat} {g : sg_T} {s : Nat → Int32}
set_option maxRecDepth 100000 in
theorem c_X12_scans (h27 : a 27 = f) (hsz : v 29 = nI ln) (hl : ln ≤ 900) (hok : sg_ok g) (hG : rf_G g v a) (sg pl : Nat → Nat) (rl : Nat → Bool) (bt : Nat → Int32) : sl_T YX12_scans 3 0 0 (fun r M' => r = some (.int (sl_io (fs_all f ln ln (none, 0, 0, sg, pl, rl, bt)).1)) ∧ ∃ v' a', M' = rf_S v' w a' nm M ∧ scF v a v' a' ∧ ((fs_all f ln ln (none, 0, 0, sg, pl, rl, bt)).1 = none → tkI g (fs_all f ln ln (none, 0, 0, sg, pl, rl, bt)) v' a' ∧ a' 46 (fs_all f ln ln (none, 0, 0, sg, pl, rl, bt)).2.1 = nI (sg_terms g) ∧ a' 47 (fs_all f ln ln (none, 0, 0, sg, pl, rl, bt)).2.1 = nI ln)) [.ref 68] (rf_S v w a nm M) := by
  refine sl_T.of_V (lv := [_, _, _]) (by decide) rfl (Nat.le_of_ble_eq_true rfl) ?_
  have hF : scF v a (sl_u v 50 (nI 0)) a := ⟨fun k hk => sl_u_ne (fun e => hk (by rw [e]; decide)), fun _ _ => rfl⟩
  refine slv_aload_n eX12_scans_0 rfl ?_
  refine slv_iconst (v := nI 0) eX12_scans_1 (by decide) ?_
  refine slr_pi eX12_scans_2 fX12_417 (Nat.le_of_ble_eq_true rfl) rf_s50 ?_
  refine slv_iconst (v := nI 0) eX12_scans_5 (by decide) ?_
  refine slv_istore_n (i := 1) (lv' := [_, _, _]) eX12_scans_6 rfl (by decide) rfl ?_
  exact sc_L hl hok ln 0 0 sg pl rl bt (sl_u v 50 (nI 0)) a _ (by omega) (by omega) (by omega) h27 hsz (rf_G_same hG (fun k hk => sl_u_ne (fun e => by rw [e] at hk; revert hk; decide)) (fun _ _ => rfl)) ⟨sl_u_eq, fun j (hj : j < 0) => by omega⟩ _ (fun v' a' e1 e2 => ⟨rfl, v', a', rfl, scF_t hF e1, e2⟩)
set_option maxRecDepth 100000 in
theorem c_X12_canRead {e rn how : Nat} (he : e ≤ 11) (h16 : v 16 = nI e) (hs : ∀ i, i < 144 → a 38 i = s i) (hz : rl_z e s) (hrn : rn < 1000) (h44 : v 44 = nI rn) (hh : how < 2) : sl_R YX12_canRead 2 [.ref 68, .int (nI how)] (rf_S v w a nm M) (some (.int (sl_bi (an_can s rn how)))) (rf_S v w a nm M) := by
  have hC := c_X12_clashMany (w := w) (nm := nm) (M := M) he h16 hs hz
  have hN := c_X12_hasNumbers (w := w) (a := a) (nm := nm) (M := M) hrn h44
  have hc := sl_ct_le (fun i => sl_cl (s i)) 144 0
  unfold an_can
  generalize sl_ct (fun i => sl_cl (s i)) 144 0 = cc at hC hc
  refine sl_T.of_V (lv := [_, _]) (by decide) rfl (Nat.le_of_ble_eq_true rfl) ?_
  rcases (show how = 0 ∨ how = 1 by omega) with q | q <;> subst q
  · refine slv_iload_n eX12_canRead_0 rfl ?_
    refine slv_if_ne eX12_canRead_1 (fun h1 => absurd rfl h1) (fun h1 => ?_)
    refine slv_aload_n eX12_canRead_4 rfl ?_
    refine slv_rV (As := []) eX12_canRead_5 lX12_377 rfl rfl rf_68 rfl hC (by decide) (Nat.le_of_ble_eq_true rfl) ?_
    refine slv_if_neN eX12_canRead_8 (by omega) (fun h8 => ?_) (fun h8 => ?_)
    · refine slv_iconst (v := nI 0) eX12_canRead_15 (by decide) ?_
      refine slv_goto eX12_canRead_16 ?_
      refine slv_zret eX12_canRead_23 rfl rfl ?_
      refine ⟨?_, rfl⟩
      rw [if_pos rfl]
      first | (rw [decide_eq_true h8]; rfl) | (rw [decide_eq_false h8]; rfl) | (rw [decide_eq_false (Nat.pos_iff_ne_zero.mp h8)]; rfl)
    · refine slv_iconst (v := nI 1) eX12_canRead_11 (by decide) ?_
      refine slv_goto eX12_canRead_12 ?_
      refine slv_zret eX12_canRead_23 rfl rfl ?_
      refine ⟨?_, rfl⟩
      rw [if_pos rfl]
      first | (rw [decide_eq_true h8]; rfl) | (rw [decide_eq_false h8]; rfl) | (rw [decide_eq_false (Nat.pos_iff_ne_zero.mp h8)]; rfl)
  · refine slv_iload_n eX12_canRead_0 rfl ?_
    refine slv_if_ne eX12_canRead_1 (fun h1 => ?_) (fun h1 => absurd h1 (by decide))
    refine slv_aload_n eX12_canRead_19 rfl ?_
    refine slv_rV (As := []) eX12_canRead_20 lX12_405 rfl rfl rf_68 rfl hN (by decide) (Nat.le_of_ble_eq_true rfl) ?_
    refine slv_zret eX12_canRead_23 rfl (sl_bi_nar _) ?_
    refine ⟨?_, rfl⟩
    rw [if_neg (by decide)]
set_option maxRecDepth 100000 in
theorem c_X12_told {fa : Nat} {x y : Int32} (hfa : fa < 100) (h1 : v 62 = nI fa) (h2 : v 64 = x) (h3 : v 63 = y) : sl_R YX12_told 1 [.ref 68] (rf_S v w a nm M) (some (.int (if fa = 0 then x else -1))) (rf_S (if fa = 0 then rf_gd v 0 else sl_u (rf_gd v 6) 2 y) w a nm M) := by
  refine sl_T.of_V (lv := [_]) (by decide) rfl (Nat.le_of_ble_eq_true rfl) ?_
  by_cases h : fa = 0
  · rw [if_pos h, if_pos h]
    refine slv_aload_n eX12_told_0 rfl ?_
    refine slr_gi eX12_told_1 fX12_441 rfl (by repeat (first | exact sl_u_eq | assumption | apply rf_ne (by decide) | exact rfl)) ?_
    refine slv_if_neN eX12_told_4 (by omega) (fun h4 => absurd h4 (by omega)) (fun h4 => ?_)
    refine slv_aload_n eX12_told_7 rfl ?_
    refine slv_aload_n eX12_told_8 rfl ?_
    refine slr_gi eX12_told_9 fX12_444 rfl (by repeat (first | exact sl_u_eq | assumption | apply rf_ne (by decide) | exact rfl)) ?_
    refine slv_rV (As := [_]) eX12_told_12 lX12_314 rfl rfl rf_68 rfl (c_X12_good _) (by decide) (Nat.le_of_ble_eq_true rfl) ?_
    refine slv_iret eX12_told_15 rfl ?_
    exact ⟨rfl, rfl⟩
  · rw [if_neg h, if_neg h]
    refine slv_aload_n eX12_told_0 rfl ?_
    refine slr_gi eX12_told_1 fX12_441 rfl (by repeat (first | exact sl_u_eq | assumption | apply rf_ne (by decide) | exact rfl)) ?_
    refine slv_if_neN eX12_told_4 (by omega) (fun h4 => ?_) (fun h4 => absurd h4 (by omega))
    refine slv_aload_n eX12_told_16 rfl ?_
    refine slv_bipush (v := nI 6) eX12_told_17 (by decide) ?_
    refine slv_rV (As := [_]) eX12_told_19 lX12_155 rfl rfl rf_68 rfl (c_X12_refused 6) (by decide) (Nat.le_of_ble_eq_true rfl) ?_
    refine slv_pop eX12_told_22 rfl ?_
    refine slv_aload_n eX12_told_23 rfl ?_
    refine slv_aload_n eX12_told_24 rfl ?_
    refine slr_gi eX12_told_25 fX12_453 rfl (by repeat (first | exact sl_u_eq | assumption | apply rf_ne (by decide) | exact rfl)) ?_
    refine slr_pi eX12_told_28 fX12_9 (Nat.le_of_ble_eq_true rfl) rf_s2 ?_
    refine slv_iconst (v := (-1)) eX12_told_31 (by decide) ?_
    refine slv_iret eX12_told_32 rfl ?_
    exact ⟨rfl, rfl⟩
end RFO

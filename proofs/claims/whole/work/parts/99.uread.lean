/-! the reference reads from the start; a bad formula -/
/-- what is asked of a reading -/
def rqR (S : rd_T) (v : Nat → Int32) (a : Nat → Nat → Int32) : Prop := (v 62 = nI (rd_fa S) ∧ (rd_fa S ≠ 0 → v 63 = rd_pl S) ∧ v 64 = nI (rd_sp S) ∧ v 65 = nI (nd_c (rd_nd S)) ∧ v 66 = nI (rd_mo S)) ∧ (rd_fa S = 0 → ∃ k, rd_beh S 0 = some k ∧ a 55 0 = nd_bi (rd_nd S) k ∧ a 59 0 = sl_bi (nd_rl (rd_nd S) k)) ∧ ∀ k, k < nd_c (rd_nd S) → a 57 k = nI (nd_ru (rd_nd S) k) ∧ a 71 k = sl_nd (nd_fi (rd_nd S) k) ∧ a 72 k = sl_nd (nd_se (rd_nd S) k) ∧ a 73 k = nI (nd_de (rd_nd S) k) ∧ a 74 k = nd_bi (rd_nd S) k ∧ a 75 k = sl_bi (nd_rl (rd_nd S) k)
section RSB
variable {v : Nat → Int32} {w : Int64} {a : Nat → Nat → Int32} {nm : Nat → Int64} {M : sl_M} {E : rx_T} {S0 : rd_T} {how : Nat} {s : Nat → Int32} {rn : Nat} {rk kn nu : Nat → Nat}
set_option maxRecDepth 100000 in
theorem c_X12_reads (hE : rdE E) (hG : rf_G (rx_g E) v a) (hs : a 38 = s) (hK : rf_K rn rk kn nu v a) (h0 : how = 1 → rn = 0) (hh : how < 2) (hEo : rx_o E = ro_o s (sg_terms (rx_g E)) nu kn how) (hT : rtk E a) (hr : rd_rest S0) : sl_T YX12_reads 7 0 0 (fun o M' => o = none ∧ ∃ v' a', M' = rf_S v' w a' nm M ∧ rqR (rd_run E 121 (rd_new E none S0)) v' a' ∧ rsF v a v' a') [.ref 68, .int (nI how)] (rf_S v w a nm M) := by
  have hk := rd_ok_new (E := E) hr hE.1 none
  have he : sg_terms (rx_g E) ≤ 11 := hE.1.2.2.2.1
  have hI : rdI E (rd_new E none S0) := ⟨hk, Nat.le_refl 0, rfl, (show sl_u (rd_stk S0) 0 (sg_terms (rx_g E)) 0 = sg_terms (rx_g E) from sl_u_eq), fun i h1 h2 => by have h2' : i ≤ 0 := h2; omega, fun k q => absurd q (Nat.not_lt_zero k)⟩
  have g16 := hG.2.2.1
  have hF : rsF v a (sl_u (sl_u (sl_u (sl_u (sl_u v 61 (nI 0)) 62 (nI 0)) 64 (nI 0)) 65 (nI 0)) 66 (nI 0)) (sl_u (sl_u a 54 (sl_u (a 54) 0 (nI (sg_terms (rx_g E))))) 58 (sl_u (a 58) 0 (sl_bi false))) := ⟨fun k hk => by
    rw [sl_u_ne (fun e => hk (by rw [e]; decide)), sl_u_ne (fun e => hk (by rw [e]; decide)), sl_u_ne (fun e => hk (by rw [e]; decide)), sl_u_ne (fun e => hk (by rw [e]; decide)), sl_u_ne (fun e => hk (by rw [e]; decide))], fun k hk => by
    rw [sl_u_ne (fun e => hk (by rw [e]; decide)), sl_u_ne (fun e => hk (by rw [e]; decide))]⟩
  have hR : rdR E (rd_new E none S0) (sl_u (sl_u (sl_u (sl_u (sl_u v 61 (nI 0)) 62 (nI 0)) 64 (nI 0)) 65 (nI 0)) 66 (nI 0)) (sl_u (sl_u a 54 (sl_u (a 54) 0 (nI (sg_terms (rx_g E))))) 58 (sl_u (a 58) 0 (sl_bi false))) := by
    refine ⟨⟨rfl, rfl, rfl, rfl⟩, fun i hi => ?_, fun i h1 h2 => by have h2' : i ≤ 0 := h2; omega, fun k q => absurd q (Nat.not_lt_zero k)⟩
    have hi' : i ≤ 0 := hi
    rw [show i = 0 by omega]
    exact ⟨rfl, rfl, fun k q => by have q' : (none : Option Nat) = some k := q; cases q'⟩
  obtain ⟨f1, f2⟩ := rsF_l (Lv := [14, 15, 16, 22, 23]) (La := [3, 4, 5, 6, 7]) hF (by decide) (by decide)
  obtain ⟨f3, f4⟩ := rsF_l (Lv := [44]) (La := [39, 40, 45]) hF (by decide) (by decide)
  obtain ⟨f5, f6⟩ := rsF_l (Lv := []) (La := [47, 46, 48, 49]) hF (by decide) (by decide)
  refine sl_T.of_V (lv := [_, _, _, _, _, _]) (by decide) rfl (Nat.le_of_ble_eq_true rfl) ?_
  have loop := fun Q l3 l4 l5 => rs_L (w := w) (nm := nm) (M := M) hE h0 hh hEo 121 (rd_new E none S0) _ _ rfl hI rfl rfl hR rfl (rf_G_same hG f1 f2) hs (rf_K_F hK f3 f4) (rtk_F hT f6) Q l3 l4 l5
  refine slv_aload_n eX12_reads_0 rfl ?_
  refine slv_iconst (v := nI 0) eX12_reads_1 (by decide) ?_
  refine slr_pi eX12_reads_2 fX12_438 (Nat.le_of_ble_eq_true rfl) rf_s61 ?_
  refine slv_aload_n eX12_reads_5 rfl ?_
  refine slr_ga (p := 96) eX12_reads_6 fX12_98 rfl ?_
  refine slv_iconst (v := nI 0) eX12_reads_9 (by decide) ?_
  refine slv_aload_n eX12_reads_10 rfl ?_
  refine slr_gi eX12_reads_11 fX12_324 rfl (by repeat (first | exact sl_u_eq | assumption | apply rf_ne (by decide) | exact rfl)) ?_
  refine slr_iastX (k := 54) (p := 96) (len := 16) eX12_reads_14 rfl (by repeat (first | exact sl_u_eq | assumption | apply rf_ne (by decide) | exact rfl)) (by omega) (by decide) (rf_t54 _ _ _ _ _) ?_
  refine slv_aload_n eX12_reads_15 rfl ?_
  refine slr_ga (p := 100) eX12_reads_16 fX12_110 rfl ?_
  refine slv_iconst (v := nI 0) eX12_reads_19 (by decide) ?_
  refine slv_iconst (v := nI 0) eX12_reads_20 (by decide) ?_
  refine slr_zastX (k := 58) (p := 100) (len := 16) eX12_reads_21 rfl (by repeat (first | exact sl_u_eq | assumption | apply rf_ne (by decide) | exact rfl)) (by omega) (by decide) (sl_nar_bi false) (rf_t58 _ _ _ _ _) ?_
  refine slv_aload_n eX12_reads_22 rfl ?_
  refine slv_iconst (v := nI 0) eX12_reads_23 (by decide) ?_
  refine slr_pi eX12_reads_24 fX12_441 (Nat.le_of_ble_eq_true rfl) rf_s62 ?_
  refine slv_aload_n eX12_reads_27 rfl ?_
  refine slv_iconst (v := nI 0) eX12_reads_28 (by decide) ?_
  refine slr_pi eX12_reads_29 fX12_444 (Nat.le_of_ble_eq_true rfl) rf_s64 ?_
  refine slv_aload_n eX12_reads_32 rfl ?_
  refine slv_iconst (v := nI 0) eX12_reads_33 (by decide) ?_
  refine slr_pi eX12_reads_34 fX12_447 (Nat.le_of_ble_eq_true rfl) rf_s65 ?_
  refine slv_aload_n eX12_reads_37 rfl ?_
  refine slv_iconst (v := nI 0) eX12_reads_38 (by decide) ?_
  refine slr_pi eX12_reads_39 fX12_450 (Nat.le_of_ble_eq_true rfl) rf_s66 ?_
  refine slv_iconst (v := nI 0) eX12_reads_42 (by decide) ?_
  refine slv_istore_n (i := 2) (lv' := [_, _, _, _, _, _]) eX12_reads_43 rfl (by decide) rfl ?_
  refine loop _ _ _ _ (fun v' a' z1 z2 z3 z4 z5 => ⟨rfl, v', a', rfl, ⟨⟨z2, z3, z1.1.2.1, z1.1.2.2.1, z1.1.2.2.2⟩, fun q => ?_, z1.2.2.2⟩, rsF_t hF z5⟩)
  obtain ⟨k, hk⟩ := z4 q
  obtain ⟨-, -, y3⟩ := z1.2.1 0 (Nat.zero_le _)
  obtain ⟨y4, y5, y6⟩ := y3 k hk
  exact ⟨k, hk, y4, y5⟩
set_option maxRecDepth 100000 in
theorem c_X12_readsBy {bd : Option Nat} (hbd : ∀ k, bd = some k → k < 2147483648) (hb : v 51 = sl_io bd) (hE : rdE E) (hG : rf_G (rx_g E) v a) (hs : a 38 = s) (hK : rf_K rn rk kn nu v a) (h0 : how = 1 → rn = 0) (hh : how < 2) (hEo : rx_o E = ro_o s (sg_terms (rx_g E)) nu kn how) (hT : bd = none → rtk E a) (hr : rd_rest S0) : sl_T YX12_readsBy 8 0 0 (fun o M' => o = none ∧ ∃ v' a', M' = rf_S v' w a' nm M ∧ rqR (rd_run E 121 (rd_new E bd S0)) v' a' ∧ rsF v a v' a') [.ref 68, .int (nI how)] (rf_S v w a nm M) := by
  refine sl_T.of_V (lv := [_, _]) (by decide) rfl (Nat.le_of_ble_eq_true rfl) ?_
  cases bd with
  | none =>
    have hRd := c_X12_reads (w := w) (nm := nm) (M := M) hE hG hs hK h0 hh hEo (hT rfl) hr
    refine slv_aload_n eX12_readsBy_0 rfl ?_
    refine slr_gi eX12_readsBy_1 fX12_509 rfl hb ?_
    refine slv_iconst (v := (-1)) eX12_readsBy_4 (by decide) ?_
    refine slv_icmp_ne eX12_readsBy_5 (fun h5 => absurd rfl h5) (fun h5 => ?_)
    refine slv_aload_n eX12_readsBy_8 rfl ?_
    refine slv_iload_n eX12_readsBy_9 rfl ?_
    refine slv_callV (As := [_]) eX12_readsBy_10 lX12_512 rfl rfl rf_68 rfl hRd (by decide) (Nat.le_of_ble_eq_true rfl) (Nat.zero_add _).symm (Nat.zero_add _).symm (Or.inl rfl) ?_
    rintro _ _ ⟨rfl, v2, a2, rfl, z1, z2⟩
    refine slv_vret eX12_readsBy_13 rfl ?_
    exact ⟨rfl, v2, a2, rfl, z1, z2⟩
  | some p =>
    have hp : nI p ≠ -1 := nI_neg1 (hbd p rfl)
    have hb' : v 51 = nI p := hb
    have hrun : rd_run E 121 (rd_new E (some p) S0) = rd_new E (some p) S0 := rd_run_en rfl 121
    rw [hrun]
    refine slv_aload_n eX12_readsBy_0 rfl ?_
    refine slr_gi eX12_readsBy_1 fX12_509 rfl hb' ?_
    refine slv_iconst (v := (-1)) eX12_readsBy_4 (by decide) ?_
    refine slv_icmp_ne eX12_readsBy_5 (fun h5 => ?_) (fun h5 => absurd h5 hp)
    refine slv_aload_n eX12_readsBy_14 rfl ?_
    refine slv_iconst (v := nI 1) eX12_readsBy_15 (by decide) ?_
    refine slr_pi eX12_readsBy_16 fX12_441 (Nat.le_of_ble_eq_true rfl) rf_s62 ?_
    refine slv_aload_n eX12_readsBy_19 rfl ?_
    refine slv_aload_n eX12_readsBy_20 rfl ?_
    refine slr_gi eX12_readsBy_21 fX12_509 rfl hb' ?_
    refine slr_pi eX12_readsBy_24 fX12_453 (Nat.le_of_ble_eq_true rfl) rf_s63 ?_
    refine slv_aload_n eX12_readsBy_27 rfl ?_
    refine slv_iconst (v := nI 0) eX12_readsBy_28 (by decide) ?_
    refine slr_pi eX12_readsBy_29 fX12_444 (Nat.le_of_ble_eq_true rfl) rf_s64 ?_
    refine slv_aload_n eX12_readsBy_32 rfl ?_
    refine slv_iconst (v := nI 0) eX12_readsBy_33 (by decide) ?_
    refine slr_pi eX12_readsBy_34 fX12_447 (Nat.le_of_ble_eq_true rfl) rf_s65 ?_
    refine slv_aload_n eX12_readsBy_37 rfl ?_
    refine slv_iconst (v := nI 0) eX12_readsBy_38 (by decide) ?_
    refine slr_pi eX12_readsBy_39 fX12_450 (Nat.le_of_ble_eq_true rfl) rf_s66 ?_
    refine slv_vret eX12_readsBy_42 rfl ?_
    refine ⟨rfl, _, a, rfl, ⟨⟨rfl, fun _ => rfl, rfl, rfl, rfl⟩, fun q => (by cases q), fun k q => absurd q (Nat.not_lt_zero k)⟩, ⟨fun k hk => ?_, fun _ _ => rfl⟩⟩
    rw [sl_u_ne (fun e => hk (by rw [e]; decide)), sl_u_ne (fun e => hk (by rw [e]; decide)), sl_u_ne (fun e => hk (by rw [e]; decide)), sl_u_ne (fun e => hk (by rw [e]; decide)), sl_u_ne (fun e => hk (by rw [e]; decide))]
end RSB

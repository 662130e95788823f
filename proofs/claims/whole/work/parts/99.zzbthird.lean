/-! a third: both answer alike -/
section RTH
variable {v : Nat → Int32} {w : Int64} {a : Nat → Nat → Int32} {nm : Nat → Int64} {M : sl_M} {g : sg_T} {s : Nat → Int32} {rn : Nat} {rk kn nu : Nat → Nat} {ln how : Nat} {q : fs_T} {S0 S : rd_T} {sn tl : Bool}
def qAL (v : Nat → Int32) (w : Int64) (a : Nat → Nat → Int32) (nm : Nat → Int64) (M : sl_M) (A : Int64 × Nat) (r : Option Value) (M' : sl_M) : Prop := r = some (.long A.1) ∧ ∃ v' a', M' = rf_S v' w a' nm M ∧ v' 1 = nI A.2 ∧ v' 2 = -1 ∧ rqF v a v' a'
theorem qAL_1 {v1 : Nat → Int32} {a1 : Nat → Nat → Int32} {x : Int64} (k : Nat) (h : rqF v a v1 a1) : qAL v w a nm M (x, k) (some (.long x)) (rf_S (rf_gd v1 k) w a1 nm M) := ⟨rfl, _, _, rfl, rfl, rfl, rqF_t h (rqF_v (gd_v v1 k))⟩
set_option maxRecDepth 100000 in
theorem c_X12_third (h21 : v 21 = sl_bi sn) (h24 : v 53 = sl_bi tl) (hts : tl = true → sn = true) (hH : tl = true → rqH g s rn rk kn nu ln q how S0 S v a) (hC : tl = true → rqC S) : sl_T YX12_third 10 0 0 (qAL v w a nm M (an_third tl S)) [.ref 68] (rf_S v w a nm M) := by
  have F0 := rqF_0 v a (nI 0)
  have hN := c_X12_hasIt (v := sl_u v 0 (nI 0)) (w := w) (a := a) (nm := nm) (M := M) h21 h24 hts (fun e => rqH_F (hH e) F0)
  refine sl_T.of_V (lv := [_, _, _]) (by decide) rfl (Nat.le_of_ble_eq_true rfl) ?_
  unfold an_third an_root
  cases hb : (tl && decide (rd_fa S = 0)) with
  | false =>
    rw [hb] at hN
    refine slv_aload_n eX12_third_0 rfl ?_
    refine slv_iconst (v := nI 0) eX12_third_1 (by decide) ?_
    refine slr_pi eX12_third_2 fX12_149 (Nat.le_of_ble_eq_true rfl) rf_s0 ?_
    refine slv_aload_n eX12_third_5 rfl ?_
    refine slv_callV (As := []) eX12_third_6 lX12_542 rfl rfl rf_68 rfl hN (by decide) (Nat.le_of_ble_eq_true rfl) (Nat.zero_add _).symm (Nat.zero_add _).symm (Or.inl rfl) ?_
    rintro _ _ ⟨rfl, v2, a2, rfl, z1, z2⟩
    refine slv_if_neB eX12_third_9 (fun h9 => absurd h9 (by decide)) (fun h9 => ?_)
    refine slv_aload_n eX12_third_12 rfl ?_
    refine slv_iconst (v := nI 1) eX12_third_13 (by decide) ?_
    refine slv_rV (As := [_]) eX12_third_14 lX12_155 rfl rfl rf_68 rfl (c_X12_refused 1) (by decide) (Nat.le_of_ble_eq_true rfl) ?_
    refine slv_pop eX12_third_17 rfl ?_
    refine slv_ldc2 eX12_third_18 kX12_547 ?_
    refine slv_lret eX12_third_21 rfl ?_
    exact qAL_1 1 (rqF_t F0 (rsF_q z1))
  | true =>
    rw [hb] at hN
    rw [Bool.and_eq_true] at hb
    have hfa := of_decide_eq_true hb.2
    have aft : ∀ v2 a2, rqR S v2 a2 → rsF (sl_u v 0 (nI 0)) a v2 a2 → sl_V YX12_third none 10 0 0 (qAL v w a nm M (match rd_beh S 0 with
        | none => (-9223372036854775808, 1)
        | some k => (cond (nd_rl (rd_nd S) k) (FP.ddiv (FP.f2d (nd_bi (rd_nd S) k).toUInt32) 4613937818241073152).toInt64 (FP.ddiv (FP.i2d (nd_bi (rd_nd S) k)) 4613937818241073152).toInt64, 0))) 22 [some (.ref 68), none, none] [] (rf_S v2 w a2 nm M) := by
      intro v2 a2 z1 z2
      obtain ⟨k, hk, y1, y2⟩ := z1.2.1 hfa
      rw [hk]
      have hcq := hC hb.1 k hk
      have zF := rqF_t F0 (rsF_q z2)
      dsimp only
      cases hrl : nd_rl (rd_nd S) k with
      | true =>
        rw [hrl] at y2
        have hv := cn_q (hcq hrl)
        refine slv_aload_n eX12_third_22 rfl ?_
        refine slr_ga (p := 101) eX12_third_23 fX12_113 rfl ?_
        refine slv_iconst (v := nI 0) eX12_third_26 (by decide) ?_
        refine slr_zaldX (k := 59) (p := 101) (len := 16) eX12_third_27 rfl (by repeat (first | exact sl_u_eq | assumption | apply rf_ne (by decide) | exact rfl)) (by omega) (by decide) y2 ?_
        refine slv_if_eqB eX12_third_28 (fun h28 => absurd h28 (by decide)) (fun h28 => ?_)
        refine slv_aload_n eX12_third_31 rfl ?_
        refine slr_ga (p := 97) eX12_third_32 fX12_101 rfl ?_
        refine slv_iconst (v := nI 0) eX12_third_35 (by decide) ?_
        refine slr_ialdX (k := 55) (p := 97) (len := 16) eX12_third_36 rfl (by repeat (first | exact sl_u_eq | assumption | apply rf_ne (by decide) | exact rfl)) (by omega) (by decide) y1 ?_
        refine slv_bits2f eX12_third_37 ib_w1 ib_w2 ib_w3 fb_w4 (by decide) (Nat.le_of_ble_eq_true rfl) hv ?_
        refine slv_f2d eX12_third_40 (fun r40 a40 => ?_)
        refine slv_goto eX12_third_41 ?_
        refine slv_dstore_n (i := 1) (lv' := [_, _, _]) eX12_third_51 rfl (by decide) rfl ?_
        refine slv_aload_n eX12_third_52 rfl ?_
        refine slv_iconst (v := nI 0) eX12_third_53 (by decide) ?_
        refine slv_rV (As := [_]) eX12_third_54 lX12_314 rfl rfl rf_68 rfl (c_X12_good _) (by decide) (Nat.le_of_ble_eq_true rfl) ?_
        refine slv_pop eX12_third_57 rfl ?_
        refine slv_dload_n eX12_third_58 rfl ?_
        refine slv_ldc2d eX12_third_59 kX12_549 ?_
        refine slv_ddiv eX12_third_62 (fun r62 a62 => ?_)
        refine slv_rS (As := [_]) eX12_third_63 lX12_551 rfl rfl (c_dbits _ _) (by decide) (Nat.le_of_ble_eq_true rfl) ?_
        refine slv_lret eX12_third_66 rfl ?_
        rw [db_b_alike a62, ddiv_alike a40, db_div]
        exact qAL_1 0 zF
      | false =>
        rw [hrl] at y2
        refine slv_aload_n eX12_third_22 rfl ?_
        refine slr_ga (p := 101) eX12_third_23 fX12_113 rfl ?_
        refine slv_iconst (v := nI 0) eX12_third_26 (by decide) ?_
        refine slr_zaldX (k := 59) (p := 101) (len := 16) eX12_third_27 rfl (by repeat (first | exact sl_u_eq | assumption | apply rf_ne (by decide) | exact rfl)) (by omega) (by decide) y2 ?_
        refine slv_if_eqB eX12_third_28 (fun h28 => ?_) (fun h28 => absurd h28 (by decide))
        refine slv_aload_n eX12_third_44 rfl ?_
        refine slr_ga (p := 97) eX12_third_45 fX12_101 rfl ?_
        refine slv_iconst (v := nI 0) eX12_third_48 (by decide) ?_
        refine slr_ialdX (k := 55) (p := 97) (len := 16) eX12_third_49 rfl (by repeat (first | exact sl_u_eq | assumption | apply rf_ne (by decide) | exact rfl)) (by omega) (by decide) y1 ?_
        refine slv_i2d eX12_third_50 ?_
        refine slv_dstore_n (i := 1) (lv' := [_, _, _]) eX12_third_51 rfl (by decide) rfl ?_
        refine slv_aload_n eX12_third_52 rfl ?_
        refine slv_iconst (v := nI 0) eX12_third_53 (by decide) ?_
        refine slv_rV (As := [_]) eX12_third_54 lX12_314 rfl rfl rf_68 rfl (c_X12_good _) (by decide) (Nat.le_of_ble_eq_true rfl) ?_
        refine slv_pop eX12_third_57 rfl ?_
        refine slv_dload_n eX12_third_58 rfl ?_
        refine slv_ldc2d eX12_third_59 kX12_549 ?_
        refine slv_ddiv eX12_third_62 (fun r62 a62 => ?_)
        refine slv_rS (As := [_]) eX12_third_63 lX12_551 rfl rfl (c_dbits _ _) (by decide) (Nat.le_of_ble_eq_true rfl) ?_
        refine slv_lret eX12_third_66 rfl ?_
        rw [db_b_alike a62, db_div]
        exact qAL_1 0 zF
    refine slv_aload_n eX12_third_0 rfl ?_
    refine slv_iconst (v := nI 0) eX12_third_1 (by decide) ?_
    refine slr_pi eX12_third_2 fX12_149 (Nat.le_of_ble_eq_true rfl) rf_s0 ?_
    refine slv_aload_n eX12_third_5 rfl ?_
    refine slv_callV (As := []) eX12_third_6 lX12_542 rfl rfl rf_68 rfl hN (by decide) (Nat.le_of_ble_eq_true rfl) (Nat.zero_add _).symm (Nat.zero_add _).symm (Or.inl rfl) ?_
    rintro _ _ ⟨rfl, v2, a2, rfl, z1, z2⟩
    refine slv_if_neB eX12_third_9 (fun h9 => ?_) (fun h9 => absurd h9 (by decide))
    exact aft v2 a2 (z2 hb.1) z1
end RTH

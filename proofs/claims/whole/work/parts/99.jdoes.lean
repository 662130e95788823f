/-! what the reference does: minus, real -/
section RDQ
variable {v : Nat → Int32} {w : Int64} {a : Nat → Nat → Int32} {nm : Nat → Int64} {M : sl_M} {Q : Option Value → sl_M → Prop}
theorem cn_q {B : Int32} (h : fl_b B.toUInt32 = B) : vn_sni2f B = false := by
  rw [← h]
  exact fl_b_q _ (fun _ => trivial)
set_option maxRecDepth 100000 in
theorem do_7 {k r fr : Nat} {R : Bool} {B : Int32} (hk : k ≤ 2) (hkn : v 22 = nI k) (hf : v 62 = nI 0) (hr : r < 12) (hd : a 6 r = nI 7) (h1 : a 68 0 = B) (h2 : a 76 0 = sl_bi R) (h3 : R = true → fl_b B.toUInt32 = B) (hQ : doQ w nm M (rd_vk k (true, cond R B (FP.i2f B).toInt32)) v a Q) : sl_V YX12_does none 4 0 0 Q 0 [some (.ref 68), some (.int (nI r)), some (.int (nI fr))] [] (rf_S v w a nm M) := by
  have hRe := c_X12_real (v := v) (w := w) (nm := nm) (M := M) (i := 0) (by omega) h2 h1 (fun q => cn_q (h3 q))
  refine slv_aload_n eX12_does_0 rfl ?_
  refine slr_ga (p := 72) eX12_does_1 fX12_23 rfl ?_
  refine slv_iload_n eX12_does_4 rfl ?_
  refine slr_ialdX (k := 6) (p := 72) (len := 12) eX12_does_5 rfl (by repeat (first | exact sl_u_eq | assumption | apply rf_ne (by decide) | exact rfl)) (by omega) (by decide) hd ?_
  refine slv_tableIn (off := 147) (t := 153) eX12_does_6 (by decide) (by decide) (by decide) (by decide) ?_
  refine slv_aload_n eX12_does_153 rfl ?_
  refine slv_aload_n eX12_does_154 rfl ?_
  refine slv_iconst (v := nI 0) eX12_does_155 (by decide) ?_
  refine slv_rV (As := [_]) eX12_does_156 lX12_493 rfl rfl rf_68 rfl hRe (by decide) (Nat.le_of_ble_eq_true rfl) ?_
  refine slv_rV (As := [_]) eX12_does_159 lX12_495 rfl rfl rf_68 rfl (c_X12_makesReal _) (by decide) (Nat.le_of_ble_eq_true rfl) ?_
  refine slv_goto eX12_does_162 ?_
  refine do_228 hk ?_ ?_ ?_ ?_ (doQ_2 hQ (do_f1 _ _))
  · exact hkn
  · exact hf
  · rfl
  show fl_b (cond R B.toUInt32 (FP.i2f B)) = cond R B (FP.i2f B).toInt32
  cases R with
  | true => exact h3 rfl
  | false => exact fl_i2f B
set_option maxRecDepth 100000 in
theorem do_4 {k r fr : Nat} {R : Bool} {B : Int32} (hk : k ≤ 2) (hkn : v 22 = nI k) (hf : v 62 = nI 0) (hr : r < 12) (hd : a 6 r = nI 4) (h1 : a 68 0 = B) (h2 : a 76 0 = sl_bi R) (h3 : R = true → fl_b B.toUInt32 = B) (hQ : doQ w nm M (rd_vk k (R, cond R (rr_neg B) (-B))) v a Q) : sl_V YX12_does none 4 0 0 Q 0 [some (.ref 68), some (.int (nI r)), some (.int (nI fr))] [] (rf_S v w a nm M) := by
  have hRe := c_X12_real (v := v) (w := w) (nm := nm) (M := M) (i := 0) (by omega) h2 h1 (fun q => cn_q (h3 q))
  cases R with
  | true =>
    refine slv_aload_n eX12_does_0 rfl ?_
    refine slr_ga (p := 72) eX12_does_1 fX12_23 rfl ?_
    refine slv_iload_n eX12_does_4 rfl ?_
    refine slr_ialdX (k := 6) (p := 72) (len := 12) eX12_does_5 rfl (by repeat (first | exact sl_u_eq | assumption | apply rf_ne (by decide) | exact rfl)) (by omega) (by decide) hd ?_
    refine slv_tableIn (off := 57) (t := 63) eX12_does_6 (by decide) (by decide) (by decide) (by decide) ?_
    refine slv_aload_n eX12_does_63 rfl ?_
    refine slr_ga (p := 112) eX12_does_64 fX12_146 rfl ?_
    refine slv_iconst (v := nI 0) eX12_does_67 (by decide) ?_
    refine slr_zaldX (k := 76) (p := 112) (len := 17) eX12_does_68 rfl (by repeat (first | exact sl_u_eq | assumption | apply rf_ne (by decide) | exact rfl)) (by omega) (by decide) h2 ?_
    refine slv_if_eqB eX12_does_69 (fun h69 => absurd h69 (by decide)) (fun h69 => ?_)
    refine slv_aload_n eX12_does_72 rfl ?_
    refine slv_aload_n eX12_does_73 rfl ?_
    refine slv_iconst (v := nI 0) eX12_does_74 (by decide) ?_
    refine slv_rV (As := [_]) eX12_does_75 lX12_493 rfl rfl rf_68 rfl hRe (by decide) (Nat.le_of_ble_eq_true rfl) ?_
    refine slv_fneg eX12_does_78 ?_
    refine slv_rV (As := [_]) eX12_does_79 lX12_495 rfl rfl rf_68 rfl (c_X12_makesReal _) (by decide) (Nat.le_of_ble_eq_true rfl) ?_
    refine slv_goto eX12_does_82 ?_
    refine do_228 hk ?_ ?_ ?_ ?_ (doQ_2 hQ (do_f1 _ _))
    · exact hkn
    · exact hf
    · rfl
    · exact fl_neg B
  | false =>
    refine slv_aload_n eX12_does_0 rfl ?_
    refine slr_ga (p := 72) eX12_does_1 fX12_23 rfl ?_
    refine slv_iload_n eX12_does_4 rfl ?_
    refine slr_ialdX (k := 6) (p := 72) (len := 12) eX12_does_5 rfl (by repeat (first | exact sl_u_eq | assumption | apply rf_ne (by decide) | exact rfl)) (by omega) (by decide) hd ?_
    refine slv_tableIn (off := 57) (t := 63) eX12_does_6 (by decide) (by decide) (by decide) (by decide) ?_
    refine slv_aload_n eX12_does_63 rfl ?_
    refine slr_ga (p := 112) eX12_does_64 fX12_146 rfl ?_
    refine slv_iconst (v := nI 0) eX12_does_67 (by decide) ?_
    refine slr_zaldX (k := 76) (p := 112) (len := 17) eX12_does_68 rfl (by repeat (first | exact sl_u_eq | assumption | apply rf_ne (by decide) | exact rfl)) (by omega) (by decide) h2 ?_
    refine slv_if_eqB eX12_does_69 (fun h69 => ?_) (fun h69 => absurd h69 (by decide))
    refine slv_aload_n eX12_does_85 rfl ?_
    refine slv_aload_n eX12_does_86 rfl ?_
    refine slr_ga (p := 104) eX12_does_87 fX12_122 rfl ?_
    refine slv_iconst (v := nI 0) eX12_does_90 (by decide) ?_
    refine slr_ialdX (k := 68) (p := 104) (len := 17) eX12_does_91 rfl (by repeat (first | exact sl_u_eq | assumption | apply rf_ne (by decide) | exact rfl)) (by omega) (by decide) h1 ?_
    refine slv_ineg eX12_does_92 ?_
    refine slv_rV (As := [_]) eX12_does_93 lX12_499 rfl rfl rf_68 rfl (c_X12_makes _) (by decide) (Nat.le_of_ble_eq_true rfl) ?_
    refine slv_goto eX12_does_96 ?_
    refine do_228 hk ?_ ?_ ?_ ?_ (doQ_2 hQ (do_f1 _ _))
    · exact hkn
    · exact hf
    · rfl
    · rfl
end RDQ

/-! what the reference does: two values -/
section RDR
variable {v : Nat → Int32} {w : Int64} {a : Nat → Nat → Int32} {nm : Nat → Int64} {M : sl_M} {Q : Option Value → sl_M → Prop}
theorem rb_re {R : Bool} {B : Int32} : (cond R B.toUInt32 (FP.i2f B)) = (cond R B (FP.i2f B).toInt32).toUInt32 := by cases R <;> rfl
set_option maxRecDepth 100000 in
theorem do_re {d k r fr : Nat} {R R' : Bool} {B B' : Int32} (hd4 : d < 4) (hk : k ≤ 2) (hkn : v 22 = nI k) (hf : v 62 = nI 0) (hr : r < 12) (hd : a 6 r = nI d) (h1 : a 68 0 = B) (h2 : a 76 0 = sl_bi R) (h3 : R = true → fl_b B.toUInt32 = B) (g1 : a 68 1 = B') (g2 : a 76 1 = sl_bi R') (g3 : R' = true → fl_b B'.toUInt32 = B') (hQ : doQ w nm M (rd_vk k (true, rr_r d (cond R B (FP.i2f B).toInt32) (cond R' B' (FP.i2f B').toInt32))) v a Q) : sl_V YX12_does none 4 0 0 Q 183 [some (.ref 68), some (.int (nI r)), some (.int (nI fr))] [] (rf_S v w a nm M) := by
  have hRe := c_X12_real (v := v) (w := w) (nm := nm) (M := M) (i := 0) (by omega) h2 h1 (fun q => cn_q (h3 q))
  have hRf := c_X12_real (v := v) (w := w) (nm := nm) (M := M) (i := 1) (by omega) g2 g1 (fun q => cn_q (g3 q))
  rw [rr_r_fj, ← rb_re, ← rb_re] at hQ
  refine slv_aload_n eX12_does_183 rfl ?_
  refine slv_aload_n eX12_does_184 rfl ?_
  refine slr_ga (p := 72) eX12_does_185 fX12_23 rfl ?_
  refine slv_iload_n eX12_does_188 rfl ?_
  refine slr_ialdX (k := 6) (p := 72) (len := 12) eX12_does_189 rfl (by repeat (first | exact sl_u_eq | assumption | apply rf_ne (by decide) | exact rfl)) (by omega) (by decide) hd ?_
  refine slv_aload_n eX12_does_190 rfl ?_
  refine slv_iconst (v := nI 0) eX12_does_191 (by decide) ?_
  refine slv_rV (As := [_]) eX12_does_192 lX12_493 rfl rfl rf_68 rfl hRe (by decide) (Nat.le_of_ble_eq_true rfl) ?_
  refine slv_aload_n eX12_does_195 rfl ?_
  refine slv_iconst (v := nI 1) eX12_does_196 (by decide) ?_
  refine slv_rV (As := [_]) eX12_does_197 lX12_493 rfl rfl rf_68 rfl hRf (by decide) (Nat.le_of_ble_eq_true rfl) ?_
  refine slv_rV (As := [_, _, _]) eX12_does_200 lX12_502 rfl rfl rf_68 rfl (c_X12_doesReals hd4 _ _) (by decide) (Nat.le_of_ble_eq_true rfl) ?_
  refine slv_goto eX12_does_203 ?_
  refine do_228 hk ?_ ?_ ?_ ?_ (doQ_2 hQ (do_f1 _ _))
  · exact hkn
  · exact hf
  · rfl
  · rfl
end RDR

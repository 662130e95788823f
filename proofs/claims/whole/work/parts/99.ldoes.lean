/-! what the reference does: two values, of whatever kind -/
section RDS
variable {v : Nat → Int32} {w : Int64} {a : Nat → Nat → Int32} {nm : Nat → Int64} {M : sl_M} {Q : Option Value → sl_M → Prop}
set_option maxRecDepth 100000 in
theorem do_wh {d k r fr : Nat} {B B' : Int32} (hd4 : d < 4) (hk : k ≤ 2) (hkn : v 22 = nI k) (hf : v 62 = nI 0) (hr : r < 12) (hd : a 6 r = nI d) (h1 : a 68 0 = B) (g1 : a 68 1 = B') (hQ : ¬ (d = 3 ∧ B' = 0) → doQ w nm M (rd_vk k (false, rr_w d B B')) v a Q) (hQ6 : d = 3 ∧ B' = 0 → Q none (rf_S (sl_u v 62 (nI 6)) w a nm M)) : sl_V YX12_does none 4 0 0 Q 206 [some (.ref 68), some (.int (nI r)), some (.int (nI fr))] [] (rf_S v w a nm M) := by
  have hW := c_X12_doesWholes (v := v) (w := w) (a := a) (nm := nm) (M := M) hd4 B B'
  by_cases h6 : d = 3 ∧ B' = 0
  · rw [if_pos h6] at hW
    have q := hQ6 h6
    refine slv_aload_n eX12_does_206 rfl ?_
    refine slv_aload_n eX12_does_207 rfl ?_
    refine slr_ga (p := 72) eX12_does_208 fX12_23 rfl ?_
    refine slv_iload_n eX12_does_211 rfl ?_
    refine slr_ialdX (k := 6) (p := 72) (len := 12) eX12_does_212 rfl (by repeat (first | exact sl_u_eq | assumption | apply rf_ne (by decide) | exact rfl)) (by omega) (by decide) hd ?_
    refine slv_aload_n eX12_does_213 rfl ?_
    refine slr_ga (p := 104) eX12_does_214 fX12_122 rfl ?_
    refine slv_iconst (v := nI 0) eX12_does_217 (by decide) ?_
    refine slr_ialdX (k := 68) (p := 104) (len := 17) eX12_does_218 rfl (by repeat (first | exact sl_u_eq | assumption | apply rf_ne (by decide) | exact rfl)) (by omega) (by decide) h1 ?_
    refine slv_aload_n eX12_does_219 rfl ?_
    refine slr_ga (p := 104) eX12_does_220 fX12_122 rfl ?_
    refine slv_iconst (v := nI 1) eX12_does_223 (by decide) ?_
    refine slr_ialdX (k := 68) (p := 104) (len := 17) eX12_does_224 rfl (by repeat (first | exact sl_u_eq | assumption | apply rf_ne (by decide) | exact rfl)) (by omega) (by decide) g1 ?_
    refine slv_rV (As := [_, _, _]) eX12_does_225 lX12_506 rfl rfl rf_68 rfl hW (by decide) (Nat.le_of_ble_eq_true rfl) ?_
    refine slv_aload_n eX12_does_228 rfl ?_
    refine slr_gi eX12_does_229 fX12_441 rfl (by repeat (first | exact sl_u_eq | assumption | apply rf_ne (by decide) | exact rfl)) ?_
    refine slv_if_neN eX12_does_232 (by omega) (fun h232 => ?_) (fun h232 => absurd h232 (by omega))
    refine slv_vret eX12_does_270 rfl ?_
    exact q
  · rw [if_neg h6] at hW
    have hQ := hQ h6
    refine slv_aload_n eX12_does_206 rfl ?_
    refine slv_aload_n eX12_does_207 rfl ?_
    refine slr_ga (p := 72) eX12_does_208 fX12_23 rfl ?_
    refine slv_iload_n eX12_does_211 rfl ?_
    refine slr_ialdX (k := 6) (p := 72) (len := 12) eX12_does_212 rfl (by repeat (first | exact sl_u_eq | assumption | apply rf_ne (by decide) | exact rfl)) (by omega) (by decide) hd ?_
    refine slv_aload_n eX12_does_213 rfl ?_
    refine slr_ga (p := 104) eX12_does_214 fX12_122 rfl ?_
    refine slv_iconst (v := nI 0) eX12_does_217 (by decide) ?_
    refine slr_ialdX (k := 68) (p := 104) (len := 17) eX12_does_218 rfl (by repeat (first | exact sl_u_eq | assumption | apply rf_ne (by decide) | exact rfl)) (by omega) (by decide) h1 ?_
    refine slv_aload_n eX12_does_219 rfl ?_
    refine slr_ga (p := 104) eX12_does_220 fX12_122 rfl ?_
    refine slv_iconst (v := nI 1) eX12_does_223 (by decide) ?_
    refine slr_ialdX (k := 68) (p := 104) (len := 17) eX12_does_224 rfl (by repeat (first | exact sl_u_eq | assumption | apply rf_ne (by decide) | exact rfl)) (by omega) (by decide) g1 ?_
    refine slv_rV (As := [_, _, _]) eX12_does_225 lX12_506 rfl rfl rf_68 rfl hW (by decide) (Nat.le_of_ble_eq_true rfl) ?_
    refine do_228 hk ?_ ?_ ?_ ?_ (doQ_2 hQ (do_f1 _ _))
    · exact hkn
    · exact hf
    · rfl
    · rfl
end RDS

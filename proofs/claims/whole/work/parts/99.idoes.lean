/-! what the reference does: number, minus, parentheses, whole, real -/
section RDP
variable {v : Nat → Int32} {w : Int64} {a : Nat → Nat → Int32} {nm : Nat → Int64} {M : sl_M} {Q : Option Value → sl_M → Prop}
theorem doQ_2 {V : Nat × Bool × Int32} (hQ : doQ w nm M V v a Q) {v1 : Nat → Int32} (h : ∀ k, k ∉ [79, 80, 62] → v1 k = v k) : doQ w nm M V v1 a Q := fun v' e1 e2 e3 => hQ v' (fun k hk => (e1 k hk).trans (h k hk)) e2 e3
theorem do_f1 (x y : Int32) : ∀ k, k ∉ [79, 80, 62] → (sl_u (sl_u v 80 x) 79 y) k = v k := fun k hk => by
  rw [sl_u_ne (fun e => hk (by rw [e]; decide)), sl_u_ne (fun e => hk (by rw [e]; decide))]
theorem do_f2 (x y : Int32) : ∀ k, k ∉ [79, 80, 62] → (sl_u (sl_u v 79 x) 80 y) k = v k := fun k hk => by
  rw [sl_u_ne (fun e => hk (by rw [e]; decide)), sl_u_ne (fun e => hk (by rw [e]; decide))]
set_option maxRecDepth 100000 in
theorem do_8 {k r fr : Nat} {R : Bool} {B : Int32} (hk : k ≤ 2) (hkn : v 22 = nI k) (hf : v 62 = nI 0) (hr : r < 12) (hfr : fr < 16) (hd : a 6 r = nI 8) (h1 : a 56 fr = B) (h2 : a 60 fr = sl_bi R) (hQ : doQ w nm M (rd_vk k (R, B)) v a Q) : sl_V YX12_does none 4 0 0 Q 0 [some (.ref 68), some (.int (nI r)), some (.int (nI fr))] [] (rf_S v w a nm M) := by
  refine slv_aload_n eX12_does_0 rfl ?_
  refine slr_ga (p := 72) eX12_does_1 fX12_23 rfl ?_
  refine slv_iload_n eX12_does_4 rfl ?_
  refine slr_ialdX (k := 6) (p := 72) (len := 12) eX12_does_5 rfl (by repeat (first | exact sl_u_eq | assumption | apply rf_ne (by decide) | exact rfl)) (by omega) (by decide) hd ?_
  refine slv_tableIn (off := 34) (t := 40) eX12_does_6 (by decide) (by decide) (by decide) (by decide) ?_
  refine slv_aload_n eX12_does_40 rfl ?_
  refine slv_aload_n eX12_does_41 rfl ?_
  refine slr_ga (p := 98) eX12_does_42 fX12_104 rfl ?_
  refine slv_iload_n eX12_does_45 rfl ?_
  refine slr_ialdX (k := 56) (p := 98) (len := 16) eX12_does_46 rfl (by repeat (first | exact sl_u_eq | assumption | apply rf_ne (by decide) | exact rfl)) (by omega) (by decide) h1 ?_
  refine slr_pi eX12_does_47 fX12_480 (Nat.le_of_ble_eq_true rfl) rf_s79 ?_
  refine slv_aload_n eX12_does_50 rfl ?_
  refine slv_aload_n eX12_does_51 rfl ?_
  refine slr_ga (p := 102) eX12_does_52 fX12_116 rfl ?_
  refine slv_iload_n eX12_does_55 rfl ?_
  refine slr_zaldX (k := 60) (p := 102) (len := 16) eX12_does_56 rfl (by repeat (first | exact sl_u_eq | assumption | apply rf_ne (by decide) | exact rfl)) (by omega) (by decide) h2 ?_
  refine slr_pz eX12_does_57 fX12_483 (Nat.le_of_ble_eq_true rfl) (sl_bi_nar R) (sl_bi_fit R) rf_s80 ?_
  refine slv_goto eX12_does_60 ?_
  refine do_228 hk ?_ ?_ ?_ ?_ (doQ_2 hQ (do_f2 _ _))
  · exact hkn
  · exact hf
  · rfl
  · rfl
set_option maxRecDepth 100000 in
theorem do_6 {k r fr : Nat} {R : Bool} {B : Int32} (hk : k ≤ 2) (hkn : v 22 = nI k) (hf : v 62 = nI 0) (hr : r < 12) (hd : a 6 r = nI 6) (h1 : a 68 0 = B) (h2 : a 76 0 = sl_bi R) (h3 : R = true → vn_sni2f B = false) (hQ : doQ w nm M (rd_vk k (false, cond R (FP.f2i B.toUInt32) B)) v a Q) : sl_V YX12_does none 4 0 0 Q 0 [some (.ref 68), some (.int (nI r)), some (.int (nI fr))] [] (rf_S v w a nm M) := by
  have hRe := c_X12_real (v := v) (w := w) (nm := nm) (M := M) (i := 0) (by omega) h2 h1 h3
  cases R with
  | true =>
    refine slv_aload_n eX12_does_0 rfl ?_
    refine slr_ga (p := 72) eX12_does_1 fX12_23 rfl ?_
    refine slv_iload_n eX12_does_4 rfl ?_
    refine slr_ialdX (k := 6) (p := 72) (len := 12) eX12_does_5 rfl (by repeat (first | exact sl_u_eq | assumption | apply rf_ne (by decide) | exact rfl)) (by omega) (by decide) hd ?_
    refine slv_tableIn (off := 116) (t := 122) eX12_does_6 (by decide) (by decide) (by decide) (by decide) ?_
    refine slv_aload_n eX12_does_122 rfl ?_
    refine slv_aload_n eX12_does_123 rfl ?_
    refine slr_ga (p := 112) eX12_does_124 fX12_146 rfl ?_
    refine slv_iconst (v := nI 0) eX12_does_127 (by decide) ?_
    refine slr_zaldX (k := 76) (p := 112) (len := 17) eX12_does_128 rfl (by repeat (first | exact sl_u_eq | assumption | apply rf_ne (by decide) | exact rfl)) (by omega) (by decide) h2 ?_
    refine slv_if_eqB eX12_does_129 (fun h129 => absurd h129 (by decide)) (fun h129 => ?_)
    refine slv_aload_n eX12_does_132 rfl ?_
    refine slv_iconst (v := nI 0) eX12_does_133 (by decide) ?_
    refine slv_rV (As := [_]) eX12_does_134 lX12_493 rfl rfl rf_68 rfl hRe (by decide) (Nat.le_of_ble_eq_true rfl) ?_
    refine slv_f2i eX12_does_137 ?_
    refine slv_goto eX12_does_138 ?_
    refine slv_rV (As := [_]) eX12_does_147 lX12_499 rfl rfl rf_68 rfl (c_X12_makes _) (by decide) (Nat.le_of_ble_eq_true rfl) ?_
    refine slv_goto eX12_does_150 ?_
    refine do_228 hk ?_ ?_ ?_ ?_ (doQ_2 hQ (do_f1 _ _))
    · exact hkn
    · exact hf
    · rfl
    · rfl
  | false =>
    refine slv_aload_n eX12_does_0 rfl ?_
    refine slr_ga (p := 72) eX12_does_1 fX12_23 rfl ?_
    refine slv_iload_n eX12_does_4 rfl ?_
    refine slr_ialdX (k := 6) (p := 72) (len := 12) eX12_does_5 rfl (by repeat (first | exact sl_u_eq | assumption | apply rf_ne (by decide) | exact rfl)) (by omega) (by decide) hd ?_
    refine slv_tableIn (off := 116) (t := 122) eX12_does_6 (by decide) (by decide) (by decide) (by decide) ?_
    refine slv_aload_n eX12_does_122 rfl ?_
    refine slv_aload_n eX12_does_123 rfl ?_
    refine slr_ga (p := 112) eX12_does_124 fX12_146 rfl ?_
    refine slv_iconst (v := nI 0) eX12_does_127 (by decide) ?_
    refine slr_zaldX (k := 76) (p := 112) (len := 17) eX12_does_128 rfl (by repeat (first | exact sl_u_eq | assumption | apply rf_ne (by decide) | exact rfl)) (by omega) (by decide) h2 ?_
    refine slv_if_eqB eX12_does_129 (fun h129 => ?_) (fun h129 => absurd h129 (by decide))
    refine slv_aload_n eX12_does_141 rfl ?_
    refine slr_ga (p := 104) eX12_does_142 fX12_122 rfl ?_
    refine slv_iconst (v := nI 0) eX12_does_145 (by decide) ?_
    refine slr_ialdX (k := 68) (p := 104) (len := 17) eX12_does_146 rfl (by repeat (first | exact sl_u_eq | assumption | apply rf_ne (by decide) | exact rfl)) (by omega) (by decide) h1 ?_
    refine slv_rV (As := [_]) eX12_does_147 lX12_499 rfl rfl rf_68 rfl (c_X12_makes _) (by decide) (Nat.le_of_ble_eq_true rfl) ?_
    refine slv_goto eX12_does_150 ?_
    refine do_228 hk ?_ ?_ ?_ ?_ (doQ_2 hQ (do_f1 _ _))
    · exact hkn
    · exact hf
    · rfl
    · rfl
set_option maxRecDepth 100000 in
theorem do_5 {k r fr : Nat} {R : Bool} {B : Int32} (hk : k ≤ 2) (hkn : v 22 = nI k) (hf : v 62 = nI 0) (hr : r < 12) (hd : a 6 r = nI 5) (h1 : a 68 0 = B) (h2 : a 76 0 = sl_bi R) (hQ : doQ w nm M (rd_vk k (R, B)) v a Q) : sl_V YX12_does none 4 0 0 Q 0 [some (.ref 68), some (.int (nI r)), some (.int (nI fr))] [] (rf_S v w a nm M) := by
  refine slv_aload_n eX12_does_0 rfl ?_
  refine slr_ga (p := 72) eX12_does_1 fX12_23 rfl ?_
  refine slv_iload_n eX12_does_4 rfl ?_
  refine slr_ialdX (k := 6) (p := 72) (len := 12) eX12_does_5 rfl (by repeat (first | exact sl_u_eq | assumption | apply rf_ne (by decide) | exact rfl)) (by omega) (by decide) hd ?_
  refine slv_tableIn (off := 93) (t := 99) eX12_does_6 (by decide) (by decide) (by decide) (by decide) ?_
  refine slv_aload_n eX12_does_99 rfl ?_
  refine slv_aload_n eX12_does_100 rfl ?_
  refine slr_ga (p := 104) eX12_does_101 fX12_122 rfl ?_
  refine slv_iconst (v := nI 0) eX12_does_104 (by decide) ?_
  refine slr_ialdX (k := 68) (p := 104) (len := 17) eX12_does_105 rfl (by repeat (first | exact sl_u_eq | assumption | apply rf_ne (by decide) | exact rfl)) (by omega) (by decide) h1 ?_
  refine slr_pi eX12_does_106 fX12_480 (Nat.le_of_ble_eq_true rfl) rf_s79 ?_
  refine slv_aload_n eX12_does_109 rfl ?_
  refine slv_aload_n eX12_does_110 rfl ?_
  refine slr_ga (p := 112) eX12_does_111 fX12_146 rfl ?_
  refine slv_iconst (v := nI 0) eX12_does_114 (by decide) ?_
  refine slr_zaldX (k := 76) (p := 112) (len := 17) eX12_does_115 rfl (by repeat (first | exact sl_u_eq | assumption | apply rf_ne (by decide) | exact rfl)) (by omega) (by decide) h2 ?_
  refine slr_pz eX12_does_116 fX12_483 (Nat.le_of_ble_eq_true rfl) (sl_bi_nar R) (sl_bi_fit R) rf_s80 ?_
  refine slv_goto eX12_does_119 ?_
  refine do_228 hk ?_ ?_ ?_ ?_ (doQ_2 hQ (do_f2 _ _))
  · exact hkn
  · exact hf
  · rfl
  · rfl
end RDP

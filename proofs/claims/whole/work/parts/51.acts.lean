def fd_b (a : Int32) (n : Nat) : Int32 := vp_nar .byte ((a >>> (nI n &&& 31)).toInt8.toInt32)
def fd_4 (f : Nat → Int32) (n : Nat) (a : Int32) : Nat → Int32 := sl_u (sl_u (sl_u (sl_u f n (fd_b a 24)) (n + 1) (fd_b a 16)) (n + 1 + 1) (fd_b a 8)) (n + 1 + 1 + 1) (fd_b a 0)
def fd_20 (f : Nat → Int32) (n : Nat) (a b c d e : Int32) : Nat → Int32 := fd_4 (fd_4 (fd_4 (fd_4 (fd_4 f n a) (n + 4) b) (n + 8) c) (n + 12) d) (n + 16) e
abbrev tp_set (f : Nat → Int32) (M : sl_M) : sl_M := sl_up M 1 (.inl (.byte, 900, .inl f))
section ACX
variable {fd db sb lf lt : Nat} {sn tl : Bool} {lp : Int32} {g : sg_T} {M : sl_M} {f : Nat → Int32}
theorem tp_u {cc : sl_E} {f' : Nat → Int32} : sl_up (sl_up (tp_set f M) 0 cc) 1 (.inl (.byte, 900, .inl f')) = sl_up (tp_set f' M) 0 cc := by
  rw [sl_up_comm (by decide), sl_up_up]
set_option maxRecDepth 100000 in
theorem c_X11_putBytes (hf : fd + 4 ≤ 900) (a : Int32) : sl_R YX11_putBytes 0 [.ref 0, .int a] (ob_set fd db sb sn tl lf lt lp (tp_set f M)) none (ob_set (fd + 4) db sb sn tl lf lt lp (tp_set (fd_4 f fd a) M)) := by
  refine sl_T.of_V (lv := [_, _, _]) (by decide) rfl (Nat.le_of_ble_eq_true rfl) ?_
  refine slv_bipush (v := nI 24) eX11_putBytes_0 (by decide) ?_
  refine slv_istore_n (i := 2) (lv' := [_, _, _]) eX11_putBytes_2 rfl (by decide) rfl ?_
  refine slv_iload_n eX11_putBytes_3 rfl ?_
  refine slv_if_lt eX11_putBytes_4 (fun h4 => absurd h4 (by decide)) (fun h4 => ?_)
  refine slv_aload_n eX11_putBytes_7 rfl ?_
  refine slv_getf eX11_putBytes_8 fX11_68 (by repeat (first | assumption | exact sl_up_eq | refine sl_up_ne (by first | decide | omega) ?_)) rfl ?_
  refine slv_sipush (v := nI 900) eX11_putBytes_11 (by decide) ?_
  refine slv_icmp_geN eX11_putBytes_14 (by omega) (by omega) (fun h14 => absurd h14 (by omega)) (fun h14 => ?_)
  refine slv_aload_n eX11_putBytes_17 rfl ?_
  refine slv_getf eX11_putBytes_18 fX11_9 (by repeat (first | assumption | exact sl_up_eq | refine sl_up_ne (by first | decide | omega) ?_)) rfl ?_
  refine slv_aload_n eX11_putBytes_21 rfl ?_
  refine slv_getf eX11_putBytes_22 fX11_68 (by repeat (first | assumption | exact sl_up_eq | refine sl_up_ne (by first | decide | omega) ?_)) rfl ?_
  refine slv_iload_n eX11_putBytes_25 rfl ?_
  refine slv_iload_n eX11_putBytes_26 rfl ?_
  refine slv_ishr eX11_putBytes_27 ?_
  refine slv_i2b eX11_putBytes_28 rfl ?_
  refine slv_bastI eX11_putBytes_29 (by repeat (first | assumption | exact sl_up_eq | refine sl_up_ne (by first | decide | omega) ?_)) (by omega) (by decide) ?_
  refine slv_mem tp_u ?_
  refine slv_aload_n eX11_putBytes_30 rfl ?_
  refine slv_dup eX11_putBytes_31 rfl ?_
  refine slv_getf eX11_putBytes_32 fX11_68 (by repeat (first | assumption | exact sl_up_eq | refine sl_up_ne (by first | decide | omega) ?_)) rfl ?_
  refine slv_iconst (v := nI 1) eX11_putBytes_35 (by decide) ?_
  refine slv_iaddN eX11_putBytes_36 ?_
  refine slv_putf (fs' := [_, _, _, _, _, _, _, _, _, _, _, _, _, _, _, _]) eX11_putBytes_37 fX11_68 (by repeat (first | assumption | exact sl_up_eq | refine sl_up_ne (by first | decide | omega) ?_)) (Nat.le_of_ble_eq_true rfl) rfl rfl rfl ?_
  refine slv_mem ob_u0 ?_
  refine slv_iinc (y := nI 16) (lv' := [_, _, _]) eX11_putBytes_40 rfl (by decide) (by decide) rfl ?_
  refine slv_goto eX11_putBytes_43 ?_
  refine slv_iload_n eX11_putBytes_3 rfl ?_
  refine slv_if_lt eX11_putBytes_4 (fun h4 => absurd h4 (by decide)) (fun h4 => ?_)
  refine slv_aload_n eX11_putBytes_7 rfl ?_
  refine slv_getf eX11_putBytes_8 fX11_68 (by repeat (first | assumption | exact sl_up_eq | refine sl_up_ne (by first | decide | omega) ?_)) rfl ?_
  refine slv_sipush (v := nI 900) eX11_putBytes_11 (by decide) ?_
  refine slv_icmp_geN eX11_putBytes_14 (by omega) (by omega) (fun h14 => absurd h14 (by omega)) (fun h14 => ?_)
  refine slv_aload_n eX11_putBytes_17 rfl ?_
  refine slv_getf eX11_putBytes_18 fX11_9 (by repeat (first | assumption | exact sl_up_eq | refine sl_up_ne (by first | decide | omega) ?_)) rfl ?_
  refine slv_aload_n eX11_putBytes_21 rfl ?_
  refine slv_getf eX11_putBytes_22 fX11_68 (by repeat (first | assumption | exact sl_up_eq | refine sl_up_ne (by first | decide | omega) ?_)) rfl ?_
  refine slv_iload_n eX11_putBytes_25 rfl ?_
  refine slv_iload_n eX11_putBytes_26 rfl ?_
  refine slv_ishr eX11_putBytes_27 ?_
  refine slv_i2b eX11_putBytes_28 rfl ?_
  refine slv_bastI eX11_putBytes_29 (by repeat (first | assumption | exact sl_up_eq | refine sl_up_ne (by first | decide | omega) ?_)) (by omega) (by decide) ?_
  refine slv_mem tp_u ?_
  refine slv_aload_n eX11_putBytes_30 rfl ?_
  refine slv_dup eX11_putBytes_31 rfl ?_
  refine slv_getf eX11_putBytes_32 fX11_68 (by repeat (first | assumption | exact sl_up_eq | refine sl_up_ne (by first | decide | omega) ?_)) rfl ?_
  refine slv_iconst (v := nI 1) eX11_putBytes_35 (by decide) ?_
  refine slv_iaddN eX11_putBytes_36 ?_
  refine slv_putf (fs' := [_, _, _, _, _, _, _, _, _, _, _, _, _, _, _, _]) eX11_putBytes_37 fX11_68 (by repeat (first | assumption | exact sl_up_eq | refine sl_up_ne (by first | decide | omega) ?_)) (Nat.le_of_ble_eq_true rfl) rfl rfl rfl ?_
  refine slv_mem ob_u0 ?_
  refine slv_iinc (y := nI 8) (lv' := [_, _, _]) eX11_putBytes_40 rfl (by decide) (by decide) rfl ?_
  refine slv_goto eX11_putBytes_43 ?_
  refine slv_iload_n eX11_putBytes_3 rfl ?_
  refine slv_if_lt eX11_putBytes_4 (fun h4 => absurd h4 (by decide)) (fun h4 => ?_)
  refine slv_aload_n eX11_putBytes_7 rfl ?_
  refine slv_getf eX11_putBytes_8 fX11_68 (by repeat (first | assumption | exact sl_up_eq | refine sl_up_ne (by first | decide | omega) ?_)) rfl ?_
  refine slv_sipush (v := nI 900) eX11_putBytes_11 (by decide) ?_
  refine slv_icmp_geN eX11_putBytes_14 (by omega) (by omega) (fun h14 => absurd h14 (by omega)) (fun h14 => ?_)
  refine slv_aload_n eX11_putBytes_17 rfl ?_
  refine slv_getf eX11_putBytes_18 fX11_9 (by repeat (first | assumption | exact sl_up_eq | refine sl_up_ne (by first | decide | omega) ?_)) rfl ?_
  refine slv_aload_n eX11_putBytes_21 rfl ?_
  refine slv_getf eX11_putBytes_22 fX11_68 (by repeat (first | assumption | exact sl_up_eq | refine sl_up_ne (by first | decide | omega) ?_)) rfl ?_
  refine slv_iload_n eX11_putBytes_25 rfl ?_
  refine slv_iload_n eX11_putBytes_26 rfl ?_
  refine slv_ishr eX11_putBytes_27 ?_
  refine slv_i2b eX11_putBytes_28 rfl ?_
  refine slv_bastI eX11_putBytes_29 (by repeat (first | assumption | exact sl_up_eq | refine sl_up_ne (by first | decide | omega) ?_)) (by omega) (by decide) ?_
  refine slv_mem tp_u ?_
  refine slv_aload_n eX11_putBytes_30 rfl ?_
  refine slv_dup eX11_putBytes_31 rfl ?_
  refine slv_getf eX11_putBytes_32 fX11_68 (by repeat (first | assumption | exact sl_up_eq | refine sl_up_ne (by first | decide | omega) ?_)) rfl ?_
  refine slv_iconst (v := nI 1) eX11_putBytes_35 (by decide) ?_
  refine slv_iaddN eX11_putBytes_36 ?_
  refine slv_putf (fs' := [_, _, _, _, _, _, _, _, _, _, _, _, _, _, _, _]) eX11_putBytes_37 fX11_68 (by repeat (first | assumption | exact sl_up_eq | refine sl_up_ne (by first | decide | omega) ?_)) (Nat.le_of_ble_eq_true rfl) rfl rfl rfl ?_
  refine slv_mem ob_u0 ?_
  refine slv_iinc (y := nI 0) (lv' := [_, _, _]) eX11_putBytes_40 rfl (by decide) (by decide) rfl ?_
  refine slv_goto eX11_putBytes_43 ?_
  refine slv_iload_n eX11_putBytes_3 rfl ?_
  refine slv_if_lt eX11_putBytes_4 (fun h4 => absurd h4 (by decide)) (fun h4 => ?_)
  refine slv_aload_n eX11_putBytes_7 rfl ?_
  refine slv_getf eX11_putBytes_8 fX11_68 (by repeat (first | assumption | exact sl_up_eq | refine sl_up_ne (by first | decide | omega) ?_)) rfl ?_
  refine slv_sipush (v := nI 900) eX11_putBytes_11 (by decide) ?_
  refine slv_icmp_geN eX11_putBytes_14 (by omega) (by omega) (fun h14 => absurd h14 (by omega)) (fun h14 => ?_)
  refine slv_aload_n eX11_putBytes_17 rfl ?_
  refine slv_getf eX11_putBytes_18 fX11_9 (by repeat (first | assumption | exact sl_up_eq | refine sl_up_ne (by first | decide | omega) ?_)) rfl ?_
  refine slv_aload_n eX11_putBytes_21 rfl ?_
  refine slv_getf eX11_putBytes_22 fX11_68 (by repeat (first | assumption | exact sl_up_eq | refine sl_up_ne (by first | decide | omega) ?_)) rfl ?_
  refine slv_iload_n eX11_putBytes_25 rfl ?_
  refine slv_iload_n eX11_putBytes_26 rfl ?_
  refine slv_ishr eX11_putBytes_27 ?_
  refine slv_i2b eX11_putBytes_28 rfl ?_
  refine slv_bastI eX11_putBytes_29 (by repeat (first | assumption | exact sl_up_eq | refine sl_up_ne (by first | decide | omega) ?_)) (by omega) (by decide) ?_
  refine slv_mem tp_u ?_
  refine slv_aload_n eX11_putBytes_30 rfl ?_
  refine slv_dup eX11_putBytes_31 rfl ?_
  refine slv_getf eX11_putBytes_32 fX11_68 (by repeat (first | assumption | exact sl_up_eq | refine sl_up_ne (by first | decide | omega) ?_)) rfl ?_
  refine slv_iconst (v := nI 1) eX11_putBytes_35 (by decide) ?_
  refine slv_iaddN eX11_putBytes_36 ?_
  refine slv_putf (fs' := [_, _, _, _, _, _, _, _, _, _, _, _, _, _, _, _]) eX11_putBytes_37 fX11_68 (by repeat (first | assumption | exact sl_up_eq | refine sl_up_ne (by first | decide | omega) ?_)) (Nat.le_of_ble_eq_true rfl) rfl rfl rfl ?_
  refine slv_mem ob_u0 ?_
  refine slv_iinc (y := (-8)) (lv' := [_, _, _]) eX11_putBytes_40 rfl (by decide) (by decide) rfl ?_
  refine slv_goto eX11_putBytes_43 ?_
  refine slv_iload_n eX11_putBytes_3 rfl ?_
  refine slv_if_lt eX11_putBytes_4 (fun h4 => ?_) (fun h4 => absurd (by decide) h4)
  refine slv_vret eX11_putBytes_46 rfl ?_
  exact ⟨rfl, rfl⟩
set_option maxRecDepth 100000 in
theorem c_X11_feed (hf : fd ≤ 900) (a b c d e : Int32) : sl_R YX11_feed 1 [.ref 0, .int a, .int b, .int c, .int d, .int e] (ob_set fd db sb sn tl lf lt lp (tp_set f M)) (some (.int (if fd + 20 ≤ 900 then nI (fd + 20) else -1))) (if fd + 20 ≤ 900 then ob_set (fd + 20) db sb sn tl lf lt lp (tp_set (fd_20 f fd a b c d e) M) else ob_set fd db sb sn tl lf lt lp (tp_set f M)) := by
  refine sl_T.of_V (lv := [_, _, _, _, _, _]) (by decide) rfl (Nat.le_of_ble_eq_true rfl) ?_
  by_cases h : fd + 20 ≤ 900
  · rw [if_pos h, if_pos h]
    refine slv_aload_n eX11_feed_0 rfl ?_
    refine slv_getf eX11_feed_1 fX11_68 (by repeat (first | assumption | exact sl_up_eq | refine sl_up_ne (by first | decide | omega) ?_)) rfl ?_
    refine slv_bipush (v := nI 20) eX11_feed_4 (by decide) ?_
    refine slv_iaddN eX11_feed_6 ?_
    refine slv_sipush (v := nI 900) eX11_feed_7 (by decide) ?_
    refine slv_icmp_leN eX11_feed_10 (by omega) (by omega) (fun h10 => ?_) (fun h10 => absurd h10 (by omega))
    refine slv_aload_n eX11_feed_15 rfl ?_
    refine slv_iload_n eX11_feed_16 rfl ?_
    refine slv_rV (As := [_]) eX11_feed_17 lX11_72 rfl rfl (by repeat (first | assumption | exact sl_up_eq | refine sl_up_ne (by first | decide | omega) ?_)) rfl (c_X11_putBytes (by omega) a) (by decide) (Nat.le_of_ble_eq_true rfl) ?_
    refine slv_aload_n eX11_feed_20 rfl ?_
    refine slv_iload_n eX11_feed_21 rfl ?_
    refine slv_rV (As := [_]) eX11_feed_22 lX11_72 rfl rfl (by repeat (first | assumption | exact sl_up_eq | refine sl_up_ne (by first | decide | omega) ?_)) rfl (c_X11_putBytes (by omega) b) (by decide) (Nat.le_of_ble_eq_true rfl) ?_
    refine slv_aload_n eX11_feed_25 rfl ?_
    refine slv_iload_n eX11_feed_26 rfl ?_
    refine slv_rV (As := [_]) eX11_feed_27 lX11_72 rfl rfl (by repeat (first | assumption | exact sl_up_eq | refine sl_up_ne (by first | decide | omega) ?_)) rfl (c_X11_putBytes (by omega) c) (by decide) (Nat.le_of_ble_eq_true rfl) ?_
    refine slv_aload_n eX11_feed_30 rfl ?_
    refine slv_iload eX11_feed_31 rfl ?_
    refine slv_rV (As := [_]) eX11_feed_33 lX11_72 rfl rfl (by repeat (first | assumption | exact sl_up_eq | refine sl_up_ne (by first | decide | omega) ?_)) rfl (c_X11_putBytes (by omega) d) (by decide) (Nat.le_of_ble_eq_true rfl) ?_
    refine slv_aload_n eX11_feed_36 rfl ?_
    refine slv_iload eX11_feed_37 rfl ?_
    refine slv_rV (As := [_]) eX11_feed_39 lX11_72 rfl rfl (by repeat (first | assumption | exact sl_up_eq | refine sl_up_ne (by first | decide | omega) ?_)) rfl (c_X11_putBytes (by omega) e) (by decide) (Nat.le_of_ble_eq_true rfl) ?_
    refine slv_aload_n eX11_feed_42 rfl ?_
    refine slv_getf eX11_feed_43 fX11_68 (by repeat (first | assumption | exact sl_up_eq | refine sl_up_ne (by first | decide | omega) ?_)) rfl ?_
    refine slv_iret eX11_feed_46 rfl ?_
    exact ⟨rfl, rfl⟩
  · rw [if_neg h, if_neg h]
    refine slv_aload_n eX11_feed_0 rfl ?_
    refine slv_getf eX11_feed_1 fX11_68 (by repeat (first | assumption | exact sl_up_eq | refine sl_up_ne (by first | decide | omega) ?_)) rfl ?_
    refine slv_bipush (v := nI 20) eX11_feed_4 (by decide) ?_
    refine slv_iaddN eX11_feed_6 ?_
    refine slv_sipush (v := nI 900) eX11_feed_7 (by decide) ?_
    refine slv_icmp_leN eX11_feed_10 (by omega) (by omega) (fun h10 => absurd h10 (by omega)) (fun h10 => ?_)
    refine slv_iconst (v := (-1)) eX11_feed_13 (by decide) ?_
    refine slv_iret eX11_feed_14 rfl ?_
    exact ⟨rfl, rfl⟩
/-- relations and ladders, reckoned anew -/
abbrev sd_set (g : sg_T) (rk ba : Nat → Nat) (M : sl_M) : sl_M := ld_set (lk_F (rl_S g) (sg_terms g) rk ba).1 (sg_terms g) (lk_F (rl_S g) (sg_terms g) rk ba).2.1 (lk_K (rl_S g) (sg_terms g)) (lk_A (rl_S g) (sg_terms g)) (lk_R (rl_S g) (sg_terms g)) (lk_N (rl_S g) (sg_terms g) (lk_F (rl_S g) (sg_terms g) rk ba).1) (lk_F (rl_S g) (sg_terms g) rk ba).2.2 (rl_set (sg_terms g) (rl_LT g).1 (rl_LT g).2 (rl_S g) M)
theorem rl_ld {e0 : Nat} {l t s : Nat → Int32} {rn e : Nat} {rk kn nu ba : Nat → Nat} {ar re : Nat → Int32} (h : ld_at rn e rk kn ar re nu ba M) : ld_at rn e rk kn ar re nu ba (rl_set e0 l t s M) := by
  obtain ⟨a0, a1, a2, a3, a4, a5, a6⟩ := h
  exact ⟨(rl_out (by decide)).trans a0, (rl_out (by decide)).trans a1, (rl_out (by decide)).trans a2, (rl_out (by decide)).trans a3, (rl_out (by decide)).trans a4, (rl_out (by decide)).trans a5, (rl_out (by decide)).trans a6⟩
set_option maxRecDepth 100000 in
theorem c_X11_settle (hb : db = 2 ∨ db = 10) (hg : sg_at db g M) (hok : sg_ok g) {e0 : Nat} {l t s : Nat → Int32} (hr : rl_at e0 l t s M) (hz : (∀ i, 6 ≤ i → l i = nI 0 ∧ t i = nI 0) ∧ ∀ i, 144 ≤ i → s i = nI 0) {rn e : Nat} {rk kn nu ba : Nat → Nat} {ar re : Nat → Int32} (hl : ld_at rn e rk kn ar re nu ba M) (hy : ∀ p, 28 ≤ p → kn p = 0 ∧ ar p = nI 0 ∧ re p = nI 0 ∧ nu p = 0 ∧ ba p = 0) : sl_R YX11_settle 6 [.ref 0] (ob_set fd db sb sn tl lf lt lp M) none (ob_set fd db sb sn false lf lt lp (sd_set g rk ba M)) := by
  have h1 := c_X10_reckon hb (ob_sg (fd := fd) (db := db) (sb := sb) (sn := sn) (tl := tl) (lf := lf) (lt := lt) (lp := lp) hb hg) hok (ob_rl (fd := fd) (db := db) (sb := sb) (sn := sn) (tl := tl) (lf := lf) (lt := lt) (lp := lp) hr) hz
  rw [rl_c0] at h1
  have hr2 : rl_at (sg_terms g) (rl_LT g).1 (rl_LT g).2 (rl_S g) (rl_set (sg_terms g) (rl_LT g).1 (rl_LT g).2 (rl_S g) M) := rl_of
  have h2 := c_X5_reckon (ob_rl (fd := fd) (db := db) (sb := sb) (sn := sn) (tl := tl) (lf := lf) (lt := lt) (lp := lp) hr2) hok.2.2.2.1 (ob_ld (fd := fd) (db := db) (sb := sb) (sn := sn) (tl := tl) (lf := lf) (lt := lt) (lp := lp) (rl_ld (e0 := sg_terms g) (l := (rl_LT g).1) (t := (rl_LT g).2) (s := rl_S g) hl)) hy
  rw [ld_c0] at h2
  have q19 := hr.1
  have q19' := hr2.1
  have q23 := hl.1
  have q23' := (rl_ld (e0 := sg_terms g) (l := (rl_LT g).1) (t := (rl_LT g).2) (s := rl_S g) hl).1
  delta sd_set
  generalize lk_F (rl_S g) (sg_terms g) rk ba = Fq at h2 ⊢
  generalize lk_K (rl_S g) (sg_terms g) = Kq at h2 ⊢
  generalize lk_A (rl_S g) (sg_terms g) = Aq at h2 ⊢
  generalize lk_R (rl_S g) (sg_terms g) = Rq at h2 ⊢
  generalize lk_N (rl_S g) (sg_terms g) Fq.1 = Nq at h2 ⊢
  generalize (rl_LT g) = Lq at h1 h2 hr2 q19' q23' ⊢
  generalize (rl_S g) = Sq at h1 h2 hr2 q19' q23' ⊢
  refine sl_T.of_V (lv := [_]) (by decide) rfl (Nat.le_of_ble_eq_true rfl) ?_
  refine slv_aload_n eX11_settle_0 rfl ?_
  refine slv_getf eX11_settle_1 fX11_33 (by repeat (first | assumption | exact sl_up_eq | refine sl_up_ne (by first | decide | omega) ?_)) rfl ?_
  refine slv_aload_n eX11_settle_4 rfl ?_
  refine slv_getf eX11_settle_5 fX11_16 (by repeat (first | assumption | exact sl_up_eq | refine sl_up_ne (by first | decide | omega) ?_)) rfl ?_
  refine slv_rV (As := [_]) eX11_settle_8 lX11_320 rfl rfl (by repeat (first | assumption | exact sl_up_eq | refine sl_up_ne (by first | decide | omega) ?_)) rfl h1 (by decide) (Nat.le_of_ble_eq_true rfl) ?_
  refine slv_aload_n eX11_settle_11 rfl ?_
  refine slv_getf eX11_settle_12 fX11_40 (by repeat (first | assumption | exact sl_up_eq | refine sl_up_ne (by first | decide | omega) ?_)) rfl ?_
  refine slv_aload_n eX11_settle_15 rfl ?_
  refine slv_getf eX11_settle_16 fX11_33 (by repeat (first | assumption | exact sl_up_eq | refine sl_up_ne (by first | decide | omega) ?_)) rfl ?_
  refine slv_rV (As := [_]) eX11_settle_19 lX11_323 rfl rfl (by repeat (first | assumption | exact sl_up_eq | refine sl_up_ne (by first | decide | omega) ?_)) rfl h2 (by decide) (Nat.le_of_ble_eq_true rfl) ?_
  refine slv_aload_n eX11_settle_22 rfl ?_
  refine slv_iconst (v := nI 0) eX11_settle_23 (by decide) ?_
  refine slv_putf (fs' := [_, _, _, _, _, _, _, _, _, _, _, _, _, _, _, _]) eX11_settle_24 fX11_212 (by repeat (first | assumption | exact sl_up_eq | refine sl_up_ne (by first | decide | omega) ?_)) (Nat.le_of_ble_eq_true rfl) (by first | rfl | assumption) (by first | rfl | assumption) rfl ?_
  refine slv_mem (ob_u0 (tl' := false)) ?_
  refine slv_vret eX11_settle_27 rfl ?_
  exact ⟨rfl, rfl⟩
def an_kind (sn : Bool) (g : sg_T) (x : Int32) : an_T := cond sn (match sl_vi x 3 with
  | none => an_no 2
  | some _ => an_ok (nI (sg_kind g))) (an_no 1)
theorem ob_ac {c : Nat} {o w : Nat → Int32} (h : ac_at c o w M) : ac_at c o w (ob_set fd db sb sn tl lf lt lp M) := by
  obtain ⟨a0, a1, a2⟩ := h
  exact ⟨(ob_out (by omega)).trans a0, (ob_out (by omega)).trans a1, (ob_out (by omega)).trans a2⟩
theorem sg_upd0 (hb : db = 2 ∨ db = 10) {cc : sl_E} {k : Nat} : sl_up (sl_up (gp_G db g M) 0 cc) db (.inr (2, [.int (nI k), .int (nI (sg_rules g)), .int (nI (sg_names g)), .int (nI (sg_terms g)), .ref (db + 1), .ref (db + 2), .ref (db + 3), .ref (db + 4), .ref (db + 5), .ref (db + 6), .ref (db + 7)])) = sl_up (gp_G db (k, g.2) M) 0 cc := by
  rw [sl_up_comm (by omega), gs_u0]
theorem ac_gp {c : Nat} {o w : Nat → Int32} (hb : db = 2 ∨ db = 10) (hg : sg_at db g M) : sg_at db g (ac_set c o w M) := by
  obtain ⟨g0, g1, g2, g3, g4, g5, g6, g7⟩ := hg
  exact ⟨(ac_out (by omega)).trans g0, (ac_out (by omega)).trans g1, (ac_out (by omega)).trans g2, (ac_out (by omega)).trans g3, (ac_out (by omega)).trans g4, (ac_out (by omega)).trans g5, (ac_out (by omega)).trans g6, (ac_out (by omega)).trans g7⟩
set_option maxRecDepth 100000 in
theorem c_X11_kind (hb : db = 2 ∨ db = 10) (hg : sg_at db g M) (hok : sg_ok g) {c : Nat} {o w : Nat → Int32} (ha : ac_at c o w M) (hc : c ≤ 10) (x : Int32) : sl_R YX11_kind 2 [.ref 0, .int x] (ob_set fd db sb sn tl lf lt lp M) (some (.int (an_kind sn g x).1)) (match sn, sl_vi x 3 with
    | true, some k => ob_set fd db sb sn false lf 0 lp (gp_G db (k, g.2) (ac_set (ac_kc c) (ac_kf c o (-1)) (ac_kf c w (nI (sg_kind g))) M))
    | _, _ => ob_set fd db sb sn tl lf (an_kind sn g x).2 lp M) := by
  have h1 := c_X0_keep (ob_ac (fd := fd) (db := db) (sb := sb) (sn := sn) (tl := tl) (lf := lf) (lt := lt) (lp := lp) ha) hc (-1) (nI (sg_kind g))
  rw [ac_c0] at h1
  have hgs : gp_G db g (ac_set (ac_kc c) (ac_kf c o (-1)) (ac_kf c w (nI (sg_kind g))) M) = ac_set (ac_kc c) (ac_kf c o (-1)) (ac_kf c w (nI (sg_kind g))) M := gs_self (ac_gp hb hg)
  have g0 := hg.1
  have q30 := ha.1
  refine sl_T.of_V (lv := [_, _, _]) (by decide) rfl (Nat.le_of_ble_eq_true rfl) ?_
  unfold an_kind
  cases sn with
  | false =>
    refine slv_aload_n eX11_kind_0 rfl ?_
    refine slv_getf eX11_kind_1 fX11_97 (by repeat (first | assumption | exact sl_up_eq | refine sl_up_ne (by first | decide | omega) ?_)) rfl ?_
    refine slv_if_neB eX11_kind_4 (fun h4 => absurd h4 (by decide)) (fun h4 => ?_)
    refine slv_aload_n eX11_kind_7 rfl ?_
    refine slv_iconst (v := nI 1) eX11_kind_8 (by decide) ?_
    refine slv_rV (As := [_]) eX11_kind_9 lX11_76 rfl rfl (by repeat (first | assumption | exact sl_up_eq | refine sl_up_ne (by first | decide | omega) ?_)) rfl (c_X11_refuse 1) (by decide) (Nat.le_of_ble_eq_true rfl) ?_
    refine slv_iret eX11_kind_12 rfl ?_
    exact ⟨rfl, rfl⟩
  | true =>
    cases hv : sl_vi x 3 with
    | none =>
      have hvv := vi_lt (by omega) hv
      refine slv_aload_n eX11_kind_0 rfl ?_
      refine slv_getf eX11_kind_1 fX11_97 (by repeat (first | assumption | exact sl_up_eq | refine sl_up_ne (by first | decide | omega) ?_)) rfl ?_
      refine slv_if_neB eX11_kind_4 (fun h4 => ?_) (fun h4 => absurd h4 (by decide))
      refine slv_iload_n eX11_kind_13 rfl ?_
      refine slv_if_lt eX11_kind_14 (fun h14 => ?_) (fun h14 => ?_)
      · refine slv_aload_n eX11_kind_22 rfl ?_
        refine slv_iconst (v := nI 2) eX11_kind_23 (by decide) ?_
        refine slv_rV (As := [_]) eX11_kind_24 lX11_76 rfl rfl (by repeat (first | assumption | exact sl_up_eq | refine sl_up_ne (by first | decide | omega) ?_)) rfl (c_X11_refuse 2) (by decide) (Nat.le_of_ble_eq_true rfl) ?_
        refine slv_iret eX11_kind_27 rfl ?_
        exact ⟨rfl, rfl⟩
      · refine slv_iload_n eX11_kind_17 rfl ?_
        refine slv_iconst (v := nI 2) eX11_kind_18 (by decide) ?_
        refine slv_icmp_le eX11_kind_19 (fun h19 => ?_) (fun h19 => ?_)
        · exact absurd hvv (fun q => q.elim h14 (fun q => q (vi_le1 (n := 2) (by omega) h19)))
        · refine slv_aload_n eX11_kind_22 rfl ?_
          refine slv_iconst (v := nI 2) eX11_kind_23 (by decide) ?_
          refine slv_rV (As := [_]) eX11_kind_24 lX11_76 rfl rfl (by repeat (first | assumption | exact sl_up_eq | refine sl_up_ne (by first | decide | omega) ?_)) rfl (c_X11_refuse 2) (by decide) (Nat.le_of_ble_eq_true rfl) ?_
          refine slv_iret eX11_kind_27 rfl ?_
          exact ⟨rfl, rfl⟩
    | some k =>
      obtain ⟨hx, hk⟩ := vi_some hv
      subst hx
      refine slv_aload_n eX11_kind_0 rfl ?_
      refine slv_getf eX11_kind_1 fX11_97 (by repeat (first | assumption | exact sl_up_eq | refine sl_up_ne (by first | decide | omega) ?_)) rfl ?_
      refine slv_if_neB eX11_kind_4 (fun h4 => ?_) (fun h4 => absurd h4 (by decide))
      refine slv_iload_n eX11_kind_13 rfl ?_
      refine slv_if_ltN eX11_kind_14 (by omega) ?_
      refine slv_iload_n eX11_kind_17 rfl ?_
      refine slv_iconst (v := nI 2) eX11_kind_18 (by decide) ?_
      refine slv_icmp_leN eX11_kind_19 (by omega) (by omega) (fun h19 => ?_) (fun h19 => absurd h19 (by omega))
      refine slv_aload_n eX11_kind_28 rfl ?_
      refine slv_getf eX11_kind_29 fX11_16 (by repeat (first | assumption | exact sl_up_eq | refine sl_up_ne (by first | decide | omega) ?_)) rfl ?_
      refine slv_getf eX11_kind_32 fX11_119 (by repeat (first | assumption | exact sl_up_eq | refine sl_up_ne (by first | decide | omega) ?_)) rfl ?_
      refine slv_istore_n (i := 2) (lv' := [_, _, _]) eX11_kind_35 rfl (by decide) rfl ?_
      refine slv_aload_n eX11_kind_36 rfl ?_
      refine slv_getf eX11_kind_37 fX11_47 (by repeat (first | assumption | exact sl_up_eq | refine sl_up_ne (by first | decide | omega) ?_)) rfl ?_
      refine slv_iconst (v := (-1)) eX11_kind_40 (by decide) ?_
      refine slv_iload_n eX11_kind_41 rfl ?_
      refine slv_rV (As := [_, _]) eX11_kind_42 lX11_298 rfl rfl (by repeat (first | assumption | exact sl_up_eq | refine sl_up_ne (by first | decide | omega) ?_)) rfl h1 (by decide) (Nat.le_of_ble_eq_true rfl) ?_
      refine slv_mem (M' := ob_set fd db sb true tl lf lt lp (gp_G db g (ac_set (ac_kc c) (ac_kf c o (-1)) (ac_kf c w (nI (sg_kind g))) M))) (by rw [hgs]) ?_
      refine slv_aload_n eX11_kind_45 rfl ?_
      refine slv_getf eX11_kind_46 fX11_16 (by repeat (first | assumption | exact sl_up_eq | refine sl_up_ne (by first | decide | omega) ?_)) rfl ?_
      refine slv_iload_n eX11_kind_49 rfl ?_
      refine slv_putf (fs' := [_, _, _, _, _, _, _, _, _, _, _]) eX11_kind_50 fX11_119 (by repeat (first | assumption | exact sl_up_eq | refine sl_up_ne (by first | decide | omega) ?_)) (Nat.le_of_ble_eq_true rfl) rfl rfl rfl ?_
      refine slv_mem (sg_upd0 hb) ?_
      refine slv_aload_n eX11_kind_53 rfl ?_
      refine slv_iconst (v := nI 0) eX11_kind_54 (by decide) ?_
      refine slv_putf (fs' := [_, _, _, _, _, _, _, _, _, _, _, _, _, _, _, _]) eX11_kind_55 fX11_212 (by repeat (first | assumption | exact sl_up_eq | refine sl_up_ne (by first | decide | omega) ?_)) (Nat.le_of_ble_eq_true rfl) (by first | rfl | assumption) (by first | rfl | assumption) rfl ?_
      refine slv_mem (ob_u0 (tl' := false)) ?_
      refine slv_aload_n eX11_kind_58 rfl ?_
      refine slv_iload_n eX11_kind_59 rfl ?_
      refine slv_rV (As := [_]) eX11_kind_60 lX11_110 rfl rfl (by repeat (first | assumption | exact sl_up_eq | refine sl_up_ne (by first | decide | omega) ?_)) rfl (c_X11_grant _) (by decide) (Nat.le_of_ble_eq_true rfl) ?_
      refine slv_iret eX11_kind_63 rfl ?_
      exact ⟨rfl, rfl⟩
end ACX

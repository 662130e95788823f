theorem sl_tf : ¬ (true = false) := by decide
def an_about (sn : Bool) (g : sg_T) (x : Int32) : an_T := cond sn (match sl_vi x 4 with
  | some 0 => an_ok (nI (sg_kind g))
  | some 1 => an_ok (nI (sg_rules g))
  | some 2 => an_ok (nI (sg_names g))
  | some 3 => an_ok (nI (sg_terms g))
  | _ => an_no 1) (an_no 1)
def an_rule (sn : Bool) (g : sg_T) (x w : Int32) : an_T := match sl_vr sn x (sg_rules g) with
  | none => an_no 1
  | some k => match sl_vi w 4 with
    | some 0 => an_ok (nI (sg_heads g k))
    | some 1 => an_ok (nI (sg_lens g k))
    | some 2 => an_ok (nI (sg_deeds g k))
    | some 3 => an_ok (sl_bi (sg_put g k))
    | _ => an_no 1
def an_item (sn : Bool) (g : sg_T) (x w : Int32) : an_T := match sl_vr sn x (sg_rules g) with
  | none => an_no 1
  | some k => match sl_vi w (sg_lens g k) with
    | some i => an_ok (nI (sg_it g k i))
    | none => an_no 1
def an_sign (sn : Bool) (g : sg_T) (x : Int32) : an_T := match sl_vr sn x (sg_terms g + 1) with
  | none => an_no 1
  | some k => an_ok (if k = sg_terms g then -2 else nI (sg_signs g k))
def an_where (lt : Nat) (lp : Int32) : Int32 := if lt = 4 ∨ lt = 6 then lp else -1
def an_size (sn : Bool) (g : sg_T) (fd ac : Nat) (x : Int32) : Int32 := match sl_vi x 3 with
  | some 0 => nI fd
  | some 1 => nI ac
  | some 2 => cond sn (nI (sl_ct (sg_put g) (sg_rules g) 0)) (nI 0)
  | _ => -1
def an_edge (sn : Bool) (g : sg_T) (l t : Nat → Int32) (x w : Int32) : an_T := match sl_vr sn x (sg_names g) with
  | none => an_no 1
  | some k => match sl_vi w 2 with
    | some 0 => an_ok (l k)
    | some 1 => an_ok (t k)
    | _ => an_no 1
def an_relation (sn : Bool) (g : sg_T) (s : Nat → Int32) (x y : Int32) : an_T := match sl_vr sn x (sg_terms g + 1), sl_vr sn y (sg_terms g + 1) with
  | some a, some c => an_ok (s (12 * a + c))
  | _, _ => an_no 1
def an_isr (x : Int32) : Bool := decide (x = nI 1) || (decide (x = nI 2) || decide (x = nI 4))
def an_related (sn : Bool) (s : Nat → Int32) (x : Int32) : an_T := cond sn (cond (an_isr x) (an_ok (nI (sl_ct (fun i => !(decide (s i &&& x = 0))) 144 0))) (an_no 2)) (an_no 1)
def an_clashes (sn : Bool) (s : Nat → Int32) : an_T := cond sn (an_ok (nI (sl_ct (fun i => sl_cl (s i)) 144 0))) (an_no 1)
def an_clash (sn : Bool) (s : Nat → Int32) (x : Int32) : an_T := match sl_vr sn x (sl_ct (fun i => sl_cl (s i)) 144 0) with
  | none => an_no 1
  | some k => an_ok (rl_clk s 144 0 k)
def an_doubles (sn : Bool) (g : sg_T) : an_T := cond sn (an_ok (sg_dbs g)) (an_no 1)
section ASK
variable {fd db sb lf lt : Nat} {sn tl : Bool} {lp : Int32} {g : sg_T} {M : sl_M}
set_option maxRecDepth 100000 in
theorem c_X11_about (hb : db = 2 ∨ db = 10) (hg : sg_at db g M) (x : Int32) : sl_R YX11_about 1 [.ref 0, .int x] (ob_set fd db sb sn tl lf lt lp M) (some (.int (an_about sn g x).1)) (ob_set fd db sb sn tl lf (an_about sn g x).2 lp M) := by
  obtain ⟨g0, g1, g2, g3, g4, g5, g6, g7⟩ := hg
  refine sl_T.of_V (lv := [_, _]) (by decide) rfl (Nat.le_of_ble_eq_true rfl) ?_
  unfold an_about
  cases sn with
  | false =>
    refine slv_aload_n eX11_about_0 rfl ?_
    refine slv_getf eX11_about_1 fX11_97 (by repeat (first | assumption | exact sl_up_eq | refine sl_up_ne (by first | decide | omega) ?_)) rfl ?_
    refine slv_if_neB eX11_about_4 (fun h4 => absurd h4 (by decide)) (fun h4 => ?_)
    refine slv_aload_n eX11_about_7 rfl ?_
    refine slv_iconst (v := nI 1) eX11_about_8 (by decide) ?_
    refine slv_rV (As := [_]) eX11_about_9 lX11_76 rfl rfl (by repeat (first | assumption | exact sl_up_eq | refine sl_up_ne (by first | decide | omega) ?_)) rfl (c_X11_refuse 1) (by decide) (Nat.le_of_ble_eq_true rfl) ?_
    refine slv_iret eX11_about_12 rfl ?_
    exact ⟨rfl, rfl⟩
  | true =>
    cases hv : sl_vi x 4 with
    | none =>
      refine slv_aload_n eX11_about_0 rfl ?_
      refine slv_getf eX11_about_1 fX11_97 (by repeat (first | assumption | exact sl_up_eq | refine sl_up_ne (by first | decide | omega) ?_)) rfl ?_
      refine slv_if_neB eX11_about_4 (fun h4 => ?_) (fun h4 => absurd h4 (by decide))
      refine slv_iload_n eX11_about_13 rfl ?_
      refine slv_tableOut (t := 92) eX11_about_14 (by have := vi_none hv; omega) (by decide) ?_
      refine slv_aload_n eX11_about_92 rfl ?_
      refine slv_iconst (v := nI 1) eX11_about_93 (by decide) ?_
      refine slv_rV (As := [_]) eX11_about_94 lX11_76 rfl rfl (by repeat (first | assumption | exact sl_up_eq | refine sl_up_ne (by first | decide | omega) ?_)) rfl (c_X11_refuse 1) (by decide) (Nat.le_of_ble_eq_true rfl) ?_
      refine slv_iret eX11_about_97 rfl ?_
      exact ⟨rfl, rfl⟩
    | some k =>
      obtain ⟨hx, hk⟩ := vi_some hv
      subst hx
      rcases (show k = 0 ∨ k = 1 ∨ k = 2 ∨ k = 3 by omega) with e | e | e | e <;> subst e
      · refine slv_aload_n eX11_about_0 rfl ?_
        refine slv_getf eX11_about_1 fX11_97 (by repeat (first | assumption | exact sl_up_eq | refine sl_up_ne (by first | decide | omega) ?_)) rfl ?_
        refine slv_if_neB eX11_about_4 (fun h4 => ?_) (fun h4 => absurd h4 (by decide))
        refine slv_iload_n eX11_about_13 rfl ?_
        refine slv_tableIn (off := 30) (t := 44) eX11_about_14 (by decide) (by decide) (by decide) (by decide) ?_
        refine slv_aload_n eX11_about_44 rfl ?_
        refine slv_aload_n eX11_about_45 rfl ?_
        refine slv_getf eX11_about_46 fX11_16 (by repeat (first | assumption | exact sl_up_eq | refine sl_up_ne (by first | decide | omega) ?_)) rfl ?_
        refine slv_getf eX11_about_49 fX11_119 (by repeat (first | assumption | exact sl_up_eq | refine sl_up_ne (by first | decide | omega) ?_)) rfl ?_
        refine slv_rV (As := [_]) eX11_about_52 lX11_110 rfl rfl (by repeat (first | assumption | exact sl_up_eq | refine sl_up_ne (by first | decide | omega) ?_)) rfl (c_X11_grant _) (by decide) (Nat.le_of_ble_eq_true rfl) ?_
        refine slv_iret eX11_about_55 rfl ?_
        exact ⟨rfl, rfl⟩
      · refine slv_aload_n eX11_about_0 rfl ?_
        refine slv_getf eX11_about_1 fX11_97 (by repeat (first | assumption | exact sl_up_eq | refine sl_up_ne (by first | decide | omega) ?_)) rfl ?_
        refine slv_if_neB eX11_about_4 (fun h4 => ?_) (fun h4 => absurd h4 (by decide))
        refine slv_iload_n eX11_about_13 rfl ?_
        refine slv_tableIn (off := 42) (t := 56) eX11_about_14 (by decide) (by decide) (by decide) (by decide) ?_
        refine slv_aload_n eX11_about_56 rfl ?_
        refine slv_aload_n eX11_about_57 rfl ?_
        refine slv_getf eX11_about_58 fX11_16 (by repeat (first | assumption | exact sl_up_eq | refine sl_up_ne (by first | decide | omega) ?_)) rfl ?_
        refine slv_getf eX11_about_61 fX11_107 (by repeat (first | assumption | exact sl_up_eq | refine sl_up_ne (by first | decide | omega) ?_)) rfl ?_
        refine slv_rV (As := [_]) eX11_about_64 lX11_110 rfl rfl (by repeat (first | assumption | exact sl_up_eq | refine sl_up_ne (by first | decide | omega) ?_)) rfl (c_X11_grant _) (by decide) (Nat.le_of_ble_eq_true rfl) ?_
        refine slv_iret eX11_about_67 rfl ?_
        exact ⟨rfl, rfl⟩
      · refine slv_aload_n eX11_about_0 rfl ?_
        refine slv_getf eX11_about_1 fX11_97 (by repeat (first | assumption | exact sl_up_eq | refine sl_up_ne (by first | decide | omega) ?_)) rfl ?_
        refine slv_if_neB eX11_about_4 (fun h4 => ?_) (fun h4 => absurd h4 (by decide))
        refine slv_iload_n eX11_about_13 rfl ?_
        refine slv_tableIn (off := 54) (t := 68) eX11_about_14 (by decide) (by decide) (by decide) (by decide) ?_
        refine slv_aload_n eX11_about_68 rfl ?_
        refine slv_aload_n eX11_about_69 rfl ?_
        refine slv_getf eX11_about_70 fX11_16 (by repeat (first | assumption | exact sl_up_eq | refine sl_up_ne (by first | decide | omega) ?_)) rfl ?_
        refine slv_getf eX11_about_73 fX11_122 (by repeat (first | assumption | exact sl_up_eq | refine sl_up_ne (by first | decide | omega) ?_)) rfl ?_
        refine slv_rV (As := [_]) eX11_about_76 lX11_110 rfl rfl (by repeat (first | assumption | exact sl_up_eq | refine sl_up_ne (by first | decide | omega) ?_)) rfl (c_X11_grant _) (by decide) (Nat.le_of_ble_eq_true rfl) ?_
        refine slv_iret eX11_about_79 rfl ?_
        exact ⟨rfl, rfl⟩
      · refine slv_aload_n eX11_about_0 rfl ?_
        refine slv_getf eX11_about_1 fX11_97 (by repeat (first | assumption | exact sl_up_eq | refine sl_up_ne (by first | decide | omega) ?_)) rfl ?_
        refine slv_if_neB eX11_about_4 (fun h4 => ?_) (fun h4 => absurd h4 (by decide))
        refine slv_iload_n eX11_about_13 rfl ?_
        refine slv_tableIn (off := 66) (t := 80) eX11_about_14 (by decide) (by decide) (by decide) (by decide) ?_
        refine slv_aload_n eX11_about_80 rfl ?_
        refine slv_aload_n eX11_about_81 rfl ?_
        refine slv_getf eX11_about_82 fX11_16 (by repeat (first | assumption | exact sl_up_eq | refine sl_up_ne (by first | decide | omega) ?_)) rfl ?_
        refine slv_getf eX11_about_85 fX11_125 (by repeat (first | assumption | exact sl_up_eq | refine sl_up_ne (by first | decide | omega) ?_)) rfl ?_
        refine slv_rV (As := [_]) eX11_about_88 lX11_110 rfl rfl (by repeat (first | assumption | exact sl_up_eq | refine sl_up_ne (by first | decide | omega) ?_)) rfl (c_X11_grant _) (by decide) (Nat.le_of_ble_eq_true rfl) ?_
        refine slv_iret eX11_about_91 rfl ?_
        exact ⟨rfl, rfl⟩
set_option maxRecDepth 100000 in
theorem c_X11_rule (hb : db = 2 ∨ db = 10) (hg : sg_at db g M) (hok : sg_ok g) (x w : Int32) : sl_R YX11_rule 1 [.ref 0, .int x, .int w] (ob_set fd db sb sn tl lf lt lp M) (some (.int (an_rule sn g x w).1)) (ob_set fd db sb sn tl lf (an_rule sn g x w).2 lp M) := by
  have hR := c_X11_hasRule (fd := fd) (sb := sb) (sn := sn) (tl := tl) (lf := lf) (lt := lt) (lp := lp) hb hg hok x
  have hr : sg_rules g ≤ 12 := hok.2.1
  obtain ⟨g0, g1, g2, g3, g4, g5, g6, g7⟩ := hg
  refine sl_T.of_V (lv := [_, _, _]) (by decide) rfl (Nat.le_of_ble_eq_true rfl) ?_
  unfold an_rule
  cases hq : sl_vr sn x (sg_rules g) with
  | none =>
    rw [hq] at hR
    refine slv_aload_n eX11_rule_0 rfl ?_
    refine slv_iload_n eX11_rule_1 rfl ?_
    refine slv_rV (As := [_]) eX11_rule_2 lX11_128 rfl rfl (by repeat (first | assumption | exact sl_up_eq | refine sl_up_ne (by first | decide | omega) ?_)) rfl hR (by decide) (Nat.le_of_ble_eq_true rfl) ?_
    refine slv_if_neB eX11_rule_5 (fun h5 => absurd h5 (by decide)) (fun h5 => ?_)
    refine slv_aload_n eX11_rule_8 rfl ?_
    refine slv_iconst (v := nI 1) eX11_rule_9 (by decide) ?_
    refine slv_rV (As := [_]) eX11_rule_10 lX11_76 rfl rfl (by repeat (first | assumption | exact sl_up_eq | refine sl_up_ne (by first | decide | omega) ?_)) rfl (c_X11_refuse 1) (by decide) (Nat.le_of_ble_eq_true rfl) ?_
    refine slv_iret eX11_rule_13 rfl ?_
    exact ⟨rfl, rfl⟩
  | some k =>
    rw [hq] at hR
    obtain ⟨-, hx, hk⟩ := vr_some hq
    subst hx
    simp only
    cases hv : sl_vi w 4 with
    | none =>
      refine slv_aload_n eX11_rule_0 rfl ?_
      refine slv_iload_n eX11_rule_1 rfl ?_
      refine slv_rV (As := [_]) eX11_rule_2 lX11_128 rfl rfl (by repeat (first | assumption | exact sl_up_eq | refine sl_up_ne (by first | decide | omega) ?_)) rfl hR (by decide) (Nat.le_of_ble_eq_true rfl) ?_
      refine slv_if_neB eX11_rule_5 (fun h5 => ?_) (fun h5 => absurd h5 sl_tf)
      refine slv_iload_n eX11_rule_14 rfl ?_
      refine slv_tableOut (t := 108) eX11_rule_15 (by have := vi_none hv; omega) (by decide) ?_
      refine slv_aload_n eX11_rule_108 rfl ?_
      refine slv_iconst (v := nI 1) eX11_rule_109 (by decide) ?_
      refine slv_rV (As := [_]) eX11_rule_110 lX11_76 rfl rfl (by repeat (first | assumption | exact sl_up_eq | refine sl_up_ne (by first | decide | omega) ?_)) rfl (c_X11_refuse 1) (by decide) (Nat.le_of_ble_eq_true rfl) ?_
      refine slv_iret eX11_rule_113 rfl ?_
      exact ⟨rfl, rfl⟩
    | some j =>
      obtain ⟨hx, hj⟩ := vi_some hv
      subst hx
      rcases (show j = 0 ∨ j = 1 ∨ j = 2 ∨ j = 3 by omega) with e | e | e | e <;> subst e
      · refine slv_aload_n eX11_rule_0 rfl ?_
        refine slv_iload_n eX11_rule_1 rfl ?_
        refine slv_rV (As := [_]) eX11_rule_2 lX11_128 rfl rfl (by repeat (first | assumption | exact sl_up_eq | refine sl_up_ne (by first | decide | omega) ?_)) rfl hR (by decide) (Nat.le_of_ble_eq_true rfl) ?_
        refine slv_if_neB eX11_rule_5 (fun h5 => ?_) (fun h5 => absurd h5 sl_tf)
        refine slv_iload_n eX11_rule_14 rfl ?_
        refine slv_tableIn (off := 29) (t := 44) eX11_rule_15 (by decide) (by decide) (by decide) (by decide) ?_
        refine slv_aload_n eX11_rule_44 rfl ?_
        refine slv_aload_n eX11_rule_45 rfl ?_
        refine slv_getf eX11_rule_46 fX11_16 (by repeat (first | assumption | exact sl_up_eq | refine sl_up_ne (by first | decide | omega) ?_)) rfl ?_
        refine slv_getf eX11_rule_49 fX11_132 (by repeat (first | assumption | exact sl_up_eq | refine sl_up_ne (by first | decide | omega) ?_)) rfl ?_
        refine slv_iload_n eX11_rule_52 rfl ?_
        refine slv_ialdN eX11_rule_53 (by repeat (first | assumption | exact sl_up_eq | refine sl_up_ne (by first | decide | omega) ?_)) (by omega) (by decide) ?_
        refine slv_rV (As := [_]) eX11_rule_54 lX11_110 rfl rfl (by repeat (first | assumption | exact sl_up_eq | refine sl_up_ne (by first | decide | omega) ?_)) rfl (c_X11_grant _) (by decide) (Nat.le_of_ble_eq_true rfl) ?_
        refine slv_iret eX11_rule_57 rfl ?_
        exact ⟨rfl, rfl⟩
      · refine slv_aload_n eX11_rule_0 rfl ?_
        refine slv_iload_n eX11_rule_1 rfl ?_
        refine slv_rV (As := [_]) eX11_rule_2 lX11_128 rfl rfl (by repeat (first | assumption | exact sl_up_eq | refine sl_up_ne (by first | decide | omega) ?_)) rfl hR (by decide) (Nat.le_of_ble_eq_true rfl) ?_
        refine slv_if_neB eX11_rule_5 (fun h5 => ?_) (fun h5 => absurd h5 sl_tf)
        refine slv_iload_n eX11_rule_14 rfl ?_
        refine slv_tableIn (off := 43) (t := 58) eX11_rule_15 (by decide) (by decide) (by decide) (by decide) ?_
        refine slv_aload_n eX11_rule_58 rfl ?_
        refine slv_aload_n eX11_rule_59 rfl ?_
        refine slv_getf eX11_rule_60 fX11_16 (by repeat (first | assumption | exact sl_up_eq | refine sl_up_ne (by first | decide | omega) ?_)) rfl ?_
        refine slv_getf eX11_rule_63 fX11_136 (by repeat (first | assumption | exact sl_up_eq | refine sl_up_ne (by first | decide | omega) ?_)) rfl ?_
        refine slv_iload_n eX11_rule_66 rfl ?_
        refine slv_ialdN eX11_rule_67 (by repeat (first | assumption | exact sl_up_eq | refine sl_up_ne (by first | decide | omega) ?_)) (by omega) (by decide) ?_
        refine slv_rV (As := [_]) eX11_rule_68 lX11_110 rfl rfl (by repeat (first | assumption | exact sl_up_eq | refine sl_up_ne (by first | decide | omega) ?_)) rfl (c_X11_grant _) (by decide) (Nat.le_of_ble_eq_true rfl) ?_
        refine slv_iret eX11_rule_71 rfl ?_
        exact ⟨rfl, rfl⟩
      · refine slv_aload_n eX11_rule_0 rfl ?_
        refine slv_iload_n eX11_rule_1 rfl ?_
        refine slv_rV (As := [_]) eX11_rule_2 lX11_128 rfl rfl (by repeat (first | assumption | exact sl_up_eq | refine sl_up_ne (by first | decide | omega) ?_)) rfl hR (by decide) (Nat.le_of_ble_eq_true rfl) ?_
        refine slv_if_neB eX11_rule_5 (fun h5 => ?_) (fun h5 => absurd h5 sl_tf)
        refine slv_iload_n eX11_rule_14 rfl ?_
        refine slv_tableIn (off := 57) (t := 72) eX11_rule_15 (by decide) (by decide) (by decide) (by decide) ?_
        refine slv_aload_n eX11_rule_72 rfl ?_
        refine slv_aload_n eX11_rule_73 rfl ?_
        refine slv_getf eX11_rule_74 fX11_16 (by repeat (first | assumption | exact sl_up_eq | refine sl_up_ne (by first | decide | omega) ?_)) rfl ?_
        refine slv_getf eX11_rule_77 fX11_139 (by repeat (first | assumption | exact sl_up_eq | refine sl_up_ne (by first | decide | omega) ?_)) rfl ?_
        refine slv_iload_n eX11_rule_80 rfl ?_
        refine slv_ialdN eX11_rule_81 (by repeat (first | assumption | exact sl_up_eq | refine sl_up_ne (by first | decide | omega) ?_)) (by omega) (by decide) ?_
        refine slv_rV (As := [_]) eX11_rule_82 lX11_110 rfl rfl (by repeat (first | assumption | exact sl_up_eq | refine sl_up_ne (by first | decide | omega) ?_)) rfl (c_X11_grant _) (by decide) (Nat.le_of_ble_eq_true rfl) ?_
        refine slv_iret eX11_rule_85 rfl ?_
        exact ⟨rfl, rfl⟩
      · refine slv_aload_n eX11_rule_0 rfl ?_
        refine slv_iload_n eX11_rule_1 rfl ?_
        refine slv_rV (As := [_]) eX11_rule_2 lX11_128 rfl rfl (by repeat (first | assumption | exact sl_up_eq | refine sl_up_ne (by first | decide | omega) ?_)) rfl hR (by decide) (Nat.le_of_ble_eq_true rfl) ?_
        refine slv_if_neB eX11_rule_5 (fun h5 => ?_) (fun h5 => absurd h5 sl_tf)
        refine slv_iload_n eX11_rule_14 rfl ?_
        refine slv_tableIn (off := 71) (t := 86) eX11_rule_15 (by decide) (by decide) (by decide) (by decide) ?_
        refine slv_aload_n eX11_rule_86 rfl ?_
        refine slv_aload_n eX11_rule_87 rfl ?_
        refine slv_getf eX11_rule_88 fX11_16 (by repeat (first | assumption | exact sl_up_eq | refine sl_up_ne (by first | decide | omega) ?_)) rfl ?_
        refine slv_getf eX11_rule_91 fX11_142 (by repeat (first | assumption | exact sl_up_eq | refine sl_up_ne (by first | decide | omega) ?_)) rfl ?_
        refine slv_iload_n eX11_rule_94 rfl ?_
        refine slv_zaldN eX11_rule_95 (by repeat (first | assumption | exact sl_up_eq | refine sl_up_ne (by first | decide | omega) ?_)) (by omega) (by decide) ?_
        refine slv_if_eqB eX11_rule_96 (fun h96 => ?_) (fun h96 => ?_)
        · refine slv_iconst (v := nI 0) eX11_rule_103 (by decide) ?_
          refine slv_rV (As := [_]) eX11_rule_104 lX11_110 rfl rfl (by repeat (first | assumption | exact sl_up_eq | refine sl_up_ne (by first | decide | omega) ?_)) rfl (c_X11_grant _) (by decide) (Nat.le_of_ble_eq_true rfl) ?_
          refine slv_iret eX11_rule_107 rfl ?_
          exact ⟨by rw [h96]; rfl, rfl⟩
        · refine slv_iconst (v := nI 1) eX11_rule_99 (by decide) ?_
          refine slv_goto eX11_rule_100 ?_
          refine slv_rV (As := [_]) eX11_rule_104 lX11_110 rfl rfl (by repeat (first | assumption | exact sl_up_eq | refine sl_up_ne (by first | decide | omega) ?_)) rfl (c_X11_grant _) (by decide) (Nat.le_of_ble_eq_true rfl) ?_
          refine slv_iret eX11_rule_107 rfl ?_
          exact ⟨by rw [h96]; rfl, rfl⟩
set_option maxRecDepth 100000 in
theorem c_X11_item (hb : db = 2 ∨ db = 10) (hg : sg_at db g M) (hok : sg_ok g) (x w : Int32) : sl_R YX11_item 1 [.ref 0, .int x, .int w] (ob_set fd db sb sn tl lf lt lp M) (some (.int (an_item sn g x w).1)) (ob_set fd db sb sn tl lf (an_item sn g x w).2 lp M) := by
  have hR := c_X11_hasRule (fd := fd) (sb := sb) (sn := sn) (tl := tl) (lf := lf) (lt := lt) (lp := lp) hb hg hok x
  have hr : sg_rules g ≤ 12 := hok.2.1
  have hg' := ob_sg (fd := fd) (db := db) (sb := sb) (sn := sn) (tl := tl) (lf := lf) (lt := lt) (lp := lp) hb hg
  obtain ⟨g0, g1, g2, g3, g4, g5, g6, g7⟩ := hg
  refine sl_T.of_V (lv := [_, _, _]) (by decide) rfl (Nat.le_of_ble_eq_true rfl) ?_
  unfold an_item
  cases hq : sl_vr sn x (sg_rules g) with
  | none =>
    rw [hq] at hR
    refine slv_aload_n eX11_item_0 rfl ?_
    refine slv_iload_n eX11_item_1 rfl ?_
    refine slv_rV (As := [_]) eX11_item_2 lX11_128 rfl rfl (by repeat (first | assumption | exact sl_up_eq | refine sl_up_ne (by first | decide | omega) ?_)) rfl hR (by decide) (Nat.le_of_ble_eq_true rfl) ?_
    refine slv_if_eqB eX11_item_5 (fun h5 => ?_) (fun h5 => absurd h5 (by decide))
    refine slv_aload_n eX11_item_25 rfl ?_
    refine slv_iconst (v := nI 1) eX11_item_26 (by decide) ?_
    refine slv_rV (As := [_]) eX11_item_27 lX11_76 rfl rfl (by repeat (first | assumption | exact sl_up_eq | refine sl_up_ne (by first | decide | omega) ?_)) rfl (c_X11_refuse 1) (by decide) (Nat.le_of_ble_eq_true rfl) ?_
    refine slv_iret eX11_item_30 rfl ?_
    exact ⟨rfl, rfl⟩
  | some k =>
    rw [hq] at hR
    obtain ⟨-, hx, hk⟩ := vr_some hq
    subst hx
    have hl5 : sg_lens g k ≤ 5 := (hok.2.2.2.2.2.1 k (by omega)).2.2
    simp only
    cases hv : sl_vi w (sg_lens g k) with
    | none =>
      have hvv := vi_lt (by omega) hv
      refine slv_aload_n eX11_item_0 rfl ?_
      refine slv_iload_n eX11_item_1 rfl ?_
      refine slv_rV (As := [_]) eX11_item_2 lX11_128 rfl rfl (by repeat (first | assumption | exact sl_up_eq | refine sl_up_ne (by first | decide | omega) ?_)) rfl hR (by decide) (Nat.le_of_ble_eq_true rfl) ?_
      refine slv_if_eqB eX11_item_5 (fun h5 => absurd h5 sl_tf) (fun h5 => ?_)
      refine slv_iload_n eX11_item_8 rfl ?_
      refine slv_if_lt eX11_item_9 (fun h9 => ?_) (fun h9 => ?_)
      · refine slv_aload_n eX11_item_25 rfl ?_
        refine slv_iconst (v := nI 1) eX11_item_26 (by decide) ?_
        refine slv_rV (As := [_]) eX11_item_27 lX11_76 rfl rfl (by repeat (first | assumption | exact sl_up_eq | refine sl_up_ne (by first | decide | omega) ?_)) rfl (c_X11_refuse 1) (by decide) (Nat.le_of_ble_eq_true rfl) ?_
        refine slv_iret eX11_item_30 rfl ?_
        exact ⟨rfl, rfl⟩
      · refine slv_iload_n eX11_item_12 rfl ?_
        refine slv_aload_n eX11_item_13 rfl ?_
        refine slv_getf eX11_item_14 fX11_16 (by repeat (first | assumption | exact sl_up_eq | refine sl_up_ne (by first | decide | omega) ?_)) rfl ?_
        refine slv_getf eX11_item_17 fX11_136 (by repeat (first | assumption | exact sl_up_eq | refine sl_up_ne (by first | decide | omega) ?_)) rfl ?_
        refine slv_iload_n eX11_item_20 rfl ?_
        refine slv_ialdN eX11_item_21 (by repeat (first | assumption | exact sl_up_eq | refine sl_up_ne (by first | decide | omega) ?_)) (by omega) (by decide) ?_
        refine slv_icmp_lt eX11_item_22 (fun h22 => ?_) (fun h22 => ?_)
        · exact absurd hvv (fun q => q.elim h9 (fun q => q h22))
        · refine slv_aload_n eX11_item_25 rfl ?_
          refine slv_iconst (v := nI 1) eX11_item_26 (by decide) ?_
          refine slv_rV (As := [_]) eX11_item_27 lX11_76 rfl rfl (by repeat (first | assumption | exact sl_up_eq | refine sl_up_ne (by first | decide | omega) ?_)) rfl (c_X11_refuse 1) (by decide) (Nat.le_of_ble_eq_true rfl) ?_
          refine slv_iret eX11_item_30 rfl ?_
          exact ⟨rfl, rfl⟩
    | some j =>
      obtain ⟨hx, hj⟩ := vi_some hv
      subst hx
      refine slv_aload_n eX11_item_0 rfl ?_
      refine slv_iload_n eX11_item_1 rfl ?_
      refine slv_rV (As := [_]) eX11_item_2 lX11_128 rfl rfl (by repeat (first | assumption | exact sl_up_eq | refine sl_up_ne (by first | decide | omega) ?_)) rfl hR (by decide) (Nat.le_of_ble_eq_true rfl) ?_
      refine slv_if_eqB eX11_item_5 (fun h5 => absurd h5 sl_tf) (fun h5 => ?_)
      refine slv_iload_n eX11_item_8 rfl ?_
      refine slv_if_ltN eX11_item_9 (by omega) ?_
      refine slv_iload_n eX11_item_12 rfl ?_
      refine slv_aload_n eX11_item_13 rfl ?_
      refine slv_getf eX11_item_14 fX11_16 (by repeat (first | assumption | exact sl_up_eq | refine sl_up_ne (by first | decide | omega) ?_)) rfl ?_
      refine slv_getf eX11_item_17 fX11_136 (by repeat (first | assumption | exact sl_up_eq | refine sl_up_ne (by first | decide | omega) ?_)) rfl ?_
      refine slv_iload_n eX11_item_20 rfl ?_
      refine slv_ialdN eX11_item_21 (by repeat (first | assumption | exact sl_up_eq | refine sl_up_ne (by first | decide | omega) ?_)) (by omega) (by decide) ?_
      refine slv_icmp_ltN eX11_item_22 (by omega) (by omega) (fun h22 => ?_) (fun h22 => absurd h22 (by omega))
      refine slv_aload_n eX11_item_31 rfl ?_
      refine slv_aload_n eX11_item_32 rfl ?_
      refine slv_getf eX11_item_33 fX11_16 (by repeat (first | assumption | exact sl_up_eq | refine sl_up_ne (by first | decide | omega) ?_)) rfl ?_
      refine slv_iload_n eX11_item_36 rfl ?_
      refine slv_iload_n eX11_item_37 rfl ?_
      refine slv_rV (As := [_, _]) eX11_item_38 lX11_146 rfl rfl (by repeat (first | assumption | exact sl_up_eq | refine sl_up_ne (by first | decide | omega) ?_)) rfl (c_X2_itemAt hg' (by omega) (by omega)) (by decide) (Nat.le_of_ble_eq_true rfl) ?_
      refine slv_rV (As := [_]) eX11_item_41 lX11_110 rfl rfl (by repeat (first | assumption | exact sl_up_eq | refine sl_up_ne (by first | decide | omega) ?_)) rfl (c_X11_grant _) (by decide) (Nat.le_of_ble_eq_true rfl) ?_
      refine slv_iret eX11_item_44 rfl ?_
      exact ⟨rfl, rfl⟩
set_option maxRecDepth 100000 in
theorem c_X11_sign (hb : db = 2 ∨ db = 10) (hg : sg_at db g M) (hok : sg_ok g) (x : Int32) : sl_R YX11_sign 1 [.ref 0, .int x] (ob_set fd db sb sn tl lf lt lp M) (some (.int (an_sign sn g x).1)) (ob_set fd db sb sn tl lf (an_sign sn g x).2 lp M) := by
  have hR := c_X11_hasTerminal (fd := fd) (sb := sb) (sn := sn) (tl := tl) (lf := lf) (lt := lt) (lp := lp) hb hg hok x
  have hr : sg_terms g ≤ 11 := hok.2.2.2.1
  obtain ⟨g0, g1, g2, g3, g4, g5, g6, g7⟩ := hg
  refine sl_T.of_V (lv := [_, _]) (by decide) rfl (Nat.le_of_ble_eq_true rfl) ?_
  unfold an_sign
  cases hq : sl_vr sn x (sg_terms g + 1) with
  | none =>
    rw [hq] at hR
    refine slv_aload_n eX11_sign_0 rfl ?_
    refine slv_iload_n eX11_sign_1 rfl ?_
    refine slv_rV (As := [_]) eX11_sign_2 lX11_149 rfl rfl (by repeat (first | assumption | exact sl_up_eq | refine sl_up_ne (by first | decide | omega) ?_)) rfl hR (by decide) (Nat.le_of_ble_eq_true rfl) ?_
    refine slv_if_neB eX11_sign_5 (fun h5 => absurd h5 (by decide)) (fun h5 => ?_)
    refine slv_aload_n eX11_sign_8 rfl ?_
    refine slv_iconst (v := nI 1) eX11_sign_9 (by decide) ?_
    refine slv_rV (As := [_]) eX11_sign_10 lX11_76 rfl rfl (by repeat (first | assumption | exact sl_up_eq | refine sl_up_ne (by first | decide | omega) ?_)) rfl (c_X11_refuse 1) (by decide) (Nat.le_of_ble_eq_true rfl) ?_
    refine slv_iret eX11_sign_13 rfl ?_
    exact ⟨rfl, rfl⟩
  | some k =>
    rw [hq] at hR
    obtain ⟨-, hx, hk⟩ := vr_some hq
    subst hx
    simp only
    refine slv_aload_n eX11_sign_0 rfl ?_
    refine slv_iload_n eX11_sign_1 rfl ?_
    refine slv_rV (As := [_]) eX11_sign_2 lX11_149 rfl rfl (by repeat (first | assumption | exact sl_up_eq | refine sl_up_ne (by first | decide | omega) ?_)) rfl hR (by decide) (Nat.le_of_ble_eq_true rfl) ?_
    refine slv_if_neB eX11_sign_5 (fun h5 => ?_) (fun h5 => absurd h5 sl_tf)
    refine slv_aload_n eX11_sign_14 rfl ?_
    refine slv_iload_n eX11_sign_15 rfl ?_
    refine slv_aload_n eX11_sign_16 rfl ?_
    refine slv_getf eX11_sign_17 fX11_16 (by repeat (first | assumption | exact sl_up_eq | refine sl_up_ne (by first | decide | omega) ?_)) rfl ?_
    refine slv_getf eX11_sign_20 fX11_125 (by repeat (first | assumption | exact sl_up_eq | refine sl_up_ne (by first | decide | omega) ?_)) rfl ?_
    refine slv_icmp_neN eX11_sign_23 (by omega) (by omega) (fun h23 => ?_) (fun h23 => ?_)
    · refine slv_aload_n eX11_sign_31 rfl ?_
      refine slv_getf eX11_sign_32 fX11_16 (by repeat (first | assumption | exact sl_up_eq | refine sl_up_ne (by first | decide | omega) ?_)) rfl ?_
      refine slv_getf eX11_sign_35 fX11_152 (by repeat (first | assumption | exact sl_up_eq | refine sl_up_ne (by first | decide | omega) ?_)) rfl ?_
      refine slv_iload_n eX11_sign_38 rfl ?_
      refine slv_ialdN eX11_sign_39 (by repeat (first | assumption | exact sl_up_eq | refine sl_up_ne (by first | decide | omega) ?_)) (by omega) (by decide) ?_
      refine slv_rV (As := [_]) eX11_sign_40 lX11_110 rfl rfl (by repeat (first | assumption | exact sl_up_eq | refine sl_up_ne (by first | decide | omega) ?_)) rfl (c_X11_grant _) (by decide) (Nat.le_of_ble_eq_true rfl) ?_
      refine slv_iret eX11_sign_43 rfl ?_
      first | (rw [if_pos h23]; exact ⟨rfl, rfl⟩) | (rw [if_neg h23]; exact ⟨rfl, rfl⟩)
    · refine slv_bipush (v := (-2)) eX11_sign_26 (by decide) ?_
      refine slv_goto eX11_sign_28 ?_
      refine slv_rV (As := [_]) eX11_sign_40 lX11_110 rfl rfl (by repeat (first | assumption | exact sl_up_eq | refine sl_up_ne (by first | decide | omega) ?_)) rfl (c_X11_grant _) (by decide) (Nat.le_of_ble_eq_true rfl) ?_
      refine slv_iret eX11_sign_43 rfl ?_
      first | (rw [if_pos h23]; exact ⟨rfl, rfl⟩) | (rw [if_neg h23]; exact ⟨rfl, rfl⟩)
set_option maxRecDepth 100000 in
theorem c_X11_fault : sl_R YX11_fault 0 [.ref 0] (ob_set fd db sb sn tl lf lt lp M) (some (.int (nI lf))) (ob_set fd db sb sn tl lf lt lp M) := by
  refine sl_T.of_V (lv := [_]) (by decide) rfl (Nat.le_of_ble_eq_true rfl) ?_
  refine slv_aload_n eX11_fault_0 rfl ?_
  refine slv_getf eX11_fault_1 fX11_87 (by repeat (first | assumption | exact sl_up_eq | refine sl_up_ne (by first | decide | omega) ?_)) rfl ?_
  refine slv_iret eX11_fault_4 rfl ?_
  exact ⟨rfl, rfl⟩
set_option maxRecDepth 100000 in
theorem c_X11_trouble : sl_R YX11_trouble 0 [.ref 0] (ob_set fd db sb sn tl lf lt lp M) (some (.int (nI lt))) (ob_set fd db sb sn tl lf lt lp M) := by
  refine sl_T.of_V (lv := [_]) (by decide) rfl (Nat.le_of_ble_eq_true rfl) ?_
  refine slv_aload_n eX11_trouble_0 rfl ?_
  refine slv_getf eX11_trouble_1 fX11_113 (by repeat (first | assumption | exact sl_up_eq | refine sl_up_ne (by first | decide | omega) ?_)) rfl ?_
  refine slv_iret eX11_trouble_4 rfl ?_
  exact ⟨rfl, rfl⟩
set_option maxRecDepth 100000 in
theorem c_X11_where (h : lt < 100) : sl_R YX11_where 0 [.ref 0] (ob_set fd db sb sn tl lf lt lp M) (some (.int (an_where lt lp))) (ob_set fd db sb sn tl lf lt lp M) := by
  refine sl_T.of_V (lv := [_]) (by decide) rfl (Nat.le_of_ble_eq_true rfl) ?_
  unfold an_where
  refine slv_aload_n eX11_where_0 rfl ?_
  refine slv_getf eX11_where_1 fX11_113 (by repeat (first | assumption | exact sl_up_eq | refine sl_up_ne (by first | decide | omega) ?_)) rfl ?_
  refine slv_iconst (v := nI 4) eX11_where_4 (by decide) ?_
  refine slv_icmp_eqN eX11_where_5 (by omega) (by omega) (fun h5 => ?_) (fun h5 => ?_)
  · refine slv_aload_n eX11_where_17 rfl ?_
    refine slv_getf eX11_where_18 fX11_116 (by repeat (first | assumption | exact sl_up_eq | refine sl_up_ne (by first | decide | omega) ?_)) rfl ?_
    refine slv_goto eX11_where_21 ?_
    refine slv_iret eX11_where_25 rfl ?_
    first | (rw [if_pos (Or.inl h5)]; exact ⟨rfl, rfl⟩) | (rw [if_pos (Or.inr h14)]; exact ⟨rfl, rfl⟩) | (rw [if_neg (fun q => q.elim h5 h14)]; exact ⟨rfl, rfl⟩)
  · refine slv_aload_n eX11_where_8 rfl ?_
    refine slv_getf eX11_where_9 fX11_113 (by repeat (first | assumption | exact sl_up_eq | refine sl_up_ne (by first | decide | omega) ?_)) rfl ?_
    refine slv_bipush (v := nI 6) eX11_where_12 (by decide) ?_
    refine slv_icmp_neN eX11_where_14 (by omega) (by omega) (fun h14 => ?_) (fun h14 => ?_)
    · refine slv_iconst (v := (-1)) eX11_where_24 (by decide) ?_
      refine slv_iret eX11_where_25 rfl ?_
      first | (rw [if_pos (Or.inl h5)]; exact ⟨rfl, rfl⟩) | (rw [if_pos (Or.inr h14)]; exact ⟨rfl, rfl⟩) | (rw [if_neg (fun q => q.elim h5 h14)]; exact ⟨rfl, rfl⟩)
    · refine slv_aload_n eX11_where_17 rfl ?_
      refine slv_getf eX11_where_18 fX11_116 (by repeat (first | assumption | exact sl_up_eq | refine sl_up_ne (by first | decide | omega) ?_)) rfl ?_
      refine slv_goto eX11_where_21 ?_
      refine slv_iret eX11_where_25 rfl ?_
      first | (rw [if_pos (Or.inl h5)]; exact ⟨rfl, rfl⟩) | (rw [if_pos (Or.inr h14)]; exact ⟨rfl, rfl⟩) | (rw [if_neg (fun q => q.elim h5 h14)]; exact ⟨rfl, rfl⟩)
set_option maxRecDepth 100000 in
theorem c_X11_size (hb : db = 2 ∨ db = 10) (hg : sg_at db g M) (hok : sg_ok g) {c : Nat} {o w : Nat → Int32} (ha : ac_at c o w M) (x : Int32) : sl_R YX11_size 1 [.ref 0, .int x] (ob_set fd db sb sn tl lf lt lp M) (some (.int (an_size sn g fd c x))) (ob_set fd db sb sn tl lf lt lp M) := by
  have hg' := ob_sg (fd := fd) (db := db) (sb := sb) (sn := sn) (tl := tl) (lf := lf) (lt := lt) (lp := lp) hb hg
  obtain ⟨g0, g1, g2, g3, g4, g5, g6, g7⟩ := hg
  obtain ⟨a0, a1, a2⟩ := ha
  refine sl_T.of_V (lv := [_, _]) (by decide) rfl (Nat.le_of_ble_eq_true rfl) ?_
  unfold an_size
  cases hv : sl_vi x 3 with
  | none =>
    refine slv_iload_n eX11_size_0 rfl ?_
    refine slv_tableOut (t := 60) eX11_size_1 (by have := vi_none hv; omega) (by decide) ?_
    refine slv_iconst (v := (-1)) eX11_size_60 (by decide) ?_
    refine slv_iret eX11_size_61 rfl ?_
    exact ⟨rfl, rfl⟩
  | some k =>
    obtain ⟨hx, hk⟩ := vi_some hv
    subst hx
    rcases (show k = 0 ∨ k = 1 ∨ k = 2 by omega) with e | e | e <;> subst e
    · refine slv_iload_n eX11_size_0 rfl ?_
      refine slv_tableIn (off := 27) (t := 28) eX11_size_1 (by decide) (by decide) (by decide) (by decide) ?_
      refine slv_aload_n eX11_size_28 rfl ?_
      refine slv_getf eX11_size_29 fX11_68 (by repeat (first | assumption | exact sl_up_eq | refine sl_up_ne (by first | decide | omega) ?_)) rfl ?_
      refine slv_iret eX11_size_32 rfl ?_
      exact ⟨rfl, rfl⟩
    · refine slv_iload_n eX11_size_0 rfl ?_
      refine slv_tableIn (off := 32) (t := 33) eX11_size_1 (by decide) (by decide) (by decide) (by decide) ?_
      refine slv_aload_n eX11_size_33 rfl ?_
      refine slv_getf eX11_size_34 fX11_47 (by repeat (first | assumption | exact sl_up_eq | refine sl_up_ne (by first | decide | omega) ?_)) rfl ?_
      refine slv_getf eX11_size_37 fX11_305 (by repeat (first | assumption | exact sl_up_eq | refine sl_up_ne (by first | decide | omega) ?_)) rfl ?_
      refine slv_iret eX11_size_40 rfl ?_
      exact ⟨rfl, rfl⟩
    · refine slv_iload_n eX11_size_0 rfl ?_
      refine slv_tableIn (off := 40) (t := 41) eX11_size_1 (by decide) (by decide) (by decide) (by decide) ?_
      refine slv_aload_n eX11_size_41 rfl ?_
      refine slv_getf eX11_size_42 fX11_97 (by repeat (first | assumption | exact sl_up_eq | refine sl_up_ne (by first | decide | omega) ?_)) rfl ?_
      refine slv_if_eqB eX11_size_45 (fun h45 => ?_) (fun h45 => ?_)
      · refine slv_iconst (v := nI 0) eX11_size_58 (by decide) ?_
        refine slv_iret eX11_size_59 rfl ?_
        exact ⟨by rw [h45]; rfl, rfl⟩
      · refine slv_aload_n eX11_size_48 rfl ?_
        refine slv_getf eX11_size_49 fX11_16 (by repeat (first | assumption | exact sl_up_eq | refine sl_up_ne (by first | decide | omega) ?_)) rfl ?_
        refine slv_rV (As := []) eX11_size_52 lX11_302 rfl rfl (by repeat (first | assumption | exact sl_up_eq | refine sl_up_ne (by first | decide | omega) ?_)) rfl (c_X2_putCount hg' hok) (by decide) (Nat.le_of_ble_eq_true rfl) ?_
        refine slv_goto eX11_size_55 ?_
        refine slv_iret eX11_size_59 rfl ?_
        exact ⟨by rw [h45]; rfl, rfl⟩
end ASK
section ASL
variable {fd db sb lf lt : Nat} {sn tl : Bool} {lp : Int32} {g : sg_T} {M : sl_M} {e0 : Nat} {l t s : Nat → Int32}
theorem ob_rl (h : rl_at e0 l t s M) : rl_at e0 l t s (ob_set fd db sb sn tl lf lt lp M) := by
  obtain ⟨a0, a1, a2, a3⟩ := h
  exact ⟨(ob_out (by omega)).trans a0, (ob_out (by omega)).trans a1, (ob_out (by omega)).trans a2, (ob_out (by omega)).trans a3⟩
set_option maxRecDepth 100000 in
theorem c_X11_edge (hb : db = 2 ∨ db = 10) (hg : sg_at db g M) (hok : sg_ok g) (hr : rl_at e0 l t s M) (x w : Int32) : sl_R YX11_edge 1 [.ref 0, .int x, .int w] (ob_set fd db sb sn tl lf lt lp M) (some (.int (an_edge sn g l t x w).1)) (ob_set fd db sb sn tl lf (an_edge sn g l t x w).2 lp M) := by
  have hn6 : sg_names g ≤ 6 := hok.2.2.1
  obtain ⟨g0, g1, g2, g3, g4, g5, g6, g7⟩ := hg
  obtain ⟨a0, a1, a2, a3⟩ := hr
  refine sl_T.of_V (lv := [_, _, _]) (by decide) rfl (Nat.le_of_ble_eq_true rfl) ?_
  unfold an_edge
  cases hq : sl_vr sn x (sg_names g) with
  | none =>
    have hvv := vr_none (by omega) hq
    refine slv_aload_n eX11_edge_0 rfl ?_
    refine slv_getf eX11_edge_1 fX11_97 (by repeat (first | assumption | exact sl_up_eq | refine sl_up_ne (by first | decide | omega) ?_)) rfl ?_
    refine slv_if_eqB eX11_edge_4 (fun h4 => ?_) (fun h4 => ?_)
    · refine slv_aload_n eX11_edge_31 rfl ?_
      refine slv_iconst (v := nI 1) eX11_edge_32 (by decide) ?_
      refine slv_rV (As := [_]) eX11_edge_33 lX11_76 rfl rfl (by repeat (first | assumption | exact sl_up_eq | refine sl_up_ne (by first | decide | omega) ?_)) rfl (c_X11_refuse 1) (by decide) (Nat.le_of_ble_eq_true rfl) ?_
      refine slv_iret eX11_edge_36 rfl ?_
      exact ⟨rfl, rfl⟩
    · refine slv_iload_n eX11_edge_7 rfl ?_
      refine slv_if_lt eX11_edge_8 (fun h8 => ?_) (fun h8 => ?_)
      · refine slv_aload_n eX11_edge_31 rfl ?_
        refine slv_iconst (v := nI 1) eX11_edge_32 (by decide) ?_
        refine slv_rV (As := [_]) eX11_edge_33 lX11_76 rfl rfl (by repeat (first | assumption | exact sl_up_eq | refine sl_up_ne (by first | decide | omega) ?_)) rfl (c_X11_refuse 1) (by decide) (Nat.le_of_ble_eq_true rfl) ?_
        refine slv_iret eX11_edge_36 rfl ?_
        exact ⟨rfl, rfl⟩
      · refine slv_iload_n eX11_edge_11 rfl ?_
        refine slv_aload_n eX11_edge_12 rfl ?_
        refine slv_getf eX11_edge_13 fX11_16 (by repeat (first | assumption | exact sl_up_eq | refine sl_up_ne (by first | decide | omega) ?_)) rfl ?_
        refine slv_getf eX11_edge_16 fX11_122 (by repeat (first | assumption | exact sl_up_eq | refine sl_up_ne (by first | decide | omega) ?_)) rfl ?_
        refine slv_icmp_ge eX11_edge_19 (fun h19 => ?_) (fun h19 => ?_)
        · refine slv_aload_n eX11_edge_31 rfl ?_
          refine slv_iconst (v := nI 1) eX11_edge_32 (by decide) ?_
          refine slv_rV (As := [_]) eX11_edge_33 lX11_76 rfl rfl (by repeat (first | assumption | exact sl_up_eq | refine sl_up_ne (by first | decide | omega) ?_)) rfl (c_X11_refuse 1) (by decide) (Nat.le_of_ble_eq_true rfl) ?_
          refine slv_iret eX11_edge_36 rfl ?_
          exact ⟨rfl, rfl⟩
        · exfalso
          rcases hvv with e | e | e
          · rw [h4] at e; cases e
          · exact h8 e
          · exact h19 (Int32.not_lt.mp e)
  | some k =>
    obtain ⟨hs, hx, hk⟩ := vr_some hq
    subst hs hx
    simp only
    cases hv : sl_vi w 2 with
    | none =>
      have hvv := vi_lt (by omega) hv
      refine slv_aload_n eX11_edge_0 rfl ?_
      refine slv_getf eX11_edge_1 fX11_97 (by repeat (first | assumption | exact sl_up_eq | refine sl_up_ne (by first | decide | omega) ?_)) rfl ?_
      refine slv_if_eqB eX11_edge_4 (fun h4 => absurd h4 (by decide)) (fun h4 => ?_)
      refine slv_iload_n eX11_edge_7 rfl ?_
      refine slv_if_ltN eX11_edge_8 (by omega) ?_
      refine slv_iload_n eX11_edge_11 rfl ?_
      refine slv_aload_n eX11_edge_12 rfl ?_
      refine slv_getf eX11_edge_13 fX11_16 (by repeat (first | assumption | exact sl_up_eq | refine sl_up_ne (by first | decide | omega) ?_)) rfl ?_
      refine slv_getf eX11_edge_16 fX11_122 (by repeat (first | assumption | exact sl_up_eq | refine sl_up_ne (by first | decide | omega) ?_)) rfl ?_
      refine slv_icmp_geN eX11_edge_19 (by omega) (by omega) (fun h19 => absurd h19 (by omega)) (fun h19 => ?_)
      refine slv_iload_n eX11_edge_22 rfl ?_
      refine slv_if_lt eX11_edge_23 (fun h23 => ?_) (fun h23 => ?_)
      · refine slv_aload_n eX11_edge_31 rfl ?_
        refine slv_iconst (v := nI 1) eX11_edge_32 (by decide) ?_
        refine slv_rV (As := [_]) eX11_edge_33 lX11_76 rfl rfl (by repeat (first | assumption | exact sl_up_eq | refine sl_up_ne (by first | decide | omega) ?_)) rfl (c_X11_refuse 1) (by decide) (Nat.le_of_ble_eq_true rfl) ?_
        refine slv_iret eX11_edge_36 rfl ?_
        exact ⟨rfl, rfl⟩
      · refine slv_iload_n eX11_edge_26 rfl ?_
        refine slv_iconst (v := nI 1) eX11_edge_27 (by decide) ?_
        refine slv_icmp_le eX11_edge_28 (fun h28 => ?_) (fun h28 => ?_)
        · exact absurd hvv (fun q => q.elim h23 (fun q => q (vi_le1 (n := 1) (by omega) h28)))
        · refine slv_aload_n eX11_edge_31 rfl ?_
          refine slv_iconst (v := nI 1) eX11_edge_32 (by decide) ?_
          refine slv_rV (As := [_]) eX11_edge_33 lX11_76 rfl rfl (by repeat (first | assumption | exact sl_up_eq | refine sl_up_ne (by first | decide | omega) ?_)) rfl (c_X11_refuse 1) (by decide) (Nat.le_of_ble_eq_true rfl) ?_
          refine slv_iret eX11_edge_36 rfl ?_
          exact ⟨rfl, rfl⟩
    | some j =>
      obtain ⟨hx, hj⟩ := vi_some hv
      subst hx
      rcases (show j = 0 ∨ j = 1 by omega) with e | e <;> subst e
      · refine slv_aload_n eX11_edge_0 rfl ?_
        refine slv_getf eX11_edge_1 fX11_97 (by repeat (first | assumption | exact sl_up_eq | refine sl_up_ne (by first | decide | omega) ?_)) rfl ?_
        refine slv_if_eqB eX11_edge_4 (fun h4 => absurd h4 (by decide)) (fun h4 => ?_)
        refine slv_iload_n eX11_edge_7 rfl ?_
        refine slv_if_ltN eX11_edge_8 (by omega) ?_
        refine slv_iload_n eX11_edge_11 rfl ?_
        refine slv_aload_n eX11_edge_12 rfl ?_
        refine slv_getf eX11_edge_13 fX11_16 (by repeat (first | assumption | exact sl_up_eq | refine sl_up_ne (by first | decide | omega) ?_)) rfl ?_
        refine slv_getf eX11_edge_16 fX11_122 (by repeat (first | assumption | exact sl_up_eq | refine sl_up_ne (by first | decide | omega) ?_)) rfl ?_
        refine slv_icmp_geN eX11_edge_19 (by omega) (by omega) (fun h19 => absurd h19 (by omega)) (fun h19 => ?_)
        refine slv_iload_n eX11_edge_22 rfl ?_
        refine slv_if_ltN eX11_edge_23 (by omega) ?_
        refine slv_iload_n eX11_edge_26 rfl ?_
        refine slv_iconst (v := nI 1) eX11_edge_27 (by decide) ?_
        refine slv_icmp_le eX11_edge_28 (fun h28 => ?_) (fun h28 => absurd (by decide) h28)
        refine slv_aload_n eX11_edge_37 rfl ?_
        refine slv_iload_n eX11_edge_38 rfl ?_
        refine slv_if_ne eX11_edge_39 (fun h39 => absurd (by decide) h39) (fun h39 => ?_)
        refine slv_aload_n eX11_edge_42 rfl ?_
        refine slv_getf eX11_edge_43 fX11_33 (by repeat (first | assumption | exact sl_up_eq | refine sl_up_ne (by first | decide | omega) ?_)) rfl ?_
        refine slv_getf eX11_edge_46 fX11_155 (by repeat (first | assumption | exact sl_up_eq | refine sl_up_ne (by first | decide | omega) ?_)) rfl ?_
        refine slv_iload_n eX11_edge_49 rfl ?_
        refine slv_ialdN eX11_edge_50 (by repeat (first | assumption | exact sl_up_eq | refine sl_up_ne (by first | decide | omega) ?_)) (by omega) (by decide) ?_
        refine slv_goto eX11_edge_51 ?_
        refine slv_rV (As := [_]) eX11_edge_63 lX11_110 rfl rfl (by repeat (first | assumption | exact sl_up_eq | refine sl_up_ne (by first | decide | omega) ?_)) rfl (c_X11_grant _) (by decide) (Nat.le_of_ble_eq_true rfl) ?_
        refine slv_iret eX11_edge_66 rfl ?_
        exact ⟨rfl, rfl⟩
      · refine slv_aload_n eX11_edge_0 rfl ?_
        refine slv_getf eX11_edge_1 fX11_97 (by repeat (first | assumption | exact sl_up_eq | refine sl_up_ne (by first | decide | omega) ?_)) rfl ?_
        refine slv_if_eqB eX11_edge_4 (fun h4 => absurd h4 (by decide)) (fun h4 => ?_)
        refine slv_iload_n eX11_edge_7 rfl ?_
        refine slv_if_ltN eX11_edge_8 (by omega) ?_
        refine slv_iload_n eX11_edge_11 rfl ?_
        refine slv_aload_n eX11_edge_12 rfl ?_
        refine slv_getf eX11_edge_13 fX11_16 (by repeat (first | assumption | exact sl_up_eq | refine sl_up_ne (by first | decide | omega) ?_)) rfl ?_
        refine slv_getf eX11_edge_16 fX11_122 (by repeat (first | assumption | exact sl_up_eq | refine sl_up_ne (by first | decide | omega) ?_)) rfl ?_
        refine slv_icmp_geN eX11_edge_19 (by omega) (by omega) (fun h19 => absurd h19 (by omega)) (fun h19 => ?_)
        refine slv_iload_n eX11_edge_22 rfl ?_
        refine slv_if_ltN eX11_edge_23 (by omega) ?_
        refine slv_iload_n eX11_edge_26 rfl ?_
        refine slv_iconst (v := nI 1) eX11_edge_27 (by decide) ?_
        refine slv_icmp_le eX11_edge_28 (fun h28 => ?_) (fun h28 => absurd (by decide) h28)
        refine slv_aload_n eX11_edge_37 rfl ?_
        refine slv_iload_n eX11_edge_38 rfl ?_
        refine slv_if_ne eX11_edge_39 (fun h39 => ?_) (fun h39 => absurd h39 (by decide))
        refine slv_aload_n eX11_edge_54 rfl ?_
        refine slv_getf eX11_edge_55 fX11_33 (by repeat (first | assumption | exact sl_up_eq | refine sl_up_ne (by first | decide | omega) ?_)) rfl ?_
        refine slv_getf eX11_edge_58 fX11_158 (by repeat (first | assumption | exact sl_up_eq | refine sl_up_ne (by first | decide | omega) ?_)) rfl ?_
        refine slv_iload_n eX11_edge_61 rfl ?_
        refine slv_ialdN eX11_edge_62 (by repeat (first | assumption | exact sl_up_eq | refine sl_up_ne (by first | decide | omega) ?_)) (by omega) (by decide) ?_
        refine slv_rV (As := [_]) eX11_edge_63 lX11_110 rfl rfl (by repeat (first | assumption | exact sl_up_eq | refine sl_up_ne (by first | decide | omega) ?_)) rfl (c_X11_grant _) (by decide) (Nat.le_of_ble_eq_true rfl) ?_
        refine slv_iret eX11_edge_66 rfl ?_
        exact ⟨rfl, rfl⟩
set_option maxRecDepth 100000 in
theorem c_X11_relation (hb : db = 2 ∨ db = 10) (hg : sg_at db g M) (hok : sg_ok g) (hr : rl_at e0 l t s M) (x w : Int32) : sl_R YX11_relation 1 [.ref 0, .int x, .int w] (ob_set fd db sb sn tl lf lt lp M) (some (.int (an_relation sn g s x w).1)) (ob_set fd db sb sn tl lf (an_relation sn g s x w).2 lp M) := by
  have hX := c_X11_hasTerminal (fd := fd) (sb := sb) (sn := sn) (tl := tl) (lf := lf) (lt := lt) (lp := lp) hb hg hok x
  have hW := c_X11_hasTerminal (fd := fd) (sb := sb) (sn := sn) (tl := tl) (lf := lf) (lt := lt) (lp := lp) hb hg hok w
  have hn6 : sg_terms g ≤ 11 := hok.2.2.2.1
  have hr' := ob_rl (fd := fd) (db := db) (sb := sb) (sn := sn) (tl := tl) (lf := lf) (lt := lt) (lp := lp) hr
  obtain ⟨g0, g1, g2, g3, g4, g5, g6, g7⟩ := hg
  obtain ⟨a0, a1, a2, a3⟩ := hr
  refine sl_T.of_V (lv := [_, _, _]) (by decide) rfl (Nat.le_of_ble_eq_true rfl) ?_
  unfold an_relation
  cases hq : sl_vr sn x (sg_terms g + 1) with
  | none =>
    rw [hq] at hX
    refine slv_aload_n eX11_relation_0 rfl ?_
    refine slv_iload_n eX11_relation_1 rfl ?_
    refine slv_rV (As := [_]) eX11_relation_2 lX11_149 rfl rfl (by repeat (first | assumption | exact sl_up_eq | refine sl_up_ne (by first | decide | omega) ?_)) rfl hX (by decide) (Nat.le_of_ble_eq_true rfl) ?_
    refine slv_if_eqB eX11_relation_5 (fun h5 => ?_) (fun h5 => absurd h5 (by decide))
    refine slv_aload_n eX11_relation_16 rfl ?_
    refine slv_iconst (v := nI 1) eX11_relation_17 (by decide) ?_
    refine slv_rV (As := [_]) eX11_relation_18 lX11_76 rfl rfl (by repeat (first | assumption | exact sl_up_eq | refine sl_up_ne (by first | decide | omega) ?_)) rfl (c_X11_refuse 1) (by decide) (Nat.le_of_ble_eq_true rfl) ?_
    refine slv_iret eX11_relation_21 rfl ?_
    exact ⟨rfl, rfl⟩
  | some k =>
    rw [hq] at hX
    obtain ⟨-, hx, hk⟩ := vr_some hq
    cases hp : sl_vr sn w (sg_terms g + 1) with
    | none =>
      rw [hp] at hW
      refine slv_aload_n eX11_relation_0 rfl ?_
      refine slv_iload_n eX11_relation_1 rfl ?_
      refine slv_rV (As := [_]) eX11_relation_2 lX11_149 rfl rfl (by repeat (first | assumption | exact sl_up_eq | refine sl_up_ne (by first | decide | omega) ?_)) rfl hX (by decide) (Nat.le_of_ble_eq_true rfl) ?_
      refine slv_if_eqB eX11_relation_5 (fun h5 => absurd h5 sl_tf) (fun h5 => ?_)
      refine slv_aload_n eX11_relation_8 rfl ?_
      refine slv_iload_n eX11_relation_9 rfl ?_
      refine slv_rV (As := [_]) eX11_relation_10 lX11_149 rfl rfl (by repeat (first | assumption | exact sl_up_eq | refine sl_up_ne (by first | decide | omega) ?_)) rfl hW (by decide) (Nat.le_of_ble_eq_true rfl) ?_
      refine slv_if_neB eX11_relation_13 (fun h13 => absurd h13 (by decide)) (fun h13 => ?_)
      refine slv_aload_n eX11_relation_16 rfl ?_
      refine slv_iconst (v := nI 1) eX11_relation_17 (by decide) ?_
      refine slv_rV (As := [_]) eX11_relation_18 lX11_76 rfl rfl (by repeat (first | assumption | exact sl_up_eq | refine sl_up_ne (by first | decide | omega) ?_)) rfl (c_X11_refuse 1) (by decide) (Nat.le_of_ble_eq_true rfl) ?_
      refine slv_iret eX11_relation_21 rfl ?_
      exact ⟨rfl, rfl⟩
    | some j =>
      rw [hp] at hW
      obtain ⟨-, hw, hj⟩ := vr_some hp
      subst hx hw
      refine slv_aload_n eX11_relation_0 rfl ?_
      refine slv_iload_n eX11_relation_1 rfl ?_
      refine slv_rV (As := [_]) eX11_relation_2 lX11_149 rfl rfl (by repeat (first | assumption | exact sl_up_eq | refine sl_up_ne (by first | decide | omega) ?_)) rfl hX (by decide) (Nat.le_of_ble_eq_true rfl) ?_
      refine slv_if_eqB eX11_relation_5 (fun h5 => absurd h5 sl_tf) (fun h5 => ?_)
      refine slv_aload_n eX11_relation_8 rfl ?_
      refine slv_iload_n eX11_relation_9 rfl ?_
      refine slv_rV (As := [_]) eX11_relation_10 lX11_149 rfl rfl (by repeat (first | assumption | exact sl_up_eq | refine sl_up_ne (by first | decide | omega) ?_)) rfl hW (by decide) (Nat.le_of_ble_eq_true rfl) ?_
      refine slv_if_neB eX11_relation_13 (fun h13 => ?_) (fun h13 => absurd h13 sl_tf)
      refine slv_aload_n eX11_relation_22 rfl ?_
      refine slv_aload_n eX11_relation_23 rfl ?_
      refine slv_getf eX11_relation_24 fX11_33 (by repeat (first | assumption | exact sl_up_eq | refine sl_up_ne (by first | decide | omega) ?_)) rfl ?_
      refine slv_iload_n eX11_relation_27 rfl ?_
      refine slv_iload_n eX11_relation_28 rfl ?_
      refine slv_rV (As := [_, _]) eX11_relation_29 lX11_161 rfl rfl (by repeat (first | assumption | exact sl_up_eq | refine sl_up_ne (by first | decide | omega) ?_)) rfl (c_X10_between hr' (by omega) (by omega)) (by decide) (Nat.le_of_ble_eq_true rfl) ?_
      refine slv_rV (As := [_]) eX11_relation_32 lX11_110 rfl rfl (by repeat (first | assumption | exact sl_up_eq | refine sl_up_ne (by first | decide | omega) ?_)) rfl (c_X11_grant _) (by decide) (Nat.le_of_ble_eq_true rfl) ?_
      refine slv_iret eX11_relation_35 rfl ?_
      exact ⟨rfl, rfl⟩
set_option maxRecDepth 100000 in
theorem c_X11_isRelation (M : sl_M) (x : Int32) : sl_R YX11_isRelation 0 [.int x] M (some (.int (sl_bi (an_isr x)))) M := by
  refine sl_T.of_V (lv := [_]) (by decide) rfl (Nat.le_of_ble_eq_true rfl) ?_
  unfold an_isr
  refine slv_iload_n eX11_isRelation_0 rfl ?_
  refine slv_iconst (v := nI 1) eX11_isRelation_1 (by decide) ?_
  refine slv_icmp_eq eX11_isRelation_2 (fun h2 => ?_) (fun h2 => ?_)
  · refine slv_iconst (v := nI 1) eX11_isRelation_15 (by decide) ?_
    refine slv_goto eX11_isRelation_16 ?_
    refine slv_zret eX11_isRelation_20 rfl rfl ?_
    refine ⟨?_, rfl⟩
    first | (rw [decide_eq_true h2]; rfl) | (rw [decide_eq_false h2, decide_eq_true h7]; rfl) | (rw [decide_eq_false h2, decide_eq_false h7, decide_eq_true h12]; rfl) | (rw [decide_eq_false h2, decide_eq_false h7, decide_eq_false h12]; rfl)
  · refine slv_iload_n eX11_isRelation_5 rfl ?_
    refine slv_iconst (v := nI 2) eX11_isRelation_6 (by decide) ?_
    refine slv_icmp_eq eX11_isRelation_7 (fun h7 => ?_) (fun h7 => ?_)
    · refine slv_iconst (v := nI 1) eX11_isRelation_15 (by decide) ?_
      refine slv_goto eX11_isRelation_16 ?_
      refine slv_zret eX11_isRelation_20 rfl rfl ?_
      refine ⟨?_, rfl⟩
      first | (rw [decide_eq_true h2]; rfl) | (rw [decide_eq_false h2, decide_eq_true h7]; rfl) | (rw [decide_eq_false h2, decide_eq_false h7, decide_eq_true h12]; rfl) | (rw [decide_eq_false h2, decide_eq_false h7, decide_eq_false h12]; rfl)
    · refine slv_iload_n eX11_isRelation_10 rfl ?_
      refine slv_iconst (v := nI 4) eX11_isRelation_11 (by decide) ?_
      refine slv_icmp_ne eX11_isRelation_12 (fun h12 => ?_) (fun h12 => ?_)
      · refine slv_iconst (v := nI 0) eX11_isRelation_19 (by decide) ?_
        refine slv_zret eX11_isRelation_20 rfl rfl ?_
        refine ⟨?_, rfl⟩
        first | (rw [decide_eq_true h2]; rfl) | (rw [decide_eq_false h2, decide_eq_true h7]; rfl) | (rw [decide_eq_false h2, decide_eq_false h7, decide_eq_true h12]; rfl) | (rw [decide_eq_false h2, decide_eq_false h7, decide_eq_false h12]; rfl)
      · refine slv_iconst (v := nI 1) eX11_isRelation_15 (by decide) ?_
        refine slv_goto eX11_isRelation_16 ?_
        refine slv_zret eX11_isRelation_20 rfl rfl ?_
        refine ⟨?_, rfl⟩
        first | (rw [decide_eq_true h2]; rfl) | (rw [decide_eq_false h2, decide_eq_true h7]; rfl) | (rw [decide_eq_false h2, decide_eq_false h7, decide_eq_true h12]; rfl) | (rw [decide_eq_false h2, decide_eq_false h7, decide_eq_false h12]; rfl)
set_option maxRecDepth 100000 in
theorem c_X11_related (hr : rl_at e0 l t s M) (x : Int32) : sl_R YX11_related 1 [.ref 0, .int x] (ob_set fd db sb sn tl lf lt lp M) (some (.int (an_related sn s x).1)) (ob_set fd db sb sn tl lf (an_related sn s x).2 lp M) := by
  have hr' := ob_rl (fd := fd) (db := db) (sb := sb) (sn := sn) (tl := tl) (lf := lf) (lt := lt) (lp := lp) hr
  have hI := c_X11_isRelation (ob_set fd db sb sn tl lf lt lp M) x
  obtain ⟨a0, a1, a2, a3⟩ := hr
  refine sl_T.of_V (lv := [_, _]) (by decide) rfl (Nat.le_of_ble_eq_true rfl) ?_
  have hC := c_X10_countOf hr' x
  unfold an_related
  generalize an_isr x = ir at hI
  generalize sl_ct (fun i => !(decide (s i &&& x = 0))) 144 0 = cc at hC
  refine slv_aload_n eX11_related_0 rfl ?_
  refine slv_getf eX11_related_1 fX11_97 (by repeat (first | assumption | exact sl_up_eq | refine sl_up_ne (by first | decide | omega) ?_)) rfl ?_
  refine slv_if_neB eX11_related_4 (fun h4 => ?_) (fun h4 => ?_)
  · refine slv_iload_n eX11_related_13 rfl ?_
    refine slv_rS (As := [_]) eX11_related_14 lX11_164 rfl rfl hI (by decide) (Nat.le_of_ble_eq_true rfl) ?_
    refine slv_if_neB eX11_related_17 (fun h17 => ?_) (fun h17 => ?_)
    · refine slv_aload_n eX11_related_26 rfl ?_
      refine slv_aload_n eX11_related_27 rfl ?_
      refine slv_getf eX11_related_28 fX11_33 (by repeat (first | assumption | exact sl_up_eq | refine sl_up_ne (by first | decide | omega) ?_)) rfl ?_
      refine slv_iload_n eX11_related_31 rfl ?_
      refine slv_rV (As := [_]) eX11_related_32 lX11_167 rfl rfl (by repeat (first | assumption | exact sl_up_eq | refine sl_up_ne (by first | decide | omega) ?_)) rfl hC (by decide) (Nat.le_of_ble_eq_true rfl) ?_
      refine slv_rV (As := [_]) eX11_related_35 lX11_110 rfl rfl (by repeat (first | assumption | exact sl_up_eq | refine sl_up_ne (by first | decide | omega) ?_)) rfl (c_X11_grant _) (by decide) (Nat.le_of_ble_eq_true rfl) ?_
      refine slv_iret eX11_related_38 rfl ?_
      first | (have z : ir = _ := h17; subst z; subst h4; exact ⟨rfl, rfl⟩) | (subst h4; exact ⟨rfl, rfl⟩)
    · refine slv_aload_n eX11_related_20 rfl ?_
      refine slv_iconst (v := nI 2) eX11_related_21 (by decide) ?_
      refine slv_rV (As := [_]) eX11_related_22 lX11_76 rfl rfl (by repeat (first | assumption | exact sl_up_eq | refine sl_up_ne (by first | decide | omega) ?_)) rfl (c_X11_refuse 2) (by decide) (Nat.le_of_ble_eq_true rfl) ?_
      refine slv_iret eX11_related_25 rfl ?_
      first | (have z : ir = _ := h17; subst z; subst h4; exact ⟨rfl, rfl⟩) | (subst h4; exact ⟨rfl, rfl⟩)
  · refine slv_aload_n eX11_related_7 rfl ?_
    refine slv_iconst (v := nI 1) eX11_related_8 (by decide) ?_
    refine slv_rV (As := [_]) eX11_related_9 lX11_76 rfl rfl (by repeat (first | assumption | exact sl_up_eq | refine sl_up_ne (by first | decide | omega) ?_)) rfl (c_X11_refuse 1) (by decide) (Nat.le_of_ble_eq_true rfl) ?_
    refine slv_iret eX11_related_12 rfl ?_
    first | (have z : ir = _ := h17; subst z; subst h4; exact ⟨rfl, rfl⟩) | (subst h4; exact ⟨rfl, rfl⟩)
set_option maxRecDepth 100000 in
theorem c_X11_clashes (hr : rl_at e0 l t s M) : sl_R YX11_clashes 3 [.ref 0] (ob_set fd db sb sn tl lf lt lp M) (some (.int (an_clashes sn s).1)) (ob_set fd db sb sn tl lf (an_clashes sn s).2 lp M) := by
  have hr' := ob_rl (fd := fd) (db := db) (sb := sb) (sn := sn) (tl := tl) (lf := lf) (lt := lt) (lp := lp) hr
  obtain ⟨a0, a1, a2, a3⟩ := hr
  refine sl_T.of_V (lv := [_]) (by decide) rfl (Nat.le_of_ble_eq_true rfl) ?_
  have hC := c_X10_clashCount hr'
  unfold an_clashes
  generalize sl_ct (fun i => sl_cl (s i)) 144 0 = cc at hC
  refine slv_aload_n eX11_clashes_0 rfl ?_
  refine slv_getf eX11_clashes_1 fX11_97 (by repeat (first | assumption | exact sl_up_eq | refine sl_up_ne (by first | decide | omega) ?_)) rfl ?_
  refine slv_if_eqB eX11_clashes_4 (fun h4 => ?_) (fun h4 => ?_)
  · refine slv_aload_n eX11_clashes_21 rfl ?_
    refine slv_iconst (v := nI 1) eX11_clashes_22 (by decide) ?_
    refine slv_rV (As := [_]) eX11_clashes_23 lX11_76 rfl rfl (by repeat (first | assumption | exact sl_up_eq | refine sl_up_ne (by first | decide | omega) ?_)) rfl (c_X11_refuse 1) (by decide) (Nat.le_of_ble_eq_true rfl) ?_
    refine slv_iret eX11_clashes_26 rfl ?_
    subst h4
    exact ⟨rfl, rfl⟩
  · refine slv_aload_n eX11_clashes_7 rfl ?_
    refine slv_aload_n eX11_clashes_8 rfl ?_
    refine slv_getf eX11_clashes_9 fX11_33 (by repeat (first | assumption | exact sl_up_eq | refine sl_up_ne (by first | decide | omega) ?_)) rfl ?_
    refine slv_rV (As := []) eX11_clashes_12 lX11_170 rfl rfl (by repeat (first | assumption | exact sl_up_eq | refine sl_up_ne (by first | decide | omega) ?_)) rfl hC (by decide) (Nat.le_of_ble_eq_true rfl) ?_
    refine slv_rV (As := [_]) eX11_clashes_15 lX11_110 rfl rfl (by repeat (first | assumption | exact sl_up_eq | refine sl_up_ne (by first | decide | omega) ?_)) rfl (c_X11_grant _) (by decide) (Nat.le_of_ble_eq_true rfl) ?_
    refine slv_goto eX11_clashes_18 ?_
    refine slv_iret eX11_clashes_26 rfl ?_
    subst h4
    exact ⟨rfl, rfl⟩
set_option maxRecDepth 100000 in
theorem c_X11_clash (hr : rl_at e0 l t s M) (x : Int32) : sl_R YX11_clash 3 [.ref 0, .int x] (ob_set fd db sb sn tl lf lt lp M) (some (.int (an_clash sn s x).1)) (ob_set fd db sb sn tl lf (an_clash sn s x).2 lp M) := by
  have hr' := ob_rl (fd := fd) (db := db) (sb := sb) (sn := sn) (tl := tl) (lf := lf) (lt := lt) (lp := lp) hr
  have hC := c_X10_clashCount hr'
  have hc := sl_ct_le (fun i => sl_cl (s i)) 144 0
  obtain ⟨a0, a1, a2, a3⟩ := hr
  refine sl_T.of_V (lv := [_, _]) (by decide) rfl (Nat.le_of_ble_eq_true rfl) ?_
  unfold an_clash
  generalize sl_ct (fun i => sl_cl (s i)) 144 0 = cc at hC hc
  cases hq : sl_vr sn x cc with
  | none =>
    have hvv := vr_none (by omega) hq
    refine slv_aload_n eX11_clash_0 rfl ?_
    refine slv_getf eX11_clash_1 fX11_97 (by repeat (first | assumption | exact sl_up_eq | refine sl_up_ne (by first | decide | omega) ?_)) rfl ?_
    refine slv_if_eqB eX11_clash_4 (fun h4 => ?_) (fun h4 => ?_)
    · refine slv_aload_n eX11_clash_22 rfl ?_
      refine slv_iconst (v := nI 1) eX11_clash_23 (by decide) ?_
      refine slv_rV (As := [_]) eX11_clash_24 lX11_76 rfl rfl (by repeat (first | assumption | exact sl_up_eq | refine sl_up_ne (by first | decide | omega) ?_)) rfl (c_X11_refuse 1) (by decide) (Nat.le_of_ble_eq_true rfl) ?_
      refine slv_iret eX11_clash_27 rfl ?_
      exact ⟨rfl, rfl⟩
    · refine slv_iload_n eX11_clash_7 rfl ?_
      refine slv_if_lt eX11_clash_8 (fun h8 => ?_) (fun h8 => ?_)
      · refine slv_aload_n eX11_clash_22 rfl ?_
        refine slv_iconst (v := nI 1) eX11_clash_23 (by decide) ?_
        refine slv_rV (As := [_]) eX11_clash_24 lX11_76 rfl rfl (by repeat (first | assumption | exact sl_up_eq | refine sl_up_ne (by first | decide | omega) ?_)) rfl (c_X11_refuse 1) (by decide) (Nat.le_of_ble_eq_true rfl) ?_
        refine slv_iret eX11_clash_27 rfl ?_
        exact ⟨rfl, rfl⟩
      · refine slv_iload_n eX11_clash_11 rfl ?_
        refine slv_aload_n eX11_clash_12 rfl ?_
        refine slv_getf eX11_clash_13 fX11_33 (by repeat (first | assumption | exact sl_up_eq | refine sl_up_ne (by first | decide | omega) ?_)) rfl ?_
        refine slv_rV (As := []) eX11_clash_16 lX11_170 rfl rfl (by repeat (first | assumption | exact sl_up_eq | refine sl_up_ne (by first | decide | omega) ?_)) rfl hC (by decide) (Nat.le_of_ble_eq_true rfl) ?_
        refine slv_icmp_lt eX11_clash_19 (fun h19 => ?_) (fun h19 => ?_)
        · exfalso
          rcases hvv with e | e | e
          · rw [h4] at e; cases e
          · exact h8 e
          · exact e h19
        · refine slv_aload_n eX11_clash_22 rfl ?_
          refine slv_iconst (v := nI 1) eX11_clash_23 (by decide) ?_
          refine slv_rV (As := [_]) eX11_clash_24 lX11_76 rfl rfl (by repeat (first | assumption | exact sl_up_eq | refine sl_up_ne (by first | decide | omega) ?_)) rfl (c_X11_refuse 1) (by decide) (Nat.le_of_ble_eq_true rfl) ?_
          refine slv_iret eX11_clash_27 rfl ?_
          exact ⟨rfl, rfl⟩
  | some k =>
    obtain ⟨hs, hx, hk⟩ := vr_some hq
    subst hs hx
    refine slv_aload_n eX11_clash_0 rfl ?_
    refine slv_getf eX11_clash_1 fX11_97 (by repeat (first | assumption | exact sl_up_eq | refine sl_up_ne (by first | decide | omega) ?_)) rfl ?_
    refine slv_if_eqB eX11_clash_4 (fun h4 => absurd h4 (by decide)) (fun h4 => ?_)
    refine slv_iload_n eX11_clash_7 rfl ?_
    refine slv_if_ltN eX11_clash_8 (by omega) ?_
    refine slv_iload_n eX11_clash_11 rfl ?_
    refine slv_aload_n eX11_clash_12 rfl ?_
    refine slv_getf eX11_clash_13 fX11_33 (by repeat (first | assumption | exact sl_up_eq | refine sl_up_ne (by first | decide | omega) ?_)) rfl ?_
    refine slv_rV (As := []) eX11_clash_16 lX11_170 rfl rfl (by repeat (first | assumption | exact sl_up_eq | refine sl_up_ne (by first | decide | omega) ?_)) rfl hC (by decide) (Nat.le_of_ble_eq_true rfl) ?_
    refine slv_icmp_ltN eX11_clash_19 (by omega) (by omega) (fun h19 => ?_) (fun h19 => absurd h19 (by omega))
    refine slv_aload_n eX11_clash_28 rfl ?_
    refine slv_aload_n eX11_clash_29 rfl ?_
    refine slv_getf eX11_clash_30 fX11_33 (by repeat (first | assumption | exact sl_up_eq | refine sl_up_ne (by first | decide | omega) ?_)) rfl ?_
    refine slv_iload_n eX11_clash_33 rfl ?_
    refine slv_rV (As := [_]) eX11_clash_34 lX11_174 rfl rfl (by repeat (first | assumption | exact sl_up_eq | refine sl_up_ne (by first | decide | omega) ?_)) rfl (c_X10_clashAt hr' (by omega)) (by decide) (Nat.le_of_ble_eq_true rfl) ?_
    refine slv_rV (As := [_]) eX11_clash_37 lX11_110 rfl rfl (by repeat (first | assumption | exact sl_up_eq | refine sl_up_ne (by first | decide | omega) ?_)) rfl (c_X11_grant _) (by decide) (Nat.le_of_ble_eq_true rfl) ?_
    refine slv_iret eX11_clash_40 rfl ?_
    exact ⟨rfl, rfl⟩
set_option maxRecDepth 100000 in
theorem c_X11_doubles (hb : db = 2 ∨ db = 10) (hg : sg_at db g M) (hok : sg_ok g) : sl_R YX11_doubles 4 [.ref 0] (ob_set fd db sb sn tl lf lt lp M) (some (.int (an_doubles sn g).1)) (ob_set fd db sb sn tl lf (an_doubles sn g).2 lp M) := by
  have hg' := ob_sg (fd := fd) (db := db) (sb := sb) (sn := sn) (tl := tl) (lf := lf) (lt := lt) (lp := lp) hb hg
  obtain ⟨g0, g1, g2, g3, g4, g5, g6, g7⟩ := hg
  refine sl_T.of_V (lv := [_]) (by decide) rfl (Nat.le_of_ble_eq_true rfl) ?_
  unfold an_doubles
  refine slv_aload_n eX11_doubles_0 rfl ?_
  refine slv_getf eX11_doubles_1 fX11_97 (by repeat (first | assumption | exact sl_up_eq | refine sl_up_ne (by first | decide | omega) ?_)) rfl ?_
  refine slv_if_eqB eX11_doubles_4 (fun h4 => ?_) (fun h4 => ?_)
  · refine slv_aload_n eX11_doubles_21 rfl ?_
    refine slv_iconst (v := nI 1) eX11_doubles_22 (by decide) ?_
    refine slv_rV (As := [_]) eX11_doubles_23 lX11_76 rfl rfl (by repeat (first | assumption | exact sl_up_eq | refine sl_up_ne (by first | decide | omega) ?_)) rfl (c_X11_refuse 1) (by decide) (Nat.le_of_ble_eq_true rfl) ?_
    refine slv_iret eX11_doubles_26 rfl ?_
    subst h4
    exact ⟨rfl, rfl⟩
  · refine slv_aload_n eX11_doubles_7 rfl ?_
    refine slv_aload_n eX11_doubles_8 rfl ?_
    refine slv_getf eX11_doubles_9 fX11_16 (by repeat (first | assumption | exact sl_up_eq | refine sl_up_ne (by first | decide | omega) ?_)) rfl ?_
    refine slv_rV (As := []) eX11_doubles_12 lX11_177 rfl rfl (by repeat (first | assumption | exact sl_up_eq | refine sl_up_ne (by first | decide | omega) ?_)) rfl (c_X2_doubleRules hg' hok) (by decide) (Nat.le_of_ble_eq_true rfl) ?_
    refine slv_rV (As := [_]) eX11_doubles_15 lX11_110 rfl rfl (by repeat (first | assumption | exact sl_up_eq | refine sl_up_ne (by first | decide | omega) ?_)) rfl (c_X11_grant _) (by decide) (Nat.le_of_ble_eq_true rfl) ?_
    refine slv_goto eX11_doubles_18 ?_
    refine slv_iret eX11_doubles_26 rfl ?_
    subst h4
    exact ⟨rfl, rfl⟩
end ASL

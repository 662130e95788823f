def sg_pt (g : sg_T) (p : Nat → Bool) : sg_T := (sg_kind g, sg_rules g, sg_names g, sg_terms g, sg_words g, sg_signs g, sg_heads g, sg_deeds g, sg_lens g, sg_items g, p)
theorem sg_pt_ok {g : sg_T} {p : Nat → Bool} (h : sg_ok g) : sg_ok (sg_pt g p) := h
theorem sg_k_ok {g : sg_T} {k : Nat} (hk : k ≤ 2) (h : sg_ok g) : sg_ok (k, g.2) := ⟨hk, h.2⟩
def an_aside (sn : Bool) (g : sg_T) (x w : Int32) : an_T := match sl_vr sn x (sg_rules g) with
  | none => an_no 1
  | some k => match sl_vi w 2 with
    | none => an_no 2
    | some j => if sg_put g k = decide (j = 1) then an_no 5 else an_ok (nI (sl_ct (sl_u (sg_put g) k (decide (j = 1))) (sg_rules g) 0))
/-- what aside does: the rule, and whether it goes aside -/
def do_aside (sn : Bool) (g : sg_T) (x w : Int32) : Option (Nat × Nat) := match sl_vr sn x (sg_rules g) with
  | none => none
  | some k => match sl_vi w 2 with
    | none => none
    | some j => if sg_put g k = decide (j = 1) then none else some (k, j)
theorem slv_pair {Y : sl_Y} {X : Option (Nat × (Nat → Int32))} {d kc ks : Nat} {Q : Option Value → sl_M → Prop} {pc : Nat} {lv : List (Option Value)} {st : List Value} {M : sl_M} {z v a : Value} (h : v = a) (kk : sl_V Y X d kc ks Q pc lv (z :: a :: st) M) : sl_V Y X d kc ks Q pc lv (z :: v :: st) M := h ▸ kk
section ACY
variable {fd db sb lf lt : Nat} {sn tl : Bool} {lp : Int32} {g : sg_T} {M : sl_M}
theorem sg_upd7 (hb : db = 2 ∨ db = 10) {cc : sl_E} {p' : Nat → Bool} : sl_up (sl_up (gp_G db g M) 0 cc) (db + 7) (.inl (.boolean, 12, .inl fun z => sl_bi (p' z))) = sl_up (gp_G db (sg_pt g p') M) 0 cc := by
  rw [sl_up_comm (by omega), gs_u7]
  rfl
theorem gp_Gof : sg_at db g (gp_G db g M) := gs_sg.mp gs_of
set_option maxRecDepth 100000 in
theorem c_X11_aside (hb : db = 2 ∨ db = 10) (hg : sg_at db g M) (hok : sg_ok g) {e0 : Nat} {l t s : Nat → Int32} (hr : rl_at e0 l t s M) (hz : (∀ i, 6 ≤ i → l i = nI 0 ∧ t i = nI 0) ∧ ∀ i, 144 ≤ i → s i = nI 0) {rn e : Nat} {rk kn nu ba : Nat → Nat} {ar re : Nat → Int32} (hl : ld_at rn e rk kn ar re nu ba M) (hy : ∀ p, 28 ≤ p → kn p = 0 ∧ ar p = nI 0 ∧ re p = nI 0 ∧ nu p = 0 ∧ ba p = 0) {c : Nat} {o v : Nat → Int32} (ha : ac_at c o v M) (hc : c ≤ 10) (x w : Int32) : sl_R YX11_aside 7 [.ref 0, .int x, .int w] (ob_set fd db sb sn tl lf lt lp M) (some (.int (an_aside sn g x w).1)) (match do_aside sn g x w with
    | some (k, j) => ob_set fd db sb sn false lf 0 lp (sd_set (sg_pt g (sl_u (sg_put g) k (decide (j = 1)))) rk ba (gp_G db (sg_pt g (sl_u (sg_put g) k (decide (j = 1)))) (ac_set (ac_kc c) (ac_kf c o (nI k)) (ac_kf c v (nI (1 - j))) M)))
    | none => ob_set fd db sb sn tl lf (an_aside sn g x w).2 lp M) := by
  have hR := c_X11_hasRule (fd := fd) (sb := sb) (sn := sn) (tl := tl) (lf := lf) (lt := lt) (lp := lp) hb hg hok x
  have hr12 : sg_rules g ≤ 12 := hok.2.1
  have h1 := fun k j => c_X0_keep (ob_ac (fd := fd) (db := db) (sb := sb) (sn := sn) (tl := tl) (lf := lf) (lt := lt) (lp := lp) ha) hc (nI k) (nI j)
  simp only [ac_c0] at h1
  have hgs : ∀ k j : Nat, gp_G db g (ac_set (ac_kc c) (ac_kf c o (nI k)) (ac_kf c v (nI j)) M) = ac_set (ac_kc c) (ac_kf c o (nI k)) (ac_kf c v (nI j)) M := fun k j => gs_self (ac_gp hb hg)
  have hst := fun k j p => c_X11_settle (fd := fd) (sb := sb) (sn := sn) (tl := tl) (lf := lf) (lt := lt) (lp := lp) hb (gp_Gof (db := db) (g := sg_pt g p) (M := ac_set (ac_kc c) (ac_kf c o (nI k)) (ac_kf c v (nI j)) M)) (sg_pt_ok hok) (t_gs_rl hb (t_ac_rl hr)) hz (t_gs_ld hb (t_ac_ld hl)) hy
  have hpc := fun (k j : Nat) (p : Nat → Bool) => c_X2_putCount (ob_sg (fd := fd) (db := db) (sb := sb) (sn := sn) (tl := false) (lf := lf) (lt := lt) (lp := lp) hb (t_ld_sg hb (t_rl_sg hb (gp_Gof (db := db) (g := sg_pt g p) (M := ac_set (ac_kc c) (ac_kf c o (nI k)) (ac_kf c v (nI j)) M))) : sg_at db (sg_pt g p) (sd_set (sg_pt g p) rk ba (gp_G db (sg_pt g p) (ac_set (ac_kc c) (ac_kf c o (nI k)) (ac_kf c v (nI j)) M))))) (sg_pt_ok hok)
  have g0 := hg.1
  have g7 := hg.2.2.2.2.2.2.2
  have q30 := ha.1
  refine sl_T.of_V (lv := [_, _, _]) (by decide) rfl (Nat.le_of_ble_eq_true rfl) ?_
  unfold an_aside do_aside
  cases hq : sl_vr sn x (sg_rules g) with
  | none =>
    rw [hq] at hR
    refine slv_aload_n eX11_aside_0 rfl ?_
    refine slv_iload_n eX11_aside_1 rfl ?_
    refine slv_rV (As := [_]) eX11_aside_2 lX11_128 rfl rfl (by repeat (first | assumption | exact sl_up_eq | refine sl_up_ne (by first | decide | omega) ?_)) rfl hR (by decide) (Nat.le_of_ble_eq_true rfl) ?_
    refine slv_if_neB eX11_aside_5 (fun h5 => absurd h5 (by decide)) (fun h5 => ?_)
    refine slv_aload_n eX11_aside_8 rfl ?_
    refine slv_iconst (v := nI 1) eX11_aside_9 (by decide) ?_
    refine slv_rV (As := [_]) eX11_aside_10 lX11_76 rfl rfl (by repeat (first | assumption | exact sl_up_eq | refine sl_up_ne (by first | decide | omega) ?_)) rfl (c_X11_refuse 1) (by decide) (Nat.le_of_ble_eq_true rfl) ?_
    refine slv_iret eX11_aside_13 rfl ?_
    exact ⟨rfl, rfl⟩
  | some k =>
    rw [hq] at hR
    obtain ⟨-, hx, hk⟩ := vr_some hq
    subst hx
    have hk12 : k < 12 := by omega
    simp only
    cases hv : sl_vi w 2 with
    | none =>
      have hvv := vi_lt (by omega) hv
      refine slv_aload_n eX11_aside_0 rfl ?_
      refine slv_iload_n eX11_aside_1 rfl ?_
      refine slv_rV (As := [_]) eX11_aside_2 lX11_128 rfl rfl (by repeat (first | assumption | exact sl_up_eq | refine sl_up_ne (by first | decide | omega) ?_)) rfl hR (by decide) (Nat.le_of_ble_eq_true rfl) ?_
      refine slv_if_neB eX11_aside_5 (fun h5 => ?_) (fun h5 => absurd h5 sl_tf)
      refine slv_iload_n eX11_aside_14 rfl ?_
      refine slv_if_lt eX11_aside_15 (fun h15 => ?_) (fun h15 => ?_)
      · refine slv_aload_n eX11_aside_23 rfl ?_
        refine slv_iconst (v := nI 2) eX11_aside_24 (by decide) ?_
        refine slv_rV (As := [_]) eX11_aside_25 lX11_76 rfl rfl (by repeat (first | assumption | exact sl_up_eq | refine sl_up_ne (by first | decide | omega) ?_)) rfl (c_X11_refuse 2) (by decide) (Nat.le_of_ble_eq_true rfl) ?_
        refine slv_iret eX11_aside_28 rfl ?_
        exact ⟨rfl, rfl⟩
      · refine slv_iload_n eX11_aside_18 rfl ?_
        refine slv_iconst (v := nI 1) eX11_aside_19 (by decide) ?_
        refine slv_icmp_le eX11_aside_20 (fun h20 => ?_) (fun h20 => ?_)
        · exact absurd hvv (fun q => q.elim h15 (fun q => q (vi_le1 (n := 1) (by omega) h20)))
        · refine slv_aload_n eX11_aside_23 rfl ?_
          refine slv_iconst (v := nI 2) eX11_aside_24 (by decide) ?_
          refine slv_rV (As := [_]) eX11_aside_25 lX11_76 rfl rfl (by repeat (first | assumption | exact sl_up_eq | refine sl_up_ne (by first | decide | omega) ?_)) rfl (c_X11_refuse 2) (by decide) (Nat.le_of_ble_eq_true rfl) ?_
          refine slv_iret eX11_aside_28 rfl ?_
          exact ⟨rfl, rfl⟩
    | some j =>
      obtain ⟨hx, hj⟩ := vi_some hv
      subst hx
      simp only
      have hgs' := hgs k (1 - j)
      rcases (show j = 0 ∨ j = 1 by omega) with q | q <;> subst q
      · by_cases hp : sg_put g k = decide (0 = 1)
        · rw [if_pos hp, if_pos hp]
          have hp' : sg_put g k = false := hp
          refine slv_aload_n eX11_aside_0 rfl ?_
          refine slv_iload_n eX11_aside_1 rfl ?_
          refine slv_rV (As := [_]) eX11_aside_2 lX11_128 rfl rfl (by repeat (first | assumption | exact sl_up_eq | refine sl_up_ne (by first | decide | omega) ?_)) rfl hR (by decide) (Nat.le_of_ble_eq_true rfl) ?_
          refine slv_if_neB eX11_aside_5 (fun h5 => ?_) (fun h5 => absurd h5 sl_tf)
          refine slv_iload_n eX11_aside_14 rfl ?_
          refine slv_if_ltN eX11_aside_15 (by omega) ?_
          refine slv_iload_n eX11_aside_18 rfl ?_
          refine slv_iconst (v := nI 1) eX11_aside_19 (by decide) ?_
          refine slv_icmp_le eX11_aside_20 (fun h20 => ?_) (fun h20 => absurd (by decide) h20)
          refine slv_aload_n eX11_aside_29 rfl ?_
          refine slv_getf eX11_aside_30 fX11_16 (by repeat (first | assumption | exact sl_up_eq | refine sl_up_ne (by first | decide | omega) ?_)) rfl ?_
          refine slv_getf eX11_aside_33 fX11_142 (by repeat (first | assumption | exact sl_up_eq | refine sl_up_ne (by first | decide | omega) ?_)) rfl ?_
          refine slv_iload_n eX11_aside_36 rfl ?_
          refine slv_zaldN eX11_aside_37 (by repeat (first | assumption | exact sl_up_eq | refine sl_up_ne (by first | decide | omega) ?_)) (by omega) (by decide) ?_
          refine slv_iload_n eX11_aside_38 rfl ?_
          refine slv_iconst (v := nI 1) eX11_aside_39 (by decide) ?_
          refine slv_icmp_ne eX11_aside_40 (fun h40 => ?_) (fun h40 => absurd h40 (by decide))
          refine slv_iconst (v := nI 0) eX11_aside_47 (by decide) ?_
          refine slv_pair (a := .int (nI 0)) (by rw [hp']; rfl) ?_
          refine slv_icmp_ne eX11_aside_48 (fun h48 => absurd rfl h48) (fun h48 => ?_)
          refine slv_aload_n eX11_aside_51 rfl ?_
          refine slv_iconst (v := nI 5) eX11_aside_52 (by decide) ?_
          refine slv_rV (As := [_]) eX11_aside_53 lX11_76 rfl rfl (by repeat (first | assumption | exact sl_up_eq | refine sl_up_ne (by first | decide | omega) ?_)) rfl (c_X11_refuse 5) (by decide) (Nat.le_of_ble_eq_true rfl) ?_
          refine slv_iret eX11_aside_56 rfl ?_
          exact ⟨rfl, rfl⟩
        · rw [if_neg hp, if_neg hp]
          have hp' : sg_put g k = true := by cases hh : sg_put g k with
            | true => rfl
            | false => exact absurd hh hp
          refine slv_aload_n eX11_aside_0 rfl ?_
          refine slv_iload_n eX11_aside_1 rfl ?_
          refine slv_rV (As := [_]) eX11_aside_2 lX11_128 rfl rfl (by repeat (first | assumption | exact sl_up_eq | refine sl_up_ne (by first | decide | omega) ?_)) rfl hR (by decide) (Nat.le_of_ble_eq_true rfl) ?_
          refine slv_if_neB eX11_aside_5 (fun h5 => ?_) (fun h5 => absurd h5 sl_tf)
          refine slv_iload_n eX11_aside_14 rfl ?_
          refine slv_if_ltN eX11_aside_15 (by omega) ?_
          refine slv_iload_n eX11_aside_18 rfl ?_
          refine slv_iconst (v := nI 1) eX11_aside_19 (by decide) ?_
          refine slv_icmp_le eX11_aside_20 (fun h20 => ?_) (fun h20 => absurd (by decide) h20)
          refine slv_aload_n eX11_aside_29 rfl ?_
          refine slv_getf eX11_aside_30 fX11_16 (by repeat (first | assumption | exact sl_up_eq | refine sl_up_ne (by first | decide | omega) ?_)) rfl ?_
          refine slv_getf eX11_aside_33 fX11_142 (by repeat (first | assumption | exact sl_up_eq | refine sl_up_ne (by first | decide | omega) ?_)) rfl ?_
          refine slv_iload_n eX11_aside_36 rfl ?_
          refine slv_zaldN eX11_aside_37 (by repeat (first | assumption | exact sl_up_eq | refine sl_up_ne (by first | decide | omega) ?_)) (by omega) (by decide) ?_
          refine slv_iload_n eX11_aside_38 rfl ?_
          refine slv_iconst (v := nI 1) eX11_aside_39 (by decide) ?_
          refine slv_icmp_ne eX11_aside_40 (fun h40 => ?_) (fun h40 => absurd h40 (by decide))
          refine slv_iconst (v := nI 0) eX11_aside_47 (by decide) ?_
          refine slv_pair (a := .int (nI 1)) (by rw [hp']; rfl) ?_
          refine slv_icmp_ne eX11_aside_48 (fun h48 => ?_) (fun h48 => absurd h48 (by decide))
          refine slv_aload_n eX11_aside_57 rfl ?_
          refine slv_getf eX11_aside_58 fX11_47 (by repeat (first | assumption | exact sl_up_eq | refine sl_up_ne (by first | decide | omega) ?_)) rfl ?_
          refine slv_iload_n eX11_aside_61 rfl ?_
          refine slv_iconst (v := nI 1) eX11_aside_62 (by decide) ?_
          refine slv_iload_n eX11_aside_63 rfl ?_
          refine slv_isubN eX11_aside_64 (by omega) ?_
          refine slv_rV (As := [_, _]) eX11_aside_65 lX11_298 rfl rfl (by repeat (first | assumption | exact sl_up_eq | refine sl_up_ne (by first | decide | omega) ?_)) rfl (h1 k (1 - 0)) (by decide) (Nat.le_of_ble_eq_true rfl) ?_
          refine slv_mem (M' := ob_set fd db sb sn tl lf lt lp (gp_G db g (ac_set (ac_kc c) (ac_kf c o (nI k)) (ac_kf c v (nI (1 - 0))) M))) (by rw [hgs']) ?_
          refine slv_aload_n eX11_aside_68 rfl ?_
          refine slv_getf eX11_aside_69 fX11_16 (by repeat (first | assumption | exact sl_up_eq | refine sl_up_ne (by first | decide | omega) ?_)) rfl ?_
          refine slv_getf eX11_aside_72 fX11_142 (by repeat (first | assumption | exact sl_up_eq | refine sl_up_ne (by first | decide | omega) ?_)) rfl ?_
          refine slv_iload_n eX11_aside_75 rfl ?_
          refine slv_iload_n eX11_aside_76 rfl ?_
          refine slv_iconst (v := nI 1) eX11_aside_77 (by decide) ?_
          refine slv_icmp_ne eX11_aside_78 (fun h78 => ?_) (fun h78 => absurd h78 (by decide))
          refine slv_iconst (v := nI 0) eX11_aside_85 (by decide) ?_
          refine slv_top (w := .int (sl_bi (decide (0 = 1)))) rfl ?_
          refine slv_zastB eX11_aside_86 (by repeat (first | assumption | exact sl_up_eq | refine sl_up_ne (by first | decide | omega) ?_)) (by omega) (by decide) ?_
          refine slv_mem (sg_upd7 hb) ?_
          refine slv_aload_n eX11_aside_87 rfl ?_
          refine slv_rV (As := []) eX11_aside_88 lX11_104 rfl rfl (by repeat (first | assumption | exact sl_up_eq | refine sl_up_ne (by first | decide | omega) ?_)) rfl (hst k (1 - 0) _) (by decide) (Nat.le_of_ble_eq_true rfl) ?_
          refine slv_aload_n eX11_aside_91 rfl ?_
          refine slv_aload_n eX11_aside_92 rfl ?_
          refine slv_getf eX11_aside_93 fX11_16 (by repeat (first | assumption | exact sl_up_eq | refine sl_up_ne (by first | decide | omega) ?_)) rfl ?_
          refine slv_rV (As := []) eX11_aside_96 lX11_302 rfl rfl (by repeat (first | assumption | exact sl_up_eq | refine sl_up_ne (by first | decide | omega) ?_)) rfl (hpc k (1 - 0) _) (by decide) (Nat.le_of_ble_eq_true rfl) ?_
          refine slv_rV (As := [_]) eX11_aside_99 lX11_110 rfl rfl (by repeat (first | assumption | exact sl_up_eq | refine sl_up_ne (by first | decide | omega) ?_)) rfl (c_X11_grant _) (by decide) (Nat.le_of_ble_eq_true rfl) ?_
          refine slv_iret eX11_aside_102 rfl ?_
          exact ⟨rfl, rfl⟩
      · by_cases hp : sg_put g k = decide (1 = 1)
        · rw [if_pos hp, if_pos hp]
          have hp' : sg_put g k = true := hp
          refine slv_aload_n eX11_aside_0 rfl ?_
          refine slv_iload_n eX11_aside_1 rfl ?_
          refine slv_rV (As := [_]) eX11_aside_2 lX11_128 rfl rfl (by repeat (first | assumption | exact sl_up_eq | refine sl_up_ne (by first | decide | omega) ?_)) rfl hR (by decide) (Nat.le_of_ble_eq_true rfl) ?_
          refine slv_if_neB eX11_aside_5 (fun h5 => ?_) (fun h5 => absurd h5 sl_tf)
          refine slv_iload_n eX11_aside_14 rfl ?_
          refine slv_if_ltN eX11_aside_15 (by omega) ?_
          refine slv_iload_n eX11_aside_18 rfl ?_
          refine slv_iconst (v := nI 1) eX11_aside_19 (by decide) ?_
          refine slv_icmp_le eX11_aside_20 (fun h20 => ?_) (fun h20 => absurd (by decide) h20)
          refine slv_aload_n eX11_aside_29 rfl ?_
          refine slv_getf eX11_aside_30 fX11_16 (by repeat (first | assumption | exact sl_up_eq | refine sl_up_ne (by first | decide | omega) ?_)) rfl ?_
          refine slv_getf eX11_aside_33 fX11_142 (by repeat (first | assumption | exact sl_up_eq | refine sl_up_ne (by first | decide | omega) ?_)) rfl ?_
          refine slv_iload_n eX11_aside_36 rfl ?_
          refine slv_zaldN eX11_aside_37 (by repeat (first | assumption | exact sl_up_eq | refine sl_up_ne (by first | decide | omega) ?_)) (by omega) (by decide) ?_
          refine slv_iload_n eX11_aside_38 rfl ?_
          refine slv_iconst (v := nI 1) eX11_aside_39 (by decide) ?_
          refine slv_icmp_ne eX11_aside_40 (fun h40 => absurd (by decide) h40) (fun h40 => ?_)
          refine slv_iconst (v := nI 1) eX11_aside_43 (by decide) ?_
          refine slv_goto eX11_aside_44 ?_
          refine slv_pair (a := .int (nI 1)) (by rw [hp']; rfl) ?_
          refine slv_icmp_ne eX11_aside_48 (fun h48 => absurd rfl h48) (fun h48 => ?_)
          refine slv_aload_n eX11_aside_51 rfl ?_
          refine slv_iconst (v := nI 5) eX11_aside_52 (by decide) ?_
          refine slv_rV (As := [_]) eX11_aside_53 lX11_76 rfl rfl (by repeat (first | assumption | exact sl_up_eq | refine sl_up_ne (by first | decide | omega) ?_)) rfl (c_X11_refuse 5) (by decide) (Nat.le_of_ble_eq_true rfl) ?_
          refine slv_iret eX11_aside_56 rfl ?_
          exact ⟨rfl, rfl⟩
        · rw [if_neg hp, if_neg hp]
          have hp' : sg_put g k = false := by cases hh : sg_put g k with
            | false => rfl
            | true => exact absurd hh hp
          refine slv_aload_n eX11_aside_0 rfl ?_
          refine slv_iload_n eX11_aside_1 rfl ?_
          refine slv_rV (As := [_]) eX11_aside_2 lX11_128 rfl rfl (by repeat (first | assumption | exact sl_up_eq | refine sl_up_ne (by first | decide | omega) ?_)) rfl hR (by decide) (Nat.le_of_ble_eq_true rfl) ?_
          refine slv_if_neB eX11_aside_5 (fun h5 => ?_) (fun h5 => absurd h5 sl_tf)
          refine slv_iload_n eX11_aside_14 rfl ?_
          refine slv_if_ltN eX11_aside_15 (by omega) ?_
          refine slv_iload_n eX11_aside_18 rfl ?_
          refine slv_iconst (v := nI 1) eX11_aside_19 (by decide) ?_
          refine slv_icmp_le eX11_aside_20 (fun h20 => ?_) (fun h20 => absurd (by decide) h20)
          refine slv_aload_n eX11_aside_29 rfl ?_
          refine slv_getf eX11_aside_30 fX11_16 (by repeat (first | assumption | exact sl_up_eq | refine sl_up_ne (by first | decide | omega) ?_)) rfl ?_
          refine slv_getf eX11_aside_33 fX11_142 (by repeat (first | assumption | exact sl_up_eq | refine sl_up_ne (by first | decide | omega) ?_)) rfl ?_
          refine slv_iload_n eX11_aside_36 rfl ?_
          refine slv_zaldN eX11_aside_37 (by repeat (first | assumption | exact sl_up_eq | refine sl_up_ne (by first | decide | omega) ?_)) (by omega) (by decide) ?_
          refine slv_iload_n eX11_aside_38 rfl ?_
          refine slv_iconst (v := nI 1) eX11_aside_39 (by decide) ?_
          refine slv_icmp_ne eX11_aside_40 (fun h40 => absurd (by decide) h40) (fun h40 => ?_)
          refine slv_iconst (v := nI 1) eX11_aside_43 (by decide) ?_
          refine slv_goto eX11_aside_44 ?_
          refine slv_pair (a := .int (nI 0)) (by rw [hp']; rfl) ?_
          refine slv_icmp_ne eX11_aside_48 (fun h48 => ?_) (fun h48 => absurd h48 (by decide))
          refine slv_aload_n eX11_aside_57 rfl ?_
          refine slv_getf eX11_aside_58 fX11_47 (by repeat (first | assumption | exact sl_up_eq | refine sl_up_ne (by first | decide | omega) ?_)) rfl ?_
          refine slv_iload_n eX11_aside_61 rfl ?_
          refine slv_iconst (v := nI 1) eX11_aside_62 (by decide) ?_
          refine slv_iload_n eX11_aside_63 rfl ?_
          refine slv_isubN eX11_aside_64 (by omega) ?_
          refine slv_rV (As := [_, _]) eX11_aside_65 lX11_298 rfl rfl (by repeat (first | assumption | exact sl_up_eq | refine sl_up_ne (by first | decide | omega) ?_)) rfl (h1 k (1 - 1)) (by decide) (Nat.le_of_ble_eq_true rfl) ?_
          refine slv_mem (M' := ob_set fd db sb sn tl lf lt lp (gp_G db g (ac_set (ac_kc c) (ac_kf c o (nI k)) (ac_kf c v (nI (1 - 1))) M))) (by rw [hgs']) ?_
          refine slv_aload_n eX11_aside_68 rfl ?_
          refine slv_getf eX11_aside_69 fX11_16 (by repeat (first | assumption | exact sl_up_eq | refine sl_up_ne (by first | decide | omega) ?_)) rfl ?_
          refine slv_getf eX11_aside_72 fX11_142 (by repeat (first | assumption | exact sl_up_eq | refine sl_up_ne (by first | decide | omega) ?_)) rfl ?_
          refine slv_iload_n eX11_aside_75 rfl ?_
          refine slv_iload_n eX11_aside_76 rfl ?_
          refine slv_iconst (v := nI 1) eX11_aside_77 (by decide) ?_
          refine slv_icmp_ne eX11_aside_78 (fun h78 => absurd (by decide) h78) (fun h78 => ?_)
          refine slv_iconst (v := nI 1) eX11_aside_81 (by decide) ?_
          refine slv_goto eX11_aside_82 ?_
          refine slv_top (w := .int (sl_bi (decide (1 = 1)))) rfl ?_
          refine slv_zastB eX11_aside_86 (by repeat (first | assumption | exact sl_up_eq | refine sl_up_ne (by first | decide | omega) ?_)) (by omega) (by decide) ?_
          refine slv_mem (sg_upd7 hb) ?_
          refine slv_aload_n eX11_aside_87 rfl ?_
          refine slv_rV (As := []) eX11_aside_88 lX11_104 rfl rfl (by repeat (first | assumption | exact sl_up_eq | refine sl_up_ne (by first | decide | omega) ?_)) rfl (hst k (1 - 1) _) (by decide) (Nat.le_of_ble_eq_true rfl) ?_
          refine slv_aload_n eX11_aside_91 rfl ?_
          refine slv_aload_n eX11_aside_92 rfl ?_
          refine slv_getf eX11_aside_93 fX11_16 (by repeat (first | assumption | exact sl_up_eq | refine sl_up_ne (by first | decide | omega) ?_)) rfl ?_
          refine slv_rV (As := []) eX11_aside_96 lX11_302 rfl rfl (by repeat (first | assumption | exact sl_up_eq | refine sl_up_ne (by first | decide | omega) ?_)) rfl (hpc k (1 - 1) _) (by decide) (Nat.le_of_ble_eq_true rfl) ?_
          refine slv_rV (As := [_]) eX11_aside_99 lX11_110 rfl rfl (by repeat (first | assumption | exact sl_up_eq | refine sl_up_ne (by first | decide | omega) ?_)) rfl (c_X11_grant _) (by decide) (Nat.le_of_ble_eq_true rfl) ?_
          refine slv_iret eX11_aside_102 rfl ?_
          exact ⟨rfl, rfl⟩
/-- what is taken back -/
def un_g (g : sg_T) (a : Option Nat) (x : Nat) : sg_T := match a with
  | none => (x, g.2)
  | some r => sg_pt g (sl_u (sg_put g) r (decide (x = 1)))
theorem un_ok {g : sg_T} {a : Option Nat} {x : Nat} (h : sg_ok g) (hx : a = none → x ≤ 2) : sg_ok (un_g g a x) := by
  cases a with
  | none => exact sg_k_ok (hx rfl) h
  | some r => exact h
set_option maxRecDepth 100000 in
theorem c_X11_undo (hb : db = 2 ∨ db = 10) (hg : sg_at db g M) (hok : sg_ok g) {e0 : Nat} {l t s : Nat → Int32} (hr : rl_at e0 l t s M) (hz : (∀ i, 6 ≤ i → l i = nI 0 ∧ t i = nI 0) ∧ ∀ i, 144 ≤ i → s i = nI 0) {rn e : Nat} {rk kn nu ba : Nat → Nat} {ar re : Nat → Int32} (hl : ld_at rn e rk kn ar re nu ba M) (hy : ∀ p, 28 ≤ p → kn p = 0 ∧ ar p = nI 0 ∧ re p = nI 0 ∧ nu p = 0 ∧ ba p = 0) {c : Nat} {ak : Nat → Option Nat} {av : Nat → Nat} (ha : ac_at c (fun i => sl_io (ak i)) (fun i => nI (av i)) M) (hc : c ≤ 10) (hk : ∀ r, ak (c - 1) = some r → r < 12) (hv : av (c - 1) < 1000) (hv2 : ak (c - 1) = none → av (c - 1) ≤ 2) : sl_R YX11_undo 7 [.ref 0] (ob_set fd db sb sn tl lf lt lp M) (some (.int (sl_bi (decide (0 < c))))) (if 0 < c then ob_set fd db sb sn false lf 0 lp (sd_set (un_g g (ak (c - 1)) (av (c - 1))) rk ba (gp_G db (un_g g (ak (c - 1)) (av (c - 1))) (ac_set (c - 1) (fun i => sl_io (ak i)) (fun i => nI (av i)) M))) else ob_set fd db sb sn tl lf 1 lp M) := by
  have q30 := ha.1
  refine sl_T.of_V (lv := [_]) (by decide) rfl (Nat.le_of_ble_eq_true rfl) ?_
  by_cases h0 : 0 < c
  · rw [if_pos h0, decide_eq_true h0]
    have hT : sl_R YX0_takeBack 0 [.ref 30, .ref db] (ob_set fd db sb sn tl lf lt lp M) none (ob_set fd db sb sn tl lf lt lp (gp_G db (un_g g (ak (c - 1)) (av (c - 1))) (ac_set (c - 1) (fun i => sl_io (ak i)) (fun i => nI (av i)) M))) := by
      cases ha1 : ak (c - 1) with
      | none =>
        have z := c_X0_takeBackK (ob_sg (fd := fd) (db := db) (sb := sb) (sn := sn) (tl := tl) (lf := lf) (lt := lt) (lp := lp) hb hg) hb (ob_ac (fd := fd) (db := db) (sb := sb) (sn := sn) (tl := tl) (lf := lf) (lt := lt) (lp := lp) ha) ⟨h0, hc⟩ (x := av (c - 1)) (by simp only [ha1]; rfl) rfl
        rw [ac_c0, gs_c0 (by omega)] at z
        exact z
      | some r =>
        have z := c_X0_takeBackP (ob_sg (fd := fd) (db := db) (sb := sb) (sn := sn) (tl := tl) (lf := lf) (lt := lt) (lp := lp) hb hg) hb (ob_ac (fd := fd) (db := db) (sb := sb) (sn := sn) (tl := tl) (lf := lf) (lt := lt) (lp := lp) ha) ⟨h0, hc⟩ (r := r) (x := av (c - 1)) (hk r ha1) (by simp only [ha1]; rfl) rfl hv
        rw [ac_c0, gs_c0 (by omega)] at z
        exact z
    have hst := c_X11_settle (fd := fd) (sb := sb) (sn := sn) (tl := tl) (lf := lf) (lt := lt) (lp := lp) hb (gp_Gof (db := db) (g := un_g g (ak (c - 1)) (av (c - 1))) (M := ac_set (c - 1) (fun i => sl_io (ak i)) (fun i => nI (av i)) M)) (un_ok hok hv2) (t_gs_rl hb (t_ac_rl hr)) hz (t_gs_ld hb (t_ac_ld hl)) hy
    generalize un_g g (ak (c - 1)) (av (c - 1)) = ug at hT hst ⊢
    refine slv_aload_n eX11_undo_0 rfl ?_
    refine slv_getf eX11_undo_1 fX11_47 (by repeat (first | assumption | exact sl_up_eq | refine sl_up_ne (by first | decide | omega) ?_)) rfl ?_
    refine slv_getf eX11_undo_4 fX11_305 (by repeat (first | assumption | exact sl_up_eq | refine sl_up_ne (by first | decide | omega) ?_)) rfl ?_
    refine slv_if_neN eX11_undo_7 (by omega) (fun h7 => ?_) (fun h7 => absurd h7 (by omega))
    refine slv_aload_n eX11_undo_18 rfl ?_
    refine slv_getf eX11_undo_19 fX11_47 (by repeat (first | assumption | exact sl_up_eq | refine sl_up_ne (by first | decide | omega) ?_)) rfl ?_
    refine slv_aload_n eX11_undo_22 rfl ?_
    refine slv_getf eX11_undo_23 fX11_16 (by repeat (first | assumption | exact sl_up_eq | refine sl_up_ne (by first | decide | omega) ?_)) rfl ?_
    refine slv_rV (As := [_]) eX11_undo_26 lX11_306 rfl rfl (by repeat (first | assumption | exact sl_up_eq | refine sl_up_ne (by first | decide | omega) ?_)) rfl hT (by decide) (Nat.le_of_ble_eq_true rfl) ?_
    refine slv_aload_n eX11_undo_29 rfl ?_
    refine slv_rV (As := []) eX11_undo_30 lX11_104 rfl rfl (by repeat (first | assumption | exact sl_up_eq | refine sl_up_ne (by first | decide | omega) ?_)) rfl hst (by decide) (Nat.le_of_ble_eq_true rfl) ?_
    refine slv_aload_n eX11_undo_33 rfl ?_
    refine slv_iconst (v := nI 0) eX11_undo_34 (by decide) ?_
    refine slv_rV (As := [_]) eX11_undo_35 lX11_110 rfl rfl (by repeat (first | assumption | exact sl_up_eq | refine sl_up_ne (by first | decide | omega) ?_)) rfl (c_X11_grant _) (by decide) (Nat.le_of_ble_eq_true rfl) ?_
    refine slv_pop eX11_undo_38 rfl ?_
    refine slv_iconst (v := nI 1) eX11_undo_39 (by decide) ?_
    refine slv_zret eX11_undo_40 rfl rfl ?_
    exact ⟨rfl, rfl⟩
  · rw [if_neg h0, decide_eq_false h0]
    refine slv_aload_n eX11_undo_0 rfl ?_
    refine slv_getf eX11_undo_1 fX11_47 (by repeat (first | assumption | exact sl_up_eq | refine sl_up_ne (by first | decide | omega) ?_)) rfl ?_
    refine slv_getf eX11_undo_4 fX11_305 (by repeat (first | assumption | exact sl_up_eq | refine sl_up_ne (by first | decide | omega) ?_)) rfl ?_
    refine slv_if_neN eX11_undo_7 (by omega) (fun h7 => absurd h7 (by omega)) (fun h7 => ?_)
    refine slv_aload_n eX11_undo_10 rfl ?_
    refine slv_iconst (v := nI 1) eX11_undo_11 (by decide) ?_
    refine slv_rV (As := [_]) eX11_undo_12 lX11_76 rfl rfl (by repeat (first | assumption | exact sl_up_eq | refine sl_up_ne (by first | decide | omega) ?_)) rfl (c_X11_refuse 1) (by decide) (Nat.le_of_ble_eq_true rfl) ?_
    refine slv_pop eX11_undo_15 rfl ?_
    refine slv_iconst (v := nI 0) eX11_undo_16 (by decide) ?_
    refine slv_zret eX11_undo_17 rfl rfl ?_
    exact ⟨rfl, rfl⟩
end ACY

def an_function (sn : Bool) (g : sg_T) (rn : Nat) (nu kn : Nat → Nat) (x w : Int32) : an_T := match sl_vr sn x (sg_terms g + 1) with
  | none => an_no 1
  | some t => match sl_vi w 2 with
    | some 0 => if rn = 0 then an_ok (nI (nu (kn t))) else an_no 5
    | some 1 => if rn = 0 then an_ok (nI (nu (kn (16 + t)))) else an_no 5
    | _ => an_no 1
def an_highest (sn : Bool) (e rn : Nat) (nu kn : Nat → Nat) : an_T := cond sn (if rn = 0 then an_ok (nI (lk_gt nu kn (e + 1) 0 0)) else an_no 5) (an_no 1)
def an_hid (s : Nat → Int32) (nu kn : Nat → Nat) (r : Int32) (x y : Nat) : Bool := decide (s (12 * x + y) = 0) && decide (nI (lk_cp (nu (kn x)) (nu (kn (16 + y)))) = r)
def an_hc (s : Nat → Int32) (nu kn : Nat → Nat) (r : Int32) (e n i : Nat) : Nat := sl_fo (fun x a => a + sl_ct (fun y => an_hid s nu kn r x y) (e + 1) 0) n i 0
def an_hidden (sn : Bool) (e rn : Nat) (s : Nat → Int32) (nu kn : Nat → Nat) (x : Int32) : an_T := cond sn (cond (an_isr x) (if rn = 0 then an_ok (nI (an_hc s nu kn x e (e + 1) 0)) else an_no 5) (an_no 2)) (an_no 1)
def an_knotted (sn : Bool) (e : Nat) (kn : Nat → Nat) : an_T := cond sn (an_ok (nI (lk_kc kn (e + 1) 0 0))) (an_no 1)
def an_ring (sn : Bool) (rn : Nat) : an_T := cond sn (an_ok (nI rn)) (an_no 1)
def an_ringAt (sn : Bool) (rn : Nat) (rk : Nat → Nat) (x : Int32) : an_T := match sl_vr sn x rn with
  | none => an_no 1
  | some k => an_ok (nI (rk k))
section ASM
variable {fd db sb lf lt : Nat} {sn tl : Bool} {lp : Int32} {g : sg_T} {M : sl_M} {e0 : Nat} {l t s : Nat → Int32} {rn e : Nat} {rk kn nu ba : Nat → Nat} {ar re : Nat → Int32}
theorem ob_ld (h : ld_at rn e rk kn ar re nu ba M) : ld_at rn e rk kn ar re nu ba (ob_set fd db sb sn tl lf lt lp M) := by
  obtain ⟨a0, a1, a2, a3, a4, a5, a6⟩ := h
  exact ⟨(ob_out (by omega)).trans a0, (ob_out (by omega)).trans a1, (ob_out (by omega)).trans a2, (ob_out (by omega)).trans a3, (ob_out (by omega)).trans a4, (ob_out (by omega)).trans a5, (ob_out (by omega)).trans a6⟩
set_option maxRecDepth 100000 in
theorem c_X11_function (hb : db = 2 ∨ db = 10) (hg : sg_at db g M) (hok : sg_ok g) (hl : ld_at rn e rk kn ar re nu ba M) (hk : ∀ p, p < 28 → kn p < 28) (hrn : rn < 1000) (x w : Int32) : sl_R YX11_function 1 [.ref 0, .int x, .int w] (ob_set fd db sb sn tl lf lt lp M) (some (.int (an_function sn g rn nu kn x w).1)) (ob_set fd db sb sn tl lf (an_function sn g rn nu kn x w).2 lp M) := by
  have hX := c_X11_hasTerminal (fd := fd) (sb := sb) (sn := sn) (tl := tl) (lf := lf) (lt := lt) (lp := lp) hb hg hok x
  have hn6 : sg_terms g ≤ 11 := hok.2.2.2.1
  have hl' := ob_ld (fd := fd) (db := db) (sb := sb) (sn := sn) (tl := tl) (lf := lf) (lt := lt) (lp := lp) hl
  have hS := c_X5_stand hl' (by omega)
  obtain ⟨a0, a1, a2, a3, a4, a5, a6⟩ := hl
  refine sl_T.of_V (lv := [_, _, _]) (by decide) rfl (Nat.le_of_ble_eq_true rfl) ?_
  unfold an_function
  cases hq : sl_vr sn x (sg_terms g + 1) with
  | none =>
    rw [hq] at hX
    refine slv_aload_n eX11_function_0 rfl ?_
    refine slv_iload_n eX11_function_1 rfl ?_
    refine slv_rV (As := [_]) eX11_function_2 lX11_149 rfl rfl (by repeat (first | assumption | exact sl_up_eq | refine sl_up_ne (by first | decide | omega) ?_)) rfl hX (by decide) (Nat.le_of_ble_eq_true rfl) ?_
    refine slv_if_eqB eX11_function_5 (fun h5 => ?_) (fun h5 => absurd h5 (by decide))
    refine slv_aload_n eX11_function_17 rfl ?_
    refine slv_iconst (v := nI 1) eX11_function_18 (by decide) ?_
    refine slv_rV (As := [_]) eX11_function_19 lX11_76 rfl rfl (by repeat (first | assumption | exact sl_up_eq | refine sl_up_ne (by first | decide | omega) ?_)) rfl (c_X11_refuse 1) (by decide) (Nat.le_of_ble_eq_true rfl) ?_
    refine slv_iret eX11_function_22 rfl ?_
    exact ⟨rfl, rfl⟩
  | some k =>
    rw [hq] at hX
    obtain ⟨-, hx, hk'⟩ := vr_some hq
    subst hx
    simp only
    cases hv : sl_vi w 2 with
    | none =>
      have hvv := vi_lt (by omega) hv
      refine slv_aload_n eX11_function_0 rfl ?_
      refine slv_iload_n eX11_function_1 rfl ?_
      refine slv_rV (As := [_]) eX11_function_2 lX11_149 rfl rfl (by repeat (first | assumption | exact sl_up_eq | refine sl_up_ne (by first | decide | omega) ?_)) rfl hX (by decide) (Nat.le_of_ble_eq_true rfl) ?_
      refine slv_if_eqB eX11_function_5 (fun h5 => absurd h5 sl_tf) (fun h5 => ?_)
      refine slv_iload_n eX11_function_8 rfl ?_
      refine slv_if_lt eX11_function_9 (fun h9 => ?_) (fun h9 => ?_)
      · refine slv_aload_n eX11_function_17 rfl ?_
        refine slv_iconst (v := nI 1) eX11_function_18 (by decide) ?_
        refine slv_rV (As := [_]) eX11_function_19 lX11_76 rfl rfl (by repeat (first | assumption | exact sl_up_eq | refine sl_up_ne (by first | decide | omega) ?_)) rfl (c_X11_refuse 1) (by decide) (Nat.le_of_ble_eq_true rfl) ?_
        refine slv_iret eX11_function_22 rfl ?_
        exact ⟨rfl, rfl⟩
      · refine slv_iload_n eX11_function_12 rfl ?_
        refine slv_iconst (v := nI 1) eX11_function_13 (by decide) ?_
        refine slv_icmp_le eX11_function_14 (fun h14 => ?_) (fun h14 => ?_)
        · exact absurd hvv (fun q => q.elim h9 (fun q => q (vi_le1 (n := 1) (by omega) h14)))
        · refine slv_aload_n eX11_function_17 rfl ?_
          refine slv_iconst (v := nI 1) eX11_function_18 (by decide) ?_
          refine slv_rV (As := [_]) eX11_function_19 lX11_76 rfl rfl (by repeat (first | assumption | exact sl_up_eq | refine sl_up_ne (by first | decide | omega) ?_)) rfl (c_X11_refuse 1) (by decide) (Nat.le_of_ble_eq_true rfl) ?_
          refine slv_iret eX11_function_22 rfl ?_
          exact ⟨rfl, rfl⟩
    | some j =>
      obtain ⟨hx, hj⟩ := vi_some hv
      subst hx
      rcases (show j = 0 ∨ j = 1 by omega) with q | q <;> subst q
      · refine slv_aload_n eX11_function_0 rfl ?_
        refine slv_iload_n eX11_function_1 rfl ?_
        refine slv_rV (As := [_]) eX11_function_2 lX11_149 rfl rfl (by repeat (first | assumption | exact sl_up_eq | refine sl_up_ne (by first | decide | omega) ?_)) rfl hX (by decide) (Nat.le_of_ble_eq_true rfl) ?_
        refine slv_if_eqB eX11_function_5 (fun h5 => absurd h5 sl_tf) (fun h5 => ?_)
        refine slv_iload_n eX11_function_8 rfl ?_
        refine slv_if_ltN eX11_function_9 (by omega) ?_
        refine slv_iload_n eX11_function_12 rfl ?_
        refine slv_iconst (v := nI 1) eX11_function_13 (by decide) ?_
        refine slv_icmp_le eX11_function_14 (fun h14 => ?_) (fun h14 => absurd (by decide) h14)
        refine slv_aload_n eX11_function_23 rfl ?_
        refine slv_getf eX11_function_24 fX11_40 (by repeat (first | assumption | exact sl_up_eq | refine sl_up_ne (by first | decide | omega) ?_)) rfl ?_
        refine slv_rV (As := []) eX11_function_27 lX11_180 rfl rfl (by repeat (first | assumption | exact sl_up_eq | refine sl_up_ne (by first | decide | omega) ?_)) rfl hS (by decide) (Nat.le_of_ble_eq_true rfl) ?_
        refine slv_if_neB eX11_function_30 (fun h30 => ?_) (fun h30 => ?_)
        · refine slv_aload_n eX11_function_39 rfl ?_
          refine slv_iload_n eX11_function_40 rfl ?_
          refine slv_if_ne eX11_function_41 (fun h41 => absurd (by decide) h41) (fun h41 => ?_)
          refine slv_aload_n eX11_function_44 rfl ?_
          refine slv_getf eX11_function_45 fX11_40 (by repeat (first | assumption | exact sl_up_eq | refine sl_up_ne (by first | decide | omega) ?_)) rfl ?_
          refine slv_iload_n eX11_function_48 rfl ?_
          refine slv_rV (As := [_]) eX11_function_49 lX11_184 rfl rfl (by repeat (first | assumption | exact sl_up_eq | refine sl_up_ne (by first | decide | omega) ?_)) rfl (c_X5_valueF hl' hk (by omega)) (by decide) (Nat.le_of_ble_eq_true rfl) ?_
          refine slv_goto eX11_function_52 ?_
          refine slv_rV (As := [_]) eX11_function_63 lX11_110 rfl rfl (by repeat (first | assumption | exact sl_up_eq | refine sl_up_ne (by first | decide | omega) ?_)) rfl (c_X11_grant _) (by decide) (Nat.le_of_ble_eq_true rfl) ?_
          refine slv_iret eX11_function_66 rfl ?_
          first | (have z : rn = 0 := of_decide_eq_true h30; simp only [if_pos z]; exact ⟨rfl, rfl⟩) | (have z : ¬ rn = 0 := of_decide_eq_false h30; simp only [if_neg z]; exact ⟨rfl, rfl⟩)
        · refine slv_aload_n eX11_function_33 rfl ?_
          refine slv_iconst (v := nI 5) eX11_function_34 (by decide) ?_
          refine slv_rV (As := [_]) eX11_function_35 lX11_76 rfl rfl (by repeat (first | assumption | exact sl_up_eq | refine sl_up_ne (by first | decide | omega) ?_)) rfl (c_X11_refuse 5) (by decide) (Nat.le_of_ble_eq_true rfl) ?_
          refine slv_iret eX11_function_38 rfl ?_
          first | (have z : rn = 0 := of_decide_eq_true h30; simp only [if_pos z]; exact ⟨rfl, rfl⟩) | (have z : ¬ rn = 0 := of_decide_eq_false h30; simp only [if_neg z]; exact ⟨rfl, rfl⟩)
      · refine slv_aload_n eX11_function_0 rfl ?_
        refine slv_iload_n eX11_function_1 rfl ?_
        refine slv_rV (As := [_]) eX11_function_2 lX11_149 rfl rfl (by repeat (first | assumption | exact sl_up_eq | refine sl_up_ne (by first | decide | omega) ?_)) rfl hX (by decide) (Nat.le_of_ble_eq_true rfl) ?_
        refine slv_if_eqB eX11_function_5 (fun h5 => absurd h5 sl_tf) (fun h5 => ?_)
        refine slv_iload_n eX11_function_8 rfl ?_
        refine slv_if_ltN eX11_function_9 (by omega) ?_
        refine slv_iload_n eX11_function_12 rfl ?_
        refine slv_iconst (v := nI 1) eX11_function_13 (by decide) ?_
        refine slv_icmp_le eX11_function_14 (fun h14 => ?_) (fun h14 => absurd (by decide) h14)
        refine slv_aload_n eX11_function_23 rfl ?_
        refine slv_getf eX11_function_24 fX11_40 (by repeat (first | assumption | exact sl_up_eq | refine sl_up_ne (by first | decide | omega) ?_)) rfl ?_
        refine slv_rV (As := []) eX11_function_27 lX11_180 rfl rfl (by repeat (first | assumption | exact sl_up_eq | refine sl_up_ne (by first | decide | omega) ?_)) rfl hS (by decide) (Nat.le_of_ble_eq_true rfl) ?_
        refine slv_if_neB eX11_function_30 (fun h30 => ?_) (fun h30 => ?_)
        · refine slv_aload_n eX11_function_39 rfl ?_
          refine slv_iload_n eX11_function_40 rfl ?_
          refine slv_if_ne eX11_function_41 (fun h41 => ?_) (fun h41 => absurd h41 (by decide))
          refine slv_aload_n eX11_function_55 rfl ?_
          refine slv_getf eX11_function_56 fX11_40 (by repeat (first | assumption | exact sl_up_eq | refine sl_up_ne (by first | decide | omega) ?_)) rfl ?_
          refine slv_iload_n eX11_function_59 rfl ?_
          refine slv_rV (As := [_]) eX11_function_60 lX11_187 rfl rfl (by repeat (first | assumption | exact sl_up_eq | refine sl_up_ne (by first | decide | omega) ?_)) rfl (c_X5_valueG hl' hk (by omega)) (by decide) (Nat.le_of_ble_eq_true rfl) ?_
          refine slv_rV (As := [_]) eX11_function_63 lX11_110 rfl rfl (by repeat (first | assumption | exact sl_up_eq | refine sl_up_ne (by first | decide | omega) ?_)) rfl (c_X11_grant _) (by decide) (Nat.le_of_ble_eq_true rfl) ?_
          refine slv_iret eX11_function_66 rfl ?_
          first | (have z : rn = 0 := of_decide_eq_true h30; simp only [if_pos z]; exact ⟨rfl, rfl⟩) | (have z : ¬ rn = 0 := of_decide_eq_false h30; simp only [if_neg z]; exact ⟨rfl, rfl⟩)
        · refine slv_aload_n eX11_function_33 rfl ?_
          refine slv_iconst (v := nI 5) eX11_function_34 (by decide) ?_
          refine slv_rV (As := [_]) eX11_function_35 lX11_76 rfl rfl (by repeat (first | assumption | exact sl_up_eq | refine sl_up_ne (by first | decide | omega) ?_)) rfl (c_X11_refuse 5) (by decide) (Nat.le_of_ble_eq_true rfl) ?_
          refine slv_iret eX11_function_38 rfl ?_
          first | (have z : rn = 0 := of_decide_eq_true h30; simp only [if_pos z]; exact ⟨rfl, rfl⟩) | (have z : ¬ rn = 0 := of_decide_eq_false h30; simp only [if_neg z]; exact ⟨rfl, rfl⟩)
set_option maxRecDepth 100000 in
theorem c_X11_highest (hl : ld_at rn e rk kn ar re nu ba M) (he : e ≤ 11) (hk : ∀ p, p < 28 → kn p < 28) (hn : ∀ p, p < 28 → nu p < 1000000) (hrn : rn < 1000) : sl_R YX11_highest 2 [.ref 0] (ob_set fd db sb sn tl lf lt lp M) (some (.int (an_highest sn e rn nu kn).1)) (ob_set fd db sb sn tl lf (an_highest sn e rn nu kn).2 lp M) := by
  have hl' := ob_ld (fd := fd) (db := db) (sb := sb) (sn := sn) (tl := tl) (lf := lf) (lt := lt) (lp := lp) hl
  have hS := c_X5_stand hl' (by omega)
  have hG := c_X5_greatest hl' he hk hn
  obtain ⟨a0, a1, a2, a3, a4, a5, a6⟩ := hl
  refine sl_T.of_V (lv := [_]) (by decide) rfl (Nat.le_of_ble_eq_true rfl) ?_
  unfold an_highest
  generalize lk_gt nu kn (e + 1) 0 0 = gt at hG
  refine slv_aload_n eX11_highest_0 rfl ?_
  refine slv_getf eX11_highest_1 fX11_97 (by repeat (first | assumption | exact sl_up_eq | refine sl_up_ne (by first | decide | omega) ?_)) rfl ?_
  refine slv_if_neB eX11_highest_4 (fun h4 => ?_) (fun h4 => ?_)
  · refine slv_aload_n eX11_highest_13 rfl ?_
    refine slv_getf eX11_highest_14 fX11_40 (by repeat (first | assumption | exact sl_up_eq | refine sl_up_ne (by first | decide | omega) ?_)) rfl ?_
    refine slv_rV (As := []) eX11_highest_17 lX11_180 rfl rfl (by repeat (first | assumption | exact sl_up_eq | refine sl_up_ne (by first | decide | omega) ?_)) rfl hS (by decide) (Nat.le_of_ble_eq_true rfl) ?_
    refine slv_if_eqB eX11_highest_20 (fun h20 => ?_) (fun h20 => ?_)
    · refine slv_aload_n eX11_highest_37 rfl ?_
      refine slv_iconst (v := nI 5) eX11_highest_38 (by decide) ?_
      refine slv_rV (As := [_]) eX11_highest_39 lX11_76 rfl rfl (by repeat (first | assumption | exact sl_up_eq | refine sl_up_ne (by first | decide | omega) ?_)) rfl (c_X11_refuse 5) (by decide) (Nat.le_of_ble_eq_true rfl) ?_
      refine slv_iret eX11_highest_42 rfl ?_
      first | (have z : rn = 0 := of_decide_eq_true h20; rw [if_pos z]; subst h4; exact ⟨rfl, rfl⟩) | (have z : ¬ rn = 0 := of_decide_eq_false h20; rw [if_neg z]; subst h4; exact ⟨rfl, rfl⟩) | (subst h4; exact ⟨rfl, rfl⟩)
    · refine slv_aload_n eX11_highest_23 rfl ?_
      refine slv_aload_n eX11_highest_24 rfl ?_
      refine slv_getf eX11_highest_25 fX11_40 (by repeat (first | assumption | exact sl_up_eq | refine sl_up_ne (by first | decide | omega) ?_)) rfl ?_
      refine slv_rV (As := []) eX11_highest_28 lX11_190 rfl rfl (by repeat (first | assumption | exact sl_up_eq | refine sl_up_ne (by first | decide | omega) ?_)) rfl hG (by decide) (Nat.le_of_ble_eq_true rfl) ?_
      refine slv_rV (As := [_]) eX11_highest_31 lX11_110 rfl rfl (by repeat (first | assumption | exact sl_up_eq | refine sl_up_ne (by first | decide | omega) ?_)) rfl (c_X11_grant _) (by decide) (Nat.le_of_ble_eq_true rfl) ?_
      refine slv_goto eX11_highest_34 ?_
      refine slv_iret eX11_highest_42 rfl ?_
      first | (have z : rn = 0 := of_decide_eq_true h20; rw [if_pos z]; subst h4; exact ⟨rfl, rfl⟩) | (have z : ¬ rn = 0 := of_decide_eq_false h20; rw [if_neg z]; subst h4; exact ⟨rfl, rfl⟩) | (subst h4; exact ⟨rfl, rfl⟩)
  · refine slv_aload_n eX11_highest_7 rfl ?_
    refine slv_iconst (v := nI 1) eX11_highest_8 (by decide) ?_
    refine slv_rV (As := [_]) eX11_highest_9 lX11_76 rfl rfl (by repeat (first | assumption | exact sl_up_eq | refine sl_up_ne (by first | decide | omega) ?_)) rfl (c_X11_refuse 1) (by decide) (Nat.le_of_ble_eq_true rfl) ?_
    refine slv_iret eX11_highest_12 rfl ?_
    first | (have z : rn = 0 := of_decide_eq_true h20; rw [if_pos z]; subst h4; exact ⟨rfl, rfl⟩) | (have z : ¬ rn = 0 := of_decide_eq_false h20; rw [if_neg z]; subst h4; exact ⟨rfl, rfl⟩) | (subst h4; exact ⟨rfl, rfl⟩)
set_option maxRecDepth 100000 in
theorem c_X11_hiddenCount (hb : db = 2 ∨ db = 10) (hg : sg_at db g M) (hok : sg_ok g) (hr : rl_at e0 l t s M) (hl : ld_at rn e rk kn ar re nu ba M) (hk : ∀ p, p < 28 → kn p < 28) (hn : ∀ p, p < 28 → nu p < 1000000) (r : Int32) : sl_R YX11_hiddenCount 2 [.ref 0, .int r] (ob_set fd db sb sn tl lf lt lp M) (some (.int (nI (an_hc s nu kn r (sg_terms g) (sg_terms g + 1) 0)))) (ob_set fd db sb sn tl lf lt lp M) := by
  have hl' := ob_ld (fd := fd) (db := db) (sb := sb) (sn := sn) (tl := tl) (lf := lf) (lt := lt) (lp := lp) hl
  have hr' := ob_rl (fd := fd) (db := db) (sb := sb) (sn := sn) (tl := tl) (lf := lf) (lt := lt) (lp := lp) hr
  have hn6 : sg_terms g ≤ 11 := hok.2.2.2.1
  obtain ⟨a0, a1, a2, a3, a4, a5, a6⟩ := hl
  obtain ⟨b0, b1, b2, b3⟩ := hr
  obtain ⟨g0, g1, g2, g3, g4, g5, g6, g7⟩ := hg
  have inner : ∀ (n y x a : Nat) (v4 : Option Value), y + n = sg_terms g + 1 → x ≤ sg_terms g → ∀ Q : Option Value → sl_M → Prop, (sl_V YX11_hiddenCount none 2 0 0 Q 66 [some (.ref 0), some (.int r), some (.int (nI (a + sl_ct (fun y => an_hid s nu kn r x y) n y))), some (.int (nI x)), some (.int (nI (sg_terms g + 1)))] [] (ob_set fd db sb sn tl lf lt lp M)) → sl_V YX11_hiddenCount none 2 0 0 Q 18 [some (.ref 0), some (.int r), some (.int (nI a)), some (.int (nI x)), some (.int (nI y))] [] (ob_set fd db sb sn tl lf lt lp M) := by
    intro n
    induction n with
    | zero =>
      intro y x a v4 hy hx Q hQ
      refine slv_iload eX11_hiddenCount_18 rfl ?_
      refine slv_aload_n eX11_hiddenCount_20 rfl ?_
      refine slv_getf eX11_hiddenCount_21 fX11_16 (by repeat (first | assumption | exact sl_up_eq | refine sl_up_ne (by first | decide | omega) ?_)) rfl ?_
      refine slv_getf eX11_hiddenCount_24 fX11_125 (by repeat (first | assumption | exact sl_up_eq | refine sl_up_ne (by first | decide | omega) ?_)) rfl ?_
      refine slv_icmp_gtN eX11_hiddenCount_27 (by omega) (by omega) (fun h27 => ?_) (fun h27 => absurd h27 (by omega))
      rw [show y = sg_terms g + 1 from hy]
      exact hQ
    | succ n ih =>
      intro y x a v4 hy hx Q hQ
      have hc1 := c_X10_between hr' (show x < 12 by omega) (show y < 12 by omega)
      have hc2 := c_X5_compared hl' hk hn (show x < 12 by omega) (show y < 12 by omega)
      have ct : sl_ct (fun y => an_hid s nu kn r x y) (n + 1) y = (cond (an_hid s nu kn r x y) 1 0) + sl_ct (fun y => an_hid s nu kn r x y) n (y + 1) := rfl
      have e1 : s (12 * x + y) = 0 → nI (lk_cp (nu (kn x)) (nu (kn (16 + y)))) = r → an_hid s nu kn r x y = true := fun h1 h2 => by rw [an_hid, decide_eq_true h1, decide_eq_true h2]; rfl
      have e2 : (¬ s (12 * x + y) = 0) → an_hid s nu kn r x y = false := fun h1 => by rw [an_hid, decide_eq_false h1]; rfl
      have e3 : (¬ nI (lk_cp (nu (kn x)) (nu (kn (16 + y)))) = r) → an_hid s nu kn r x y = false := fun h1 => by rw [an_hid, decide_eq_false h1, Bool.and_false]
      generalize an_hid s nu kn r x y = hh at ct e1 e2 e3
      refine slv_iload eX11_hiddenCount_18 rfl ?_
      refine slv_aload_n eX11_hiddenCount_20 rfl ?_
      refine slv_getf eX11_hiddenCount_21 fX11_16 (by repeat (first | assumption | exact sl_up_eq | refine sl_up_ne (by first | decide | omega) ?_)) rfl ?_
      refine slv_getf eX11_hiddenCount_24 fX11_125 (by repeat (first | assumption | exact sl_up_eq | refine sl_up_ne (by first | decide | omega) ?_)) rfl ?_
      refine slv_icmp_gtN eX11_hiddenCount_27 (by omega) (by omega) (fun h27 => absurd h27 (by omega)) (fun h27 => ?_)
      refine slv_aload_n eX11_hiddenCount_30 rfl ?_
      refine slv_getf eX11_hiddenCount_31 fX11_33 (by repeat (first | assumption | exact sl_up_eq | refine sl_up_ne (by first | decide | omega) ?_)) rfl ?_
      refine slv_iload_n eX11_hiddenCount_34 rfl ?_
      refine slv_iload eX11_hiddenCount_35 rfl ?_
      refine slv_rV (As := [_, _]) eX11_hiddenCount_37 lX11_161 rfl rfl (by repeat (first | assumption | exact sl_up_eq | refine sl_up_ne (by first | decide | omega) ?_)) rfl hc1 (by decide) (Nat.le_of_ble_eq_true rfl) ?_
      refine slv_if_ne eX11_hiddenCount_40 (fun h40 => ?_) (fun h40 => ?_)
      · refine slv_iincN (lv' := [_, _, _, _, _]) eX11_hiddenCount_60 rfl (by decide) rfl ?_
        refine slv_goto eX11_hiddenCount_63 ?_
        refine ih (y + 1) x _ v4 (by omega) hx Q ?_
        first | (rw [ct, e1 h40 h54, cond_true, ← Nat.add_assoc] at hQ; exact hQ) | (rw [ct, e2 h40, cond_false, Nat.zero_add] at hQ; exact hQ) | (rw [ct, e3 h54, cond_false, Nat.zero_add] at hQ; exact hQ)
      · refine slv_aload_n eX11_hiddenCount_43 rfl ?_
        refine slv_getf eX11_hiddenCount_44 fX11_40 (by repeat (first | assumption | exact sl_up_eq | refine sl_up_ne (by first | decide | omega) ?_)) rfl ?_
        refine slv_iload_n eX11_hiddenCount_47 rfl ?_
        refine slv_iload eX11_hiddenCount_48 rfl ?_
        refine slv_rV (As := [_, _]) eX11_hiddenCount_50 lX11_327 rfl rfl (by repeat (first | assumption | exact sl_up_eq | refine sl_up_ne (by first | decide | omega) ?_)) rfl hc2 (by decide) (Nat.le_of_ble_eq_true rfl) ?_
        refine slv_iload_n eX11_hiddenCount_53 rfl ?_
        refine slv_icmp_ne eX11_hiddenCount_54 (fun h54 => ?_) (fun h54 => ?_)
        · refine slv_iincN (lv' := [_, _, _, _, _]) eX11_hiddenCount_60 rfl (by decide) rfl ?_
          refine slv_goto eX11_hiddenCount_63 ?_
          refine ih (y + 1) x _ v4 (by omega) hx Q ?_
          first | (rw [ct, e1 h40 h54, cond_true, ← Nat.add_assoc] at hQ; exact hQ) | (rw [ct, e2 h40, cond_false, Nat.zero_add] at hQ; exact hQ) | (rw [ct, e3 h54, cond_false, Nat.zero_add] at hQ; exact hQ)
        · refine slv_iincN (lv' := [_, _, _, _, _]) eX11_hiddenCount_57 rfl (by decide) rfl ?_
          refine slv_iincN (lv' := [_, _, _, _, _]) eX11_hiddenCount_60 rfl (by decide) rfl ?_
          refine slv_goto eX11_hiddenCount_63 ?_
          refine ih (y + 1) x _ v4 (by omega) hx Q ?_
          first | (rw [ct, e1 h40 h54, cond_true, ← Nat.add_assoc] at hQ; exact hQ) | (rw [ct, e2 h40, cond_false, Nat.zero_add] at hQ; exact hQ) | (rw [ct, e3 h54, cond_false, Nat.zero_add] at hQ; exact hQ)
  have outer : ∀ (n x a : Nat) (v4 : Option Value), x + n = sg_terms g + 1 → ∀ Q : Option Value → sl_M → Prop, Q (some (.int (nI (sl_fo (fun x a => a + sl_ct (fun y => an_hid s nu kn r x y) (sg_terms g + 1) 0) n x a)))) (ob_set fd db sb sn tl lf lt lp M) → sl_V YX11_hiddenCount none 2 0 0 Q 4 [some (.ref 0), some (.int r), some (.int (nI a)), some (.int (nI x)), v4] [] (ob_set fd db sb sn tl lf lt lp M) := by
    intro n
    induction n with
    | zero =>
      intro x a v4 hx Q hQ
      refine slv_iload_n eX11_hiddenCount_4 rfl ?_
      refine slv_aload_n eX11_hiddenCount_5 rfl ?_
      refine slv_getf eX11_hiddenCount_6 fX11_16 (by repeat (first | assumption | exact sl_up_eq | refine sl_up_ne (by first | decide | omega) ?_)) rfl ?_
      refine slv_getf eX11_hiddenCount_9 fX11_125 (by repeat (first | assumption | exact sl_up_eq | refine sl_up_ne (by first | decide | omega) ?_)) rfl ?_
      refine slv_icmp_gtN eX11_hiddenCount_12 (by omega) (by omega) (fun h12 => ?_) (fun h12 => absurd h12 (by omega))
      refine slv_iload_n eX11_hiddenCount_72 rfl ?_
      refine slv_iret eX11_hiddenCount_73 rfl ?_
      exact hQ
    | succ n ih =>
      intro x a v4 hx Q hQ
      refine slv_iload_n eX11_hiddenCount_4 rfl ?_
      refine slv_aload_n eX11_hiddenCount_5 rfl ?_
      refine slv_getf eX11_hiddenCount_6 fX11_16 (by repeat (first | assumption | exact sl_up_eq | refine sl_up_ne (by first | decide | omega) ?_)) rfl ?_
      refine slv_getf eX11_hiddenCount_9 fX11_125 (by repeat (first | assumption | exact sl_up_eq | refine sl_up_ne (by first | decide | omega) ?_)) rfl ?_
      refine slv_icmp_gtN eX11_hiddenCount_12 (by omega) (by omega) (fun h12 => absurd h12 (by omega)) (fun h12 => ?_)
      refine slv_iconst (v := nI 0) eX11_hiddenCount_15 (by decide) ?_
      refine slv_istore (lv' := [_, _, _, _, _]) eX11_hiddenCount_16 (by decide) rfl ?_
      refine inner (sg_terms g + 1) 0 x a none (by omega) (by omega) Q ?_
      refine slv_iincN (lv' := [_, _, _, _, _]) eX11_hiddenCount_66 rfl (by decide) rfl ?_
      refine slv_goto eX11_hiddenCount_69 ?_
      exact ih (x + 1) _ _ (by omega) Q hQ
  refine sl_T.of_V (lv := [_, _, _, _, _]) (by decide) rfl (Nat.le_of_ble_eq_true rfl) ?_
  refine slv_iconst (v := nI 0) eX11_hiddenCount_0 (by decide) ?_
  refine slv_istore_n (i := 2) (lv' := [_, _, _, _, _]) eX11_hiddenCount_1 rfl (by decide) rfl ?_
  refine slv_iconst (v := nI 0) eX11_hiddenCount_2 (by decide) ?_
  refine slv_istore_n (i := 3) (lv' := [_, _, _, _, _]) eX11_hiddenCount_3 rfl (by decide) rfl ?_
  exact outer (sg_terms g + 1) 0 0 _ (by omega) _ ⟨rfl, rfl⟩
set_option maxRecDepth 100000 in
theorem c_X11_hidden (hb : db = 2 ∨ db = 10) (hg : sg_at db g M) (hok : sg_ok g) (hr : rl_at e0 l t s M) (hl : ld_at rn e rk kn ar re nu ba M) (hk : ∀ p, p < 28 → kn p < 28) (hn : ∀ p, p < 28 → nu p < 1000000) (hrn : rn < 1000) (x : Int32) : sl_R YX11_hidden 3 [.ref 0, .int x] (ob_set fd db sb sn tl lf lt lp M) (some (.int (an_hidden sn (sg_terms g) rn s nu kn x).1)) (ob_set fd db sb sn tl lf (an_hidden sn (sg_terms g) rn s nu kn x).2 lp M) := by
  have hl' := ob_ld (fd := fd) (db := db) (sb := sb) (sn := sn) (tl := tl) (lf := lf) (lt := lt) (lp := lp) hl
  have hS := c_X5_stand hl' (by omega)
  have hI := c_X11_isRelation (ob_set fd db sb sn tl lf lt lp M) x
  have hC := c_X11_hiddenCount (fd := fd) (sb := sb) (sn := sn) (tl := tl) (lf := lf) (lt := lt) (lp := lp) hb hg hok hr hl hk hn x
  obtain ⟨a0, a1, a2, a3, a4, a5, a6⟩ := hl
  refine sl_T.of_V (lv := [_, _]) (by decide) rfl (Nat.le_of_ble_eq_true rfl) ?_
  unfold an_hidden
  generalize an_isr x = ir at hI
  generalize an_hc s nu kn x (sg_terms g) (sg_terms g + 1) 0 = hc at hC
  refine slv_aload_n eX11_hidden_0 rfl ?_
  refine slv_getf eX11_hidden_1 fX11_97 (by repeat (first | assumption | exact sl_up_eq | refine sl_up_ne (by first | decide | omega) ?_)) rfl ?_
  refine slv_if_neB eX11_hidden_4 (fun h4 => ?_) (fun h4 => ?_)
  · refine slv_iload_n eX11_hidden_13 rfl ?_
    refine slv_rS (As := [_]) eX11_hidden_14 lX11_164 rfl rfl hI (by decide) (Nat.le_of_ble_eq_true rfl) ?_
    refine slv_if_neB eX11_hidden_17 (fun h17 => ?_) (fun h17 => ?_)
    · refine slv_aload_n eX11_hidden_26 rfl ?_
      refine slv_getf eX11_hidden_27 fX11_40 (by repeat (first | assumption | exact sl_up_eq | refine sl_up_ne (by first | decide | omega) ?_)) rfl ?_
      refine slv_rV (As := []) eX11_hidden_30 lX11_180 rfl rfl (by repeat (first | assumption | exact sl_up_eq | refine sl_up_ne (by first | decide | omega) ?_)) rfl hS (by decide) (Nat.le_of_ble_eq_true rfl) ?_
      refine slv_if_neB eX11_hidden_33 (fun h33 => ?_) (fun h33 => ?_)
      · refine slv_aload_n eX11_hidden_42 rfl ?_
        refine slv_aload_n eX11_hidden_43 rfl ?_
        refine slv_iload_n eX11_hidden_44 rfl ?_
        refine slv_rV (As := [_]) eX11_hidden_45 lX11_193 rfl rfl (by repeat (first | assumption | exact sl_up_eq | refine sl_up_ne (by first | decide | omega) ?_)) rfl hC (by decide) (Nat.le_of_ble_eq_true rfl) ?_
        refine slv_rV (As := [_]) eX11_hidden_48 lX11_110 rfl rfl (by repeat (first | assumption | exact sl_up_eq | refine sl_up_ne (by first | decide | omega) ?_)) rfl (c_X11_grant _) (by decide) (Nat.le_of_ble_eq_true rfl) ?_
        refine slv_iret eX11_hidden_51 rfl ?_
        first | (have z : rn = 0 := of_decide_eq_true h33; have y : ir = _ := h17; rw [if_pos z]; subst h4 y; exact ⟨rfl, rfl⟩) | (have z : ¬ rn = 0 := of_decide_eq_false h33; have y : ir = _ := h17; rw [if_neg z]; subst h4 y; exact ⟨rfl, rfl⟩) | (have y : ir = _ := h17; subst h4 y; exact ⟨rfl, rfl⟩) | (subst h4; exact ⟨rfl, rfl⟩)
      · refine slv_aload_n eX11_hidden_36 rfl ?_
        refine slv_iconst (v := nI 5) eX11_hidden_37 (by decide) ?_
        refine slv_rV (As := [_]) eX11_hidden_38 lX11_76 rfl rfl (by repeat (first | assumption | exact sl_up_eq | refine sl_up_ne (by first | decide | omega) ?_)) rfl (c_X11_refuse 5) (by decide) (Nat.le_of_ble_eq_true rfl) ?_
        refine slv_iret eX11_hidden_41 rfl ?_
        first | (have z : rn = 0 := of_decide_eq_true h33; have y : ir = _ := h17; rw [if_pos z]; subst h4 y; exact ⟨rfl, rfl⟩) | (have z : ¬ rn = 0 := of_decide_eq_false h33; have y : ir = _ := h17; rw [if_neg z]; subst h4 y; exact ⟨rfl, rfl⟩) | (have y : ir = _ := h17; subst h4 y; exact ⟨rfl, rfl⟩) | (subst h4; exact ⟨rfl, rfl⟩)
    · refine slv_aload_n eX11_hidden_20 rfl ?_
      refine slv_iconst (v := nI 2) eX11_hidden_21 (by decide) ?_
      refine slv_rV (As := [_]) eX11_hidden_22 lX11_76 rfl rfl (by repeat (first | assumption | exact sl_up_eq | refine sl_up_ne (by first | decide | omega) ?_)) rfl (c_X11_refuse 2) (by decide) (Nat.le_of_ble_eq_true rfl) ?_
      refine slv_iret eX11_hidden_25 rfl ?_
      first | (have z : rn = 0 := of_decide_eq_true h33; have y : ir = _ := h17; rw [if_pos z]; subst h4 y; exact ⟨rfl, rfl⟩) | (have z : ¬ rn = 0 := of_decide_eq_false h33; have y : ir = _ := h17; rw [if_neg z]; subst h4 y; exact ⟨rfl, rfl⟩) | (have y : ir = _ := h17; subst h4 y; exact ⟨rfl, rfl⟩) | (subst h4; exact ⟨rfl, rfl⟩)
  · refine slv_aload_n eX11_hidden_7 rfl ?_
    refine slv_iconst (v := nI 1) eX11_hidden_8 (by decide) ?_
    refine slv_rV (As := [_]) eX11_hidden_9 lX11_76 rfl rfl (by repeat (first | assumption | exact sl_up_eq | refine sl_up_ne (by first | decide | omega) ?_)) rfl (c_X11_refuse 1) (by decide) (Nat.le_of_ble_eq_true rfl) ?_
    refine slv_iret eX11_hidden_12 rfl ?_
    first | (have z : rn = 0 := of_decide_eq_true h33; have y : ir = _ := h17; rw [if_pos z]; subst h4 y; exact ⟨rfl, rfl⟩) | (have z : ¬ rn = 0 := of_decide_eq_false h33; have y : ir = _ := h17; rw [if_neg z]; subst h4 y; exact ⟨rfl, rfl⟩) | (have y : ir = _ := h17; subst h4 y; exact ⟨rfl, rfl⟩) | (subst h4; exact ⟨rfl, rfl⟩)
set_option maxRecDepth 100000 in
theorem c_X11_knotted (hl : ld_at rn e rk kn ar re nu ba M) (he : e ≤ 11) (hk : ∀ p, p < 28 → kn p < 28) : sl_R YX11_knotted 1 [.ref 0] (ob_set fd db sb sn tl lf lt lp M) (some (.int (an_knotted sn e kn).1)) (ob_set fd db sb sn tl lf (an_knotted sn e kn).2 lp M) := by
  have hl' := ob_ld (fd := fd) (db := db) (sb := sb) (sn := sn) (tl := tl) (lf := lf) (lt := lt) (lp := lp) hl
  have hG := c_X5_knotCount hl' he hk
  obtain ⟨a0, a1, a2, a3, a4, a5, a6⟩ := hl
  refine sl_T.of_V (lv := [_]) (by decide) rfl (Nat.le_of_ble_eq_true rfl) ?_
  unfold an_knotted
  generalize lk_kc kn (e + 1) 0 0 = kc at hG
  refine slv_aload_n eX11_knotted_0 rfl ?_
  refine slv_getf eX11_knotted_1 fX11_97 (by repeat (first | assumption | exact sl_up_eq | refine sl_up_ne (by first | decide | omega) ?_)) rfl ?_
  refine slv_if_eqB eX11_knotted_4 (fun h4 => ?_) (fun h4 => ?_)
  · refine slv_aload_n eX11_knotted_21 rfl ?_
    refine slv_iconst (v := nI 1) eX11_knotted_22 (by decide) ?_
    refine slv_rV (As := [_]) eX11_knotted_23 lX11_76 rfl rfl (by repeat (first | assumption | exact sl_up_eq | refine sl_up_ne (by first | decide | omega) ?_)) rfl (c_X11_refuse 1) (by decide) (Nat.le_of_ble_eq_true rfl) ?_
    refine slv_iret eX11_knotted_26 rfl ?_
    subst h4
    exact ⟨rfl, rfl⟩
  · refine slv_aload_n eX11_knotted_7 rfl ?_
    refine slv_aload_n eX11_knotted_8 rfl ?_
    refine slv_getf eX11_knotted_9 fX11_40 (by repeat (first | assumption | exact sl_up_eq | refine sl_up_ne (by first | decide | omega) ?_)) rfl ?_
    refine slv_rV (As := []) eX11_knotted_12 lX11_196 rfl rfl (by repeat (first | assumption | exact sl_up_eq | refine sl_up_ne (by first | decide | omega) ?_)) rfl hG (by decide) (Nat.le_of_ble_eq_true rfl) ?_
    refine slv_rV (As := [_]) eX11_knotted_15 lX11_110 rfl rfl (by repeat (first | assumption | exact sl_up_eq | refine sl_up_ne (by first | decide | omega) ?_)) rfl (c_X11_grant _) (by decide) (Nat.le_of_ble_eq_true rfl) ?_
    refine slv_goto eX11_knotted_18 ?_
    refine slv_iret eX11_knotted_26 rfl ?_
    subst h4
    exact ⟨rfl, rfl⟩
set_option maxRecDepth 100000 in
theorem c_X11_ring (hl : ld_at rn e rk kn ar re nu ba M) : sl_R YX11_ring 1 [.ref 0] (ob_set fd db sb sn tl lf lt lp M) (some (.int (an_ring sn rn).1)) (ob_set fd db sb sn tl lf (an_ring sn rn).2 lp M) := by
  obtain ⟨a0, a1, a2, a3, a4, a5, a6⟩ := hl
  refine sl_T.of_V (lv := [_]) (by decide) rfl (Nat.le_of_ble_eq_true rfl) ?_
  unfold an_ring
  refine slv_aload_n eX11_ring_0 rfl ?_
  refine slv_getf eX11_ring_1 fX11_97 (by repeat (first | assumption | exact sl_up_eq | refine sl_up_ne (by first | decide | omega) ?_)) rfl ?_
  refine slv_if_eqB eX11_ring_4 (fun h4 => ?_) (fun h4 => ?_)
  · refine slv_aload_n eX11_ring_21 rfl ?_
    refine slv_iconst (v := nI 1) eX11_ring_22 (by decide) ?_
    refine slv_rV (As := [_]) eX11_ring_23 lX11_76 rfl rfl (by repeat (first | assumption | exact sl_up_eq | refine sl_up_ne (by first | decide | omega) ?_)) rfl (c_X11_refuse 1) (by decide) (Nat.le_of_ble_eq_true rfl) ?_
    refine slv_iret eX11_ring_26 rfl ?_
    subst h4
    exact ⟨rfl, rfl⟩
  · refine slv_aload_n eX11_ring_7 rfl ?_
    refine slv_aload_n eX11_ring_8 rfl ?_
    refine slv_getf eX11_ring_9 fX11_40 (by repeat (first | assumption | exact sl_up_eq | refine sl_up_ne (by first | decide | omega) ?_)) rfl ?_
    refine slv_getf eX11_ring_12 fX11_199 (by repeat (first | assumption | exact sl_up_eq | refine sl_up_ne (by first | decide | omega) ?_)) rfl ?_
    refine slv_rV (As := [_]) eX11_ring_15 lX11_110 rfl rfl (by repeat (first | assumption | exact sl_up_eq | refine sl_up_ne (by first | decide | omega) ?_)) rfl (c_X11_grant _) (by decide) (Nat.le_of_ble_eq_true rfl) ?_
    refine slv_goto eX11_ring_18 ?_
    refine slv_iret eX11_ring_26 rfl ?_
    subst h4
    exact ⟨rfl, rfl⟩
set_option maxRecDepth 100000 in
theorem c_X11_ringAt (hl : ld_at rn e rk kn ar re nu ba M) (hrn : rn ≤ 28) (x : Int32) : sl_R YX11_ringAt 1 [.ref 0, .int x] (ob_set fd db sb sn tl lf lt lp M) (some (.int (an_ringAt sn rn rk x).1)) (ob_set fd db sb sn tl lf (an_ringAt sn rn rk x).2 lp M) := by
  obtain ⟨a0, a1, a2, a3, a4, a5, a6⟩ := hl
  refine sl_T.of_V (lv := [_, _]) (by decide) rfl (Nat.le_of_ble_eq_true rfl) ?_
  unfold an_ringAt
  cases hq : sl_vr sn x rn with
  | none =>
    have hvv := vr_none (by omega) hq
    refine slv_aload_n eX11_ringAt_0 rfl ?_
    refine slv_getf eX11_ringAt_1 fX11_97 (by repeat (first | assumption | exact sl_up_eq | refine sl_up_ne (by first | decide | omega) ?_)) rfl ?_
    refine slv_if_eqB eX11_ringAt_4 (fun h4 => ?_) (fun h4 => ?_)
    · refine slv_aload_n eX11_ringAt_22 rfl ?_
      refine slv_iconst (v := nI 1) eX11_ringAt_23 (by decide) ?_
      refine slv_rV (As := [_]) eX11_ringAt_24 lX11_76 rfl rfl (by repeat (first | assumption | exact sl_up_eq | refine sl_up_ne (by first | decide | omega) ?_)) rfl (c_X11_refuse 1) (by decide) (Nat.le_of_ble_eq_true rfl) ?_
      refine slv_iret eX11_ringAt_27 rfl ?_
      exact ⟨rfl, rfl⟩
    · refine slv_iload_n eX11_ringAt_7 rfl ?_
      refine slv_if_lt eX11_ringAt_8 (fun h8 => ?_) (fun h8 => ?_)
      · refine slv_aload_n eX11_ringAt_22 rfl ?_
        refine slv_iconst (v := nI 1) eX11_ringAt_23 (by decide) ?_
        refine slv_rV (As := [_]) eX11_ringAt_24 lX11_76 rfl rfl (by repeat (first | assumption | exact sl_up_eq | refine sl_up_ne (by first | decide | omega) ?_)) rfl (c_X11_refuse 1) (by decide) (Nat.le_of_ble_eq_true rfl) ?_
        refine slv_iret eX11_ringAt_27 rfl ?_
        exact ⟨rfl, rfl⟩
      · refine slv_iload_n eX11_ringAt_11 rfl ?_
        refine slv_aload_n eX11_ringAt_12 rfl ?_
        refine slv_getf eX11_ringAt_13 fX11_40 (by repeat (first | assumption | exact sl_up_eq | refine sl_up_ne (by first | decide | omega) ?_)) rfl ?_
        refine slv_getf eX11_ringAt_16 fX11_199 (by repeat (first | assumption | exact sl_up_eq | refine sl_up_ne (by first | decide | omega) ?_)) rfl ?_
        refine slv_icmp_lt eX11_ringAt_19 (fun h19 => ?_) (fun h19 => ?_)
        · exfalso
          rcases hvv with e | e | e
          · rw [h4] at e; cases e
          · exact h8 e
          · exact e h19
        · refine slv_aload_n eX11_ringAt_22 rfl ?_
          refine slv_iconst (v := nI 1) eX11_ringAt_23 (by decide) ?_
          refine slv_rV (As := [_]) eX11_ringAt_24 lX11_76 rfl rfl (by repeat (first | assumption | exact sl_up_eq | refine sl_up_ne (by first | decide | omega) ?_)) rfl (c_X11_refuse 1) (by decide) (Nat.le_of_ble_eq_true rfl) ?_
          refine slv_iret eX11_ringAt_27 rfl ?_
          exact ⟨rfl, rfl⟩
  | some k =>
    obtain ⟨hs, hx, hk⟩ := vr_some hq
    subst hs hx
    refine slv_aload_n eX11_ringAt_0 rfl ?_
    refine slv_getf eX11_ringAt_1 fX11_97 (by repeat (first | assumption | exact sl_up_eq | refine sl_up_ne (by first | decide | omega) ?_)) rfl ?_
    refine slv_if_eqB eX11_ringAt_4 (fun h4 => absurd h4 (by decide)) (fun h4 => ?_)
    refine slv_iload_n eX11_ringAt_7 rfl ?_
    refine slv_if_ltN eX11_ringAt_8 (by omega) ?_
    refine slv_iload_n eX11_ringAt_11 rfl ?_
    refine slv_aload_n eX11_ringAt_12 rfl ?_
    refine slv_getf eX11_ringAt_13 fX11_40 (by repeat (first | assumption | exact sl_up_eq | refine sl_up_ne (by first | decide | omega) ?_)) rfl ?_
    refine slv_getf eX11_ringAt_16 fX11_199 (by repeat (first | assumption | exact sl_up_eq | refine sl_up_ne (by first | decide | omega) ?_)) rfl ?_
    refine slv_icmp_ltN eX11_ringAt_19 (by omega) (by omega) (fun h19 => ?_) (fun h19 => absurd h19 (by omega))
    refine slv_aload_n eX11_ringAt_28 rfl ?_
    refine slv_aload_n eX11_ringAt_29 rfl ?_
    refine slv_getf eX11_ringAt_30 fX11_40 (by repeat (first | assumption | exact sl_up_eq | refine sl_up_ne (by first | decide | omega) ?_)) rfl ?_
    refine slv_getf eX11_ringAt_33 fX11_202 (by repeat (first | assumption | exact sl_up_eq | refine sl_up_ne (by first | decide | omega) ?_)) rfl ?_
    refine slv_iload_n eX11_ringAt_36 rfl ?_
    refine slv_ialdN eX11_ringAt_37 (by repeat (first | assumption | exact sl_up_eq | refine sl_up_ne (by first | decide | omega) ?_)) (by omega) (by decide) ?_
    refine slv_rV (As := [_]) eX11_ringAt_38 lX11_110 rfl rfl (by repeat (first | assumption | exact sl_up_eq | refine sl_up_ne (by first | decide | omega) ?_)) rfl (c_X11_grant _) (by decide) (Nat.le_of_ble_eq_true rfl) ?_
    refine slv_iret eX11_ringAt_41 rfl ?_
    exact ⟨rfl, rfl⟩
end ASM

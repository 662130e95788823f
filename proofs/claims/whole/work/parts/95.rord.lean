/-! the reference's order of two terminals -/
/-- what a reading asks of the order -/
def ro_g (e : Nat) (o : Nat → Nat → Int32) : Prop := (∀ y, y < 12 → o e y ≠ nI 2 ∧ o e y ≠ nI 4) ∧ ∀ x, x < 12 → o x e ≠ nI 1 ∧ o x e ≠ nI 2
theorem ro_g_r {g : sg_T} (hok : sg_ok g) (hs : sg_str g) : ro_g (sg_terms g) (ro_r (rl_S g)) := by
  obtain ⟨a1, a2, a3, a4⟩ := rlK_S hok hs
  refine ⟨fun y hy => ?_, fun x hx => ?_⟩
  · unfold ro_r
    rcases a3 y hy with c | c <;> rw [c] <;> exact ⟨by decide, by decide⟩
  · unfold ro_r
    rcases a4 x hx with c | c <;> rw [c] <;> exact ⟨by decide, by decide⟩
theorem ro_g_f (e : Nat) (nu kn : Nat → Nat) : ro_g e (ro_f e nu kn) := by
  refine ⟨fun y hy => ?_, fun x hx => ro_f_e e nu kn x⟩
  unfold ro_f
  rw [decide_eq_true (rfl : e = e)]
  generalize lk_cp (nu (kn e)) (nu (kn (16 + y))) = cp
  by_cases h1 : cp = 1
  · subst h1
    cases (decide (y = e) && !decide (1 = 4)) with
    | true => exact ⟨by decide, by decide⟩
    | false => exact ⟨by decide, by decide⟩
  · rw [decide_eq_false h1]
    exact ⟨(by decide : nI 0 ≠ nI 2), (by decide : nI 0 ≠ nI 4)⟩
section ROR
variable {v : Nat → Int32} {w : Int64} {a : Nat → Nat → Int32} {nm : Nat → Int64} {M : sl_M} {s : Nat → Int32} {rn : Nat} {rk kn nu : Nat → Nat}
set_option maxRecDepth 100000 in
theorem c_X12_relates_ {e how x y : Nat} (he : e ≤ 11) (h16 : v 16 = nI e) (hs : a 38 = s) (hK : rf_K rn rk kn nu v a) (h0 : how = 1 → rn = 0) (hh : how < 2) (hx : x < 12) (hy : y < 12) (hxy : ¬ (x = e ∧ y = e)) : sl_R YX12_relates_ 1 [.ref 68, .int (nI x), .int (nI y), .int (sl_bi (decide (how = 1)))] (rf_S v w a nm M) (some (.int (ro_o s e nu kn how x y))) (rf_S v w a nm M) := by
  refine sl_T.of_V (lv := [_, _, _, _, _, _]) (by decide) rfl (Nat.le_of_ble_eq_true rfl) ?_
  rcases (show how = 0 ∨ how = 1 by omega) with q | q
  · subst q
    have hR := c_X12_relationOf (v := v) (w := w) (a := a) (nm := nm) (M := M) (x := x) (y := y) (by omega)
    rw [show a 38 = s from hs] at hR
    unfold ro_o ro_r
    rw [if_pos rfl]
    refine slv_iload_n eX12_relates__0 rfl ?_
    refine slv_if_neB eX12_relates__1 (fun h1 => absurd h1 (by decide)) (fun h1 => ?_)
    refine slv_aload_n eX12_relates__4 rfl ?_
    refine slv_iload_n eX12_relates__5 rfl ?_
    refine slv_iload_n eX12_relates__6 rfl ?_
    refine slv_rV (As := [_, _]) eX12_relates__7 lX12_371 rfl rfl rf_68 rfl hR (by decide) (Nat.le_of_ble_eq_true rfl) ?_
    refine slv_iret eX12_relates__10 rfl ?_
    exact ⟨rfl, rfl⟩
  · subst q
    have hF := c_X12_numberOf (w := w) (nm := nm) (M := M) hK (h0 rfl) (p := x) (by omega)
    have hG := c_X12_numberOf (w := w) (nm := nm) (M := M) hK (h0 rfl) (p := 16 + y) (by omega)
    have hn := hK.2.2.2.2.2.2
    have k6 := hK.2.2.2.2.2.1
    have b1 := hn (kn x) (k6 x (by omega))
    have b2 := hn (kn (16 + y)) (k6 (16 + y) (by omega))
    unfold ro_o ro_f
    rw [if_neg (by decide)]
    generalize nu (kn x) = fx at *
    generalize nu (kn (16 + y)) = gy at *
    have hcp : lk_cp fx gy = if fx < gy then 1 else if fx = gy then 2 else 4 := rfl
    by_cases hxe : x = e
    · have hye : ¬ y = e := fun q => hxy ⟨hxe, q⟩
      rw [decide_eq_true hxe, decide_eq_false hye]
      by_cases hlt : fx < gy
      · rw [if_pos hlt] at hcp
        rw [hcp]
        refine slv_iload_n eX12_relates__0 rfl ?_
        refine slv_if_neB eX12_relates__1 (fun h1 => ?_) (fun h1 => absurd h1 (by decide))
        refine slv_aload_n eX12_relates__11 rfl ?_
        refine slv_iload_n eX12_relates__12 rfl ?_
        refine slv_rV (As := [_]) eX12_relates__13 lX12_408 rfl rfl rf_68 rfl hF (by decide) (Nat.le_of_ble_eq_true rfl) ?_
        refine slv_istore (lv' := [_, _, _, _, _, _]) eX12_relates__16 (by decide) rfl ?_
        refine slv_aload_n eX12_relates__18 rfl ?_
        refine slv_bipush (v := nI 16) eX12_relates__19 (by decide) ?_
        refine slv_iload_n eX12_relates__21 rfl ?_
        refine slv_iaddN eX12_relates__22 ?_
        refine slv_rV (As := [_]) eX12_relates__23 lX12_408 rfl rfl rf_68 rfl hG (by decide) (Nat.le_of_ble_eq_true rfl) ?_
        refine slv_istore (lv' := [_, _, _, _, _, _]) eX12_relates__26 (by decide) rfl ?_
        refine slv_iload_n eX12_relates__28 rfl ?_
        refine slv_aload_n eX12_relates__29 rfl ?_
        refine slr_gi eX12_relates__30 fX12_324 rfl (by repeat (first | exact sl_u_eq | assumption | apply rf_ne (by decide) | exact rfl)) ?_
        refine slv_icmp_neN eX12_relates__33 (by omega) (by omega) (fun h33 => absurd h33 (by omega)) (fun h33 => ?_)
        refine slv_iload eX12_relates__36 rfl ?_
        refine slv_iload eX12_relates__38 rfl ?_
        refine slv_icmp_geN eX12_relates__40 (by omega) (by omega) (fun h40 => absurd h40 (by omega)) (fun h40 => ?_)
        refine slv_iconst (v := nI 1) eX12_relates__43 (by decide) ?_
        refine slv_goto eX12_relates__44 ?_
        refine slv_iret eX12_relates__48 rfl ?_
        exact ⟨rfl, rfl⟩
      · have hc1 : ¬ lk_cp fx gy = 1 := by rw [hcp, if_neg hlt]; split <;> decide
        rw [decide_eq_false hc1]
        refine slv_iload_n eX12_relates__0 rfl ?_
        refine slv_if_neB eX12_relates__1 (fun h1 => ?_) (fun h1 => absurd h1 (by decide))
        refine slv_aload_n eX12_relates__11 rfl ?_
        refine slv_iload_n eX12_relates__12 rfl ?_
        refine slv_rV (As := [_]) eX12_relates__13 lX12_408 rfl rfl rf_68 rfl hF (by decide) (Nat.le_of_ble_eq_true rfl) ?_
        refine slv_istore (lv' := [_, _, _, _, _, _]) eX12_relates__16 (by decide) rfl ?_
        refine slv_aload_n eX12_relates__18 rfl ?_
        refine slv_bipush (v := nI 16) eX12_relates__19 (by decide) ?_
        refine slv_iload_n eX12_relates__21 rfl ?_
        refine slv_iaddN eX12_relates__22 ?_
        refine slv_rV (As := [_]) eX12_relates__23 lX12_408 rfl rfl rf_68 rfl hG (by decide) (Nat.le_of_ble_eq_true rfl) ?_
        refine slv_istore (lv' := [_, _, _, _, _, _]) eX12_relates__26 (by decide) rfl ?_
        refine slv_iload_n eX12_relates__28 rfl ?_
        refine slv_aload_n eX12_relates__29 rfl ?_
        refine slr_gi eX12_relates__30 fX12_324 rfl (by repeat (first | exact sl_u_eq | assumption | apply rf_ne (by decide) | exact rfl)) ?_
        refine slv_icmp_neN eX12_relates__33 (by omega) (by omega) (fun h33 => absurd h33 (by omega)) (fun h33 => ?_)
        refine slv_iload eX12_relates__36 rfl ?_
        refine slv_iload eX12_relates__38 rfl ?_
        refine slv_icmp_geN eX12_relates__40 (by omega) (by omega) (fun h40 => ?_) (fun h40 => absurd h40 (by omega))
        refine slv_iconst (v := nI 0) eX12_relates__47 (by decide) ?_
        refine slv_iret eX12_relates__48 rfl ?_
        exact ⟨rfl, rfl⟩
    · rw [decide_eq_false hxe, Bool.false_and, Bool.false_or]
      by_cases hye : y = e
      · rw [decide_eq_true hye, Bool.true_and]
        by_cases hgt : gy < fx
        · rw [if_neg (by omega), if_neg (by omega)] at hcp
          rw [hcp]
          refine slv_iload_n eX12_relates__0 rfl ?_
          refine slv_if_neB eX12_relates__1 (fun h1 => ?_) (fun h1 => absurd h1 (by decide))
          refine slv_aload_n eX12_relates__11 rfl ?_
          refine slv_iload_n eX12_relates__12 rfl ?_
          refine slv_rV (As := [_]) eX12_relates__13 lX12_408 rfl rfl rf_68 rfl hF (by decide) (Nat.le_of_ble_eq_true rfl) ?_
          refine slv_istore (lv' := [_, _, _, _, _, _]) eX12_relates__16 (by decide) rfl ?_
          refine slv_aload_n eX12_relates__18 rfl ?_
          refine slv_bipush (v := nI 16) eX12_relates__19 (by decide) ?_
          refine slv_iload_n eX12_relates__21 rfl ?_
          refine slv_iaddN eX12_relates__22 ?_
          refine slv_rV (As := [_]) eX12_relates__23 lX12_408 rfl rfl rf_68 rfl hG (by decide) (Nat.le_of_ble_eq_true rfl) ?_
          refine slv_istore (lv' := [_, _, _, _, _, _]) eX12_relates__26 (by decide) rfl ?_
          refine slv_iload_n eX12_relates__28 rfl ?_
          refine slv_aload_n eX12_relates__29 rfl ?_
          refine slr_gi eX12_relates__30 fX12_324 rfl (by repeat (first | exact sl_u_eq | assumption | apply rf_ne (by decide) | exact rfl)) ?_
          refine slv_icmp_neN eX12_relates__33 (by omega) (by omega) (fun h33 => ?_) (fun h33 => absurd h33 hxe)
          refine slv_iload_n eX12_relates__49 rfl ?_
          refine slv_aload_n eX12_relates__50 rfl ?_
          refine slr_gi eX12_relates__51 fX12_324 rfl (by repeat (first | exact sl_u_eq | assumption | apply rf_ne (by decide) | exact rfl)) ?_
          refine slv_icmp_neN eX12_relates__54 (by omega) (by omega) (fun h54 => absurd h54 (by omega)) (fun h54 => ?_)
          refine slv_iload eX12_relates__57 rfl ?_
          refine slv_iload eX12_relates__59 rfl ?_
          refine slv_icmp_leN eX12_relates__61 (by omega) (by omega) (fun h61 => absurd h61 (by omega)) (fun h61 => ?_)
          refine slv_iconst (v := nI 4) eX12_relates__64 (by decide) ?_
          refine slv_goto eX12_relates__65 ?_
          refine slv_iret eX12_relates__69 rfl ?_
          exact ⟨rfl, rfl⟩
        · have hc1 : ¬ lk_cp fx gy = 4 := by
            rw [hcp]
            by_cases q : fx < gy
            · rw [if_pos q]; decide
            · rw [if_neg q, if_pos (by omega)]; decide
          rw [decide_eq_false hc1]
          refine slv_iload_n eX12_relates__0 rfl ?_
          refine slv_if_neB eX12_relates__1 (fun h1 => ?_) (fun h1 => absurd h1 (by decide))
          refine slv_aload_n eX12_relates__11 rfl ?_
          refine slv_iload_n eX12_relates__12 rfl ?_
          refine slv_rV (As := [_]) eX12_relates__13 lX12_408 rfl rfl rf_68 rfl hF (by decide) (Nat.le_of_ble_eq_true rfl) ?_
          refine slv_istore (lv' := [_, _, _, _, _, _]) eX12_relates__16 (by decide) rfl ?_
          refine slv_aload_n eX12_relates__18 rfl ?_
          refine slv_bipush (v := nI 16) eX12_relates__19 (by decide) ?_
          refine slv_iload_n eX12_relates__21 rfl ?_
          refine slv_iaddN eX12_relates__22 ?_
          refine slv_rV (As := [_]) eX12_relates__23 lX12_408 rfl rfl rf_68 rfl hG (by decide) (Nat.le_of_ble_eq_true rfl) ?_
          refine slv_istore (lv' := [_, _, _, _, _, _]) eX12_relates__26 (by decide) rfl ?_
          refine slv_iload_n eX12_relates__28 rfl ?_
          refine slv_aload_n eX12_relates__29 rfl ?_
          refine slr_gi eX12_relates__30 fX12_324 rfl (by repeat (first | exact sl_u_eq | assumption | apply rf_ne (by decide) | exact rfl)) ?_
          refine slv_icmp_neN eX12_relates__33 (by omega) (by omega) (fun h33 => ?_) (fun h33 => absurd h33 hxe)
          refine slv_iload_n eX12_relates__49 rfl ?_
          refine slv_aload_n eX12_relates__50 rfl ?_
          refine slr_gi eX12_relates__51 fX12_324 rfl (by repeat (first | exact sl_u_eq | assumption | apply rf_ne (by decide) | exact rfl)) ?_
          refine slv_icmp_neN eX12_relates__54 (by omega) (by omega) (fun h54 => absurd h54 (by omega)) (fun h54 => ?_)
          refine slv_iload eX12_relates__57 rfl ?_
          refine slv_iload eX12_relates__59 rfl ?_
          refine slv_icmp_leN eX12_relates__61 (by omega) (by omega) (fun h61 => ?_) (fun h61 => absurd h61 (by omega))
          refine slv_iconst (v := nI 0) eX12_relates__68 (by decide) ?_
          refine slv_iret eX12_relates__69 rfl ?_
          exact ⟨rfl, rfl⟩
      · rw [decide_eq_false hye, Bool.false_and, cond_false]
        by_cases hlt : fx < gy
        · rw [if_pos hlt] at hcp
          rw [hcp]
          refine slv_iload_n eX12_relates__0 rfl ?_
          refine slv_if_neB eX12_relates__1 (fun h1 => ?_) (fun h1 => absurd h1 (by decide))
          refine slv_aload_n eX12_relates__11 rfl ?_
          refine slv_iload_n eX12_relates__12 rfl ?_
          refine slv_rV (As := [_]) eX12_relates__13 lX12_408 rfl rfl rf_68 rfl hF (by decide) (Nat.le_of_ble_eq_true rfl) ?_
          refine slv_istore (lv' := [_, _, _, _, _, _]) eX12_relates__16 (by decide) rfl ?_
          refine slv_aload_n eX12_relates__18 rfl ?_
          refine slv_bipush (v := nI 16) eX12_relates__19 (by decide) ?_
          refine slv_iload_n eX12_relates__21 rfl ?_
          refine slv_iaddN eX12_relates__22 ?_
          refine slv_rV (As := [_]) eX12_relates__23 lX12_408 rfl rfl rf_68 rfl hG (by decide) (Nat.le_of_ble_eq_true rfl) ?_
          refine slv_istore (lv' := [_, _, _, _, _, _]) eX12_relates__26 (by decide) rfl ?_
          refine slv_iload_n eX12_relates__28 rfl ?_
          refine slv_aload_n eX12_relates__29 rfl ?_
          refine slr_gi eX12_relates__30 fX12_324 rfl (by repeat (first | exact sl_u_eq | assumption | apply rf_ne (by decide) | exact rfl)) ?_
          refine slv_icmp_neN eX12_relates__33 (by omega) (by omega) (fun h33 => ?_) (fun h33 => absurd h33 hxe)
          refine slv_iload_n eX12_relates__49 rfl ?_
          refine slv_aload_n eX12_relates__50 rfl ?_
          refine slr_gi eX12_relates__51 fX12_324 rfl (by repeat (first | exact sl_u_eq | assumption | apply rf_ne (by decide) | exact rfl)) ?_
          refine slv_icmp_neN eX12_relates__54 (by omega) (by omega) (fun h54 => ?_) (fun h54 => absurd h54 hye)
          refine slv_iload eX12_relates__70 rfl ?_
          refine slv_iload eX12_relates__72 rfl ?_
          refine slv_icmp_geN eX12_relates__74 (by omega) (by omega) (fun h74 => absurd h74 (by omega)) (fun h74 => ?_)
          refine slv_iconst (v := nI 1) eX12_relates__77 (by decide) ?_
          refine slv_goto eX12_relates__78 ?_
          refine slv_iret eX12_relates__93 rfl ?_
          exact ⟨rfl, rfl⟩
        · rw [if_neg hlt] at hcp
          by_cases heq : fx = gy
          · rw [if_pos heq] at hcp
            rw [hcp]
            refine slv_iload_n eX12_relates__0 rfl ?_
            refine slv_if_neB eX12_relates__1 (fun h1 => ?_) (fun h1 => absurd h1 (by decide))
            refine slv_aload_n eX12_relates__11 rfl ?_
            refine slv_iload_n eX12_relates__12 rfl ?_
            refine slv_rV (As := [_]) eX12_relates__13 lX12_408 rfl rfl rf_68 rfl hF (by decide) (Nat.le_of_ble_eq_true rfl) ?_
            refine slv_istore (lv' := [_, _, _, _, _, _]) eX12_relates__16 (by decide) rfl ?_
            refine slv_aload_n eX12_relates__18 rfl ?_
            refine slv_bipush (v := nI 16) eX12_relates__19 (by decide) ?_
            refine slv_iload_n eX12_relates__21 rfl ?_
            refine slv_iaddN eX12_relates__22 ?_
            refine slv_rV (As := [_]) eX12_relates__23 lX12_408 rfl rfl rf_68 rfl hG (by decide) (Nat.le_of_ble_eq_true rfl) ?_
            refine slv_istore (lv' := [_, _, _, _, _, _]) eX12_relates__26 (by decide) rfl ?_
            refine slv_iload_n eX12_relates__28 rfl ?_
            refine slv_aload_n eX12_relates__29 rfl ?_
            refine slr_gi eX12_relates__30 fX12_324 rfl (by repeat (first | exact sl_u_eq | assumption | apply rf_ne (by decide) | exact rfl)) ?_
            refine slv_icmp_neN eX12_relates__33 (by omega) (by omega) (fun h33 => ?_) (fun h33 => absurd h33 hxe)
            refine slv_iload_n eX12_relates__49 rfl ?_
            refine slv_aload_n eX12_relates__50 rfl ?_
            refine slr_gi eX12_relates__51 fX12_324 rfl (by repeat (first | exact sl_u_eq | assumption | apply rf_ne (by decide) | exact rfl)) ?_
            refine slv_icmp_neN eX12_relates__54 (by omega) (by omega) (fun h54 => ?_) (fun h54 => absurd h54 hye)
            refine slv_iload eX12_relates__70 rfl ?_
            refine slv_iload eX12_relates__72 rfl ?_
            refine slv_icmp_geN eX12_relates__74 (by omega) (by omega) (fun h74 => ?_) (fun h74 => absurd h74 (by omega))
            refine slv_iload eX12_relates__81 rfl ?_
            refine slv_iload eX12_relates__83 rfl ?_
            refine slv_icmp_neN eX12_relates__85 (by omega) (by omega) (fun h85 => absurd h85 (by omega)) (fun h85 => ?_)
            refine slv_iconst (v := nI 2) eX12_relates__88 (by decide) ?_
            refine slv_goto eX12_relates__89 ?_
            refine slv_iret eX12_relates__93 rfl ?_
            exact ⟨rfl, rfl⟩
          · rw [if_neg heq] at hcp
            rw [hcp]
            refine slv_iload_n eX12_relates__0 rfl ?_
            refine slv_if_neB eX12_relates__1 (fun h1 => ?_) (fun h1 => absurd h1 (by decide))
            refine slv_aload_n eX12_relates__11 rfl ?_
            refine slv_iload_n eX12_relates__12 rfl ?_
            refine slv_rV (As := [_]) eX12_relates__13 lX12_408 rfl rfl rf_68 rfl hF (by decide) (Nat.le_of_ble_eq_true rfl) ?_
            refine slv_istore (lv' := [_, _, _, _, _, _]) eX12_relates__16 (by decide) rfl ?_
            refine slv_aload_n eX12_relates__18 rfl ?_
            refine slv_bipush (v := nI 16) eX12_relates__19 (by decide) ?_
            refine slv_iload_n eX12_relates__21 rfl ?_
            refine slv_iaddN eX12_relates__22 ?_
            refine slv_rV (As := [_]) eX12_relates__23 lX12_408 rfl rfl rf_68 rfl hG (by decide) (Nat.le_of_ble_eq_true rfl) ?_
            refine slv_istore (lv' := [_, _, _, _, _, _]) eX12_relates__26 (by decide) rfl ?_
            refine slv_iload_n eX12_relates__28 rfl ?_
            refine slv_aload_n eX12_relates__29 rfl ?_
            refine slr_gi eX12_relates__30 fX12_324 rfl (by repeat (first | exact sl_u_eq | assumption | apply rf_ne (by decide) | exact rfl)) ?_
            refine slv_icmp_neN eX12_relates__33 (by omega) (by omega) (fun h33 => ?_) (fun h33 => absurd h33 hxe)
            refine slv_iload_n eX12_relates__49 rfl ?_
            refine slv_aload_n eX12_relates__50 rfl ?_
            refine slr_gi eX12_relates__51 fX12_324 rfl (by repeat (first | exact sl_u_eq | assumption | apply rf_ne (by decide) | exact rfl)) ?_
            refine slv_icmp_neN eX12_relates__54 (by omega) (by omega) (fun h54 => ?_) (fun h54 => absurd h54 hye)
            refine slv_iload eX12_relates__70 rfl ?_
            refine slv_iload eX12_relates__72 rfl ?_
            refine slv_icmp_geN eX12_relates__74 (by omega) (by omega) (fun h74 => ?_) (fun h74 => absurd h74 (by omega))
            refine slv_iload eX12_relates__81 rfl ?_
            refine slv_iload eX12_relates__83 rfl ?_
            refine slv_icmp_neN eX12_relates__85 (by omega) (by omega) (fun h85 => ?_) (fun h85 => absurd h85 heq)
            refine slv_iconst (v := nI 4) eX12_relates__92 (by decide) ?_
            refine slv_iret eX12_relates__93 rfl ?_
            exact ⟨rfl, rfl⟩
end ROR

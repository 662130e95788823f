/-! the rule that a handle is reduced by -/
/-- item and sign go together -/
abbrev ro_m (g : sg_T) (it : Nat → Nat) (r i : Nat) : Bool := !(decide (it i = cond (sg_nm (sg_it g r i)) 100 (sg_it g r i)))
theorem hn_mt_sk {g : sg_T} {n : Nat} {it : Nat → Nat} {r : Nat} (ht : ∃ j, j < n ∧ it j < 100) (h : hn_mt g n it r = true) : sg_sk g r = true := by
  unfold hn_mt at h
  rw [Bool.and_eq_true] at h
  have hl := of_decide_eq_true h.1
  unfold sg_sk
  by_cases h1 : sg_lens g r = 1
  · rw [decide_eq_true h1, Bool.true_and]
    obtain ⟨j, hj, hi⟩ := ht
    have hn1 : n = 1 := by omega
    subst hn1
    have hj0 : j = 0 := by omega
    subst hj0
    have h2 := h.2
    simp only [sl_ex, Bool.or_false, Bool.not_not, decide_eq_true_eq] at h2
    cases hq : sg_nm (sg_it g r 0) with
    | false => rfl
    | true => rw [hq] at h2; simp only [cond_true] at h2; omega
  · rw [decide_eq_false h1]; rfl
theorem rd_rule_eq {g : sg_T} {H : hn_T} (ht : ∃ j, j < H.2.2.1 ∧ H.2.2.2 j < 100) : rd_rule g H = sl_fn (fun r => !(sg_put g r) && hn_mt g H.2.2.1 H.2.2.2 r) (sg_rules g) 0 := by
  unfold rd_rule
  congr 1
  funext r
  cases hm : hn_mt g H.2.2.1 H.2.2.2 r with
  | false => rw [Bool.and_false]
  | true => rw [hn_mt_sk ht hm]; rfl
section RRF
variable {v : Nat → Int32} {w : Int64} {a : Nat → Nat → Int32} {nm : Nat → Int64} {M : sl_M} {g : sg_T} {H : hn_T}
set_option maxRecDepth 100000 in
theorem c_X12_ruleOf (hok : sg_ok g) (hG : rf_G g v a) (h1 : v 77 = nI H.2.2.1) (h2 : ∀ j, j < H.2.2.1 → a 67 j = nI (H.2.2.2 j)) (hn : H.2.2.1 ≤ 31) (hit : ∀ j, j < H.2.2.1 → H.2.2.2 j < 1000) (ht : ∃ j, j < H.2.2.1 ∧ H.2.2.2 j < 100) : sl_R YX12_ruleOf 2 [.ref 68] (rf_S v w a nm M) (some (.int (sl_io (rd_rule g H)))) (rf_S v w a nm M) := by
  rw [rd_rule_eq ht]
  have hr12 : sg_rules g ≤ 12 := hok.2.1
  have g1 := hG.1
  refine sl_T.of_V (lv := [_, _, _, _]) (by decide) rfl (Nat.le_of_ble_eq_true rfl) ?_
  have inner : ∀ (n j r : Nat) (b : Bool), r < sg_rules g → (b = true → sg_lens g r = H.2.2.1) → j + n = H.2.2.1 → ∀ Q : Option Value → sl_M → Prop, (∀ z3, sl_V YX12_ruleOf none 2 0 0 Q 108 [some (.ref 68), some (.int (nI r)), some (.int (sl_bi (b && !(sl_ex (ro_m g H.2.2.2 r) n j)))), z3] [] (rf_S v w a nm M)) → sl_V YX12_ruleOf none 2 0 0 Q 39 [some (.ref 68), some (.int (nI r)), some (.int (sl_bi b)), some (.int (nI j))] [] (rf_S v w a nm M) := by
    intro n
    induction n with
    | zero =>
      intro j r b hr hb hj Q hQ
      simp only [sl_ex, Bool.not_false, Bool.and_true] at hQ
      cases b with
      | false =>
        refine slv_iload_n eX12_ruleOf_39 rfl ?_
        refine slv_if_eqB eX12_ruleOf_40 (fun h40 => ?_) (fun h40 => absurd h40 (by decide))
        exact hQ _
      | true =>
        refine slv_iload_n eX12_ruleOf_39 rfl ?_
        refine slv_if_eqB eX12_ruleOf_40 (fun h40 => absurd h40 (by decide)) (fun h40 => ?_)
        refine slv_iload_n eX12_ruleOf_43 rfl ?_
        refine slv_aload_n eX12_ruleOf_44 rfl ?_
        refine slr_gi eX12_ruleOf_45 fX12_466 rfl (by repeat (first | exact sl_u_eq | assumption | apply rf_ne (by decide) | exact rfl)) ?_
        refine slv_icmp_geN eX12_ruleOf_48 (by omega) (by omega) (fun h48 => ?_) (fun h48 => absurd h48 (by omega))
        exact hQ _
    | succ n ih =>
      intro j r b hr hb hj Q hQ
      cases b with
      | false =>
        refine slv_iload_n eX12_ruleOf_39 rfl ?_
        refine slv_if_eqB eX12_ruleOf_40 (fun h40 => ?_) (fun h40 => absurd h40 (by decide))
        exact hQ _
      | true =>
        have hl := hb rfl
        have hl5 := (hok.2.2.2.2.2.1 r (by omega)).2.2
        have hA := c_X12_at (v := v) (w := w) (a := a) (nm := nm) (M := M) (r := r) (i := j) (by omega)
        rw [hG.2.2.2.2.2.1 r j hr (by omega)] at hA
        have hx : sg_it g r j < 106 := hok.2.2.2.2.2.2.1 (5 * r + j) (by omega)
        have hi := hit j (by omega)
        have hs := h2 j (by omega)
        have hgo : sl_ex (ro_m g H.2.2.2 r) (n + 1) j = (ro_m g H.2.2.2 r j || sl_ex (ro_m g H.2.2.2 r) n (j + 1)) := rfl
        rw [hgo] at hQ
        have go : ∀ b', b' = !(ro_m g H.2.2.2 r j) → sl_V YX12_ruleOf none 2 0 0 Q 39 [some (.ref 68), some (.int (nI r)), some (.int (sl_bi b')), some (.int (nI (j + 1)))] [] (rf_S v w a nm M) := by
          intro b' e
          refine ih (j + 1) r b' hr (fun _ => hl) (by omega) Q (fun z3 => ?_)
          have := hQ z3
          rw [e]
          rw [Bool.true_and, Bool.not_or] at this
          exact this
        have hm : ro_m g H.2.2.2 r j = !(decide (H.2.2.2 j = cond (sg_nm (sg_it g r j)) 100 (sg_it g r j))) := rfl
        by_cases hnm : 100 ≤ sg_it g r j
        · rw [show sg_nm (sg_it g r j) = true from decide_eq_true hnm, cond_true] at hm
          by_cases he : H.2.2.2 j = 100
          · rw [decide_eq_true he] at hm
            have go1 := go true (by rw [hm]; rfl)
            refine slv_iload_n eX12_ruleOf_39 rfl ?_
            refine slv_if_eqB eX12_ruleOf_40 (fun h40 => absurd h40 (by decide)) (fun h40 => ?_)
            refine slv_iload_n eX12_ruleOf_43 rfl ?_
            refine slv_aload_n eX12_ruleOf_44 rfl ?_
            refine slr_gi eX12_ruleOf_45 fX12_466 rfl (by repeat (first | exact sl_u_eq | assumption | apply rf_ne (by decide) | exact rfl)) ?_
            refine slv_icmp_geN eX12_ruleOf_48 (by omega) (by omega) (fun h48 => absurd h48 (by omega)) (fun h48 => ?_)
            refine slv_aload_n eX12_ruleOf_51 rfl ?_
            refine slv_iload_n eX12_ruleOf_52 rfl ?_
            refine slv_iload_n eX12_ruleOf_53 rfl ?_
            refine slv_rV (As := [_, _]) eX12_ruleOf_54 lX12_351 rfl rfl rf_68 rfl hA (by decide) (Nat.le_of_ble_eq_true rfl) ?_
            refine slv_bipush (v := nI 100) eX12_ruleOf_57 (by decide) ?_
            refine slv_icmp_ltN eX12_ruleOf_59 (by omega) (by omega) (fun h59 => absurd h59 (by omega)) (fun h59 => ?_)
            refine slv_aload_n eX12_ruleOf_62 rfl ?_
            refine slr_ga (p := 103) eX12_ruleOf_63 fX12_119 rfl ?_
            refine slv_iload_n eX12_ruleOf_66 rfl ?_
            refine slr_ialdX (k := 67) (p := 103) (len := 33) eX12_ruleOf_67 rfl (by repeat (first | exact sl_u_eq | assumption | apply rf_ne (by decide) | exact rfl)) (by omega) (by decide) hs ?_
            refine slv_bipush (v := nI 100) eX12_ruleOf_68 (by decide) ?_
            refine slv_icmp_neN eX12_ruleOf_70 (by omega) (by omega) (fun h70 => absurd h70 (by omega)) (fun h70 => ?_)
            refine slv_iconst (v := nI 1) eX12_ruleOf_73 (by decide) ?_
            refine slv_goto eX12_ruleOf_74 ?_
            refine slv_istore_n (i := 2) (lv' := [_, _, _, _]) eX12_ruleOf_101 rfl (by decide) rfl ?_
            refine slv_iincN (lv' := [_, _, _, _]) eX12_ruleOf_102 rfl (by decide) rfl ?_
            refine slv_goto eX12_ruleOf_105 ?_
            exact go1
          · rw [decide_eq_false he] at hm
            have go1 := go false (by rw [hm]; rfl)
            refine slv_iload_n eX12_ruleOf_39 rfl ?_
            refine slv_if_eqB eX12_ruleOf_40 (fun h40 => absurd h40 (by decide)) (fun h40 => ?_)
            refine slv_iload_n eX12_ruleOf_43 rfl ?_
            refine slv_aload_n eX12_ruleOf_44 rfl ?_
            refine slr_gi eX12_ruleOf_45 fX12_466 rfl (by repeat (first | exact sl_u_eq | assumption | apply rf_ne (by decide) | exact rfl)) ?_
            refine slv_icmp_geN eX12_ruleOf_48 (by omega) (by omega) (fun h48 => absurd h48 (by omega)) (fun h48 => ?_)
            refine slv_aload_n eX12_ruleOf_51 rfl ?_
            refine slv_iload_n eX12_ruleOf_52 rfl ?_
            refine slv_iload_n eX12_ruleOf_53 rfl ?_
            refine slv_rV (As := [_, _]) eX12_ruleOf_54 lX12_351 rfl rfl rf_68 rfl hA (by decide) (Nat.le_of_ble_eq_true rfl) ?_
            refine slv_bipush (v := nI 100) eX12_ruleOf_57 (by decide) ?_
            refine slv_icmp_ltN eX12_ruleOf_59 (by omega) (by omega) (fun h59 => absurd h59 (by omega)) (fun h59 => ?_)
            refine slv_aload_n eX12_ruleOf_62 rfl ?_
            refine slr_ga (p := 103) eX12_ruleOf_63 fX12_119 rfl ?_
            refine slv_iload_n eX12_ruleOf_66 rfl ?_
            refine slr_ialdX (k := 67) (p := 103) (len := 33) eX12_ruleOf_67 rfl (by repeat (first | exact sl_u_eq | assumption | apply rf_ne (by decide) | exact rfl)) (by omega) (by decide) hs ?_
            refine slv_bipush (v := nI 100) eX12_ruleOf_68 (by decide) ?_
            refine slv_icmp_neN eX12_ruleOf_70 (by omega) (by omega) (fun h70 => ?_) (fun h70 => absurd h70 (by omega))
            refine slv_iconst (v := nI 0) eX12_ruleOf_77 (by decide) ?_
            refine slv_goto eX12_ruleOf_78 ?_
            refine slv_istore_n (i := 2) (lv' := [_, _, _, _]) eX12_ruleOf_101 rfl (by decide) rfl ?_
            refine slv_iincN (lv' := [_, _, _, _]) eX12_ruleOf_102 rfl (by decide) rfl ?_
            refine slv_goto eX12_ruleOf_105 ?_
            exact go1
        · rw [show sg_nm (sg_it g r j) = false from decide_eq_false hnm, cond_false] at hm
          by_cases he : H.2.2.2 j = sg_it g r j
          · rw [decide_eq_true he] at hm
            have go1 := go true (by rw [hm]; rfl)
            refine slv_iload_n eX12_ruleOf_39 rfl ?_
            refine slv_if_eqB eX12_ruleOf_40 (fun h40 => absurd h40 (by decide)) (fun h40 => ?_)
            refine slv_iload_n eX12_ruleOf_43 rfl ?_
            refine slv_aload_n eX12_ruleOf_44 rfl ?_
            refine slr_gi eX12_ruleOf_45 fX12_466 rfl (by repeat (first | exact sl_u_eq | assumption | apply rf_ne (by decide) | exact rfl)) ?_
            refine slv_icmp_geN eX12_ruleOf_48 (by omega) (by omega) (fun h48 => absurd h48 (by omega)) (fun h48 => ?_)
            refine slv_aload_n eX12_ruleOf_51 rfl ?_
            refine slv_iload_n eX12_ruleOf_52 rfl ?_
            refine slv_iload_n eX12_ruleOf_53 rfl ?_
            refine slv_rV (As := [_, _]) eX12_ruleOf_54 lX12_351 rfl rfl rf_68 rfl hA (by decide) (Nat.le_of_ble_eq_true rfl) ?_
            refine slv_bipush (v := nI 100) eX12_ruleOf_57 (by decide) ?_
            refine slv_icmp_ltN eX12_ruleOf_59 (by omega) (by omega) (fun h59 => ?_) (fun h59 => absurd h59 (by omega))
            refine slv_aload_n eX12_ruleOf_81 rfl ?_
            refine slv_iload_n eX12_ruleOf_82 rfl ?_
            refine slv_iload_n eX12_ruleOf_83 rfl ?_
            refine slv_rV (As := [_, _]) eX12_ruleOf_84 lX12_351 rfl rfl rf_68 rfl hA (by decide) (Nat.le_of_ble_eq_true rfl) ?_
            refine slv_aload_n eX12_ruleOf_87 rfl ?_
            refine slr_ga (p := 103) eX12_ruleOf_88 fX12_119 rfl ?_
            refine slv_iload_n eX12_ruleOf_91 rfl ?_
            refine slr_ialdX (k := 67) (p := 103) (len := 33) eX12_ruleOf_92 rfl (by repeat (first | exact sl_u_eq | assumption | apply rf_ne (by decide) | exact rfl)) (by omega) (by decide) hs ?_
            refine slv_icmp_neN eX12_ruleOf_93 (by omega) (by omega) (fun h93 => absurd h93 (by omega)) (fun h93 => ?_)
            refine slv_iconst (v := nI 1) eX12_ruleOf_96 (by decide) ?_
            refine slv_goto eX12_ruleOf_97 ?_
            refine slv_istore_n (i := 2) (lv' := [_, _, _, _]) eX12_ruleOf_101 rfl (by decide) rfl ?_
            refine slv_iincN (lv' := [_, _, _, _]) eX12_ruleOf_102 rfl (by decide) rfl ?_
            refine slv_goto eX12_ruleOf_105 ?_
            exact go1
          · rw [decide_eq_false he] at hm
            have go1 := go false (by rw [hm]; rfl)
            refine slv_iload_n eX12_ruleOf_39 rfl ?_
            refine slv_if_eqB eX12_ruleOf_40 (fun h40 => absurd h40 (by decide)) (fun h40 => ?_)
            refine slv_iload_n eX12_ruleOf_43 rfl ?_
            refine slv_aload_n eX12_ruleOf_44 rfl ?_
            refine slr_gi eX12_ruleOf_45 fX12_466 rfl (by repeat (first | exact sl_u_eq | assumption | apply rf_ne (by decide) | exact rfl)) ?_
            refine slv_icmp_geN eX12_ruleOf_48 (by omega) (by omega) (fun h48 => absurd h48 (by omega)) (fun h48 => ?_)
            refine slv_aload_n eX12_ruleOf_51 rfl ?_
            refine slv_iload_n eX12_ruleOf_52 rfl ?_
            refine slv_iload_n eX12_ruleOf_53 rfl ?_
            refine slv_rV (As := [_, _]) eX12_ruleOf_54 lX12_351 rfl rfl rf_68 rfl hA (by decide) (Nat.le_of_ble_eq_true rfl) ?_
            refine slv_bipush (v := nI 100) eX12_ruleOf_57 (by decide) ?_
            refine slv_icmp_ltN eX12_ruleOf_59 (by omega) (by omega) (fun h59 => ?_) (fun h59 => absurd h59 (by omega))
            refine slv_aload_n eX12_ruleOf_81 rfl ?_
            refine slv_iload_n eX12_ruleOf_82 rfl ?_
            refine slv_iload_n eX12_ruleOf_83 rfl ?_
            refine slv_rV (As := [_, _]) eX12_ruleOf_84 lX12_351 rfl rfl rf_68 rfl hA (by decide) (Nat.le_of_ble_eq_true rfl) ?_
            refine slv_aload_n eX12_ruleOf_87 rfl ?_
            refine slr_ga (p := 103) eX12_ruleOf_88 fX12_119 rfl ?_
            refine slv_iload_n eX12_ruleOf_91 rfl ?_
            refine slr_ialdX (k := 67) (p := 103) (len := 33) eX12_ruleOf_92 rfl (by repeat (first | exact sl_u_eq | assumption | apply rf_ne (by decide) | exact rfl)) (by omega) (by decide) hs ?_
            refine slv_icmp_neN eX12_ruleOf_93 (by omega) (by omega) (fun h93 => ?_) (fun h93 => absurd h93 (by omega))
            refine slv_iconst (v := nI 0) eX12_ruleOf_100 (by decide) ?_
            refine slv_istore_n (i := 2) (lv' := [_, _, _, _]) eX12_ruleOf_101 rfl (by decide) rfl ?_
            refine slv_iincN (lv' := [_, _, _, _]) eX12_ruleOf_102 rfl (by decide) rfl ?_
            refine slv_goto eX12_ruleOf_105 ?_
            exact go1
  have outer : ∀ (n r : Nat) (z2 z3 : Option Value), r + n = sg_rules g → ∀ Q : Option Value → sl_M → Prop, Q (some (.int (sl_io (sl_fn (fun r => !(sg_put g r) && hn_mt g H.2.2.1 H.2.2.2 r) n r)))) (rf_S v w a nm M) → sl_V YX12_ruleOf none 2 0 0 Q 2 [some (.ref 68), some (.int (nI r)), z2, z3] [] (rf_S v w a nm M) := by
    intro n
    induction n with
    | zero =>
      intro r z2 z3 hr Q hQ
      refine slv_iload_n eX12_ruleOf_2 rfl ?_
      refine slv_aload_n eX12_ruleOf_3 rfl ?_
      refine slr_gi eX12_ruleOf_4 fX12_311 rfl (by repeat (first | exact sl_u_eq | assumption | apply rf_ne (by decide) | exact rfl)) ?_
      refine slv_icmp_geN eX12_ruleOf_7 (by omega) (by omega) (fun h7 => ?_) (fun h7 => absurd h7 (by omega))
      refine slv_iconst (v := (-1)) eX12_ruleOf_120 (by decide) ?_
      refine slv_iret eX12_ruleOf_121 rfl ?_
      exact hQ
    | succ n ih =>
      intro r z2 z3 hr Q hQ
      have hgo : sl_fn (fun r => !(sg_put g r) && hn_mt g H.2.2.1 H.2.2.2 r) (n + 1) r = cond (!(sg_put g r) && hn_mt g H.2.2.1 H.2.2.2 r) (some r) (sl_fn (fun r => !(sg_put g r) && hn_mt g H.2.2.1 H.2.2.2 r) n (r + 1)) := rfl
      rw [hgo] at hQ
      have hl5 := (hok.2.2.2.2.2.1 r (by omega)).2.2
      have hSv := rf_sv (w := w) (nm := nm) (M := M) hG (r := r) (by omega)
      have hcn := (hG.2.2.2.2.1 r (by omega)).2.1
      have fin : ∀ (b : Bool), b = (!(sg_put g r) && decide (sg_lens g r = H.2.2.1)) → sl_V YX12_ruleOf none 2 0 0 Q 36 [some (.ref 68), some (.int (nI r)), z2, z3] [.int (sl_bi b)] (rf_S v w a nm M) := by
        intro b e
        have hb : b = true → sg_lens g r = H.2.2.1 := fun q => by
          rw [q] at e
          exact of_decide_eq_true ((Bool.and_eq_true _ _ ▸ e.symm).2)
        have hval : (b && !(sl_ex (ro_m g H.2.2.2 r) H.2.2.1 0)) = (!(sg_put g r) && hn_mt g H.2.2.1 H.2.2.2 r) := by
          rw [e]
          unfold hn_mt
          rw [Bool.and_assoc]
        refine slv_istore_n (i := 2) (lv' := [_, _, _, _]) eX12_ruleOf_36 rfl (by decide) rfl ?_
        refine slv_iconst (v := nI 0) eX12_ruleOf_37 (by decide) ?_
        refine slv_istore_n (i := 3) (lv' := [_, _, _, _]) eX12_ruleOf_38 rfl (by decide) rfl ?_
        refine inner H.2.2.1 0 r b (by omega) hb (by omega) Q (fun z3 => ?_)
        rw [hval]
        cases hp : (!(sg_put g r) && hn_mt g H.2.2.1 H.2.2.2 r) with
        | true =>
          rw [hp, cond_true] at hQ
          refine slv_iload_n eX12_ruleOf_108 rfl ?_
          refine slv_if_eqB eX12_ruleOf_109 (fun h109 => absurd h109 (by decide)) (fun h109 => ?_)
          refine slv_iload_n eX12_ruleOf_112 rfl ?_
          refine slv_iret eX12_ruleOf_113 rfl ?_
          exact hQ
        | false =>
          rw [hp, cond_false] at hQ
          refine slv_iload_n eX12_ruleOf_108 rfl ?_
          refine slv_if_eqB eX12_ruleOf_109 (fun h109 => ?_) (fun h109 => absurd h109 (by decide))
          refine slv_iincN (lv' := [_, _, _, _]) eX12_ruleOf_114 rfl (by decide) rfl ?_
          refine slv_goto eX12_ruleOf_117 ?_
          exact ih (r + 1) _ _ (by omega) Q hQ
      cases hp : sg_put g r with
      | true =>
        rw [hp] at hSv fin
        have f1 := fin false rfl
        refine slv_iload_n eX12_ruleOf_2 rfl ?_
        refine slv_aload_n eX12_ruleOf_3 rfl ?_
        refine slr_gi eX12_ruleOf_4 fX12_311 rfl (by repeat (first | exact sl_u_eq | assumption | apply rf_ne (by decide) | exact rfl)) ?_
        refine slv_icmp_geN eX12_ruleOf_7 (by omega) (by omega) (fun h7 => absurd h7 (by omega)) (fun h7 => ?_)
        refine slv_aload_n eX12_ruleOf_10 rfl ?_
        refine slv_iload_n eX12_ruleOf_11 rfl ?_
        refine slv_rV (As := [_]) eX12_ruleOf_12 lX12_348 rfl rfl rf_68 rfl hSv (by decide) (Nat.le_of_ble_eq_true rfl) ?_
        refine slv_if_eqB eX12_ruleOf_15 (fun h15 => ?_) (fun h15 => absurd h15 (by decide))
        refine slv_iconst (v := nI 0) eX12_ruleOf_35 (by decide) ?_
        exact f1
      | false =>
        rw [hp] at hSv fin
        by_cases hq : sg_lens g r = H.2.2.1
        · have f1 := fin true (by rw [decide_eq_true hq]; rfl)
          refine slv_iload_n eX12_ruleOf_2 rfl ?_
          refine slv_aload_n eX12_ruleOf_3 rfl ?_
          refine slr_gi eX12_ruleOf_4 fX12_311 rfl (by repeat (first | exact sl_u_eq | assumption | apply rf_ne (by decide) | exact rfl)) ?_
          refine slv_icmp_geN eX12_ruleOf_7 (by omega) (by omega) (fun h7 => absurd h7 (by omega)) (fun h7 => ?_)
          refine slv_aload_n eX12_ruleOf_10 rfl ?_
          refine slv_iload_n eX12_ruleOf_11 rfl ?_
          refine slv_rV (As := [_]) eX12_ruleOf_12 lX12_348 rfl rfl rf_68 rfl hSv (by decide) (Nat.le_of_ble_eq_true rfl) ?_
          refine slv_if_eqB eX12_ruleOf_15 (fun h15 => absurd h15 (by decide)) (fun h15 => ?_)
          refine slv_aload_n eX12_ruleOf_18 rfl ?_
          refine slr_ga (p := 71) eX12_ruleOf_19 fX12_20 rfl ?_
          refine slv_iload_n eX12_ruleOf_22 rfl ?_
          refine slr_ialdX (k := 5) (p := 71) (len := 12) eX12_ruleOf_23 rfl (by repeat (first | exact sl_u_eq | assumption | apply rf_ne (by decide) | exact rfl)) (by omega) (by decide) hcn ?_
          refine slv_aload_n eX12_ruleOf_24 rfl ?_
          refine slr_gi eX12_ruleOf_25 fX12_466 rfl (by repeat (first | exact sl_u_eq | assumption | apply rf_ne (by decide) | exact rfl)) ?_
          refine slv_icmp_neN eX12_ruleOf_28 (by omega) (by omega) (fun h28 => absurd h28 (by omega)) (fun h28 => ?_)
          refine slv_iconst (v := nI 1) eX12_ruleOf_31 (by decide) ?_
          refine slv_goto eX12_ruleOf_32 ?_
          exact f1
        · have f1 := fin false (by rw [decide_eq_false hq]; rfl)
          refine slv_iload_n eX12_ruleOf_2 rfl ?_
          refine slv_aload_n eX12_ruleOf_3 rfl ?_
          refine slr_gi eX12_ruleOf_4 fX12_311 rfl (by repeat (first | exact sl_u_eq | assumption | apply rf_ne (by decide) | exact rfl)) ?_
          refine slv_icmp_geN eX12_ruleOf_7 (by omega) (by omega) (fun h7 => absurd h7 (by omega)) (fun h7 => ?_)
          refine slv_aload_n eX12_ruleOf_10 rfl ?_
          refine slv_iload_n eX12_ruleOf_11 rfl ?_
          refine slv_rV (As := [_]) eX12_ruleOf_12 lX12_348 rfl rfl rf_68 rfl hSv (by decide) (Nat.le_of_ble_eq_true rfl) ?_
          refine slv_if_eqB eX12_ruleOf_15 (fun h15 => absurd h15 (by decide)) (fun h15 => ?_)
          refine slv_aload_n eX12_ruleOf_18 rfl ?_
          refine slr_ga (p := 71) eX12_ruleOf_19 fX12_20 rfl ?_
          refine slv_iload_n eX12_ruleOf_22 rfl ?_
          refine slr_ialdX (k := 5) (p := 71) (len := 12) eX12_ruleOf_23 rfl (by repeat (first | exact sl_u_eq | assumption | apply rf_ne (by decide) | exact rfl)) (by omega) (by decide) hcn ?_
          refine slv_aload_n eX12_ruleOf_24 rfl ?_
          refine slr_gi eX12_ruleOf_25 fX12_466 rfl (by repeat (first | exact sl_u_eq | assumption | apply rf_ne (by decide) | exact rfl)) ?_
          refine slv_icmp_neN eX12_ruleOf_28 (by omega) (by omega) (fun h28 => ?_) (fun h28 => absurd h28 (by omega))
          refine slv_iconst (v := nI 0) eX12_ruleOf_35 (by decide) ?_
          exact f1
  refine slv_iconst (v := nI 0) eX12_ruleOf_0 (by decide) ?_
  refine slv_istore_n (i := 1) (lv' := [_, _, _, _]) eX12_ruleOf_1 rfl (by decide) rfl ?_
  exact outer (sg_rules g) 0 _ _ (by omega) _ ⟨rfl, rfl⟩
end RRF

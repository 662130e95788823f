/-! the reference: one rule's edges, relations -/
theorem rl_add_cm (e : Nat) (s : Nat → Int32) (x y r x' y' r' : Nat) : rl_add e (rl_add e s x y r) x' y' r' = rl_add e (rl_add e s x' y' r') x y r := by
  unfold rl_add
  by_cases h1 : x ≤ e ∧ y ≤ e
  · by_cases h2 : x' ≤ e ∧ y' ≤ e
    · rw [if_pos h1, if_pos h2, if_pos h2, if_pos h1]
      by_cases h : 12 * x + y = 12 * x' + y'
      · rw [h, sl_u_eq, sl_u_eq, sl_u_u, sl_u_u, Int32.or_assoc, Int32.or_assoc, Int32.or_comm (nI r)]
      · rw [sl_u_ne (fun q => h q.symm), sl_u_ne h, sl_u_sw h]
    · rw [if_pos h1, if_neg h2, if_neg h2, if_pos h1]
  · by_cases h2 : x' ≤ e ∧ y' ≤ e
    · simp only [if_neg h1, if_pos h2]
    · simp only [if_neg h1, if_neg h2]
theorem rl_bel_cm (e x : Nat) (b : Int32) (x' y' r' n : Nat) : ∀ i s, rl_bel e x b n i (rl_add e s x' y' r') = rl_add e (rl_bel e x b n i s) x' y' r' := by
  induction n with
  | zero => intro i s; rfl
  | succ n ih =>
    intro i s
    show rl_bel e x b n (i + 1) (cond (sl_bt b i) (rl_add e (rl_add e s x' y' r') x i 1) (rl_add e s x' y' r')) = rl_add e (rl_bel e x b n (i + 1) (cond (sl_bt b i) (rl_add e s x i 1) s)) x' y' r'
    cases sl_bt b i with
    | false => exact ih (i + 1) s
    | true => rw [cond_true, cond_true, rl_add_cm, ih (i + 1)]
theorem rl_abv_cm (e : Nat) (b : Int32) (y x' y' r' n : Nat) : ∀ i s, rl_abv e b y n i (rl_add e s x' y' r') = rl_add e (rl_abv e b y n i s) x' y' r' := by
  induction n with
  | zero => intro i s; rfl
  | succ n ih =>
    intro i s
    show rl_abv e b y n (i + 1) (cond (sl_bt b i) (rl_add e (rl_add e s x' y' r') i y 4) (rl_add e s x' y' r')) = rl_add e (rl_abv e b y n (i + 1) (cond (sl_bt b i) (rl_add e s i y 4) s)) x' y' r'
    cases sl_bt b i with
    | false => exact ih (i + 1) s
    | true => rw [cond_true, cond_true, rl_add_cm, ih (i + 1)]
/-- both at once, or one behind the other -/
def rl_two (e : Nat) (b c : Int32) (n i : Nat) (s : Nat → Int32) : Nat → Int32 := sl_fo (fun t s => cond (sl_bt c t) (rl_add e (cond (sl_bt b t) (rl_add e s e t 1) s) t e 4) (cond (sl_bt b t) (rl_add e s e t 1) s)) n i s
theorem rl_two_eq (e : Nat) (b c : Int32) (n : Nat) : ∀ i s, rl_two e b c n i s = rl_abv e c e n i (rl_bel e e b n i s) := by
  induction n with
  | zero => intro i s; rfl
  | succ n ih =>
    intro i s
    show rl_two e b c n (i + 1) (cond (sl_bt c i) (rl_add e (cond (sl_bt b i) (rl_add e s e i 1) s) i e 4) (cond (sl_bt b i) (rl_add e s e i 1) s)) = rl_abv e c e n (i + 1) (cond (sl_bt c i) (rl_add e (rl_bel e e b n (i + 1) (cond (sl_bt b i) (rl_add e s e i 1) s)) i e 4) (rl_bel e e b n (i + 1) (cond (sl_bt b i) (rl_add e s e i 1) s)))
    rw [ih (i + 1)]
    cases sl_bt c i with
    | false => rfl
    | true => rw [cond_true, cond_true, rl_bel_cm]
section RLY
variable {v : Nat → Int32} {w : Int64} {a : Nat → Nat → Int32} {nm : Nat → Int64} {M : sl_M} {g : sg_T}
theorem rf_at (hok : sg_ok g) (hG : rf_G g v a) {r i : Nat} (hr : r < sg_rules g) (hi : i < sg_lens g r) : sl_R YX12_at 0 [.ref 68, .int (nI r), .int (nI i)] (rf_S v w a nm M) (some (.int (nI (sg_it g r i)))) (rf_S v w a nm M) := by
  have hr12 : sg_rules g ≤ 12 := hok.2.1
  have hl := (hok.2.2.2.2.2.1 r (by omega)).2.2
  have := c_X12_at (v := v) (w := w) (a := a) (nm := nm) (M := M) (r := r) (i := i) (by omega)
  rwa [hG.2.2.2.2.2.1 r i hr hi] at this
set_option maxRecDepth 100000 in
theorem c_X12_laysLead (hok : sg_ok g) (hs : sg_str g) (hG : rf_G g v a) {L : Nat → Int32} (hL : a 36 = L) {r : Nat} (hr : r < sg_rules g) : sl_R YX12_laysEdge 1 [.ref 68, .int (nI r), .ref 83, .int (nI 0), .int (nI 1)] (rf_S v w a nm M) (some (.int (sl_bi (!(decide (L (sg_heads g r) ||| rl_eo g r (rl_o1 g r) (rl_i1 g r) L = L (sg_heads g r))))))) (rf_S v w (sl_u a 36 (sl_u L (sg_heads g r) (L (sg_heads g r) ||| rl_eo g r (rl_o1 g r) (rl_i1 g r) L))) nm M) := by
  have hr12 : sg_rules g ≤ 12 := hok.2.1
  obtain ⟨hh6, hd9, hl⟩ := hok.2.2.2.2.2.1 r (by omega)
  have hl1 := hok.2.2.2.2.2.2.2 r hr
  have hit : sg_it g r 0 < 106 := hok.2.2.2.2.2.2.1 _ (by omega)
  have hA0 := rf_at (w := w) (nm := nm) (M := M) hok hG hr (show 0 < sg_lens g r by omega)
  have hA1 := fun h => rf_at (w := w) (nm := nm) (M := M) hok hG hr (show 1 < sg_lens g r from h)
  obtain ⟨h14, h15, h16, h22, hrr, hi, ht⟩ := hG
  obtain ⟨r1, r2, r3, r4⟩ := hrr r hr
  refine sl_T.of_V (lv := [_, _, _, _, _, _, _, _]) (by decide) rfl (Nat.le_of_ble_eq_true rfl) ?_
  unfold rl_o1 rl_i1 rl_eo
  by_cases h0 : 100 ≤ sg_it g r 0
  · rw [show sg_nm (sg_it g r 0) = true from decide_eq_true h0, cond_true]
    by_cases h1 : 1 < sg_lens g r
    · have hn1 : ¬ 100 ≤ sg_it g r 1 := fun q => hs.2.2.1 r 0 hr (by omega) ⟨h0, q⟩
      have hA := hA1 h1
      rw [show min 1 (sg_lens g r - 1) = 1 by omega, show sg_nm (sg_it g r 1) = false from decide_eq_false hn1, cond_false]
      refine slv_aload_n eX12_laysEdge_0 rfl ?_
      refine slv_aload_n eX12_laysEdge_1 rfl ?_
      refine slr_ga (p := 69) eX12_laysEdge_2 fX12_13 rfl ?_
      refine slv_iload_n eX12_laysEdge_5 rfl ?_
      refine slr_ialdX (k := 3) (p := 69) (len := 12) eX12_laysEdge_6 rfl (by repeat (first | exact sl_u_eq | assumption | apply rf_ne (by decide) | exact rfl)) (by omega) (by decide) r1 ?_
      refine slr_ialdX (k := 36) (p := 83) (len := 6) eX12_laysEdge_7 rfl (by repeat (first | exact sl_u_eq | assumption | apply rf_ne (by decide) | exact rfl)) (by omega) (by decide) rfl ?_
      refine slv_istore (lv' := [_, _, _, _, _, _, _, _]) eX12_laysEdge_8 (by decide) rfl ?_
      refine slv_aload_n eX12_laysEdge_10 rfl ?_
      refine slv_iload_n eX12_laysEdge_11 rfl ?_
      refine slv_iload_n eX12_laysEdge_12 rfl ?_
      refine slv_rV (As := [_, _]) eX12_laysEdge_13 lX12_351 rfl rfl rf_68 rfl hA0 (by decide) (Nat.le_of_ble_eq_true rfl) ?_
      refine slv_istore (lv' := [_, _, _, _, _, _, _, _]) eX12_laysEdge_16 (by decide) rfl ?_
      refine slv_iload eX12_laysEdge_18 rfl ?_
      refine slv_bipush (v := nI 100) eX12_laysEdge_20 (by decide) ?_
      refine slv_icmp_ltN eX12_laysEdge_22 (by omega) (by omega) (fun h22 => absurd h22 (by omega)) (fun h22 => ?_)
      refine slv_aload_n eX12_laysEdge_25 rfl ?_
      refine slv_iload eX12_laysEdge_26 rfl ?_
      refine slv_bipush (v := nI 100) eX12_laysEdge_28 (by decide) ?_
      refine slv_isubN eX12_laysEdge_30 (by omega) ?_
      refine slr_ialdX (k := 36) (p := 83) (len := 6) eX12_laysEdge_31 rfl (by repeat (first | exact sl_u_eq | assumption | apply rf_ne (by decide) | exact rfl)) (by omega) (by decide) rfl ?_
      refine slv_goto eX12_laysEdge_32 ?_
      refine slv_istore (lv' := [_, _, _, _, _, _, _, _]) eX12_laysEdge_39 (by decide) rfl ?_
      refine slv_iload eX12_laysEdge_41 rfl ?_
      refine slv_bipush (v := nI 100) eX12_laysEdge_43 (by decide) ?_
      refine slv_icmp_ltN eX12_laysEdge_45 (by omega) (by omega) (fun h45 => absurd h45 (by omega)) (fun h45 => ?_)
      refine slv_aload_n eX12_laysEdge_48 rfl ?_
      refine slr_ga (p := 71) eX12_laysEdge_49 fX12_20 rfl ?_
      refine slv_iload_n eX12_laysEdge_52 rfl ?_
      refine slr_ialdX (k := 5) (p := 71) (len := 12) eX12_laysEdge_53 rfl (by repeat (first | exact sl_u_eq | assumption | apply rf_ne (by decide) | exact rfl)) (by omega) (by decide) r2 ?_
      refine slv_iconst (v := nI 1) eX12_laysEdge_54 (by decide) ?_
      refine slv_icmp_leN eX12_laysEdge_55 (by omega) (by omega) (fun h55 => absurd h55 (by omega)) (fun h55 => ?_)
      refine slv_iload eX12_laysEdge_58 rfl ?_
      refine slv_iconst (v := nI 1) eX12_laysEdge_60 (by decide) ?_
      refine slv_aload_n eX12_laysEdge_61 rfl ?_
      refine slv_iload_n eX12_laysEdge_62 rfl ?_
      refine slv_iload_n eX12_laysEdge_63 rfl ?_
      refine slv_iload eX12_laysEdge_64 rfl ?_
      refine slv_iaddN eX12_laysEdge_66 ?_
      refine slv_rV (As := [_, _]) eX12_laysEdge_67 lX12_351 rfl rfl rf_68 rfl hA (by decide) (Nat.le_of_ble_eq_true rfl) ?_
      refine slv_ishl eX12_laysEdge_70 ?_
      refine slv_ior eX12_laysEdge_71 ?_
      refine slv_istore (lv' := [_, _, _, _, _, _, _, _]) eX12_laysEdge_72 (by decide) rfl ?_
      refine slv_aload_n eX12_laysEdge_74 rfl ?_
      refine slv_aload_n eX12_laysEdge_75 rfl ?_
      refine slr_ga (p := 69) eX12_laysEdge_76 fX12_13 rfl ?_
      refine slv_iload_n eX12_laysEdge_79 rfl ?_
      refine slr_ialdX (k := 3) (p := 69) (len := 12) eX12_laysEdge_80 rfl (by repeat (first | exact sl_u_eq | assumption | apply rf_ne (by decide) | exact rfl)) (by omega) (by decide) r1 ?_
      refine slv_dup2 eX12_laysEdge_81 rfl rfl ?_
      refine slr_ialdX (k := 36) (p := 83) (len := 6) eX12_laysEdge_82 rfl (by repeat (first | exact sl_u_eq | assumption | apply rf_ne (by decide) | exact rfl)) (by omega) (by decide) rfl ?_
      refine slv_iload eX12_laysEdge_83 rfl ?_
      refine slv_ior eX12_laysEdge_85 ?_
      refine slr_iastX (k := 36) (p := 83) (len := 6) eX12_laysEdge_86 rfl (by repeat (first | exact sl_u_eq | assumption | apply rf_ne (by decide) | exact rfl)) (by omega) (by decide) (rf_t36 _ _ _ _ _) ?_
      refine slv_aload_n eX12_laysEdge_87 rfl ?_
      refine slv_aload_n eX12_laysEdge_88 rfl ?_
      refine slr_ga (p := 69) eX12_laysEdge_89 fX12_13 rfl ?_
      refine slv_iload_n eX12_laysEdge_92 rfl ?_
      refine slr_ialdX (k := 3) (p := 69) (len := 12) eX12_laysEdge_93 rfl (by repeat (first | exact sl_u_eq | assumption | apply rf_ne (by decide) | exact rfl)) (by omega) (by decide) r1 ?_
      refine slr_ialdX (k := 36) (p := 83) (len := 6) eX12_laysEdge_94 rfl (by repeat (first | exact sl_u_eq | assumption | apply rf_ne (by decide) | exact rfl)) (by omega) (by decide) sl_u_eq ?_
      refine slv_iload eX12_laysEdge_95 rfl ?_
      refine slv_icmp_eq eX12_laysEdge_97 (fun h97 => ?_) (fun h97 => ?_)
      · refine slv_iconst (v := nI 0) eX12_laysEdge_104 (by decide) ?_
        refine slv_zret eX12_laysEdge_105 rfl rfl ?_
        refine ⟨?_, rfl⟩
        first | (rw [decide_eq_true h97]; rfl) | (rw [decide_eq_false h97]; rfl)
      · refine slv_iconst (v := nI 1) eX12_laysEdge_100 (by decide) ?_
        refine slv_goto eX12_laysEdge_101 ?_
        refine slv_zret eX12_laysEdge_105 rfl rfl ?_
        refine ⟨?_, rfl⟩
        first | (rw [decide_eq_true h97]; rfl) | (rw [decide_eq_false h97]; rfl)
    · rw [show min 1 (sg_lens g r - 1) = 0 by omega, show sg_nm (sg_it g r 0) = true from decide_eq_true h0, cond_true]
      refine slv_aload_n eX12_laysEdge_0 rfl ?_
      refine slv_aload_n eX12_laysEdge_1 rfl ?_
      refine slr_ga (p := 69) eX12_laysEdge_2 fX12_13 rfl ?_
      refine slv_iload_n eX12_laysEdge_5 rfl ?_
      refine slr_ialdX (k := 3) (p := 69) (len := 12) eX12_laysEdge_6 rfl (by repeat (first | exact sl_u_eq | assumption | apply rf_ne (by decide) | exact rfl)) (by omega) (by decide) r1 ?_
      refine slr_ialdX (k := 36) (p := 83) (len := 6) eX12_laysEdge_7 rfl (by repeat (first | exact sl_u_eq | assumption | apply rf_ne (by decide) | exact rfl)) (by omega) (by decide) rfl ?_
      refine slv_istore (lv' := [_, _, _, _, _, _, _, _]) eX12_laysEdge_8 (by decide) rfl ?_
      refine slv_aload_n eX12_laysEdge_10 rfl ?_
      refine slv_iload_n eX12_laysEdge_11 rfl ?_
      refine slv_iload_n eX12_laysEdge_12 rfl ?_
      refine slv_rV (As := [_, _]) eX12_laysEdge_13 lX12_351 rfl rfl rf_68 rfl hA0 (by decide) (Nat.le_of_ble_eq_true rfl) ?_
      refine slv_istore (lv' := [_, _, _, _, _, _, _, _]) eX12_laysEdge_16 (by decide) rfl ?_
      refine slv_iload eX12_laysEdge_18 rfl ?_
      refine slv_bipush (v := nI 100) eX12_laysEdge_20 (by decide) ?_
      refine slv_icmp_ltN eX12_laysEdge_22 (by omega) (by omega) (fun h22 => absurd h22 (by omega)) (fun h22 => ?_)
      refine slv_aload_n eX12_laysEdge_25 rfl ?_
      refine slv_iload eX12_laysEdge_26 rfl ?_
      refine slv_bipush (v := nI 100) eX12_laysEdge_28 (by decide) ?_
      refine slv_isubN eX12_laysEdge_30 (by omega) ?_
      refine slr_ialdX (k := 36) (p := 83) (len := 6) eX12_laysEdge_31 rfl (by repeat (first | exact sl_u_eq | assumption | apply rf_ne (by decide) | exact rfl)) (by omega) (by decide) rfl ?_
      refine slv_goto eX12_laysEdge_32 ?_
      refine slv_istore (lv' := [_, _, _, _, _, _, _, _]) eX12_laysEdge_39 (by decide) rfl ?_
      refine slv_iload eX12_laysEdge_41 rfl ?_
      refine slv_bipush (v := nI 100) eX12_laysEdge_43 (by decide) ?_
      refine slv_icmp_ltN eX12_laysEdge_45 (by omega) (by omega) (fun h45 => absurd h45 (by omega)) (fun h45 => ?_)
      refine slv_aload_n eX12_laysEdge_48 rfl ?_
      refine slr_ga (p := 71) eX12_laysEdge_49 fX12_20 rfl ?_
      refine slv_iload_n eX12_laysEdge_52 rfl ?_
      refine slr_ialdX (k := 5) (p := 71) (len := 12) eX12_laysEdge_53 rfl (by repeat (first | exact sl_u_eq | assumption | apply rf_ne (by decide) | exact rfl)) (by omega) (by decide) r2 ?_
      refine slv_iconst (v := nI 1) eX12_laysEdge_54 (by decide) ?_
      refine slv_icmp_leN eX12_laysEdge_55 (by omega) (by omega) (fun h55 => ?_) (fun h55 => absurd h55 (by omega))
      refine slv_aload_n eX12_laysEdge_74 rfl ?_
      refine slv_aload_n eX12_laysEdge_75 rfl ?_
      refine slr_ga (p := 69) eX12_laysEdge_76 fX12_13 rfl ?_
      refine slv_iload_n eX12_laysEdge_79 rfl ?_
      refine slr_ialdX (k := 3) (p := 69) (len := 12) eX12_laysEdge_80 rfl (by repeat (first | exact sl_u_eq | assumption | apply rf_ne (by decide) | exact rfl)) (by omega) (by decide) r1 ?_
      refine slv_dup2 eX12_laysEdge_81 rfl rfl ?_
      refine slr_ialdX (k := 36) (p := 83) (len := 6) eX12_laysEdge_82 rfl (by repeat (first | exact sl_u_eq | assumption | apply rf_ne (by decide) | exact rfl)) (by omega) (by decide) rfl ?_
      refine slv_iload eX12_laysEdge_83 rfl ?_
      refine slv_ior eX12_laysEdge_85 ?_
      refine slr_iastX (k := 36) (p := 83) (len := 6) eX12_laysEdge_86 rfl (by repeat (first | exact sl_u_eq | assumption | apply rf_ne (by decide) | exact rfl)) (by omega) (by decide) (rf_t36 _ _ _ _ _) ?_
      refine slv_aload_n eX12_laysEdge_87 rfl ?_
      refine slv_aload_n eX12_laysEdge_88 rfl ?_
      refine slr_ga (p := 69) eX12_laysEdge_89 fX12_13 rfl ?_
      refine slv_iload_n eX12_laysEdge_92 rfl ?_
      refine slr_ialdX (k := 3) (p := 69) (len := 12) eX12_laysEdge_93 rfl (by repeat (first | exact sl_u_eq | assumption | apply rf_ne (by decide) | exact rfl)) (by omega) (by decide) r1 ?_
      refine slr_ialdX (k := 36) (p := 83) (len := 6) eX12_laysEdge_94 rfl (by repeat (first | exact sl_u_eq | assumption | apply rf_ne (by decide) | exact rfl)) (by omega) (by decide) sl_u_eq ?_
      refine slv_iload eX12_laysEdge_95 rfl ?_
      refine slv_icmp_eq eX12_laysEdge_97 (fun h97 => ?_) (fun h97 => ?_)
      · refine slv_iconst (v := nI 0) eX12_laysEdge_104 (by decide) ?_
        refine slv_zret eX12_laysEdge_105 rfl rfl ?_
        refine ⟨?_, rfl⟩
        first | (rw [decide_eq_true h97]; rfl) | (rw [decide_eq_false h97]; rfl)
      · refine slv_iconst (v := nI 1) eX12_laysEdge_100 (by decide) ?_
        refine slv_goto eX12_laysEdge_101 ?_
        refine slv_zret eX12_laysEdge_105 rfl rfl ?_
        refine ⟨?_, rfl⟩
        first | (rw [decide_eq_true h97]; rfl) | (rw [decide_eq_false h97]; rfl)
  · rw [show sg_nm (sg_it g r 0) = false from decide_eq_false h0, cond_false]
    refine slv_aload_n eX12_laysEdge_0 rfl ?_
    refine slv_aload_n eX12_laysEdge_1 rfl ?_
    refine slr_ga (p := 69) eX12_laysEdge_2 fX12_13 rfl ?_
    refine slv_iload_n eX12_laysEdge_5 rfl ?_
    refine slr_ialdX (k := 3) (p := 69) (len := 12) eX12_laysEdge_6 rfl (by repeat (first | exact sl_u_eq | assumption | apply rf_ne (by decide) | exact rfl)) (by omega) (by decide) r1 ?_
    refine slr_ialdX (k := 36) (p := 83) (len := 6) eX12_laysEdge_7 rfl (by repeat (first | exact sl_u_eq | assumption | apply rf_ne (by decide) | exact rfl)) (by omega) (by decide) rfl ?_
    refine slv_istore (lv' := [_, _, _, _, _, _, _, _]) eX12_laysEdge_8 (by decide) rfl ?_
    refine slv_aload_n eX12_laysEdge_10 rfl ?_
    refine slv_iload_n eX12_laysEdge_11 rfl ?_
    refine slv_iload_n eX12_laysEdge_12 rfl ?_
    refine slv_rV (As := [_, _]) eX12_laysEdge_13 lX12_351 rfl rfl rf_68 rfl hA0 (by decide) (Nat.le_of_ble_eq_true rfl) ?_
    refine slv_istore (lv' := [_, _, _, _, _, _, _, _]) eX12_laysEdge_16 (by decide) rfl ?_
    refine slv_iload eX12_laysEdge_18 rfl ?_
    refine slv_bipush (v := nI 100) eX12_laysEdge_20 (by decide) ?_
    refine slv_icmp_ltN eX12_laysEdge_22 (by omega) (by omega) (fun h22 => ?_) (fun h22 => absurd h22 (by omega))
    refine slv_iconst (v := nI 1) eX12_laysEdge_35 (by decide) ?_
    refine slv_iload eX12_laysEdge_36 rfl ?_
    refine slv_ishl eX12_laysEdge_38 ?_
    refine slv_istore (lv' := [_, _, _, _, _, _, _, _]) eX12_laysEdge_39 (by decide) rfl ?_
    refine slv_iload eX12_laysEdge_41 rfl ?_
    refine slv_bipush (v := nI 100) eX12_laysEdge_43 (by decide) ?_
    refine slv_icmp_ltN eX12_laysEdge_45 (by omega) (by omega) (fun h45 => ?_) (fun h45 => absurd h45 (by omega))
    refine slv_aload_n eX12_laysEdge_74 rfl ?_
    refine slv_aload_n eX12_laysEdge_75 rfl ?_
    refine slr_ga (p := 69) eX12_laysEdge_76 fX12_13 rfl ?_
    refine slv_iload_n eX12_laysEdge_79 rfl ?_
    refine slr_ialdX (k := 3) (p := 69) (len := 12) eX12_laysEdge_80 rfl (by repeat (first | exact sl_u_eq | assumption | apply rf_ne (by decide) | exact rfl)) (by omega) (by decide) r1 ?_
    refine slv_dup2 eX12_laysEdge_81 rfl rfl ?_
    refine slr_ialdX (k := 36) (p := 83) (len := 6) eX12_laysEdge_82 rfl (by repeat (first | exact sl_u_eq | assumption | apply rf_ne (by decide) | exact rfl)) (by omega) (by decide) rfl ?_
    refine slv_iload eX12_laysEdge_83 rfl ?_
    refine slv_ior eX12_laysEdge_85 ?_
    refine slr_iastX (k := 36) (p := 83) (len := 6) eX12_laysEdge_86 rfl (by repeat (first | exact sl_u_eq | assumption | apply rf_ne (by decide) | exact rfl)) (by omega) (by decide) (rf_t36 _ _ _ _ _) ?_
    refine slv_aload_n eX12_laysEdge_87 rfl ?_
    refine slv_aload_n eX12_laysEdge_88 rfl ?_
    refine slr_ga (p := 69) eX12_laysEdge_89 fX12_13 rfl ?_
    refine slv_iload_n eX12_laysEdge_92 rfl ?_
    refine slr_ialdX (k := 3) (p := 69) (len := 12) eX12_laysEdge_93 rfl (by repeat (first | exact sl_u_eq | assumption | apply rf_ne (by decide) | exact rfl)) (by omega) (by decide) r1 ?_
    refine slr_ialdX (k := 36) (p := 83) (len := 6) eX12_laysEdge_94 rfl (by repeat (first | exact sl_u_eq | assumption | apply rf_ne (by decide) | exact rfl)) (by omega) (by decide) sl_u_eq ?_
    refine slv_iload eX12_laysEdge_95 rfl ?_
    refine slv_icmp_eq eX12_laysEdge_97 (fun h97 => ?_) (fun h97 => ?_)
    · refine slv_iconst (v := nI 0) eX12_laysEdge_104 (by decide) ?_
      refine slv_zret eX12_laysEdge_105 rfl rfl ?_
      refine ⟨?_, rfl⟩
      first | (rw [decide_eq_true h97]; rfl) | (rw [decide_eq_false h97]; rfl)
    · refine slv_iconst (v := nI 1) eX12_laysEdge_100 (by decide) ?_
      refine slv_goto eX12_laysEdge_101 ?_
      refine slv_zret eX12_laysEdge_105 rfl rfl ?_
      refine ⟨?_, rfl⟩
      first | (rw [decide_eq_true h97]; rfl) | (rw [decide_eq_false h97]; rfl)
set_option maxRecDepth 100000 in
theorem c_X12_laysTrail (hok : sg_ok g) (hs : sg_str g) (hG : rf_G g v a) {L : Nat → Int32} (hL : a 37 = L) {r : Nat} (hr : r < sg_rules g) : sl_R YX12_laysEdge 1 [.ref 68, .int (nI r), .ref 84, .int (nI (sg_lens g r - 1)), .int (-1)] (rf_S v w a nm M) (some (.int (sl_bi (!(decide (L (sg_heads g r) ||| rl_eo g r (rl_o2 g r) (rl_i2 g r) L = L (sg_heads g r))))))) (rf_S v w (sl_u a 37 (sl_u L (sg_heads g r) (L (sg_heads g r) ||| rl_eo g r (rl_o2 g r) (rl_i2 g r) L))) nm M) := by
  have hr12 : sg_rules g ≤ 12 := hok.2.1
  obtain ⟨hh6, hd9, hl⟩ := hok.2.2.2.2.2.1 r (by omega)
  have hl1 := hok.2.2.2.2.2.2.2 r hr
  have hit : sg_it g r (sg_lens g r - 1) < 106 := hok.2.2.2.2.2.2.1 _ (by omega)
  have hA0 := rf_at (w := w) (nm := nm) (M := M) hok hG hr (show sg_lens g r - 1 < sg_lens g r by omega)
  have hA1 := fun (h : 1 < sg_lens g r) => rf_at (w := w) (nm := nm) (M := M) hok hG hr (show sg_lens g r - 1 - 1 < sg_lens g r by omega)
  obtain ⟨h14, h15, h16, h22, hrr, hi, ht⟩ := hG
  obtain ⟨r1, r2, r3, r4⟩ := hrr r hr
  refine sl_T.of_V (lv := [_, _, _, _, _, _, _, _]) (by decide) rfl (Nat.le_of_ble_eq_true rfl) ?_
  unfold rl_o2 rl_i2 rl_eo
  by_cases h0 : 100 ≤ sg_it g r (sg_lens g r - 1)
  · rw [show sg_nm (sg_it g r (sg_lens g r - 1)) = true from decide_eq_true h0, cond_true]
    by_cases h1 : 1 < sg_lens g r
    · have hn1 : ¬ 100 ≤ sg_it g r (sg_lens g r - 1 - 1) := fun q => hs.2.2.1 r (sg_lens g r - 1 - 1) hr (by omega) ⟨q, by rw [show sg_lens g r - 1 - 1 + 1 = sg_lens g r - 1 by omega]; exact h0⟩
      have hA := hA1 h1
      rw [show sg_nm (sg_it g r (sg_lens g r - 1 - 1)) = false from decide_eq_false hn1, cond_false]
      refine slv_aload_n eX12_laysEdge_0 rfl ?_
      refine slv_aload_n eX12_laysEdge_1 rfl ?_
      refine slr_ga (p := 69) eX12_laysEdge_2 fX12_13 rfl ?_
      refine slv_iload_n eX12_laysEdge_5 rfl ?_
      refine slr_ialdX (k := 3) (p := 69) (len := 12) eX12_laysEdge_6 rfl (by repeat (first | exact sl_u_eq | assumption | apply rf_ne (by decide) | exact rfl)) (by omega) (by decide) r1 ?_
      refine slr_ialdX (k := 37) (p := 84) (len := 6) eX12_laysEdge_7 rfl (by repeat (first | exact sl_u_eq | assumption | apply rf_ne (by decide) | exact rfl)) (by omega) (by decide) rfl ?_
      refine slv_istore (lv' := [_, _, _, _, _, _, _, _]) eX12_laysEdge_8 (by decide) rfl ?_
      refine slv_aload_n eX12_laysEdge_10 rfl ?_
      refine slv_iload_n eX12_laysEdge_11 rfl ?_
      refine slv_iload_n eX12_laysEdge_12 rfl ?_
      refine slv_rV (As := [_, _]) eX12_laysEdge_13 lX12_351 rfl rfl rf_68 rfl hA0 (by decide) (Nat.le_of_ble_eq_true rfl) ?_
      refine slv_istore (lv' := [_, _, _, _, _, _, _, _]) eX12_laysEdge_16 (by decide) rfl ?_
      refine slv_iload eX12_laysEdge_18 rfl ?_
      refine slv_bipush (v := nI 100) eX12_laysEdge_20 (by decide) ?_
      refine slv_icmp_ltN eX12_laysEdge_22 (by omega) (by omega) (fun h22 => absurd h22 (by omega)) (fun h22 => ?_)
      refine slv_aload_n eX12_laysEdge_25 rfl ?_
      refine slv_iload eX12_laysEdge_26 rfl ?_
      refine slv_bipush (v := nI 100) eX12_laysEdge_28 (by decide) ?_
      refine slv_isubN eX12_laysEdge_30 (by omega) ?_
      refine slr_ialdX (k := 37) (p := 84) (len := 6) eX12_laysEdge_31 rfl (by repeat (first | exact sl_u_eq | assumption | apply rf_ne (by decide) | exact rfl)) (by omega) (by decide) rfl ?_
      refine slv_goto eX12_laysEdge_32 ?_
      refine slv_istore (lv' := [_, _, _, _, _, _, _, _]) eX12_laysEdge_39 (by decide) rfl ?_
      refine slv_iload eX12_laysEdge_41 rfl ?_
      refine slv_bipush (v := nI 100) eX12_laysEdge_43 (by decide) ?_
      refine slv_icmp_ltN eX12_laysEdge_45 (by omega) (by omega) (fun h45 => absurd h45 (by omega)) (fun h45 => ?_)
      refine slv_aload_n eX12_laysEdge_48 rfl ?_
      refine slr_ga (p := 71) eX12_laysEdge_49 fX12_20 rfl ?_
      refine slv_iload_n eX12_laysEdge_52 rfl ?_
      refine slr_ialdX (k := 5) (p := 71) (len := 12) eX12_laysEdge_53 rfl (by repeat (first | exact sl_u_eq | assumption | apply rf_ne (by decide) | exact rfl)) (by omega) (by decide) r2 ?_
      refine slv_iconst (v := nI 1) eX12_laysEdge_54 (by decide) ?_
      refine slv_icmp_leN eX12_laysEdge_55 (by omega) (by omega) (fun h55 => absurd h55 (by omega)) (fun h55 => ?_)
      refine slv_iload eX12_laysEdge_58 rfl ?_
      refine slv_iconst (v := nI 1) eX12_laysEdge_60 (by decide) ?_
      refine slv_aload_n eX12_laysEdge_61 rfl ?_
      refine slv_iload_n eX12_laysEdge_62 rfl ?_
      refine slv_iload_n eX12_laysEdge_63 rfl ?_
      refine slv_iload eX12_laysEdge_64 rfl ?_
      refine slv_iadd eX12_laysEdge_66 ?_
      refine slv_top (w := .int (nI (sg_lens g r - 1 - 1))) (by rw [← nI_sub (show 1 ≤ sg_lens g r - 1 by omega), Int32.sub_eq_add_neg]; rfl) ?_
      refine slv_rV (As := [_, _]) eX12_laysEdge_67 lX12_351 rfl rfl rf_68 rfl hA (by decide) (Nat.le_of_ble_eq_true rfl) ?_
      refine slv_ishl eX12_laysEdge_70 ?_
      refine slv_ior eX12_laysEdge_71 ?_
      refine slv_istore (lv' := [_, _, _, _, _, _, _, _]) eX12_laysEdge_72 (by decide) rfl ?_
      refine slv_aload_n eX12_laysEdge_74 rfl ?_
      refine slv_aload_n eX12_laysEdge_75 rfl ?_
      refine slr_ga (p := 69) eX12_laysEdge_76 fX12_13 rfl ?_
      refine slv_iload_n eX12_laysEdge_79 rfl ?_
      refine slr_ialdX (k := 3) (p := 69) (len := 12) eX12_laysEdge_80 rfl (by repeat (first | exact sl_u_eq | assumption | apply rf_ne (by decide) | exact rfl)) (by omega) (by decide) r1 ?_
      refine slv_dup2 eX12_laysEdge_81 rfl rfl ?_
      refine slr_ialdX (k := 37) (p := 84) (len := 6) eX12_laysEdge_82 rfl (by repeat (first | exact sl_u_eq | assumption | apply rf_ne (by decide) | exact rfl)) (by omega) (by decide) rfl ?_
      refine slv_iload eX12_laysEdge_83 rfl ?_
      refine slv_ior eX12_laysEdge_85 ?_
      refine slr_iastX (k := 37) (p := 84) (len := 6) eX12_laysEdge_86 rfl (by repeat (first | exact sl_u_eq | assumption | apply rf_ne (by decide) | exact rfl)) (by omega) (by decide) (rf_t37 _ _ _ _ _) ?_
      refine slv_aload_n eX12_laysEdge_87 rfl ?_
      refine slv_aload_n eX12_laysEdge_88 rfl ?_
      refine slr_ga (p := 69) eX12_laysEdge_89 fX12_13 rfl ?_
      refine slv_iload_n eX12_laysEdge_92 rfl ?_
      refine slr_ialdX (k := 3) (p := 69) (len := 12) eX12_laysEdge_93 rfl (by repeat (first | exact sl_u_eq | assumption | apply rf_ne (by decide) | exact rfl)) (by omega) (by decide) r1 ?_
      refine slr_ialdX (k := 37) (p := 84) (len := 6) eX12_laysEdge_94 rfl (by repeat (first | exact sl_u_eq | assumption | apply rf_ne (by decide) | exact rfl)) (by omega) (by decide) sl_u_eq ?_
      refine slv_iload eX12_laysEdge_95 rfl ?_
      refine slv_icmp_eq eX12_laysEdge_97 (fun h97 => ?_) (fun h97 => ?_)
      · refine slv_iconst (v := nI 0) eX12_laysEdge_104 (by decide) ?_
        refine slv_zret eX12_laysEdge_105 rfl rfl ?_
        refine ⟨?_, rfl⟩
        first | (rw [decide_eq_true h97]; rfl) | (rw [decide_eq_false h97]; rfl)
      · refine slv_iconst (v := nI 1) eX12_laysEdge_100 (by decide) ?_
        refine slv_goto eX12_laysEdge_101 ?_
        refine slv_zret eX12_laysEdge_105 rfl rfl ?_
        refine ⟨?_, rfl⟩
        first | (rw [decide_eq_true h97]; rfl) | (rw [decide_eq_false h97]; rfl)
    · rw [show sg_lens g r - 1 - 1 = sg_lens g r - 1 by omega, show sg_nm (sg_it g r (sg_lens g r - 1)) = true from decide_eq_true h0, cond_true]
      refine slv_aload_n eX12_laysEdge_0 rfl ?_
      refine slv_aload_n eX12_laysEdge_1 rfl ?_
      refine slr_ga (p := 69) eX12_laysEdge_2 fX12_13 rfl ?_
      refine slv_iload_n eX12_laysEdge_5 rfl ?_
      refine slr_ialdX (k := 3) (p := 69) (len := 12) eX12_laysEdge_6 rfl (by repeat (first | exact sl_u_eq | assumption | apply rf_ne (by decide) | exact rfl)) (by omega) (by decide) r1 ?_
      refine slr_ialdX (k := 37) (p := 84) (len := 6) eX12_laysEdge_7 rfl (by repeat (first | exact sl_u_eq | assumption | apply rf_ne (by decide) | exact rfl)) (by omega) (by decide) rfl ?_
      refine slv_istore (lv' := [_, _, _, _, _, _, _, _]) eX12_laysEdge_8 (by decide) rfl ?_
      refine slv_aload_n eX12_laysEdge_10 rfl ?_
      refine slv_iload_n eX12_laysEdge_11 rfl ?_
      refine slv_iload_n eX12_laysEdge_12 rfl ?_
      refine slv_rV (As := [_, _]) eX12_laysEdge_13 lX12_351 rfl rfl rf_68 rfl hA0 (by decide) (Nat.le_of_ble_eq_true rfl) ?_
      refine slv_istore (lv' := [_, _, _, _, _, _, _, _]) eX12_laysEdge_16 (by decide) rfl ?_
      refine slv_iload eX12_laysEdge_18 rfl ?_
      refine slv_bipush (v := nI 100) eX12_laysEdge_20 (by decide) ?_
      refine slv_icmp_ltN eX12_laysEdge_22 (by omega) (by omega) (fun h22 => absurd h22 (by omega)) (fun h22 => ?_)
      refine slv_aload_n eX12_laysEdge_25 rfl ?_
      refine slv_iload eX12_laysEdge_26 rfl ?_
      refine slv_bipush (v := nI 100) eX12_laysEdge_28 (by decide) ?_
      refine slv_isubN eX12_laysEdge_30 (by omega) ?_
      refine slr_ialdX (k := 37) (p := 84) (len := 6) eX12_laysEdge_31 rfl (by repeat (first | exact sl_u_eq | assumption | apply rf_ne (by decide) | exact rfl)) (by omega) (by decide) rfl ?_
      refine slv_goto eX12_laysEdge_32 ?_
      refine slv_istore (lv' := [_, _, _, _, _, _, _, _]) eX12_laysEdge_39 (by decide) rfl ?_
      refine slv_iload eX12_laysEdge_41 rfl ?_
      refine slv_bipush (v := nI 100) eX12_laysEdge_43 (by decide) ?_
      refine slv_icmp_ltN eX12_laysEdge_45 (by omega) (by omega) (fun h45 => absurd h45 (by omega)) (fun h45 => ?_)
      refine slv_aload_n eX12_laysEdge_48 rfl ?_
      refine slr_ga (p := 71) eX12_laysEdge_49 fX12_20 rfl ?_
      refine slv_iload_n eX12_laysEdge_52 rfl ?_
      refine slr_ialdX (k := 5) (p := 71) (len := 12) eX12_laysEdge_53 rfl (by repeat (first | exact sl_u_eq | assumption | apply rf_ne (by decide) | exact rfl)) (by omega) (by decide) r2 ?_
      refine slv_iconst (v := nI 1) eX12_laysEdge_54 (by decide) ?_
      refine slv_icmp_leN eX12_laysEdge_55 (by omega) (by omega) (fun h55 => ?_) (fun h55 => absurd h55 (by omega))
      refine slv_aload_n eX12_laysEdge_74 rfl ?_
      refine slv_aload_n eX12_laysEdge_75 rfl ?_
      refine slr_ga (p := 69) eX12_laysEdge_76 fX12_13 rfl ?_
      refine slv_iload_n eX12_laysEdge_79 rfl ?_
      refine slr_ialdX (k := 3) (p := 69) (len := 12) eX12_laysEdge_80 rfl (by repeat (first | exact sl_u_eq | assumption | apply rf_ne (by decide) | exact rfl)) (by omega) (by decide) r1 ?_
      refine slv_dup2 eX12_laysEdge_81 rfl rfl ?_
      refine slr_ialdX (k := 37) (p := 84) (len := 6) eX12_laysEdge_82 rfl (by repeat (first | exact sl_u_eq | assumption | apply rf_ne (by decide) | exact rfl)) (by omega) (by decide) rfl ?_
      refine slv_iload eX12_laysEdge_83 rfl ?_
      refine slv_ior eX12_laysEdge_85 ?_
      refine slr_iastX (k := 37) (p := 84) (len := 6) eX12_laysEdge_86 rfl (by repeat (first | exact sl_u_eq | assumption | apply rf_ne (by decide) | exact rfl)) (by omega) (by decide) (rf_t37 _ _ _ _ _) ?_
      refine slv_aload_n eX12_laysEdge_87 rfl ?_
      refine slv_aload_n eX12_laysEdge_88 rfl ?_
      refine slr_ga (p := 69) eX12_laysEdge_89 fX12_13 rfl ?_
      refine slv_iload_n eX12_laysEdge_92 rfl ?_
      refine slr_ialdX (k := 3) (p := 69) (len := 12) eX12_laysEdge_93 rfl (by repeat (first | exact sl_u_eq | assumption | apply rf_ne (by decide) | exact rfl)) (by omega) (by decide) r1 ?_
      refine slr_ialdX (k := 37) (p := 84) (len := 6) eX12_laysEdge_94 rfl (by repeat (first | exact sl_u_eq | assumption | apply rf_ne (by decide) | exact rfl)) (by omega) (by decide) sl_u_eq ?_
      refine slv_iload eX12_laysEdge_95 rfl ?_
      refine slv_icmp_eq eX12_laysEdge_97 (fun h97 => ?_) (fun h97 => ?_)
      · refine slv_iconst (v := nI 0) eX12_laysEdge_104 (by decide) ?_
        refine slv_zret eX12_laysEdge_105 rfl rfl ?_
        refine ⟨?_, rfl⟩
        first | (rw [decide_eq_true h97]; rfl) | (rw [decide_eq_false h97]; rfl)
      · refine slv_iconst (v := nI 1) eX12_laysEdge_100 (by decide) ?_
        refine slv_goto eX12_laysEdge_101 ?_
        refine slv_zret eX12_laysEdge_105 rfl rfl ?_
        refine ⟨?_, rfl⟩
        first | (rw [decide_eq_true h97]; rfl) | (rw [decide_eq_false h97]; rfl)
  · rw [show sg_nm (sg_it g r (sg_lens g r - 1)) = false from decide_eq_false h0, cond_false]
    refine slv_aload_n eX12_laysEdge_0 rfl ?_
    refine slv_aload_n eX12_laysEdge_1 rfl ?_
    refine slr_ga (p := 69) eX12_laysEdge_2 fX12_13 rfl ?_
    refine slv_iload_n eX12_laysEdge_5 rfl ?_
    refine slr_ialdX (k := 3) (p := 69) (len := 12) eX12_laysEdge_6 rfl (by repeat (first | exact sl_u_eq | assumption | apply rf_ne (by decide) | exact rfl)) (by omega) (by decide) r1 ?_
    refine slr_ialdX (k := 37) (p := 84) (len := 6) eX12_laysEdge_7 rfl (by repeat (first | exact sl_u_eq | assumption | apply rf_ne (by decide) | exact rfl)) (by omega) (by decide) rfl ?_
    refine slv_istore (lv' := [_, _, _, _, _, _, _, _]) eX12_laysEdge_8 (by decide) rfl ?_
    refine slv_aload_n eX12_laysEdge_10 rfl ?_
    refine slv_iload_n eX12_laysEdge_11 rfl ?_
    refine slv_iload_n eX12_laysEdge_12 rfl ?_
    refine slv_rV (As := [_, _]) eX12_laysEdge_13 lX12_351 rfl rfl rf_68 rfl hA0 (by decide) (Nat.le_of_ble_eq_true rfl) ?_
    refine slv_istore (lv' := [_, _, _, _, _, _, _, _]) eX12_laysEdge_16 (by decide) rfl ?_
    refine slv_iload eX12_laysEdge_18 rfl ?_
    refine slv_bipush (v := nI 100) eX12_laysEdge_20 (by decide) ?_
    refine slv_icmp_ltN eX12_laysEdge_22 (by omega) (by omega) (fun h22 => ?_) (fun h22 => absurd h22 (by omega))
    refine slv_iconst (v := nI 1) eX12_laysEdge_35 (by decide) ?_
    refine slv_iload eX12_laysEdge_36 rfl ?_
    refine slv_ishl eX12_laysEdge_38 ?_
    refine slv_istore (lv' := [_, _, _, _, _, _, _, _]) eX12_laysEdge_39 (by decide) rfl ?_
    refine slv_iload eX12_laysEdge_41 rfl ?_
    refine slv_bipush (v := nI 100) eX12_laysEdge_43 (by decide) ?_
    refine slv_icmp_ltN eX12_laysEdge_45 (by omega) (by omega) (fun h45 => ?_) (fun h45 => absurd h45 (by omega))
    refine slv_aload_n eX12_laysEdge_74 rfl ?_
    refine slv_aload_n eX12_laysEdge_75 rfl ?_
    refine slr_ga (p := 69) eX12_laysEdge_76 fX12_13 rfl ?_
    refine slv_iload_n eX12_laysEdge_79 rfl ?_
    refine slr_ialdX (k := 3) (p := 69) (len := 12) eX12_laysEdge_80 rfl (by repeat (first | exact sl_u_eq | assumption | apply rf_ne (by decide) | exact rfl)) (by omega) (by decide) r1 ?_
    refine slv_dup2 eX12_laysEdge_81 rfl rfl ?_
    refine slr_ialdX (k := 37) (p := 84) (len := 6) eX12_laysEdge_82 rfl (by repeat (first | exact sl_u_eq | assumption | apply rf_ne (by decide) | exact rfl)) (by omega) (by decide) rfl ?_
    refine slv_iload eX12_laysEdge_83 rfl ?_
    refine slv_ior eX12_laysEdge_85 ?_
    refine slr_iastX (k := 37) (p := 84) (len := 6) eX12_laysEdge_86 rfl (by repeat (first | exact sl_u_eq | assumption | apply rf_ne (by decide) | exact rfl)) (by omega) (by decide) (rf_t37 _ _ _ _ _) ?_
    refine slv_aload_n eX12_laysEdge_87 rfl ?_
    refine slv_aload_n eX12_laysEdge_88 rfl ?_
    refine slr_ga (p := 69) eX12_laysEdge_89 fX12_13 rfl ?_
    refine slv_iload_n eX12_laysEdge_92 rfl ?_
    refine slr_ialdX (k := 3) (p := 69) (len := 12) eX12_laysEdge_93 rfl (by repeat (first | exact sl_u_eq | assumption | apply rf_ne (by decide) | exact rfl)) (by omega) (by decide) r1 ?_
    refine slr_ialdX (k := 37) (p := 84) (len := 6) eX12_laysEdge_94 rfl (by repeat (first | exact sl_u_eq | assumption | apply rf_ne (by decide) | exact rfl)) (by omega) (by decide) sl_u_eq ?_
    refine slv_iload eX12_laysEdge_95 rfl ?_
    refine slv_icmp_eq eX12_laysEdge_97 (fun h97 => ?_) (fun h97 => ?_)
    · refine slv_iconst (v := nI 0) eX12_laysEdge_104 (by decide) ?_
      refine slv_zret eX12_laysEdge_105 rfl rfl ?_
      refine ⟨?_, rfl⟩
      first | (rw [decide_eq_true h97]; rfl) | (rw [decide_eq_false h97]; rfl)
    · refine slv_iconst (v := nI 1) eX12_laysEdge_100 (by decide) ?_
      refine slv_goto eX12_laysEdge_101 ?_
      refine slv_zret eX12_laysEdge_105 rfl rfl ?_
      refine ⟨?_, rfl⟩
      first | (rw [decide_eq_true h97]; rfl) | (rw [decide_eq_false h97]; rfl)
set_option maxRecDepth 100000 in
theorem c_X12_relates {s : Nat → Int32} (hs : a 38 = s) {x y e : Nat} (he : e ≤ 11) (hx : x ≤ e) (hy : y ≤ e) (k : Nat) : sl_R YX12_relates 0 [.ref 68, .int (nI x), .int (nI y), .int (nI k)] (rf_S v w a nm M) none (rf_S v w (sl_u a 38 (rl_add e s x y k)) nm M) := by
  refine sl_T.of_V (lv := [_, _, _, _]) (by decide) rfl (Nat.le_of_ble_eq_true rfl) ?_
  rw [rl_add, if_pos ⟨hx, hy⟩]
  refine slv_aload_n eX12_relates_0 rfl ?_
  refine slr_ga (p := 85) eX12_relates_1 fX12_64 rfl ?_
  refine slv_bipush (v := nI 12) eX12_relates_4 (by decide) ?_
  refine slv_iload_n eX12_relates_6 rfl ?_
  refine slv_imulN eX12_relates_7 ?_
  refine slv_iload_n eX12_relates_8 rfl ?_
  refine slv_iaddN eX12_relates_9 ?_
  refine slv_dup2 eX12_relates_10 rfl rfl ?_
  refine slr_ialdX (k := 38) (p := 85) (len := 144) eX12_relates_11 rfl (by repeat (first | exact sl_u_eq | assumption | apply rf_ne (by decide) | exact rfl)) (by omega) (by decide) rfl ?_
  refine slv_iload_n eX12_relates_12 rfl ?_
  refine slv_ior eX12_relates_13 ?_
  refine slr_iastX (k := 38) (p := 85) (len := 144) eX12_relates_14 rfl (by repeat (first | exact sl_u_eq | assumption | apply rf_ne (by decide) | exact rfl)) (by omega) (by decide) (rf_t38 _ _ _ _ _) ?_
  refine slv_vret eX12_relates_15 rfl ?_
  exact ⟨rfl, rfl⟩
set_option maxRecDepth 100000 in
theorem c_X12_laysRelations (hok : sg_ok g) (hs : sg_str g) (hG : rf_G g v a) {L T s : Nat → Int32} (hL : a 36 = L) (hT : a 37 = T) (hR : a 38 = s) {r : Nat} (hr : r < sg_rules g) : sl_R YX12_laysRelations 1 [.ref 68, .int (nI r)] (rf_S v w a nm M) none (rf_S v w (sl_u a 38 (rl_rr g (sg_terms g) L T r (sg_lens g r - 1) 0 s)) nm M) := by
  have hr12 : sg_rules g ≤ 12 := hok.2.1
  have ht11 : sg_terms g ≤ 11 := hok.2.2.2.1
  obtain ⟨hh6, hd9, hl⟩ := hok.2.2.2.2.2.1 r (by omega)
  have hl1 := hok.2.2.2.2.2.2.2 r hr
  have hit : ∀ i, i < 5 → sg_it g r i < 106 := fun i hi => hok.2.2.2.2.2.2.1 _ (by omega)
  have hG' : ∀ s, rf_G g v (sl_u a 38 s) := fun s => hG
  have hA := fun s i h => rf_at (w := w) (nm := nm) (M := M) hok (hG' s) hr (show i < sg_lens g r from h)
  obtain ⟨h14, h15, h16, h22, hrr, hi, ht⟩ := hG
  obtain ⟨r1, r2, r3, r4⟩ := hrr r hr
  have hrl := fun (s : Nat → Int32) (x y k : Nat) (hx : x ≤ sg_terms g) (hy : y ≤ sg_terms g) => c_X12_relates (v := v) (w := w) (a := sl_u a 38 s) (nm := nm) (M := M) (s := s) sl_u_eq ht11 hx hy k
  simp only [sl_u_u] at hrl
  refine sl_T.of_V (lv := [_, _, _, _, _, _]) (by decide) rfl (Nat.le_of_ble_eq_true rfl) ?_
  -- below: one and what leads in two
  have inB : ∀ (m i k one two : Nat) (s : Nat → Int32), i + m = sg_terms g → one < sg_terms g → 100 ≤ two → two < 106 → ∀ Q : Option Value → sl_M → Prop, sl_V YX12_laysRelations none 1 0 0 Q 180 [some (.ref 68), some (.int (nI r)), some (.int (nI k)), some (.int (nI one)), some (.int (nI two)), some (.int (nI (sg_terms g)))] [] (rf_S v w (sl_u a 38 (rl_bel (sg_terms g) one (L (two - 100)) m i s)) nm M) → sl_V YX12_laysRelations none 1 0 0 Q 94 [some (.ref 68), some (.int (nI r)), some (.int (nI k)), some (.int (nI one)), some (.int (nI two)), some (.int (nI i))] [] (rf_S v w (sl_u a 38 s) nm M) := by
    intro m
    induction m with
    | zero =>
      intro i k one two s hi h1 h2 h3 Q hQ
      have hi' : i = sg_terms g := by omega
      subst hi'
      refine slv_iload eX12_laysRelations_94 rfl ?_
      refine slv_aload_n eX12_laysRelations_96 rfl ?_
      refine slr_gi eX12_laysRelations_97 fX12_324 rfl (by repeat (first | exact sl_u_eq | assumption | apply rf_ne (by decide) | exact rfl)) ?_
      refine slv_icmp_geN eX12_laysRelations_100 (by omega) (by omega) (fun h100 => ?_) (fun h100 => absurd h100 (by omega))
      exact hQ
    | succ m ih =>
      intro i k one two s hi h1 h2 h3 Q hQ
      have hQ' : sl_V YX12_laysRelations none 1 0 0 Q 180 [some (.ref 68), some (.int (nI r)), some (.int (nI k)), some (.int (nI one)), some (.int (nI two)), some (.int (nI (sg_terms g)))] [] (rf_S v w (sl_u a 38 (rl_bel (sg_terms g) one (L (two - 100)) m (i + 1) (cond (sl_bt (L (two - 100)) i) (rl_add (sg_terms g) s one i 1) s))) nm M) := hQ
      have hC := hrl s one i 1 (by omega) (by omega)
      refine slv_iload eX12_laysRelations_94 rfl ?_
      refine slv_aload_n eX12_laysRelations_96 rfl ?_
      refine slr_gi eX12_laysRelations_97 fX12_324 rfl (by repeat (first | exact sl_u_eq | assumption | apply rf_ne (by decide) | exact rfl)) ?_
      refine slv_icmp_geN eX12_laysRelations_100 (by omega) (by omega) (fun h100 => absurd h100 (by omega)) (fun h100 => ?_)
      refine slv_iload_n eX12_laysRelations_103 rfl ?_
      refine slv_bipush (v := nI 100) eX12_laysRelations_104 (by decide) ?_
      refine slv_icmp_geN eX12_laysRelations_106 (by omega) (by omega) (fun h106 => absurd h106 (by omega)) (fun h106 => ?_)
      refine slv_iload eX12_laysRelations_109 rfl ?_
      refine slv_bipush (v := nI 100) eX12_laysRelations_111 (by decide) ?_
      refine slv_icmp_ltN eX12_laysRelations_113 (by omega) (by omega) (fun h113 => absurd h113 (by omega)) (fun h113 => ?_)
      refine slv_aload_n eX12_laysRelations_116 rfl ?_
      refine slr_ga (p := 83) eX12_laysRelations_117 fX12_58 rfl ?_
      refine slv_iload eX12_laysRelations_120 rfl ?_
      refine slv_bipush (v := nI 100) eX12_laysRelations_122 (by decide) ?_
      refine slv_isubN eX12_laysRelations_124 (by omega) ?_
      refine slr_ialdX (k := 36) (p := 83) (len := 6) eX12_laysRelations_125 rfl (by repeat (first | exact sl_u_eq | assumption | apply rf_ne (by decide) | exact rfl)) (by omega) (by decide) rfl ?_
      refine slv_iload eX12_laysRelations_126 rfl ?_
      refine slv_rS (As := [_, _]) eX12_laysRelations_128 lX12_342 rfl rfl (c_X12_has _ _ _) (by decide) (Nat.le_of_ble_eq_true rfl) ?_
      refine slv_if_eqB eX12_laysRelations_131 (fun h131 => ?_) (fun h131 => ?_)
      · refine slv_iload_n eX12_laysRelations_142 rfl ?_
        refine slv_bipush (v := nI 100) eX12_laysRelations_143 (by decide) ?_
        refine slv_icmp_ltN eX12_laysRelations_145 (by omega) (by omega) (fun h145 => ?_) (fun h145 => absurd h145 (by omega))
        refine slv_iincN (lv' := [_, _, _, _, _, _]) eX12_laysRelations_174 rfl (by decide) rfl ?_
        refine slv_goto eX12_laysRelations_177 ?_
        refine ih (i + 1) k one two _ (by omega) h1 h2 h3 Q ?_
        rw [h131] at hQ'
        exact hQ'
      · refine slv_aload_n eX12_laysRelations_134 rfl ?_
        refine slv_iload_n eX12_laysRelations_135 rfl ?_
        refine slv_iload eX12_laysRelations_136 rfl ?_
        refine slv_iconst (v := nI 1) eX12_laysRelations_138 (by decide) ?_
        refine slv_rV (As := [_, _, _]) eX12_laysRelations_139 lX12_364 rfl rfl rf_68 rfl hC (by decide) (Nat.le_of_ble_eq_true rfl) ?_
        refine slv_iload_n eX12_laysRelations_142 rfl ?_
        refine slv_bipush (v := nI 100) eX12_laysRelations_143 (by decide) ?_
        refine slv_icmp_ltN eX12_laysRelations_145 (by omega) (by omega) (fun h145 => ?_) (fun h145 => absurd h145 (by omega))
        refine slv_iincN (lv' := [_, _, _, _, _, _]) eX12_laysRelations_174 rfl (by decide) rfl ?_
        refine slv_goto eX12_laysRelations_177 ?_
        refine ih (i + 1) k one two _ (by omega) h1 h2 h3 Q ?_
        rw [h131] at hQ'
        exact hQ'
  have inA : ∀ (m i k one two : Nat) (s : Nat → Int32), i + m = sg_terms g → two < sg_terms g → 100 ≤ one → one < 106 → ∀ Q : Option Value → sl_M → Prop, sl_V YX12_laysRelations none 1 0 0 Q 180 [some (.ref 68), some (.int (nI r)), some (.int (nI k)), some (.int (nI one)), some (.int (nI two)), some (.int (nI (sg_terms g)))] [] (rf_S v w (sl_u a 38 (rl_abv (sg_terms g) (T (one - 100)) two m i s)) nm M) → sl_V YX12_laysRelations none 1 0 0 Q 94 [some (.ref 68), some (.int (nI r)), some (.int (nI k)), some (.int (nI one)), some (.int (nI two)), some (.int (nI i))] [] (rf_S v w (sl_u a 38 s) nm M) := by
    intro m
    induction m with
    | zero =>
      intro i k one two s hi h1 h2 h3 Q hQ
      have hi' : i = sg_terms g := by omega
      subst hi'
      refine slv_iload eX12_laysRelations_94 rfl ?_
      refine slv_aload_n eX12_laysRelations_96 rfl ?_
      refine slr_gi eX12_laysRelations_97 fX12_324 rfl (by repeat (first | exact sl_u_eq | assumption | apply rf_ne (by decide) | exact rfl)) ?_
      refine slv_icmp_geN eX12_laysRelations_100 (by omega) (by omega) (fun h100 => ?_) (fun h100 => absurd h100 (by omega))
      exact hQ
    | succ m ih =>
      intro i k one two s hi h1 h2 h3 Q hQ
      have hQ' : sl_V YX12_laysRelations none 1 0 0 Q 180 [some (.ref 68), some (.int (nI r)), some (.int (nI k)), some (.int (nI one)), some (.int (nI two)), some (.int (nI (sg_terms g)))] [] (rf_S v w (sl_u a 38 (rl_abv (sg_terms g) (T (one - 100)) two m (i + 1) (cond (sl_bt (T (one - 100)) i) (rl_add (sg_terms g) s i two 4) s))) nm M) := hQ
      have hC := hrl s i two 4 (by omega) (by omega)
      refine slv_iload eX12_laysRelations_94 rfl ?_
      refine slv_aload_n eX12_laysRelations_96 rfl ?_
      refine slr_gi eX12_laysRelations_97 fX12_324 rfl (by repeat (first | exact sl_u_eq | assumption | apply rf_ne (by decide) | exact rfl)) ?_
      refine slv_icmp_geN eX12_laysRelations_100 (by omega) (by omega) (fun h100 => absurd h100 (by omega)) (fun h100 => ?_)
      refine slv_iload_n eX12_laysRelations_103 rfl ?_
      refine slv_bipush (v := nI 100) eX12_laysRelations_104 (by decide) ?_
      refine slv_icmp_geN eX12_laysRelations_106 (by omega) (by omega) (fun h106 => ?_) (fun h106 => absurd h106 (by omega))
      refine slv_iload_n eX12_laysRelations_142 rfl ?_
      refine slv_bipush (v := nI 100) eX12_laysRelations_143 (by decide) ?_
      refine slv_icmp_ltN eX12_laysRelations_145 (by omega) (by omega) (fun h145 => absurd h145 (by omega)) (fun h145 => ?_)
      refine slv_aload_n eX12_laysRelations_148 rfl ?_
      refine slr_ga (p := 84) eX12_laysRelations_149 fX12_61 rfl ?_
      refine slv_iload_n eX12_laysRelations_152 rfl ?_
      refine slv_bipush (v := nI 100) eX12_laysRelations_153 (by decide) ?_
      refine slv_isubN eX12_laysRelations_155 (by omega) ?_
      refine slr_ialdX (k := 37) (p := 84) (len := 6) eX12_laysRelations_156 rfl (by repeat (first | exact sl_u_eq | assumption | apply rf_ne (by decide) | exact rfl)) (by omega) (by decide) rfl ?_
      refine slv_iload eX12_laysRelations_157 rfl ?_
      refine slv_rS (As := [_, _]) eX12_laysRelations_159 lX12_342 rfl rfl (c_X12_has _ _ _) (by decide) (Nat.le_of_ble_eq_true rfl) ?_
      refine slv_if_eqB eX12_laysRelations_162 (fun h162 => ?_) (fun h162 => ?_)
      · refine slv_iincN (lv' := [_, _, _, _, _, _]) eX12_laysRelations_174 rfl (by decide) rfl ?_
        refine slv_goto eX12_laysRelations_177 ?_
        refine ih (i + 1) k one two _ (by omega) h1 h2 h3 Q ?_
        rw [h162] at hQ'
        exact hQ'
      · refine slv_aload_n eX12_laysRelations_165 rfl ?_
        refine slv_iload eX12_laysRelations_166 rfl ?_
        refine slv_iload eX12_laysRelations_168 rfl ?_
        refine slv_iconst (v := nI 4) eX12_laysRelations_170 (by decide) ?_
        refine slv_rV (As := [_, _, _]) eX12_laysRelations_171 lX12_364 rfl rfl rf_68 rfl hC (by decide) (Nat.le_of_ble_eq_true rfl) ?_
        refine slv_iincN (lv' := [_, _, _, _, _, _]) eX12_laysRelations_174 rfl (by decide) rfl ?_
        refine slv_goto eX12_laysRelations_177 ?_
        refine ih (i + 1) k one two _ (by omega) h1 h2 h3 Q ?_
        rw [h162] at hQ'
        exact hQ'
  have inN : ∀ (m i k one two : Nat) (s : Nat → Int32), i + m = sg_terms g → one < 100 → two < 100 → ∀ Q : Option Value → sl_M → Prop, sl_V YX12_laysRelations none 1 0 0 Q 180 [some (.ref 68), some (.int (nI r)), some (.int (nI k)), some (.int (nI one)), some (.int (nI two)), some (.int (nI (sg_terms g)))] [] (rf_S v w (sl_u a 38 s) nm M) → sl_V YX12_laysRelations none 1 0 0 Q 94 [some (.ref 68), some (.int (nI r)), some (.int (nI k)), some (.int (nI one)), some (.int (nI two)), some (.int (nI i))] [] (rf_S v w (sl_u a 38 s) nm M) := by
    intro m
    induction m with
    | zero =>
      intro i k one two s hi h1 h2 Q hQ
      have hi' : i = sg_terms g := by omega
      subst hi'
      refine slv_iload eX12_laysRelations_94 rfl ?_
      refine slv_aload_n eX12_laysRelations_96 rfl ?_
      refine slr_gi eX12_laysRelations_97 fX12_324 rfl (by repeat (first | exact sl_u_eq | assumption | apply rf_ne (by decide) | exact rfl)) ?_
      refine slv_icmp_geN eX12_laysRelations_100 (by omega) (by omega) (fun h100 => ?_) (fun h100 => absurd h100 (by omega))
      exact hQ
    | succ m ih =>
      intro i k one two s hi h1 h2 Q hQ
      refine slv_iload eX12_laysRelations_94 rfl ?_
      refine slv_aload_n eX12_laysRelations_96 rfl ?_
      refine slr_gi eX12_laysRelations_97 fX12_324 rfl (by repeat (first | exact sl_u_eq | assumption | apply rf_ne (by decide) | exact rfl)) ?_
      refine slv_icmp_geN eX12_laysRelations_100 (by omega) (by omega) (fun h100 => absurd h100 (by omega)) (fun h100 => ?_)
      refine slv_iload_n eX12_laysRelations_103 rfl ?_
      refine slv_bipush (v := nI 100) eX12_laysRelations_104 (by decide) ?_
      refine slv_icmp_geN eX12_laysRelations_106 (by omega) (by omega) (fun h106 => absurd h106 (by omega)) (fun h106 => ?_)
      refine slv_iload eX12_laysRelations_109 rfl ?_
      refine slv_bipush (v := nI 100) eX12_laysRelations_111 (by decide) ?_
      refine slv_icmp_ltN eX12_laysRelations_113 (by omega) (by omega) (fun h113 => ?_) (fun h113 => absurd h113 (by omega))
      refine slv_iload_n eX12_laysRelations_142 rfl ?_
      refine slv_bipush (v := nI 100) eX12_laysRelations_143 (by decide) ?_
      refine slv_icmp_ltN eX12_laysRelations_145 (by omega) (by omega) (fun h145 => ?_) (fun h145 => absurd h145 (by omega))
      refine slv_iincN (lv' := [_, _, _, _, _, _]) eX12_laysRelations_174 rfl (by decide) rfl ?_
      refine slv_goto eX12_laysRelations_177 ?_
      exact ih (i + 1) k one two s (by omega) h1 h2 Q hQ
  have loop : ∀ (n k : Nat) (s : Nat → Int32) (z3 z4 z5 : Option Value), k + n = sg_lens g r - 1 → ∀ Q : Option Value → sl_M → Prop, Q none (rf_S v w (sl_u a 38 (rl_rr g (sg_terms g) L T r n k s)) nm M) → sl_V YX12_laysRelations none 1 0 0 Q 2 [some (.ref 68), some (.int (nI r)), some (.int (nI k)), z3, z4, z5] [] (rf_S v w (sl_u a 38 s) nm M) := by
    intro n
    induction n with
    | zero =>
      intro k s z3 z4 z5 hk Q hQ
      refine slv_iload_n eX12_laysRelations_2 rfl ?_
      refine slv_iconst (v := nI 1) eX12_laysRelations_3 (by decide) ?_
      refine slv_iaddN eX12_laysRelations_4 ?_
      refine slv_aload_n eX12_laysRelations_5 rfl ?_
      refine slr_ga (p := 71) eX12_laysRelations_6 fX12_20 rfl ?_
      refine slv_iload_n eX12_laysRelations_9 rfl ?_
      refine slr_ialdX (k := 5) (p := 71) (len := 12) eX12_laysRelations_10 rfl (by repeat (first | exact sl_u_eq | assumption | apply rf_ne (by decide) | exact rfl)) (by omega) (by decide) r2 ?_
      refine slv_icmp_geN eX12_laysRelations_11 (by omega) (by omega) (fun h11 => ?_) (fun h11 => absurd h11 (by omega))
      refine slv_vret eX12_laysRelations_186 rfl ?_
      exact hQ
    | succ n ih =>
      intro k s z3 z4 z5 hk Q hQ
      have hQ' : Q none (rf_S v w (sl_u a 38 (rl_rr g (sg_terms g) L T r n (k + 1) (rl_r1 g (sg_terms g) L T r k s))) nm M) := hQ
      have hA0 := hA s k (by omega)
      have hA1 := hA s (k + 1) (by omega)
      have i0 := hit k (by omega)
      have i1 := hit (k + 1) (by omega)
      obtain ⟨t0, n0⟩ := hs.2.1 r k hr (by omega)
      obtain ⟨t1, n1⟩ := hs.2.1 r (k + 1) hr (by omega)
      unfold rl_r1 at hQ'
      by_cases h0 : 100 ≤ sg_it g r k
      · have h1 : ¬ 100 ≤ sg_it g r (k + 1) := fun q => hs.2.2.1 r k hr (by omega) ⟨h0, q⟩
        rw [show sg_nm (sg_it g r k) = true from decide_eq_true h0, cond_true] at hQ'
        have t1' := t1 (by omega)
        refine slv_iload_n eX12_laysRelations_2 rfl ?_
        refine slv_iconst (v := nI 1) eX12_laysRelations_3 (by decide) ?_
        refine slv_iaddN eX12_laysRelations_4 ?_
        refine slv_aload_n eX12_laysRelations_5 rfl ?_
        refine slr_ga (p := 71) eX12_laysRelations_6 fX12_20 rfl ?_
        refine slv_iload_n eX12_laysRelations_9 rfl ?_
        refine slr_ialdX (k := 5) (p := 71) (len := 12) eX12_laysRelations_10 rfl (by repeat (first | exact sl_u_eq | assumption | apply rf_ne (by decide) | exact rfl)) (by omega) (by decide) r2 ?_
        refine slv_icmp_geN eX12_laysRelations_11 (by omega) (by omega) (fun h11 => absurd h11 (by omega)) (fun h11 => ?_)
        refine slv_aload_n eX12_laysRelations_14 rfl ?_
        refine slv_iload_n eX12_laysRelations_15 rfl ?_
        refine slv_iload_n eX12_laysRelations_16 rfl ?_
        refine slv_rV (As := [_, _]) eX12_laysRelations_17 lX12_351 rfl rfl rf_68 rfl hA0 (by decide) (Nat.le_of_ble_eq_true rfl) ?_
        refine slv_istore_n (i := 3) (lv' := [_, _, _, _, _, _]) eX12_laysRelations_20 rfl (by decide) rfl ?_
        refine slv_aload_n eX12_laysRelations_21 rfl ?_
        refine slv_iload_n eX12_laysRelations_22 rfl ?_
        refine slv_iload_n eX12_laysRelations_23 rfl ?_
        refine slv_iconst (v := nI 1) eX12_laysRelations_24 (by decide) ?_
        refine slv_iaddN eX12_laysRelations_25 ?_
        refine slv_rV (As := [_, _]) eX12_laysRelations_26 lX12_351 rfl rfl rf_68 rfl hA1 (by decide) (Nat.le_of_ble_eq_true rfl) ?_
        refine slv_istore (lv' := [_, _, _, _, _, _]) eX12_laysRelations_29 (by decide) rfl ?_
        refine slv_iload_n eX12_laysRelations_31 rfl ?_
        refine slv_bipush (v := nI 100) eX12_laysRelations_32 (by decide) ?_
        refine slv_icmp_geN eX12_laysRelations_34 (by omega) (by omega) (fun h34 => ?_) (fun h34 => absurd h34 (by omega))
        refine slv_iload_n eX12_laysRelations_52 rfl ?_
        refine slv_bipush (v := nI 100) eX12_laysRelations_53 (by decide) ?_
        refine slv_icmp_geN eX12_laysRelations_55 (by omega) (by omega) (fun h55 => ?_) (fun h55 => absurd h55 (by omega))
        refine slv_iconst (v := nI 0) eX12_laysRelations_91 (by decide) ?_
        refine slv_istore (lv' := [_, _, _, _, _, _]) eX12_laysRelations_92 (by decide) rfl ?_
        refine inA (sg_terms g) 0 k _ _ s (by omega) t1' h0 i0 Q ?_
        refine slv_iincN (lv' := [_, _, _, _, _, _]) eX12_laysRelations_180 rfl (by decide) rfl ?_
        refine slv_goto eX12_laysRelations_183 ?_
        exact ih (k + 1) _ _ _ _ (by omega) Q hQ'
      · rw [show sg_nm (sg_it g r k) = false from decide_eq_false h0, cond_false] at hQ'
        have t0' := t0 (by omega)
        by_cases h1 : 100 ≤ sg_it g r (k + 1)
        · rw [show sg_nm (sg_it g r (k + 1)) = true from decide_eq_true h1, cond_true] at hQ'
          by_cases h2 : k + 2 < sg_lens g r
          · have hA2 := hA s (k + 2) (by omega)
            have h3 : ¬ 100 ≤ sg_it g r (k + 2) := fun q => hs.2.2.1 r (k + 1) hr (by omega) ⟨h1, q⟩
            have t2 := (hs.2.1 r (k + 2) hr (by omega)).1 (by omega)
            rw [decide_eq_true (show k + 1 < sg_lens g r - 1 by omega), cond_true, ← rl_bel_cm] at hQ'
            have hC := hrl s (sg_it g r k) (sg_it g r (k + 2)) 2 (by omega) (by omega)
            refine slv_iload_n eX12_laysRelations_2 rfl ?_
            refine slv_iconst (v := nI 1) eX12_laysRelations_3 (by decide) ?_
            refine slv_iaddN eX12_laysRelations_4 ?_
            refine slv_aload_n eX12_laysRelations_5 rfl ?_
            refine slr_ga (p := 71) eX12_laysRelations_6 fX12_20 rfl ?_
            refine slv_iload_n eX12_laysRelations_9 rfl ?_
            refine slr_ialdX (k := 5) (p := 71) (len := 12) eX12_laysRelations_10 rfl (by repeat (first | exact sl_u_eq | assumption | apply rf_ne (by decide) | exact rfl)) (by omega) (by decide) r2 ?_
            refine slv_icmp_geN eX12_laysRelations_11 (by omega) (by omega) (fun h11 => absurd h11 (by omega)) (fun h11 => ?_)
            refine slv_aload_n eX12_laysRelations_14 rfl ?_
            refine slv_iload_n eX12_laysRelations_15 rfl ?_
            refine slv_iload_n eX12_laysRelations_16 rfl ?_
            refine slv_rV (As := [_, _]) eX12_laysRelations_17 lX12_351 rfl rfl rf_68 rfl hA0 (by decide) (Nat.le_of_ble_eq_true rfl) ?_
            refine slv_istore_n (i := 3) (lv' := [_, _, _, _, _, _]) eX12_laysRelations_20 rfl (by decide) rfl ?_
            refine slv_aload_n eX12_laysRelations_21 rfl ?_
            refine slv_iload_n eX12_laysRelations_22 rfl ?_
            refine slv_iload_n eX12_laysRelations_23 rfl ?_
            refine slv_iconst (v := nI 1) eX12_laysRelations_24 (by decide) ?_
            refine slv_iaddN eX12_laysRelations_25 ?_
            refine slv_rV (As := [_, _]) eX12_laysRelations_26 lX12_351 rfl rfl rf_68 rfl hA1 (by decide) (Nat.le_of_ble_eq_true rfl) ?_
            refine slv_istore (lv' := [_, _, _, _, _, _]) eX12_laysRelations_29 (by decide) rfl ?_
            refine slv_iload_n eX12_laysRelations_31 rfl ?_
            refine slv_bipush (v := nI 100) eX12_laysRelations_32 (by decide) ?_
            refine slv_icmp_geN eX12_laysRelations_34 (by omega) (by omega) (fun h34 => absurd h34 (by omega)) (fun h34 => ?_)
            refine slv_iload eX12_laysRelations_37 rfl ?_
            refine slv_bipush (v := nI 100) eX12_laysRelations_39 (by decide) ?_
            refine slv_icmp_geN eX12_laysRelations_41 (by omega) (by omega) (fun h41 => ?_) (fun h41 => absurd h41 (by omega))
            refine slv_iload_n eX12_laysRelations_52 rfl ?_
            refine slv_bipush (v := nI 100) eX12_laysRelations_53 (by decide) ?_
            refine slv_icmp_geN eX12_laysRelations_55 (by omega) (by omega) (fun h55 => absurd h55 (by omega)) (fun h55 => ?_)
            refine slv_iload eX12_laysRelations_58 rfl ?_
            refine slv_bipush (v := nI 100) eX12_laysRelations_60 (by decide) ?_
            refine slv_icmp_ltN eX12_laysRelations_62 (by omega) (by omega) (fun h62 => absurd h62 (by omega)) (fun h62 => ?_)
            refine slv_iload_n eX12_laysRelations_65 rfl ?_
            refine slv_iconst (v := nI 2) eX12_laysRelations_66 (by decide) ?_
            refine slv_iaddN eX12_laysRelations_67 ?_
            refine slv_aload_n eX12_laysRelations_68 rfl ?_
            refine slr_ga (p := 71) eX12_laysRelations_69 fX12_20 rfl ?_
            refine slv_iload_n eX12_laysRelations_72 rfl ?_
            refine slr_ialdX (k := 5) (p := 71) (len := 12) eX12_laysRelations_73 rfl (by repeat (first | exact sl_u_eq | assumption | apply rf_ne (by decide) | exact rfl)) (by omega) (by decide) r2 ?_
            refine slv_icmp_geN eX12_laysRelations_74 (by omega) (by omega) (fun h74 => absurd h74 (by omega)) (fun h74 => ?_)
            refine slv_aload_n eX12_laysRelations_77 rfl ?_
            refine slv_iload_n eX12_laysRelations_78 rfl ?_
            refine slv_aload_n eX12_laysRelations_79 rfl ?_
            refine slv_iload_n eX12_laysRelations_80 rfl ?_
            refine slv_iload_n eX12_laysRelations_81 rfl ?_
            refine slv_iconst (v := nI 2) eX12_laysRelations_82 (by decide) ?_
            refine slv_iaddN eX12_laysRelations_83 ?_
            refine slv_rV (As := [_, _]) eX12_laysRelations_84 lX12_351 rfl rfl rf_68 rfl hA2 (by decide) (Nat.le_of_ble_eq_true rfl) ?_
            refine slv_iconst (v := nI 2) eX12_laysRelations_87 (by decide) ?_
            refine slv_rV (As := [_, _, _]) eX12_laysRelations_88 lX12_364 rfl rfl rf_68 rfl hC (by decide) (Nat.le_of_ble_eq_true rfl) ?_
            refine slv_iconst (v := nI 0) eX12_laysRelations_91 (by decide) ?_
            refine slv_istore (lv' := [_, _, _, _, _, _]) eX12_laysRelations_92 (by decide) rfl ?_
            refine inB (sg_terms g) 0 k _ _ _ (by omega) t0' h1 i1 Q ?_
            refine slv_iincN (lv' := [_, _, _, _, _, _]) eX12_laysRelations_180 rfl (by decide) rfl ?_
            refine slv_goto eX12_laysRelations_183 ?_
            exact ih (k + 1) _ _ _ _ (by omega) Q hQ'
          · rw [decide_eq_false (show ¬ k + 1 < sg_lens g r - 1 by omega), cond_false] at hQ'
            refine slv_iload_n eX12_laysRelations_2 rfl ?_
            refine slv_iconst (v := nI 1) eX12_laysRelations_3 (by decide) ?_
            refine slv_iaddN eX12_laysRelations_4 ?_
            refine slv_aload_n eX12_laysRelations_5 rfl ?_
            refine slr_ga (p := 71) eX12_laysRelations_6 fX12_20 rfl ?_
            refine slv_iload_n eX12_laysRelations_9 rfl ?_
            refine slr_ialdX (k := 5) (p := 71) (len := 12) eX12_laysRelations_10 rfl (by repeat (first | exact sl_u_eq | assumption | apply rf_ne (by decide) | exact rfl)) (by omega) (by decide) r2 ?_
            refine slv_icmp_geN eX12_laysRelations_11 (by omega) (by omega) (fun h11 => absurd h11 (by omega)) (fun h11 => ?_)
            refine slv_aload_n eX12_laysRelations_14 rfl ?_
            refine slv_iload_n eX12_laysRelations_15 rfl ?_
            refine slv_iload_n eX12_laysRelations_16 rfl ?_
            refine slv_rV (As := [_, _]) eX12_laysRelations_17 lX12_351 rfl rfl rf_68 rfl hA0 (by decide) (Nat.le_of_ble_eq_true rfl) ?_
            refine slv_istore_n (i := 3) (lv' := [_, _, _, _, _, _]) eX12_laysRelations_20 rfl (by decide) rfl ?_
            refine slv_aload_n eX12_laysRelations_21 rfl ?_
            refine slv_iload_n eX12_laysRelations_22 rfl ?_
            refine slv_iload_n eX12_laysRelations_23 rfl ?_
            refine slv_iconst (v := nI 1) eX12_laysRelations_24 (by decide) ?_
            refine slv_iaddN eX12_laysRelations_25 ?_
            refine slv_rV (As := [_, _]) eX12_laysRelations_26 lX12_351 rfl rfl rf_68 rfl hA1 (by decide) (Nat.le_of_ble_eq_true rfl) ?_
            refine slv_istore (lv' := [_, _, _, _, _, _]) eX12_laysRelations_29 (by decide) rfl ?_
            refine slv_iload_n eX12_laysRelations_31 rfl ?_
            refine slv_bipush (v := nI 100) eX12_laysRelations_32 (by decide) ?_
            refine slv_icmp_geN eX12_laysRelations_34 (by omega) (by omega) (fun h34 => absurd h34 (by omega)) (fun h34 => ?_)
            refine slv_iload eX12_laysRelations_37 rfl ?_
            refine slv_bipush (v := nI 100) eX12_laysRelations_39 (by decide) ?_
            refine slv_icmp_geN eX12_laysRelations_41 (by omega) (by omega) (fun h41 => ?_) (fun h41 => absurd h41 (by omega))
            refine slv_iload_n eX12_laysRelations_52 rfl ?_
            refine slv_bipush (v := nI 100) eX12_laysRelations_53 (by decide) ?_
            refine slv_icmp_geN eX12_laysRelations_55 (by omega) (by omega) (fun h55 => absurd h55 (by omega)) (fun h55 => ?_)
            refine slv_iload eX12_laysRelations_58 rfl ?_
            refine slv_bipush (v := nI 100) eX12_laysRelations_60 (by decide) ?_
            refine slv_icmp_ltN eX12_laysRelations_62 (by omega) (by omega) (fun h62 => absurd h62 (by omega)) (fun h62 => ?_)
            refine slv_iload_n eX12_laysRelations_65 rfl ?_
            refine slv_iconst (v := nI 2) eX12_laysRelations_66 (by decide) ?_
            refine slv_iaddN eX12_laysRelations_67 ?_
            refine slv_aload_n eX12_laysRelations_68 rfl ?_
            refine slr_ga (p := 71) eX12_laysRelations_69 fX12_20 rfl ?_
            refine slv_iload_n eX12_laysRelations_72 rfl ?_
            refine slr_ialdX (k := 5) (p := 71) (len := 12) eX12_laysRelations_73 rfl (by repeat (first | exact sl_u_eq | assumption | apply rf_ne (by decide) | exact rfl)) (by omega) (by decide) r2 ?_
            refine slv_icmp_geN eX12_laysRelations_74 (by omega) (by omega) (fun h74 => ?_) (fun h74 => absurd h74 (by omega))
            refine slv_iconst (v := nI 0) eX12_laysRelations_91 (by decide) ?_
            refine slv_istore (lv' := [_, _, _, _, _, _]) eX12_laysRelations_92 (by decide) rfl ?_
            refine inB (sg_terms g) 0 k _ _ _ (by omega) t0' h1 i1 Q ?_
            refine slv_iincN (lv' := [_, _, _, _, _, _]) eX12_laysRelations_180 rfl (by decide) rfl ?_
            refine slv_goto eX12_laysRelations_183 ?_
            exact ih (k + 1) _ _ _ _ (by omega) Q hQ'
        · rw [show sg_nm (sg_it g r (k + 1)) = false from decide_eq_false h1, cond_false] at hQ'
          have t1' := t1 (by omega)
          have hC := hrl s (sg_it g r k) (sg_it g r (k + 1)) 2 (by omega) (by omega)
          refine slv_iload_n eX12_laysRelations_2 rfl ?_
          refine slv_iconst (v := nI 1) eX12_laysRelations_3 (by decide) ?_
          refine slv_iaddN eX12_laysRelations_4 ?_
          refine slv_aload_n eX12_laysRelations_5 rfl ?_
          refine slr_ga (p := 71) eX12_laysRelations_6 fX12_20 rfl ?_
          refine slv_iload_n eX12_laysRelations_9 rfl ?_
          refine slr_ialdX (k := 5) (p := 71) (len := 12) eX12_laysRelations_10 rfl (by repeat (first | exact sl_u_eq | assumption | apply rf_ne (by decide) | exact rfl)) (by omega) (by decide) r2 ?_
          refine slv_icmp_geN eX12_laysRelations_11 (by omega) (by omega) (fun h11 => absurd h11 (by omega)) (fun h11 => ?_)
          refine slv_aload_n eX12_laysRelations_14 rfl ?_
          refine slv_iload_n eX12_laysRelations_15 rfl ?_
          refine slv_iload_n eX12_laysRelations_16 rfl ?_
          refine slv_rV (As := [_, _]) eX12_laysRelations_17 lX12_351 rfl rfl rf_68 rfl hA0 (by decide) (Nat.le_of_ble_eq_true rfl) ?_
          refine slv_istore_n (i := 3) (lv' := [_, _, _, _, _, _]) eX12_laysRelations_20 rfl (by decide) rfl ?_
          refine slv_aload_n eX12_laysRelations_21 rfl ?_
          refine slv_iload_n eX12_laysRelations_22 rfl ?_
          refine slv_iload_n eX12_laysRelations_23 rfl ?_
          refine slv_iconst (v := nI 1) eX12_laysRelations_24 (by decide) ?_
          refine slv_iaddN eX12_laysRelations_25 ?_
          refine slv_rV (As := [_, _]) eX12_laysRelations_26 lX12_351 rfl rfl rf_68 rfl hA1 (by decide) (Nat.le_of_ble_eq_true rfl) ?_
          refine slv_istore (lv' := [_, _, _, _, _, _]) eX12_laysRelations_29 (by decide) rfl ?_
          refine slv_iload_n eX12_laysRelations_31 rfl ?_
          refine slv_bipush (v := nI 100) eX12_laysRelations_32 (by decide) ?_
          refine slv_icmp_geN eX12_laysRelations_34 (by omega) (by omega) (fun h34 => absurd h34 (by omega)) (fun h34 => ?_)
          refine slv_iload eX12_laysRelations_37 rfl ?_
          refine slv_bipush (v := nI 100) eX12_laysRelations_39 (by decide) ?_
          refine slv_icmp_geN eX12_laysRelations_41 (by omega) (by omega) (fun h41 => absurd h41 (by omega)) (fun h41 => ?_)
          refine slv_aload_n eX12_laysRelations_44 rfl ?_
          refine slv_iload_n eX12_laysRelations_45 rfl ?_
          refine slv_iload eX12_laysRelations_46 rfl ?_
          refine slv_iconst (v := nI 2) eX12_laysRelations_48 (by decide) ?_
          refine slv_rV (As := [_, _, _]) eX12_laysRelations_49 lX12_364 rfl rfl rf_68 rfl hC (by decide) (Nat.le_of_ble_eq_true rfl) ?_
          refine slv_iload_n eX12_laysRelations_52 rfl ?_
          refine slv_bipush (v := nI 100) eX12_laysRelations_53 (by decide) ?_
          refine slv_icmp_geN eX12_laysRelations_55 (by omega) (by omega) (fun h55 => absurd h55 (by omega)) (fun h55 => ?_)
          refine slv_iload eX12_laysRelations_58 rfl ?_
          refine slv_bipush (v := nI 100) eX12_laysRelations_60 (by decide) ?_
          refine slv_icmp_ltN eX12_laysRelations_62 (by omega) (by omega) (fun h62 => ?_) (fun h62 => absurd h62 (by omega))
          refine slv_iconst (v := nI 0) eX12_laysRelations_91 (by decide) ?_
          refine slv_istore (lv' := [_, _, _, _, _, _]) eX12_laysRelations_92 (by decide) rfl ?_
          refine inN (sg_terms g) 0 k _ _ _ (by omega) (by omega) (by omega) Q ?_
          refine slv_iincN (lv' := [_, _, _, _, _, _]) eX12_laysRelations_180 rfl (by decide) rfl ?_
          refine slv_goto eX12_laysRelations_183 ?_
          exact ih (k + 1) _ _ _ _ (by omega) Q hQ'
  have e1 : rf_S v w a nm M = rf_S v w (sl_u a 38 s) nm M := by rw [← hR, sl_u_self]
  rw [e1]
  refine slv_iconst (v := nI 0) eX12_laysRelations_0 (by decide) ?_
  refine slv_istore_n (i := 2) (lv' := [_, _, _, _, _, _]) eX12_laysRelations_1 rfl (by decide) rfl ?_
  exact loop (sg_lens g r - 1) 0 s _ _ _ (by omega) _ ⟨rfl, rfl⟩
end RLY

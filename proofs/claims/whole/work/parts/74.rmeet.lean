/-! the reference: names, signs, deeds met -/
/-- what was read of a grammar -/
def rm_g (g : sg_T) (v : Nat → Int32) (a : Nat → Nat → Int32) (nm : Nat → Int64) : Prop :=
  v 17 = nI (sg_rules g) ∧ v 18 = nI (sg_names g) ∧ v 19 = nI (sg_terms g) ∧
  (∀ r, r < sg_rules g → a 8 r = nI (sg_heads g r) ∧ a 10 r = nI (sg_lens g r) ∧ a 11 r = nI (sg_deeds g r)) ∧
  (∀ r i, r < sg_rules g → i < sg_lens g r → a 9 (5 * r + i) = nI (sg_it g r i)) ∧
  (∀ t, t < sg_terms g → a 12 t = nI (sg_signs g t)) ∧
  (∀ i, i < sg_names g → wrd (nm i) (sg_words g i))
/-- the rule that is being read -/
def rm_i (g : sg_T) (a : Nat → Nat → Int32) : Prop := ∀ i, i < sg_lens g (sg_rules g) → a 9 (5 * sg_rules g + i) = nI (sg_it g (sg_rules g) i)
theorem tkm_2 {t : Nat} (h : t ≤ 4) : tkm t = 2 ↔ t = 1 := by
  have : ∀ t, t ≤ 4 → (tkm t = 2 ↔ t = 1) := by decide
  exact this t h
theorem tkm_3 {t : Nat} (h : t ≤ 4) : tkm t = 3 ↔ t = 2 := by
  have : ∀ t, t ≤ 4 → (tkm t = 3 ↔ t = 2) := by decide
  exact this t h
theorem tkm_4 {t : Nat} (h : t ≤ 4) : tkm t = 4 ↔ t = 3 := by
  have : ∀ t, t ≤ 4 → (tkm t = 4 ↔ t = 3) := by decide
  exact this t h
theorem tkm_1 {t : Nat} (h : t ≤ 4) : tkm t = 1 ↔ t = 0 := by
  have : ∀ t, t ≤ 4 → (tkm t = 1 ↔ t = 0) := by decide
  exact this t h
theorem tkm_lt {t : Nat} (h : t ≤ 4) : tkm t < 5 := by
  have : ∀ t, t ≤ 4 → tkm t < 5 := by decide
  exact this t h
section RMT
variable {v : Nat → Int32} {w : Int64} {a : Nat → Nat → Int32} {nm : Nat → Int64} {M : sl_M} {ln : Nat} {R : gr_T} {g : sg_T}
theorem rm_is (h : rm_t ln R v w) (ht : gr_tk R ≤ 4) {j : Nat} (h1 : 1 ≤ j) (h2 : j < 15) : (decide (tkm (gr_tk R) = 2) && decide (w = st_l8 j (st_len j) 0 0)) = gr_is R j := by
  unfold gr_is
  by_cases e : gr_tk R = 1
  · rw [decide_eq_true ((tkm_2 ht).mpr e), decide_eq_true e, Bool.true_and, Bool.true_and]
    apply decide_eq_decide.mpr
    rw [wrd_eq (h.2.2.2.2.2.1 e) (kwl_w j h1 h2)]
    exact ⟨fun q => q.symm, fun q => q.symm⟩
  · rw [decide_eq_false (fun q => e ((tkm_2 ht).mp q)), decide_eq_false e]
    rfl
theorem rm_isHere (hS : st_all) (h : rm_t ln R v w) (ht : gr_tk R ≤ 4) {j : Nat} (h1 : 1 ≤ j) (h2 : j < 15) : sl_R YX12_isHere 6 [.ref 68, .ref (sl_X + 2 * j)] (rf_S v w a nm M) (some (.int (sl_bi (gr_is R j)))) (rf_S v w a nm M) := by
  rw [← rm_is h ht h1 h2]
  exact c_X12_isHere hS h1 h2 (by have := tkm_lt ht; omega) h.2.2.2.1
theorem rm_isHereB (hS : st_all) (h31 : v 31 = nI 0) {j : Nat} (h1 : 1 ≤ j) (h2 : j < 15) : sl_R YX12_isHere 6 [.ref 68, .ref (sl_X + 2 * j)] (rf_S v w a nm M) (some (.int (sl_bi false))) (rf_S v w a nm M) := c_X12_isHere hS h1 h2 (t := 0) (by omega) h31
set_option maxRecDepth 100000 in
theorem rm_isName (hS : st_all) (h : rm_t ln R v w) (ht : gr_tk R ≤ 4) : sl_R YX12_isName 7 [.ref 68] (rf_S v w a nm M) (some (.int (sl_bi (gr_nw R)))) (rf_S v w a nm M) := by
  have h31 := h.2.2.2.1
  have hlt := tkm_lt ht
  refine sl_T.of_V (lv := [_]) (by decide) rfl (Nat.le_of_ble_eq_true rfl) ?_
  unfold gr_nw
  by_cases e : gr_tk R = 1
  · have e2 := (tkm_2 ht).mpr e
    refine slv_aload_n eX12_isName_0 rfl ?_
    refine slr_gi eX12_isName_1 fX12_177 rfl (by repeat (first | exact sl_u_eq | assumption | apply rf_ne (by decide) | exact rfl)) ?_
    refine slv_iconst (v := nI 2) eX12_isName_4 (by decide) ?_
    refine slv_icmp_neN eX12_isName_5 (by omega) (by omega) (fun h5 => absurd h5 (fun q => q e2)) (fun h5 => ?_)
    refine slv_aload_n eX12_isName_8 rfl ?_
    refine slv_ldcS (tx := "desk") 1 eX12_isName_9 (by decide +kernel) ?_
    refine slv_rV (As := [_]) eX12_isName_11 lX12_212 rfl rfl rf_68 rfl (rm_isHere hS h ht (by decide) (by decide)) (by decide) (Nat.le_of_ble_eq_true rfl) ?_
    refine slv_if_neB eX12_isName_14 (fun h14 => ?_) (fun h14 => ?_)
    · refine slv_iconst (v := nI 0) eX12_isName_57 (by decide) ?_
      refine slv_zret eX12_isName_58 rfl rfl ?_
      refine ⟨?_, rfl⟩
      first | (rw [decide_eq_true e, h14, h23, h32, h41, h50]; rfl) | (rw [decide_eq_true e, h14]; rfl) | (rw [decide_eq_true e, h14, h23]; rfl) | (rw [decide_eq_true e, h14, h23, h32]; rfl) | (rw [decide_eq_true e, h14, h23, h32, h41]; rfl)
    · refine slv_aload_n eX12_isName_17 rfl ?_
      refine slv_ldcS (tx := "rule") 2 eX12_isName_18 (by decide +kernel) ?_
      refine slv_rV (As := [_]) eX12_isName_20 lX12_212 rfl rfl rf_68 rfl (rm_isHere hS h ht (by decide) (by decide)) (by decide) (Nat.le_of_ble_eq_true rfl) ?_
      refine slv_if_neB eX12_isName_23 (fun h23 => ?_) (fun h23 => ?_)
      · refine slv_iconst (v := nI 0) eX12_isName_57 (by decide) ?_
        refine slv_zret eX12_isName_58 rfl rfl ?_
        refine ⟨?_, rfl⟩
        first | (rw [decide_eq_true e, h14, h23, h32, h41, h50]; rfl) | (rw [decide_eq_true e, h14]; rfl) | (rw [decide_eq_true e, h14, h23]; rfl) | (rw [decide_eq_true e, h14, h23, h32]; rfl) | (rw [decide_eq_true e, h14, h23, h32, h41]; rfl)
      · refine slv_aload_n eX12_isName_26 rfl ?_
        refine slv_ldcS (tx := "is") 6 eX12_isName_27 (by decide +kernel) ?_
        refine slv_rV (As := [_]) eX12_isName_29 lX12_212 rfl rfl rf_68 rfl (rm_isHere hS h ht (by decide) (by decide)) (by decide) (Nat.le_of_ble_eq_true rfl) ?_
        refine slv_if_neB eX12_isName_32 (fun h32 => ?_) (fun h32 => ?_)
        · refine slv_iconst (v := nI 0) eX12_isName_57 (by decide) ?_
          refine slv_zret eX12_isName_58 rfl rfl ?_
          refine ⟨?_, rfl⟩
          first | (rw [decide_eq_true e, h14, h23, h32, h41, h50]; rfl) | (rw [decide_eq_true e, h14]; rfl) | (rw [decide_eq_true e, h14, h23]; rfl) | (rw [decide_eq_true e, h14, h23, h32]; rfl) | (rw [decide_eq_true e, h14, h23, h32, h41]; rfl)
        · refine slv_aload_n eX12_isName_35 rfl ?_
          refine slv_ldcS (tx := "does") 7 eX12_isName_36 (by decide +kernel) ?_
          refine slv_rV (As := [_]) eX12_isName_38 lX12_212 rfl rfl rf_68 rfl (rm_isHere hS h ht (by decide) (by decide)) (by decide) (Nat.le_of_ble_eq_true rfl) ?_
          refine slv_if_neB eX12_isName_41 (fun h41 => ?_) (fun h41 => ?_)
          · refine slv_iconst (v := nI 0) eX12_isName_57 (by decide) ?_
            refine slv_zret eX12_isName_58 rfl rfl ?_
            refine ⟨?_, rfl⟩
            first | (rw [decide_eq_true e, h14, h23, h32, h41, h50]; rfl) | (rw [decide_eq_true e, h14]; rfl) | (rw [decide_eq_true e, h14, h23]; rfl) | (rw [decide_eq_true e, h14, h23, h32]; rfl) | (rw [decide_eq_true e, h14, h23, h32, h41]; rfl)
          · refine slv_aload_n eX12_isName_44 rfl ?_
            refine slv_ldcS (tx := "value") 8 eX12_isName_45 (by decide +kernel) ?_
            refine slv_rV (As := [_]) eX12_isName_47 lX12_212 rfl rfl rf_68 rfl (rm_isHere hS h ht (by decide) (by decide)) (by decide) (Nat.le_of_ble_eq_true rfl) ?_
            refine slv_if_neB eX12_isName_50 (fun h50 => ?_) (fun h50 => ?_)
            · refine slv_iconst (v := nI 0) eX12_isName_57 (by decide) ?_
              refine slv_zret eX12_isName_58 rfl rfl ?_
              refine ⟨?_, rfl⟩
              first | (rw [decide_eq_true e, h14, h23, h32, h41, h50]; rfl) | (rw [decide_eq_true e, h14]; rfl) | (rw [decide_eq_true e, h14, h23]; rfl) | (rw [decide_eq_true e, h14, h23, h32]; rfl) | (rw [decide_eq_true e, h14, h23, h32, h41]; rfl)
            · refine slv_iconst (v := nI 1) eX12_isName_53 (by decide) ?_
              refine slv_goto eX12_isName_54 ?_
              refine slv_zret eX12_isName_58 rfl rfl ?_
              refine ⟨?_, rfl⟩
              first | (rw [decide_eq_true e, h14, h23, h32, h41, h50]; rfl) | (rw [decide_eq_true e, h14]; rfl) | (rw [decide_eq_true e, h14, h23]; rfl) | (rw [decide_eq_true e, h14, h23, h32]; rfl) | (rw [decide_eq_true e, h14, h23, h32, h41]; rfl)
  · have e2 : ¬ tkm (gr_tk R) = 2 := fun q => e ((tkm_2 ht).mp q)
    refine slv_aload_n eX12_isName_0 rfl ?_
    refine slr_gi eX12_isName_1 fX12_177 rfl (by repeat (first | exact sl_u_eq | assumption | apply rf_ne (by decide) | exact rfl)) ?_
    refine slv_iconst (v := nI 2) eX12_isName_4 (by decide) ?_
    refine slv_icmp_neN eX12_isName_5 (by omega) (by omega) (fun h5 => ?_) (fun h5 => absurd h5 e2)
    refine slv_iconst (v := nI 0) eX12_isName_57 (by decide) ?_
    refine slv_zret eX12_isName_58 rfl rfl ?_
    rw [decide_eq_false e]
    exact ⟨rfl, rfl⟩
set_option maxRecDepth 100000 in
theorem rm_isNameB (h31 : v 31 = nI 0) : sl_R YX12_isName 0 [.ref 68] (rf_S v w a nm M) (some (.int (sl_bi false))) (rf_S v w a nm M) := by
  refine sl_T.of_V (lv := [_]) (by decide) rfl (Nat.le_of_ble_eq_true rfl) ?_
  refine slv_aload_n eX12_isName_0 rfl ?_
  refine slr_gi eX12_isName_1 fX12_177 rfl (by repeat (first | exact sl_u_eq | assumption | apply rf_ne (by decide) | exact rfl)) ?_
  refine slv_iconst (v := nI 2) eX12_isName_4 (by decide) ?_
  refine slv_icmp_neN eX12_isName_5 (by omega) (by omega) (fun h5 => ?_) (fun h5 => absurd h5 (by omega))
  refine slv_iconst (v := nI 0) eX12_isName_57 (by decide) ?_
  refine slv_zret eX12_isName_58 rfl rfl ?_
  exact ⟨rfl, rfl⟩
set_option maxRecDepth 100000 in
theorem rm_nameHere (h : rm_t ln R v w) (hk : gr_tk R = 1) (hg : rm_g g v a nm) (hn : sg_names g ≤ 6) : sl_R YX12_nameHere 1 [.ref 68] (rf_S v w a nm M) (some (.int (nI (match gm_k g (gr_wd R) with
    | some k => k
    | none => if sg_names g < 6 then sg_names g else 0)))) (match gm_k g (gr_wd R) with
    | some _ => rf_S v w a nm M
    | none => if sg_names g < 6 then rf_S (sl_u v 18 (nI (sg_names g + 1))) w a (sl_u nm (sg_names g) w) M else rf_S (sl_u (sl_u v 34 (nI 4)) 31 (nI 0)) w a nm M) := by
  have hw := h.2.2.2.2.2.1 hk
  have h34 := h.1
  obtain ⟨g1, g2, g3, g4, g5, g6, g7⟩ := hg
  refine sl_T.of_V (lv := [_, _]) (by decide) rfl (Nat.le_of_ble_eq_true rfl) ?_
  have loop : ∀ (n i : Nat), i + n = sg_names g → ∀ Q : Option Value → sl_M → Prop, (∀ k, sl_fn (fun t => decide (sg_words g t = gr_wd R)) n i = some k → Q (some (.int (nI k))) (rf_S v w a nm M)) → (sl_fn (fun t => decide (sg_words g t = gr_wd R)) n i = none → sl_V YX12_nameHere none 1 0 0 Q 32 [some (.ref 68), some (.int (nI (sg_names g)))] [] (rf_S v w a nm M)) → sl_V YX12_nameHere none 1 0 0 Q 2 [some (.ref 68), some (.int (nI i))] [] (rf_S v w a nm M) := by
    intro n
    induction n with
    | zero =>
      intro i hi Q hQ1 hQ2
      have e : i = sg_names g := by omega
      subst e
      refine slv_iload_n eX12_nameHere_2 rfl ?_
      refine slv_aload_n eX12_nameHere_3 rfl ?_
      refine slr_gi eX12_nameHere_4 fX12_233 rfl (by repeat (first | exact sl_u_eq | assumption | apply rf_ne (by decide) | exact rfl)) ?_
      refine slv_icmp_geN eX12_nameHere_7 (by omega) (by omega) (fun h7 => ?_) (fun h7 => absurd h7 (by omega))
      exact hQ2 rfl
    | succ n ih =>
      intro i hi Q hQ1 hQ2
      have hwi := wrd_eq (g7 i (by omega)) hw
      have hgo : sl_fn (fun t => decide (sg_words g t = gr_wd R)) (n + 1) i = cond (decide (sg_words g i = gr_wd R)) (some i) (sl_fn (fun t => decide (sg_words g t = gr_wd R)) n (i + 1)) := rfl
      rw [hgo] at hQ1 hQ2
      refine slv_iload_n eX12_nameHere_2 rfl ?_
      refine slv_aload_n eX12_nameHere_3 rfl ?_
      refine slr_gi eX12_nameHere_4 fX12_233 rfl (by repeat (first | exact sl_u_eq | assumption | apply rf_ne (by decide) | exact rfl)) ?_
      refine slv_icmp_geN eX12_nameHere_7 (by omega) (by omega) (fun h7 => absurd h7 (by omega)) (fun h7 => ?_)
      refine slv_aload_n eX12_nameHere_10 rfl ?_
      refine slr_ga (p := 79) eX12_nameHere_11 fX12_44 rfl ?_
      refine slv_iload_n eX12_nameHere_14 rfl ?_
      refine slr_laldX eX12_nameHere_15 (by omega) rfl ?_
      refine slv_aload_n eX12_nameHere_16 rfl ?_
      refine slr_gw eX12_nameHere_17 fX12_194 rfl ?_
      refine slv_lcmp eX12_nameHere_20 ?_
      refine slv_if_ne eX12_nameHere_21 (fun h21 => ?_) (fun h21 => ?_)
      · refine slv_iincN (lv' := [_, _]) eX12_nameHere_26 rfl (by decide) rfl ?_
        refine slv_goto eX12_nameHere_29 ?_
        have q : ¬ sg_words g i = gr_wd R := fun e => h21 ((lg_cmp0 _ _).mpr (hwi.mpr e))
        rw [decide_eq_false q, cond_false] at hQ1 hQ2
        exact ih (i + 1) (by omega) Q hQ1 hQ2
      · refine slv_iload_n eX12_nameHere_24 rfl ?_
        refine slv_iret eX12_nameHere_25 rfl ?_
        have q : sg_words g i = gr_wd R := hwi.mp ((lg_cmp0 _ _).mp h21)
        rw [decide_eq_true q, cond_true] at hQ1
        exact hQ1 i rfl
  unfold gm_k
  cases hf : sl_fn (fun t => decide (sg_words g t = gr_wd R)) (sg_names g) 0 with
  | some k =>
    refine slv_iconst (v := nI 0) eX12_nameHere_0 (by decide) ?_
    refine slv_istore_n (i := 1) (lv' := [_, _]) eX12_nameHere_1 rfl (by decide) rfl ?_
    refine loop (sg_names g) 0 (by omega) _ (fun k' hk' => ?_) (fun q => ?_)
    · rw [hf] at hk'; cases hk'; exact ⟨rfl, rfl⟩
    · rw [hf] at q; cases q
  | none =>
    simp only
    by_cases h6 : sg_names g < 6
    · rw [if_pos h6, if_pos h6]
      refine slv_iconst (v := nI 0) eX12_nameHere_0 (by decide) ?_
      refine slv_istore_n (i := 1) (lv' := [_, _]) eX12_nameHere_1 rfl (by decide) rfl ?_
      refine loop (sg_names g) 0 (by omega) _ (fun k' hk' => ?_) (fun q => ?_)
      · rw [hf] at hk'; cases hk'
      refine slv_aload_n eX12_nameHere_32 rfl ?_
      refine slr_gi eX12_nameHere_33 fX12_233 rfl (by repeat (first | exact sl_u_eq | assumption | apply rf_ne (by decide) | exact rfl)) ?_
      refine slv_bipush (v := nI 6) eX12_nameHere_36 (by decide) ?_
      refine slv_icmp_neN eX12_nameHere_38 (by omega) (by omega) (fun h38 => ?_) (fun h38 => absurd h38 (by omega))
      refine slv_aload_n eX12_nameHere_48 rfl ?_
      refine slr_ga (p := 79) eX12_nameHere_49 fX12_44 rfl ?_
      refine slv_aload_n eX12_nameHere_52 rfl ?_
      refine slr_gi eX12_nameHere_53 fX12_233 rfl (by repeat (first | exact sl_u_eq | assumption | apply rf_ne (by decide) | exact rfl)) ?_
      refine slv_aload_n eX12_nameHere_56 rfl ?_
      refine slr_gw eX12_nameHere_57 fX12_194 rfl ?_
      refine slr_lastX eX12_nameHere_60 (by omega) ?_
      refine slv_aload_n eX12_nameHere_61 rfl ?_
      refine slv_dup eX12_nameHere_62 rfl ?_
      refine slr_gi eX12_nameHere_63 fX12_233 rfl (by repeat (first | exact sl_u_eq | assumption | apply rf_ne (by decide) | exact rfl)) ?_
      refine slv_iconst (v := nI 1) eX12_nameHere_66 (by decide) ?_
      refine slv_iaddN eX12_nameHere_67 ?_
      refine slr_pi eX12_nameHere_68 fX12_233 (Nat.le_of_ble_eq_true rfl) rf_s18 ?_
      refine slv_aload_n eX12_nameHere_71 rfl ?_
      refine slr_gi eX12_nameHere_72 fX12_233 rfl (by repeat (first | exact sl_u_eq | assumption | apply rf_ne (by decide) | exact rfl)) ?_
      refine slv_iconst (v := nI 1) eX12_nameHere_75 (by decide) ?_
      refine slv_isubN eX12_nameHere_76 (by omega) ?_
      refine slv_iret eX12_nameHere_77 rfl ?_
      exact ⟨by rw [Nat.add_sub_cancel], rfl⟩
    · rw [if_neg h6, if_neg h6]
      refine slv_iconst (v := nI 0) eX12_nameHere_0 (by decide) ?_
      refine slv_istore_n (i := 1) (lv' := [_, _]) eX12_nameHere_1 rfl (by decide) rfl ?_
      refine loop (sg_names g) 0 (by omega) _ (fun k' hk' => ?_) (fun q => ?_)
      · rw [hf] at hk'; cases hk'
      refine slv_aload_n eX12_nameHere_32 rfl ?_
      refine slr_gi eX12_nameHere_33 fX12_233 rfl (by repeat (first | exact sl_u_eq | assumption | apply rf_ne (by decide) | exact rfl)) ?_
      refine slv_bipush (v := nI 6) eX12_nameHere_36 (by decide) ?_
      refine slv_icmp_neN eX12_nameHere_38 (by omega) (by omega) (fun h38 => absurd h38 (by omega)) (fun h38 => ?_)
      refine slv_aload_n eX12_nameHere_41 rfl ?_
      refine slv_iconst (v := nI 4) eX12_nameHere_42 (by decide) ?_
      refine slv_rV (As := [_]) eX12_nameHere_43 lX12_216 rfl rfl rf_68 rfl (c_X12_flaw h34 4) (by decide) (Nat.le_of_ble_eq_true rfl) ?_
      refine slv_iconst (v := nI 0) eX12_nameHere_46 (by decide) ?_
      refine slv_iret eX12_nameHere_47 rfl ?_
      exact ⟨rfl, rfl⟩
set_option maxRecDepth 100000 in
theorem rm_signHere (hf0 : v 34 = nI 0) (hg : rm_g g v a nm) (hok : sg_ok g) {x : Nat} (hx : x < 256) : sl_R YX12_signHere 1 [.ref 68, .int (nI x)] (rf_S v w a nm M) (some (.int (nI (match gt_k g x with
    | some k => k
    | none => if sg_terms g < 11 then sg_terms g else 0)))) (match gt_k g x with
    | some _ => rf_S v w a nm M
    | none => if sg_terms g < 11 then rf_S (sl_u v 19 (nI (sg_terms g + 1))) w (sl_u a 12 (sl_u (a 12) (sg_terms g) (nI x))) nm M else rf_S (sl_u (sl_u v 34 (nI 4)) 31 (nI 0)) w a nm M) := by
  have ht11 : sg_terms g ≤ 11 := hok.2.2.2.1
  obtain ⟨g1, g2, g3, g4, g5, g6, g7⟩ := hg
  refine sl_T.of_V (lv := [_, _, _]) (by decide) rfl (Nat.le_of_ble_eq_true rfl) ?_
  have loop : ∀ (n i : Nat), i + n = sg_terms g → ∀ Q : Option Value → sl_M → Prop, (∀ k, sl_fn (fun t => decide (nI (sg_signs g t) = nI x)) n i = some k → Q (some (.int (nI k))) (rf_S v w a nm M)) → (sl_fn (fun t => decide (nI (sg_signs g t) = nI x)) n i = none → sl_V YX12_signHere none 1 0 0 Q 28 [some (.ref 68), some (.int (nI x)), some (.int (nI (sg_terms g)))] [] (rf_S v w a nm M)) → sl_V YX12_signHere none 1 0 0 Q 2 [some (.ref 68), some (.int (nI x)), some (.int (nI i))] [] (rf_S v w a nm M) := by
    intro n
    induction n with
    | zero =>
      intro i hi Q hQ1 hQ2
      have e : i = sg_terms g := by omega
      subst e
      refine slv_iload_n eX12_signHere_2 rfl ?_
      refine slv_aload_n eX12_signHere_3 rfl ?_
      refine slr_gi eX12_signHere_4 fX12_236 rfl (by repeat (first | exact sl_u_eq | assumption | apply rf_ne (by decide) | exact rfl)) ?_
      refine slv_icmp_geN eX12_signHere_7 (by omega) (by omega) (fun h7 => ?_) (fun h7 => absurd h7 (by omega))
      exact hQ2 rfl
    | succ n ih =>
      intro i hi Q hQ1 hQ2
      have hgo : sl_fn (fun t => decide (nI (sg_signs g t) = nI x)) (n + 1) i = cond (decide (nI (sg_signs g i) = nI x)) (some i) (sl_fn (fun t => decide (nI (sg_signs g t) = nI x)) n (i + 1)) := rfl
      rw [hgo] at hQ1 hQ2
      refine slv_iload_n eX12_signHere_2 rfl ?_
      refine slv_aload_n eX12_signHere_3 rfl ?_
      refine slr_gi eX12_signHere_4 fX12_236 rfl (by repeat (first | exact sl_u_eq | assumption | apply rf_ne (by decide) | exact rfl)) ?_
      refine slv_icmp_geN eX12_signHere_7 (by omega) (by omega) (fun h7 => absurd h7 (by omega)) (fun h7 => ?_)
      refine slv_aload_n eX12_signHere_10 rfl ?_
      refine slr_ga (p := 78) eX12_signHere_11 fX12_41 rfl ?_
      refine slv_iload_n eX12_signHere_14 rfl ?_
      refine slr_ialdX (k := 12) (p := 78) (len := 11) eX12_signHere_15 rfl (by repeat (first | exact sl_u_eq | assumption | apply rf_ne (by decide) | exact rfl)) (by omega) (by decide) (g6 i (by omega)) ?_
      refine slv_iload_n eX12_signHere_16 rfl ?_
      refine slv_icmp_ne eX12_signHere_17 (fun h17 => ?_) (fun h17 => ?_)
      · refine slv_iincN (lv' := [_, _, _]) eX12_signHere_22 rfl (by decide) rfl ?_
        refine slv_goto eX12_signHere_25 ?_
        rw [decide_eq_false h17, cond_false] at hQ1 hQ2
        exact ih (i + 1) (by omega) Q hQ1 hQ2
      · refine slv_iload_n eX12_signHere_20 rfl ?_
        refine slv_iret eX12_signHere_21 rfl ?_
        rw [decide_eq_true h17, cond_true] at hQ1
        exact hQ1 i rfl
  unfold gt_k
  cases hf : sl_fn (fun t => decide (nI (sg_signs g t) = nI x)) (sg_terms g) 0 with
  | some k =>
    refine slv_iconst (v := nI 0) eX12_signHere_0 (by decide) ?_
    refine slv_istore_n (i := 2) (lv' := [_, _, _]) eX12_signHere_1 rfl (by decide) rfl ?_
    refine loop (sg_terms g) 0 (by omega) _ (fun k' hk' => ?_) (fun q => ?_)
    · rw [hf] at hk'; cases hk'; exact ⟨rfl, rfl⟩
    · rw [hf] at q; cases q
  | none =>
    simp only
    by_cases h6 : sg_terms g < 11
    · rw [if_pos h6, if_pos h6]
      refine slv_iconst (v := nI 0) eX12_signHere_0 (by decide) ?_
      refine slv_istore_n (i := 2) (lv' := [_, _, _]) eX12_signHere_1 rfl (by decide) rfl ?_
      refine loop (sg_terms g) 0 (by omega) _ (fun k' hk' => ?_) (fun q => ?_)
      · rw [hf] at hk'; cases hk'
      refine slv_aload_n eX12_signHere_28 rfl ?_
      refine slr_gi eX12_signHere_29 fX12_236 rfl (by repeat (first | exact sl_u_eq | assumption | apply rf_ne (by decide) | exact rfl)) ?_
      refine slv_bipush (v := nI 11) eX12_signHere_32 (by decide) ?_
      refine slv_icmp_neN eX12_signHere_34 (by omega) (by omega) (fun h34 => ?_) (fun h34 => absurd h34 (by omega))
      refine slv_aload_n eX12_signHere_44 rfl ?_
      refine slr_ga (p := 78) eX12_signHere_45 fX12_41 rfl ?_
      refine slv_aload_n eX12_signHere_48 rfl ?_
      refine slr_gi eX12_signHere_49 fX12_236 rfl (by repeat (first | exact sl_u_eq | assumption | apply rf_ne (by decide) | exact rfl)) ?_
      refine slv_iload_n eX12_signHere_52 rfl ?_
      refine slr_iastX (k := 12) (p := 78) (len := 11) eX12_signHere_53 rfl (by repeat (first | exact sl_u_eq | assumption | apply rf_ne (by decide) | exact rfl)) (by omega) (by decide) (rf_t12 _ _ _ _ _) ?_
      refine slv_aload_n eX12_signHere_54 rfl ?_
      refine slv_dup eX12_signHere_55 rfl ?_
      refine slr_gi eX12_signHere_56 fX12_236 rfl (by repeat (first | exact sl_u_eq | assumption | apply rf_ne (by decide) | exact rfl)) ?_
      refine slv_iconst (v := nI 1) eX12_signHere_59 (by decide) ?_
      refine slv_iaddN eX12_signHere_60 ?_
      refine slr_pi eX12_signHere_61 fX12_236 (Nat.le_of_ble_eq_true rfl) rf_s19 ?_
      refine slv_aload_n eX12_signHere_64 rfl ?_
      refine slr_gi eX12_signHere_65 fX12_236 rfl (by repeat (first | exact sl_u_eq | assumption | apply rf_ne (by decide) | exact rfl)) ?_
      refine slv_iconst (v := nI 1) eX12_signHere_68 (by decide) ?_
      refine slv_isubN eX12_signHere_69 (by omega) ?_
      refine slv_iret eX12_signHere_70 rfl ?_
      exact ⟨by rw [Nat.add_sub_cancel], rfl⟩
    · rw [if_neg h6, if_neg h6]
      refine slv_iconst (v := nI 0) eX12_signHere_0 (by decide) ?_
      refine slv_istore_n (i := 2) (lv' := [_, _, _]) eX12_signHere_1 rfl (by decide) rfl ?_
      refine loop (sg_terms g) 0 (by omega) _ (fun k' hk' => ?_) (fun q => ?_)
      · rw [hf] at hk'; cases hk'
      refine slv_aload_n eX12_signHere_28 rfl ?_
      refine slr_gi eX12_signHere_29 fX12_236 rfl (by repeat (first | exact sl_u_eq | assumption | apply rf_ne (by decide) | exact rfl)) ?_
      refine slv_bipush (v := nI 11) eX12_signHere_32 (by decide) ?_
      refine slv_icmp_neN eX12_signHere_34 (by omega) (by omega) (fun h34 => absurd h34 (by omega)) (fun h34 => ?_)
      refine slv_aload_n eX12_signHere_37 rfl ?_
      refine slv_iconst (v := nI 4) eX12_signHere_38 (by decide) ?_
      refine slv_rV (As := [_]) eX12_signHere_39 lX12_216 rfl rfl rf_68 rfl (c_X12_flaw hf0 4) (by decide) (Nat.le_of_ble_eq_true rfl) ?_
      refine slv_iconst (v := nI 0) eX12_signHere_42 (by decide) ?_
      refine slv_iret eX12_signHere_43 rfl ?_
      exact ⟨rfl, rfl⟩
set_option maxRecDepth 100000 in
theorem c_X12_itemOf {r k : Nat} (h17 : v 17 = nI r) (h : 5 * r + k < 60) : sl_R YX12_itemOf 0 [.ref 68, .int (nI k)] (rf_S v w a nm M) (some (.int (a 9 (5 * r + k)))) (rf_S v w a nm M) := by
  refine sl_T.of_V (lv := [_, _]) (by decide) rfl (Nat.le_of_ble_eq_true rfl) ?_
  refine slv_aload_n eX12_itemOf_0 rfl ?_
  refine slr_ga (p := 75) eX12_itemOf_1 fX12_32 rfl ?_
  refine slv_iconst (v := nI 5) eX12_itemOf_4 (by decide) ?_
  refine slv_aload_n eX12_itemOf_5 rfl ?_
  refine slr_gi eX12_itemOf_6 fX12_239 rfl (by repeat (first | exact sl_u_eq | assumption | apply rf_ne (by decide) | exact rfl)) ?_
  refine slv_imulN eX12_itemOf_9 ?_
  refine slv_iload_n eX12_itemOf_10 rfl ?_
  refine slv_iaddN eX12_itemOf_11 ?_
  refine slr_ialdX (k := 9) (p := 75) (len := 60) eX12_itemOf_12 rfl (by repeat (first | exact sl_u_eq | assumption | apply rf_ne (by decide) | exact rfl)) (by omega) (by decide) rfl ?_
  refine slv_iret eX12_itemOf_13 rfl ?_
  exact ⟨rfl, rfl⟩
set_option maxRecDepth 100000 in
theorem rm_deedHere (hS : st_all) (h : rm_t ln R v w) (ht : gr_tk R ≤ 4) : sl_R YX12_deedHere 7 [.ref 68] (rf_S v w a nm M) (some (.int (sl_io (gp_dw R)))) (match gp_dw R with
    | some _ => rf_S v w a nm M
    | none => rf_S (sl_u (sl_u v 34 (nI 1)) 31 (nI 0)) w a nm M) := by
  have h34 := h.1
  have hH := fun (j : Nat) (h1 : 1 ≤ j) (h2 : j < 15) => rm_isHere (a := a) (nm := nm) (M := M) hS h ht h1 h2
  refine sl_T.of_V (lv := [_, _]) (by decide) rfl (Nat.le_of_ble_eq_true rfl) ?_
  have hD : gp_dw R = cond (gr_is R 9) (some 0) (cond (gr_is R 10) (some 1) (cond (gr_is R 11) (some 2) (cond (gr_is R 12) (some 3) (cond (gr_is R 13) (some 4) (cond (gr_is R 14) (some 5) (cond (gr_is R 4) (some 6) (cond (gr_is R 5) (some 7) (cond (gr_is R 8) (some 8) none)))))))) := rfl
  have fin : ∀ (o : Option Nat), gp_dw R = o → (∀ k, o = some k → k < 9) → ∀ z, sl_V YX12_deedHere none 7 0 0 (fun r1 M1 => r1 = some (.int (sl_io (gp_dw R))) ∧ M1 = match gp_dw R with
      | some _ => rf_S v w a nm M
      | none => rf_S (sl_u (sl_u v 34 (nI 1)) 31 (nI 0)) w a nm M) 129 [some (.ref 68), z] [.int (sl_io o)] (rf_S v w a nm M) := by
    intro o ho hk z
    rw [ho]
    cases o with
    | none =>
      refine slv_istore_n (i := 1) (lv' := [_, _]) eX12_deedHere_129 rfl (by decide) rfl ?_
      refine slv_iload_n eX12_deedHere_130 rfl ?_
      refine slv_iconst (v := (-1)) eX12_deedHere_131 (by decide) ?_
      refine slv_icmp_ne eX12_deedHere_132 (fun h132 => absurd rfl h132) (fun h132 => ?_)
      refine slv_aload_n eX12_deedHere_135 rfl ?_
      refine slv_iconst (v := nI 1) eX12_deedHere_136 (by decide) ?_
      refine slv_rV (As := [_]) eX12_deedHere_137 lX12_216 rfl rfl rf_68 rfl (c_X12_flaw h34 1) (by decide) (Nat.le_of_ble_eq_true rfl) ?_
      refine slv_iload_n eX12_deedHere_140 rfl ?_
      refine slv_iret eX12_deedHere_141 rfl ?_
      exact ⟨rfl, rfl⟩
    | some k =>
      have := hk k rfl
      refine slv_istore_n (i := 1) (lv' := [_, _]) eX12_deedHere_129 rfl (by decide) rfl ?_
      refine slv_iload_n eX12_deedHere_130 rfl ?_
      refine slv_iconst (v := (-1)) eX12_deedHere_131 (by decide) ?_
      refine slv_icmp_ne eX12_deedHere_132 (fun h132 => ?_) (fun h132 => absurd h132 (nI_neg1 (by omega)))
      refine slv_iload_n eX12_deedHere_140 rfl ?_
      refine slv_iret eX12_deedHere_141 rfl ?_
      exact ⟨rfl, rfl⟩
  refine slv_aload_n eX12_deedHere_0 rfl ?_
  refine slv_ldcwS (tx := "add") 9 eX12_deedHere_1 (by decide +kernel) ?_
  refine slv_rV (As := [_]) eX12_deedHere_4 lX12_212 rfl rfl rf_68 rfl (hH 9 (by decide) (by decide)) (by decide) (Nat.le_of_ble_eq_true rfl) ?_
  refine slv_if_eqB eX12_deedHere_7 (fun h7 => ?_) (fun h7 => ?_)
  · refine slv_aload_n eX12_deedHere_14 rfl ?_
    refine slv_ldcwS (tx := "less") 10 eX12_deedHere_15 (by decide +kernel) ?_
    refine slv_rV (As := [_]) eX12_deedHere_18 lX12_212 rfl rfl rf_68 rfl (hH 10 (by decide) (by decide)) (by decide) (Nat.le_of_ble_eq_true rfl) ?_
    refine slv_if_eqB eX12_deedHere_21 (fun h21 => ?_) (fun h21 => ?_)
    · refine slv_aload_n eX12_deedHere_28 rfl ?_
      refine slv_ldcwS (tx := "times") 11 eX12_deedHere_29 (by decide +kernel) ?_
      refine slv_rV (As := [_]) eX12_deedHere_32 lX12_212 rfl rfl rf_68 rfl (hH 11 (by decide) (by decide)) (by decide) (Nat.le_of_ble_eq_true rfl) ?_
      refine slv_if_eqB eX12_deedHere_35 (fun h35 => ?_) (fun h35 => ?_)
      · refine slv_aload_n eX12_deedHere_42 rfl ?_
        refine slv_ldcwS (tx := "over") 12 eX12_deedHere_43 (by decide +kernel) ?_
        refine slv_rV (As := [_]) eX12_deedHere_46 lX12_212 rfl rfl rf_68 rfl (hH 12 (by decide) (by decide)) (by decide) (Nat.le_of_ble_eq_true rfl) ?_
        refine slv_if_eqB eX12_deedHere_49 (fun h49 => ?_) (fun h49 => ?_)
        · refine slv_aload_n eX12_deedHere_56 rfl ?_
          refine slv_ldcwS (tx := "minus") 13 eX12_deedHere_57 (by decide +kernel) ?_
          refine slv_rV (As := [_]) eX12_deedHere_60 lX12_212 rfl rfl rf_68 rfl (hH 13 (by decide) (by decide)) (by decide) (Nat.le_of_ble_eq_true rfl) ?_
          refine slv_if_eqB eX12_deedHere_63 (fun h63 => ?_) (fun h63 => ?_)
          · refine slv_aload_n eX12_deedHere_70 rfl ?_
            refine slv_ldcwS (tx := "same") 14 eX12_deedHere_71 (by decide +kernel) ?_
            refine slv_rV (As := [_]) eX12_deedHere_74 lX12_212 rfl rfl rf_68 rfl (hH 14 (by decide) (by decide)) (by decide) (Nat.le_of_ble_eq_true rfl) ?_
            refine slv_if_eqB eX12_deedHere_77 (fun h77 => ?_) (fun h77 => ?_)
            · refine slv_aload_n eX12_deedHere_84 rfl ?_
              refine slv_ldcwS (tx := "whole") 4 eX12_deedHere_85 (by decide +kernel) ?_
              refine slv_rV (As := [_]) eX12_deedHere_88 lX12_212 rfl rfl rf_68 rfl (hH 4 (by decide) (by decide)) (by decide) (Nat.le_of_ble_eq_true rfl) ?_
              refine slv_if_eqB eX12_deedHere_91 (fun h91 => ?_) (fun h91 => ?_)
              · refine slv_aload_n eX12_deedHere_99 rfl ?_
                refine slv_ldcwS (tx := "real") 5 eX12_deedHere_100 (by decide +kernel) ?_
                refine slv_rV (As := [_]) eX12_deedHere_103 lX12_212 rfl rfl rf_68 rfl (hH 5 (by decide) (by decide)) (by decide) (Nat.le_of_ble_eq_true rfl) ?_
                refine slv_if_eqB eX12_deedHere_106 (fun h106 => ?_) (fun h106 => ?_)
                · refine slv_aload_n eX12_deedHere_114 rfl ?_
                  refine slv_ldcS (tx := "value") 8 eX12_deedHere_115 (by decide +kernel) ?_
                  refine slv_rV (As := [_]) eX12_deedHere_117 lX12_212 rfl rfl rf_68 rfl (hH 8 (by decide) (by decide)) (by decide) (Nat.le_of_ble_eq_true rfl) ?_
                  refine slv_if_eqB eX12_deedHere_120 (fun h120 => ?_) (fun h120 => ?_)
                  · refine slv_iconst (v := (-1)) eX12_deedHere_128 (by decide) ?_
                    first | (rw [h7] at hD; exact fin (some 0) hD (fun k q => by cases q; decide) _) | (rw [h7, h21] at hD; exact fin (some 1) hD (fun k q => by cases q; decide) _) | (rw [h7, h21, h35] at hD; exact fin (some 2) hD (fun k q => by cases q; decide) _) | (rw [h7, h21, h35, h49] at hD; exact fin (some 3) hD (fun k q => by cases q; decide) _) | (rw [h7, h21, h35, h49, h63] at hD; exact fin (some 4) hD (fun k q => by cases q; decide) _) | (rw [h7, h21, h35, h49, h63, h77] at hD; exact fin (some 5) hD (fun k q => by cases q; decide) _) | (rw [h7, h21, h35, h49, h63, h77, h91] at hD; exact fin (some 6) hD (fun k q => by cases q; decide) _) | (rw [h7, h21, h35, h49, h63, h77, h91, h106] at hD; exact fin (some 7) hD (fun k q => by cases q; decide) _) | (rw [h7, h21, h35, h49, h63, h77, h91, h106, h120] at hD; exact fin (some 8) hD (fun k q => by cases q; decide) _) | (rw [h7, h21, h35, h49, h63, h77, h91, h106, h120] at hD; exact fin none hD (fun k q => by cases q) _)
                  · refine slv_bipush (v := nI 8) eX12_deedHere_123 (by decide) ?_
                    refine slv_goto eX12_deedHere_125 ?_
                    first | (rw [h7] at hD; exact fin (some 0) hD (fun k q => by cases q; decide) _) | (rw [h7, h21] at hD; exact fin (some 1) hD (fun k q => by cases q; decide) _) | (rw [h7, h21, h35] at hD; exact fin (some 2) hD (fun k q => by cases q; decide) _) | (rw [h7, h21, h35, h49] at hD; exact fin (some 3) hD (fun k q => by cases q; decide) _) | (rw [h7, h21, h35, h49, h63] at hD; exact fin (some 4) hD (fun k q => by cases q; decide) _) | (rw [h7, h21, h35, h49, h63, h77] at hD; exact fin (some 5) hD (fun k q => by cases q; decide) _) | (rw [h7, h21, h35, h49, h63, h77, h91] at hD; exact fin (some 6) hD (fun k q => by cases q; decide) _) | (rw [h7, h21, h35, h49, h63, h77, h91, h106] at hD; exact fin (some 7) hD (fun k q => by cases q; decide) _) | (rw [h7, h21, h35, h49, h63, h77, h91, h106, h120] at hD; exact fin (some 8) hD (fun k q => by cases q; decide) _) | (rw [h7, h21, h35, h49, h63, h77, h91, h106, h120] at hD; exact fin none hD (fun k q => by cases q) _)
                · refine slv_bipush (v := nI 7) eX12_deedHere_109 (by decide) ?_
                  refine slv_goto eX12_deedHere_111 ?_
                  first | (rw [h7] at hD; exact fin (some 0) hD (fun k q => by cases q; decide) _) | (rw [h7, h21] at hD; exact fin (some 1) hD (fun k q => by cases q; decide) _) | (rw [h7, h21, h35] at hD; exact fin (some 2) hD (fun k q => by cases q; decide) _) | (rw [h7, h21, h35, h49] at hD; exact fin (some 3) hD (fun k q => by cases q; decide) _) | (rw [h7, h21, h35, h49, h63] at hD; exact fin (some 4) hD (fun k q => by cases q; decide) _) | (rw [h7, h21, h35, h49, h63, h77] at hD; exact fin (some 5) hD (fun k q => by cases q; decide) _) | (rw [h7, h21, h35, h49, h63, h77, h91] at hD; exact fin (some 6) hD (fun k q => by cases q; decide) _) | (rw [h7, h21, h35, h49, h63, h77, h91, h106] at hD; exact fin (some 7) hD (fun k q => by cases q; decide) _) | (rw [h7, h21, h35, h49, h63, h77, h91, h106, h120] at hD; exact fin (some 8) hD (fun k q => by cases q; decide) _) | (rw [h7, h21, h35, h49, h63, h77, h91, h106, h120] at hD; exact fin none hD (fun k q => by cases q) _)
              · refine slv_bipush (v := nI 6) eX12_deedHere_94 (by decide) ?_
                refine slv_goto eX12_deedHere_96 ?_
                first | (rw [h7] at hD; exact fin (some 0) hD (fun k q => by cases q; decide) _) | (rw [h7, h21] at hD; exact fin (some 1) hD (fun k q => by cases q; decide) _) | (rw [h7, h21, h35] at hD; exact fin (some 2) hD (fun k q => by cases q; decide) _) | (rw [h7, h21, h35, h49] at hD; exact fin (some 3) hD (fun k q => by cases q; decide) _) | (rw [h7, h21, h35, h49, h63] at hD; exact fin (some 4) hD (fun k q => by cases q; decide) _) | (rw [h7, h21, h35, h49, h63, h77] at hD; exact fin (some 5) hD (fun k q => by cases q; decide) _) | (rw [h7, h21, h35, h49, h63, h77, h91] at hD; exact fin (some 6) hD (fun k q => by cases q; decide) _) | (rw [h7, h21, h35, h49, h63, h77, h91, h106] at hD; exact fin (some 7) hD (fun k q => by cases q; decide) _) | (rw [h7, h21, h35, h49, h63, h77, h91, h106, h120] at hD; exact fin (some 8) hD (fun k q => by cases q; decide) _) | (rw [h7, h21, h35, h49, h63, h77, h91, h106, h120] at hD; exact fin none hD (fun k q => by cases q) _)
            · refine slv_iconst (v := nI 5) eX12_deedHere_80 (by decide) ?_
              refine slv_goto eX12_deedHere_81 ?_
              first | (rw [h7] at hD; exact fin (some 0) hD (fun k q => by cases q; decide) _) | (rw [h7, h21] at hD; exact fin (some 1) hD (fun k q => by cases q; decide) _) | (rw [h7, h21, h35] at hD; exact fin (some 2) hD (fun k q => by cases q; decide) _) | (rw [h7, h21, h35, h49] at hD; exact fin (some 3) hD (fun k q => by cases q; decide) _) | (rw [h7, h21, h35, h49, h63] at hD; exact fin (some 4) hD (fun k q => by cases q; decide) _) | (rw [h7, h21, h35, h49, h63, h77] at hD; exact fin (some 5) hD (fun k q => by cases q; decide) _) | (rw [h7, h21, h35, h49, h63, h77, h91] at hD; exact fin (some 6) hD (fun k q => by cases q; decide) _) | (rw [h7, h21, h35, h49, h63, h77, h91, h106] at hD; exact fin (some 7) hD (fun k q => by cases q; decide) _) | (rw [h7, h21, h35, h49, h63, h77, h91, h106, h120] at hD; exact fin (some 8) hD (fun k q => by cases q; decide) _) | (rw [h7, h21, h35, h49, h63, h77, h91, h106, h120] at hD; exact fin none hD (fun k q => by cases q) _)
          · refine slv_iconst (v := nI 4) eX12_deedHere_66 (by decide) ?_
            refine slv_goto eX12_deedHere_67 ?_
            first | (rw [h7] at hD; exact fin (some 0) hD (fun k q => by cases q; decide) _) | (rw [h7, h21] at hD; exact fin (some 1) hD (fun k q => by cases q; decide) _) | (rw [h7, h21, h35] at hD; exact fin (some 2) hD (fun k q => by cases q; decide) _) | (rw [h7, h21, h35, h49] at hD; exact fin (some 3) hD (fun k q => by cases q; decide) _) | (rw [h7, h21, h35, h49, h63] at hD; exact fin (some 4) hD (fun k q => by cases q; decide) _) | (rw [h7, h21, h35, h49, h63, h77] at hD; exact fin (some 5) hD (fun k q => by cases q; decide) _) | (rw [h7, h21, h35, h49, h63, h77, h91] at hD; exact fin (some 6) hD (fun k q => by cases q; decide) _) | (rw [h7, h21, h35, h49, h63, h77, h91, h106] at hD; exact fin (some 7) hD (fun k q => by cases q; decide) _) | (rw [h7, h21, h35, h49, h63, h77, h91, h106, h120] at hD; exact fin (some 8) hD (fun k q => by cases q; decide) _) | (rw [h7, h21, h35, h49, h63, h77, h91, h106, h120] at hD; exact fin none hD (fun k q => by cases q) _)
        · refine slv_iconst (v := nI 3) eX12_deedHere_52 (by decide) ?_
          refine slv_goto eX12_deedHere_53 ?_
          first | (rw [h7] at hD; exact fin (some 0) hD (fun k q => by cases q; decide) _) | (rw [h7, h21] at hD; exact fin (some 1) hD (fun k q => by cases q; decide) _) | (rw [h7, h21, h35] at hD; exact fin (some 2) hD (fun k q => by cases q; decide) _) | (rw [h7, h21, h35, h49] at hD; exact fin (some 3) hD (fun k q => by cases q; decide) _) | (rw [h7, h21, h35, h49, h63] at hD; exact fin (some 4) hD (fun k q => by cases q; decide) _) | (rw [h7, h21, h35, h49, h63, h77] at hD; exact fin (some 5) hD (fun k q => by cases q; decide) _) | (rw [h7, h21, h35, h49, h63, h77, h91] at hD; exact fin (some 6) hD (fun k q => by cases q; decide) _) | (rw [h7, h21, h35, h49, h63, h77, h91, h106] at hD; exact fin (some 7) hD (fun k q => by cases q; decide) _) | (rw [h7, h21, h35, h49, h63, h77, h91, h106, h120] at hD; exact fin (some 8) hD (fun k q => by cases q; decide) _) | (rw [h7, h21, h35, h49, h63, h77, h91, h106, h120] at hD; exact fin none hD (fun k q => by cases q) _)
      · refine slv_iconst (v := nI 2) eX12_deedHere_38 (by decide) ?_
        refine slv_goto eX12_deedHere_39 ?_
        first | (rw [h7] at hD; exact fin (some 0) hD (fun k q => by cases q; decide) _) | (rw [h7, h21] at hD; exact fin (some 1) hD (fun k q => by cases q; decide) _) | (rw [h7, h21, h35] at hD; exact fin (some 2) hD (fun k q => by cases q; decide) _) | (rw [h7, h21, h35, h49] at hD; exact fin (some 3) hD (fun k q => by cases q; decide) _) | (rw [h7, h21, h35, h49, h63] at hD; exact fin (some 4) hD (fun k q => by cases q; decide) _) | (rw [h7, h21, h35, h49, h63, h77] at hD; exact fin (some 5) hD (fun k q => by cases q; decide) _) | (rw [h7, h21, h35, h49, h63, h77, h91] at hD; exact fin (some 6) hD (fun k q => by cases q; decide) _) | (rw [h7, h21, h35, h49, h63, h77, h91, h106] at hD; exact fin (some 7) hD (fun k q => by cases q; decide) _) | (rw [h7, h21, h35, h49, h63, h77, h91, h106, h120] at hD; exact fin (some 8) hD (fun k q => by cases q; decide) _) | (rw [h7, h21, h35, h49, h63, h77, h91, h106, h120] at hD; exact fin none hD (fun k q => by cases q) _)
    · refine slv_iconst (v := nI 1) eX12_deedHere_24 (by decide) ?_
      refine slv_goto eX12_deedHere_25 ?_
      first | (rw [h7] at hD; exact fin (some 0) hD (fun k q => by cases q; decide) _) | (rw [h7, h21] at hD; exact fin (some 1) hD (fun k q => by cases q; decide) _) | (rw [h7, h21, h35] at hD; exact fin (some 2) hD (fun k q => by cases q; decide) _) | (rw [h7, h21, h35, h49] at hD; exact fin (some 3) hD (fun k q => by cases q; decide) _) | (rw [h7, h21, h35, h49, h63] at hD; exact fin (some 4) hD (fun k q => by cases q; decide) _) | (rw [h7, h21, h35, h49, h63, h77] at hD; exact fin (some 5) hD (fun k q => by cases q; decide) _) | (rw [h7, h21, h35, h49, h63, h77, h91] at hD; exact fin (some 6) hD (fun k q => by cases q; decide) _) | (rw [h7, h21, h35, h49, h63, h77, h91, h106] at hD; exact fin (some 7) hD (fun k q => by cases q; decide) _) | (rw [h7, h21, h35, h49, h63, h77, h91, h106, h120] at hD; exact fin (some 8) hD (fun k q => by cases q; decide) _) | (rw [h7, h21, h35, h49, h63, h77, h91, h106, h120] at hD; exact fin none hD (fun k q => by cases q) _)
  · refine slv_iconst (v := nI 0) eX12_deedHere_10 (by decide) ?_
    refine slv_goto eX12_deedHere_11 ?_
    first | (rw [h7] at hD; exact fin (some 0) hD (fun k q => by cases q; decide) _) | (rw [h7, h21] at hD; exact fin (some 1) hD (fun k q => by cases q; decide) _) | (rw [h7, h21, h35] at hD; exact fin (some 2) hD (fun k q => by cases q; decide) _) | (rw [h7, h21, h35, h49] at hD; exact fin (some 3) hD (fun k q => by cases q; decide) _) | (rw [h7, h21, h35, h49, h63] at hD; exact fin (some 4) hD (fun k q => by cases q; decide) _) | (rw [h7, h21, h35, h49, h63, h77] at hD; exact fin (some 5) hD (fun k q => by cases q; decide) _) | (rw [h7, h21, h35, h49, h63, h77, h91] at hD; exact fin (some 6) hD (fun k q => by cases q; decide) _) | (rw [h7, h21, h35, h49, h63, h77, h91, h106] at hD; exact fin (some 7) hD (fun k q => by cases q; decide) _) | (rw [h7, h21, h35, h49, h63, h77, h91, h106, h120] at hD; exact fin (some 8) hD (fun k q => by cases q; decide) _) | (rw [h7, h21, h35, h49, h63, h77, h91, h106, h120] at hD; exact fin none hD (fun k q => by cases q) _)
set_option maxRecDepth 100000 in
theorem rm_deedHereB (hS : st_all) {k : Nat} (hk : 0 < k) (hk2 : k < 100) (h34 : v 34 = nI k) (h31 : v 31 = nI 0) : sl_R YX12_deedHere 7 [.ref 68] (rf_S v w a nm M) (some (.int (-1))) (rf_S v w a nm M) := by
  have hH := fun (j : Nat) (h1 : 1 ≤ j) (h2 : j < 15) => rm_isHereB (w := w) (a := a) (nm := nm) (M := M) hS h31 h1 h2
  refine sl_T.of_V (lv := [_, _]) (by decide) rfl (Nat.le_of_ble_eq_true rfl) ?_
  refine slv_aload_n eX12_deedHere_0 rfl ?_
  refine slv_ldcwS (tx := "add") 9 eX12_deedHere_1 (by decide +kernel) ?_
  refine slv_rV (As := [_]) eX12_deedHere_4 lX12_212 rfl rfl rf_68 rfl (hH 9 (by decide) (by decide)) (by decide) (Nat.le_of_ble_eq_true rfl) ?_
  refine slv_if_eqB eX12_deedHere_7 (fun h7 => ?_) (fun h7 => absurd h7 (by decide))
  refine slv_aload_n eX12_deedHere_14 rfl ?_
  refine slv_ldcwS (tx := "less") 10 eX12_deedHere_15 (by decide +kernel) ?_
  refine slv_rV (As := [_]) eX12_deedHere_18 lX12_212 rfl rfl rf_68 rfl (hH 10 (by decide) (by decide)) (by decide) (Nat.le_of_ble_eq_true rfl) ?_
  refine slv_if_eqB eX12_deedHere_21 (fun h21 => ?_) (fun h21 => absurd h21 (by decide))
  refine slv_aload_n eX12_deedHere_28 rfl ?_
  refine slv_ldcwS (tx := "times") 11 eX12_deedHere_29 (by decide +kernel) ?_
  refine slv_rV (As := [_]) eX12_deedHere_32 lX12_212 rfl rfl rf_68 rfl (hH 11 (by decide) (by decide)) (by decide) (Nat.le_of_ble_eq_true rfl) ?_
  refine slv_if_eqB eX12_deedHere_35 (fun h35 => ?_) (fun h35 => absurd h35 (by decide))
  refine slv_aload_n eX12_deedHere_42 rfl ?_
  refine slv_ldcwS (tx := "over") 12 eX12_deedHere_43 (by decide +kernel) ?_
  refine slv_rV (As := [_]) eX12_deedHere_46 lX12_212 rfl rfl rf_68 rfl (hH 12 (by decide) (by decide)) (by decide) (Nat.le_of_ble_eq_true rfl) ?_
  refine slv_if_eqB eX12_deedHere_49 (fun h49 => ?_) (fun h49 => absurd h49 (by decide))
  refine slv_aload_n eX12_deedHere_56 rfl ?_
  refine slv_ldcwS (tx := "minus") 13 eX12_deedHere_57 (by decide +kernel) ?_
  refine slv_rV (As := [_]) eX12_deedHere_60 lX12_212 rfl rfl rf_68 rfl (hH 13 (by decide) (by decide)) (by decide) (Nat.le_of_ble_eq_true rfl) ?_
  refine slv_if_eqB eX12_deedHere_63 (fun h63 => ?_) (fun h63 => absurd h63 (by decide))
  refine slv_aload_n eX12_deedHere_70 rfl ?_
  refine slv_ldcwS (tx := "same") 14 eX12_deedHere_71 (by decide +kernel) ?_
  refine slv_rV (As := [_]) eX12_deedHere_74 lX12_212 rfl rfl rf_68 rfl (hH 14 (by decide) (by decide)) (by decide) (Nat.le_of_ble_eq_true rfl) ?_
  refine slv_if_eqB eX12_deedHere_77 (fun h77 => ?_) (fun h77 => absurd h77 (by decide))
  refine slv_aload_n eX12_deedHere_84 rfl ?_
  refine slv_ldcwS (tx := "whole") 4 eX12_deedHere_85 (by decide +kernel) ?_
  refine slv_rV (As := [_]) eX12_deedHere_88 lX12_212 rfl rfl rf_68 rfl (hH 4 (by decide) (by decide)) (by decide) (Nat.le_of_ble_eq_true rfl) ?_
  refine slv_if_eqB eX12_deedHere_91 (fun h91 => ?_) (fun h91 => absurd h91 (by decide))
  refine slv_aload_n eX12_deedHere_99 rfl ?_
  refine slv_ldcwS (tx := "real") 5 eX12_deedHere_100 (by decide +kernel) ?_
  refine slv_rV (As := [_]) eX12_deedHere_103 lX12_212 rfl rfl rf_68 rfl (hH 5 (by decide) (by decide)) (by decide) (Nat.le_of_ble_eq_true rfl) ?_
  refine slv_if_eqB eX12_deedHere_106 (fun h106 => ?_) (fun h106 => absurd h106 (by decide))
  refine slv_aload_n eX12_deedHere_114 rfl ?_
  refine slv_ldcS (tx := "value") 8 eX12_deedHere_115 (by decide +kernel) ?_
  refine slv_rV (As := [_]) eX12_deedHere_117 lX12_212 rfl rfl rf_68 rfl (hH 8 (by decide) (by decide)) (by decide) (Nat.le_of_ble_eq_true rfl) ?_
  refine slv_if_eqB eX12_deedHere_120 (fun h120 => ?_) (fun h120 => absurd h120 (by decide))
  refine slv_iconst (v := (-1)) eX12_deedHere_128 (by decide) ?_
  refine slv_istore_n (i := 1) (lv' := [_, _]) eX12_deedHere_129 rfl (by decide) rfl ?_
  refine slv_iload_n eX12_deedHere_130 rfl ?_
  refine slv_iconst (v := (-1)) eX12_deedHere_131 (by decide) ?_
  refine slv_icmp_ne eX12_deedHere_132 (fun h132 => absurd (by decide) h132) (fun h132 => ?_)
  refine slv_aload_n eX12_deedHere_135 rfl ?_
  refine slv_iconst (v := nI 1) eX12_deedHere_136 (by decide) ?_
  refine slv_rV (As := [_]) eX12_deedHere_137 lX12_216 rfl rfl rf_68 rfl (c_X12_flawB hk hk2 h34 h31 1) (by decide) (Nat.le_of_ble_eq_true rfl) ?_
  refine slv_iload_n eX12_deedHere_140 rfl ?_
  refine slv_iret eX12_deedHere_141 rfl ?_
  exact ⟨rfl, rfl⟩
set_option maxRecDepth 100000 in
theorem rm_goesWith (hg : rm_g g v a nm) (hi : rm_i g a) (hok : sg_ok g) (hr : sg_rules g < 12) (h1 : 1 ≤ sg_lens g (sg_rules g)) (hiv : ∀ i, i < sg_lens g (sg_rules g) → sg_it g (sg_rules g) i < 100 → sg_it g (sg_rules g) i < sg_terms g) (hds : ∀ t t', t < sg_terms g → t' < sg_terms g → sg_signs g t = sg_signs g t' → t = t') {d : Nat} (hd : d < 9) : sl_R YX12_goesWith 1 [.ref 68, .int (nI d), .int (nI (sg_lens g (sg_rules g)))] (rf_S v w a nm M) (some (.int (sl_bi (gp_goes g d)))) (rf_S v w a nm M) := by
  have ht11 : sg_terms g ≤ 11 := hok.2.2.2.1
  have hl5 := (hok.2.2.2.2.2.1 (sg_rules g) hr).2.2
  have hlt : ∀ i, i < 5 → sg_it g (sg_rules g) i < 106 := fun i hi => hok.2.2.2.2.2.2.1 _ (by omega)
  obtain ⟨g1, g2, g3, g4, g5, g6, g7⟩ := hg
  have hI := fun i (h : i < sg_lens g (sg_rules g)) => (show sl_R YX12_itemOf 0 [.ref 68, .int (nI i)] (rf_S v w a nm M) (some (.int (nI (sg_it g (sg_rules g) i)))) (rf_S v w a nm M) from by
    have := c_X12_itemOf (w := w) (a := a) (nm := nm) (M := M) g1 (k := i) (by omega)
    rwa [hi i h] at this)
  refine sl_T.of_V (lv := [_, _, _, _, _]) (by decide) rfl (Nat.le_of_ble_eq_true rfl) ?_
  have loop : ∀ (n i acc : Nat), i + n = sg_lens g (sg_rules g) → ∀ Q : Option Value → sl_M → Prop, sl_V YX12_goesWith none 1 0 0 Q 36 [some (.ref 68), some (.int (nI d)), some (.int (nI (sg_lens g (sg_rules g)))), some (.int (nI (acc + sl_ct (fun i => sg_nm (sg_it g (sg_rules g) i)) n i))), some (.int (nI (sg_lens g (sg_rules g))))] [] (rf_S v w a nm M) → sl_V YX12_goesWith none 1 0 0 Q 5 [some (.ref 68), some (.int (nI d)), some (.int (nI (sg_lens g (sg_rules g)))), some (.int (nI acc)), some (.int (nI i))] [] (rf_S v w a nm M) := by
    intro n
    induction n with
    | zero =>
      intro i acc hi Q hQ
      have e : i = sg_lens g (sg_rules g) := by omega
      subst e
      refine slv_iload eX12_goesWith_5 rfl ?_
      refine slv_iload_n eX12_goesWith_7 rfl ?_
      refine slv_icmp_geN eX12_goesWith_8 (by omega) (by omega) (fun h8 => ?_) (fun h8 => absurd h8 (by omega))
      exact hQ
    | succ n ih =>
      intro i acc hi Q hQ
      have hx := hlt i (by omega)
      refine slv_iload eX12_goesWith_5 rfl ?_
      refine slv_iload_n eX12_goesWith_7 rfl ?_
      refine slv_icmp_geN eX12_goesWith_8 (by omega) (by omega) (fun h8 => absurd h8 (by omega)) (fun h8 => ?_)
      refine slv_iload_n eX12_goesWith_11 rfl ?_
      refine slv_aload_n eX12_goesWith_12 rfl ?_
      refine slv_iload eX12_goesWith_13 rfl ?_
      refine slv_rV (As := [_]) eX12_goesWith_15 lX12_284 rfl rfl rf_68 rfl (hI i (by omega)) (by decide) (Nat.le_of_ble_eq_true rfl) ?_
      refine slv_bipush (v := nI 100) eX12_goesWith_18 (by decide) ?_
      refine slv_icmp_ltN eX12_goesWith_20 (by omega) (by omega) (fun h20 => ?_) (fun h20 => ?_)
      · refine slv_iconst (v := nI 0) eX12_goesWith_27 (by decide) ?_
        refine slv_iaddN eX12_goesWith_28 ?_
        refine slv_istore_n (i := 3) (lv' := [_, _, _, _, _]) eX12_goesWith_29 rfl (by decide) rfl ?_
        refine slv_iincN (lv' := [_, _, _, _, _]) eX12_goesWith_30 rfl (by decide) rfl ?_
        refine slv_goto eX12_goesWith_33 ?_
        refine ih (i + 1) _ (by omega) Q ?_
        first | (simp only [sl_ct, show sg_nm (sg_it g (sg_rules g) i) = false from decide_eq_false (Nat.not_le.mpr h20), cond_false] at hQ; rw [Nat.zero_add] at hQ; exact hQ) | (simp only [sl_ct, show sg_nm (sg_it g (sg_rules g) i) = true from decide_eq_true h20, cond_true] at hQ; rw [← Nat.add_assoc] at hQ; exact hQ)
      · refine slv_iconst (v := nI 1) eX12_goesWith_23 (by decide) ?_
        refine slv_goto eX12_goesWith_24 ?_
        refine slv_iaddN eX12_goesWith_28 ?_
        refine slv_istore_n (i := 3) (lv' := [_, _, _, _, _]) eX12_goesWith_29 rfl (by decide) rfl ?_
        refine slv_iincN (lv' := [_, _, _, _, _]) eX12_goesWith_30 rfl (by decide) rfl ?_
        refine slv_goto eX12_goesWith_33 ?_
        refine ih (i + 1) _ (by omega) Q ?_
        first | (simp only [sl_ct, show sg_nm (sg_it g (sg_rules g) i) = false from decide_eq_false (Nat.not_le.mpr h20), cond_false] at hQ; rw [Nat.zero_add] at hQ; exact hQ) | (simp only [sl_ct, show sg_nm (sg_it g (sg_rules g) i) = true from decide_eq_true h20, cond_true] at hQ; rw [← Nat.add_assoc] at hQ; exact hQ)
  have hct := sl_ct_le (fun i => sg_nm (sg_it g (sg_rules g) i)) (sg_lens g (sg_rules g)) 0
  refine slv_iconst (v := nI 0) eX12_goesWith_0 (by decide) ?_
  refine slv_istore_n (i := 3) (lv' := [_, _, _, _, _]) eX12_goesWith_1 rfl (by decide) rfl ?_
  refine slv_iconst (v := nI 0) eX12_goesWith_2 (by decide) ?_
  refine slv_istore (lv' := [_, _, _, _, _]) eX12_goesWith_3 (by decide) rfl ?_
  refine loop (sg_lens g (sg_rules g)) 0 0 (by omega) _ ?_
  unfold gp_goes
  rw [Nat.zero_add]
  generalize sl_ct (fun i => sg_nm (sg_it g (sg_rules g) i)) (sg_lens g (sg_rules g)) 0 = cn at *
  by_cases h8 : d = 8
  · subst h8
    rw [if_pos rfl]
    by_cases hl : sg_lens g (sg_rules g) = 1
    · rw [decide_eq_true hl, Bool.true_and]
      have h0 := hI 0 (by omega)
      have hx := hlt 0 (by omega)
      have hk : ∀ k, gt_k g 0 = some k → k < sg_terms g ∧ sg_signs g k = 0 := by
        intro k q
        obtain ⟨_, q2, q3⟩ := sl_fn_lt _ 0 k q
        have hs := hok.2.2.2.2.1 k (by omega)
        exact ⟨by omega, (nI_inj (by omega) (by omega)).mp (of_decide_eq_true q3)⟩
      by_cases hit : 100 ≤ sg_it g (sg_rules g) 0
      · have hf : decide (nI (sg_it g (sg_rules g) 0) = sl_io (gt_k g 0)) = false := by
          apply decide_eq_false
          intro q
          cases hq : gt_k g 0 with
          | none => rw [hq] at q; exact nI_neg1 (by omega) q
          | some k =>
            rw [hq] at q
            have := (nI_inj (by omega) (by have := (hk k hq).1; omega)).mp q
            have := (hk k hq).1
            omega
        rw [hf]
        refine slv_iload_n eX12_goesWith_36 rfl ?_
        refine slv_bipush (v := nI 8) eX12_goesWith_37 (by decide) ?_
        refine slv_icmp_neN eX12_goesWith_39 (by omega) (by omega) (fun h39 => absurd h39 (by decide)) (fun h39 => ?_)
        refine slv_iload_n eX12_goesWith_42 rfl ?_
        refine slv_iconst (v := nI 1) eX12_goesWith_43 (by decide) ?_
        refine slv_icmp_neN eX12_goesWith_44 (by omega) (by omega) (fun h44 => absurd h44 (fun q => q hl)) (fun h44 => ?_)
        refine slv_aload_n eX12_goesWith_47 rfl ?_
        refine slv_iconst (v := nI 0) eX12_goesWith_48 (by decide) ?_
        refine slv_rV (As := [_]) eX12_goesWith_49 lX12_284 rfl rfl rf_68 rfl h0 (by decide) (Nat.le_of_ble_eq_true rfl) ?_
        refine slv_bipush (v := nI 100) eX12_goesWith_52 (by decide) ?_
        refine slv_icmp_geN eX12_goesWith_54 (by omega) (by omega) (fun h54 => ?_) (fun h54 => absurd h54 (by omega))
        refine slv_iconst (v := nI 0) eX12_goesWith_74 (by decide) ?_
        refine slv_zret eX12_goesWith_75 rfl rfl ?_
        exact ⟨rfl, rfl⟩
      · have ht := hiv 0 (by omega) (by omega)
        have hsb := hok.2.2.2.2.1 (sg_it g (sg_rules g) 0) (by omega)
        have hv := g6 (sg_it g (sg_rules g) 0) ht
        by_cases hz : sg_signs g (sg_it g (sg_rules g) 0) = 0
        · have hf : decide (nI (sg_it g (sg_rules g) 0) = sl_io (gt_k g 0)) = true := by
            apply decide_eq_true
            have : gt_k g 0 = some (sg_it g (sg_rules g) 0) := sl_fn_of ht (by rw [hz]; exact decide_eq_true rfl) (fun j hj => by
              apply decide_eq_false
              intro q
              have hsj := hok.2.2.2.2.1 j (by omega)
              have q' := (nI_inj (by omega) (by omega)).mp q
              have := hds j _ (by omega) ht (q'.trans hz.symm)
              omega)
            rw [this]
            rfl
          rw [hf]
          rw [hz] at hv
          refine slv_iload_n eX12_goesWith_36 rfl ?_
          refine slv_bipush (v := nI 8) eX12_goesWith_37 (by decide) ?_
          refine slv_icmp_neN eX12_goesWith_39 (by omega) (by omega) (fun h39 => absurd h39 (by decide)) (fun h39 => ?_)
          refine slv_iload_n eX12_goesWith_42 rfl ?_
          refine slv_iconst (v := nI 1) eX12_goesWith_43 (by decide) ?_
          refine slv_icmp_neN eX12_goesWith_44 (by omega) (by omega) (fun h44 => absurd h44 (fun q => q hl)) (fun h44 => ?_)
          refine slv_aload_n eX12_goesWith_47 rfl ?_
          refine slv_iconst (v := nI 0) eX12_goesWith_48 (by decide) ?_
          refine slv_rV (As := [_]) eX12_goesWith_49 lX12_284 rfl rfl rf_68 rfl h0 (by decide) (Nat.le_of_ble_eq_true rfl) ?_
          refine slv_bipush (v := nI 100) eX12_goesWith_52 (by decide) ?_
          refine slv_icmp_geN eX12_goesWith_54 (by omega) (by omega) (fun h54 => absurd h54 (by omega)) (fun h54 => ?_)
          refine slv_aload_n eX12_goesWith_57 rfl ?_
          refine slr_ga (p := 78) eX12_goesWith_58 fX12_41 rfl ?_
          refine slv_aload_n eX12_goesWith_61 rfl ?_
          refine slv_iconst (v := nI 0) eX12_goesWith_62 (by decide) ?_
          refine slv_rV (As := [_]) eX12_goesWith_63 lX12_284 rfl rfl rf_68 rfl h0 (by decide) (Nat.le_of_ble_eq_true rfl) ?_
          refine slr_ialdX (k := 12) (p := 78) (len := 11) eX12_goesWith_66 rfl (by repeat (first | exact sl_u_eq | assumption | apply rf_ne (by decide) | exact rfl)) (by omega) (by decide) hv ?_
          refine slv_if_neN eX12_goesWith_67 (by omega) (fun h67 => absurd h67 (fun q => q rfl)) (fun h67 => ?_)
          refine slv_iconst (v := nI 1) eX12_goesWith_70 (by decide) ?_
          refine slv_goto eX12_goesWith_71 ?_
          refine slv_zret eX12_goesWith_75 rfl rfl ?_
          exact ⟨rfl, rfl⟩
        · have hf : decide (nI (sg_it g (sg_rules g) 0) = sl_io (gt_k g 0)) = false := by
            apply decide_eq_false
            intro q
            cases hq : gt_k g 0 with
            | none => rw [hq] at q; exact nI_neg1 (by omega) q
            | some k =>
              rw [hq] at q
              have e := (nI_inj (by omega) (by have := (hk k hq).1; omega)).mp q
              rw [e] at hz
              exact hz (hk k hq).2
          rw [hf]
          refine slv_iload_n eX12_goesWith_36 rfl ?_
          refine slv_bipush (v := nI 8) eX12_goesWith_37 (by decide) ?_
          refine slv_icmp_neN eX12_goesWith_39 (by omega) (by omega) (fun h39 => absurd h39 (by decide)) (fun h39 => ?_)
          refine slv_iload_n eX12_goesWith_42 rfl ?_
          refine slv_iconst (v := nI 1) eX12_goesWith_43 (by decide) ?_
          refine slv_icmp_neN eX12_goesWith_44 (by omega) (by omega) (fun h44 => absurd h44 (fun q => q hl)) (fun h44 => ?_)
          refine slv_aload_n eX12_goesWith_47 rfl ?_
          refine slv_iconst (v := nI 0) eX12_goesWith_48 (by decide) ?_
          refine slv_rV (As := [_]) eX12_goesWith_49 lX12_284 rfl rfl rf_68 rfl h0 (by decide) (Nat.le_of_ble_eq_true rfl) ?_
          refine slv_bipush (v := nI 100) eX12_goesWith_52 (by decide) ?_
          refine slv_icmp_geN eX12_goesWith_54 (by omega) (by omega) (fun h54 => absurd h54 (by omega)) (fun h54 => ?_)
          refine slv_aload_n eX12_goesWith_57 rfl ?_
          refine slr_ga (p := 78) eX12_goesWith_58 fX12_41 rfl ?_
          refine slv_aload_n eX12_goesWith_61 rfl ?_
          refine slv_iconst (v := nI 0) eX12_goesWith_62 (by decide) ?_
          refine slv_rV (As := [_]) eX12_goesWith_63 lX12_284 rfl rfl rf_68 rfl h0 (by decide) (Nat.le_of_ble_eq_true rfl) ?_
          refine slr_ialdX (k := 12) (p := 78) (len := 11) eX12_goesWith_66 rfl (by repeat (first | exact sl_u_eq | assumption | apply rf_ne (by decide) | exact rfl)) (by omega) (by decide) hv ?_
          refine slv_if_neN eX12_goesWith_67 (by omega) (fun h67 => ?_) (fun h67 => absurd h67 hz)
          refine slv_iconst (v := nI 0) eX12_goesWith_74 (by decide) ?_
          refine slv_zret eX12_goesWith_75 rfl rfl ?_
          exact ⟨rfl, rfl⟩
    · rw [decide_eq_false hl, Bool.false_and]
      refine slv_iload_n eX12_goesWith_36 rfl ?_
      refine slv_bipush (v := nI 8) eX12_goesWith_37 (by decide) ?_
      refine slv_icmp_neN eX12_goesWith_39 (by omega) (by omega) (fun h39 => absurd h39 (by decide)) (fun h39 => ?_)
      refine slv_iload_n eX12_goesWith_42 rfl ?_
      refine slv_iconst (v := nI 1) eX12_goesWith_43 (by decide) ?_
      refine slv_icmp_neN eX12_goesWith_44 (by omega) (by omega) (fun h44 => ?_) (fun h44 => absurd h44 hl)
      refine slv_iconst (v := nI 0) eX12_goesWith_74 (by decide) ?_
      refine slv_zret eX12_goesWith_75 rfl rfl ?_
      exact ⟨rfl, rfl⟩
  · rw [if_neg h8]
    by_cases h3 : d ≤ 3
    · rw [if_pos h3]
      refine slv_iload_n eX12_goesWith_36 rfl ?_
      refine slv_bipush (v := nI 8) eX12_goesWith_37 (by decide) ?_
      refine slv_icmp_neN eX12_goesWith_39 (by omega) (by omega) (fun h39 => ?_) (fun h39 => absurd h39 h8)
      refine slv_iload_n eX12_goesWith_76 rfl ?_
      refine slv_iload_n eX12_goesWith_77 rfl ?_
      refine slv_iconst (v := nI 3) eX12_goesWith_78 (by decide) ?_
      refine slv_icmp_gtN eX12_goesWith_79 (by omega) (by omega) (fun h79 => absurd h79 (by omega)) (fun h79 => ?_)
      refine slv_iconst (v := nI 2) eX12_goesWith_82 (by decide) ?_
      refine slv_goto eX12_goesWith_83 ?_
      refine slv_icmp_neN eX12_goesWith_87 (by omega) (by omega) (fun h87 => ?_) (fun h87 => ?_)
      · refine slv_iconst (v := nI 0) eX12_goesWith_94 (by decide) ?_
        refine slv_zret eX12_goesWith_95 rfl rfl ?_
        refine ⟨?_, rfl⟩
        first | (rw [decide_eq_true h87]; rfl) | (rw [decide_eq_false h87]; rfl)
      · refine slv_iconst (v := nI 1) eX12_goesWith_90 (by decide) ?_
        refine slv_goto eX12_goesWith_91 ?_
        refine slv_zret eX12_goesWith_95 rfl rfl ?_
        refine ⟨?_, rfl⟩
        first | (rw [decide_eq_true h87]; rfl) | (rw [decide_eq_false h87]; rfl)
    · rw [if_neg h3]
      refine slv_iload_n eX12_goesWith_36 rfl ?_
      refine slv_bipush (v := nI 8) eX12_goesWith_37 (by decide) ?_
      refine slv_icmp_neN eX12_goesWith_39 (by omega) (by omega) (fun h39 => ?_) (fun h39 => absurd h39 h8)
      refine slv_iload_n eX12_goesWith_76 rfl ?_
      refine slv_iload_n eX12_goesWith_77 rfl ?_
      refine slv_iconst (v := nI 3) eX12_goesWith_78 (by decide) ?_
      refine slv_icmp_gtN eX12_goesWith_79 (by omega) (by omega) (fun h79 => ?_) (fun h79 => absurd h79 (by omega))
      refine slv_iconst (v := nI 1) eX12_goesWith_86 (by decide) ?_
      refine slv_icmp_neN eX12_goesWith_87 (by omega) (by omega) (fun h87 => ?_) (fun h87 => ?_)
      · refine slv_iconst (v := nI 0) eX12_goesWith_94 (by decide) ?_
        refine slv_zret eX12_goesWith_95 rfl rfl ?_
        refine ⟨?_, rfl⟩
        first | (rw [decide_eq_true h87]; rfl) | (rw [decide_eq_false h87]; rfl)
      · refine slv_iconst (v := nI 1) eX12_goesWith_90 (by decide) ?_
        refine slv_goto eX12_goesWith_91 ?_
        refine slv_zret eX12_goesWith_95 rfl rfl ?_
        refine ⟨?_, rfl⟩
        first | (rw [decide_eq_true h87]; rfl) | (rw [decide_eq_false h87]; rfl)
set_option maxRecDepth 100000 in
theorem rm_areHeads (hg : rm_g g v a nm) (hok : sg_ok g) : sl_R YX12_areHeads 1 [.ref 68] (rf_S v w a nm M) (some (.int (sl_bi (!(sl_ex (fun n => !(sl_ex (fun t => decide (sg_heads g t = n)) (sg_rules g) 0)) (sg_names g) 0))))) (rf_S v w a nm M) := by
  have hr12 : sg_rules g ≤ 12 := hok.2.1
  have hn6 : sg_names g ≤ 6 := hok.2.2.1
  obtain ⟨g1, g2, g3, g4, g5, g6, g7⟩ := hg
  refine sl_T.of_V (lv := [_, _, _, _]) (by decide) rfl (Nat.le_of_ble_eq_true rfl) ?_
  have inner : ∀ (m i n : Nat) (b : Bool), i + m = sg_rules g → n < 6 → ∀ Q : Option Value → sl_M → Prop, (∀ z3, sl_V YX12_areHeads none 1 0 0 Q 48 [some (.ref 68), some (.int (nI n)), some (.int (sl_bi (b || sl_ex (fun t => decide (sg_heads g t = n)) m i))), z3] [] (rf_S v w a nm M)) → sl_V YX12_areHeads none 1 0 0 Q 14 [some (.ref 68), some (.int (nI n)), some (.int (sl_bi b)), some (.int (nI i))] [] (rf_S v w a nm M) := by
    intro m
    induction m with
    | zero =>
      intro i n b hi hn Q hQ
      simp only [sl_ex, Bool.or_false] at hQ
      refine slv_iload_n eX12_areHeads_14 rfl ?_
      refine slv_aload_n eX12_areHeads_15 rfl ?_
      refine slr_gi eX12_areHeads_16 fX12_239 rfl (by repeat (first | exact sl_u_eq | assumption | apply rf_ne (by decide) | exact rfl)) ?_
      refine slv_icmp_geN eX12_areHeads_19 (by omega) (by omega) (fun h19 => ?_) (fun h19 => absurd h19 (by omega))
      exact hQ _
    | succ m ih =>
      intro i n b hi hn Q hQ
      have hh := (hok.2.2.2.2.2.1 i (by omega)).1
      cases b with
      | true =>
        have hI := ih (i + 1) n true (by omega) hn Q (fun z3 => by have := hQ z3; rw [Bool.true_or] at this ⊢; exact this)
        refine slv_iload_n eX12_areHeads_14 rfl ?_
        refine slv_aload_n eX12_areHeads_15 rfl ?_
        refine slr_gi eX12_areHeads_16 fX12_239 rfl (by repeat (first | exact sl_u_eq | assumption | apply rf_ne (by decide) | exact rfl)) ?_
        refine slv_icmp_geN eX12_areHeads_19 (by omega) (by omega) (fun h19 => absurd h19 (by omega)) (fun h19 => ?_)
        refine slv_iload_n eX12_areHeads_22 rfl ?_
        refine slv_if_neB eX12_areHeads_23 (fun h23 => ?_) (fun h23 => absurd h23 (by decide))
        refine slv_iconst (v := nI 1) eX12_areHeads_36 (by decide) ?_
        refine slv_goto eX12_areHeads_37 ?_
        refine slv_istore_n (i := 2) (lv' := [_, _, _, _]) eX12_areHeads_41 rfl (by decide) rfl ?_
        refine slv_iincN (lv' := [_, _, _, _]) eX12_areHeads_42 rfl (by decide) rfl ?_
        refine slv_goto eX12_areHeads_45 ?_
        exact hI
      | false =>
        simp only [sl_ex, Bool.false_or] at hQ
        refine slv_iload_n eX12_areHeads_14 rfl ?_
        refine slv_aload_n eX12_areHeads_15 rfl ?_
        refine slr_gi eX12_areHeads_16 fX12_239 rfl (by repeat (first | exact sl_u_eq | assumption | apply rf_ne (by decide) | exact rfl)) ?_
        refine slv_icmp_geN eX12_areHeads_19 (by omega) (by omega) (fun h19 => absurd h19 (by omega)) (fun h19 => ?_)
        refine slv_iload_n eX12_areHeads_22 rfl ?_
        refine slv_if_neB eX12_areHeads_23 (fun h23 => absurd h23 (by decide)) (fun h23 => ?_)
        refine slv_aload_n eX12_areHeads_26 rfl ?_
        refine slr_ga (p := 74) eX12_areHeads_27 fX12_29 rfl ?_
        refine slv_iload_n eX12_areHeads_30 rfl ?_
        refine slr_ialdX (k := 8) (p := 74) (len := 12) eX12_areHeads_31 rfl (by repeat (first | exact sl_u_eq | assumption | apply rf_ne (by decide) | exact rfl)) (by omega) (by decide) (g4 i (by omega)).1 ?_
        refine slv_iload_n eX12_areHeads_32 rfl ?_
        refine slv_icmp_neN eX12_areHeads_33 (by omega) (by omega) (fun h33 => ?_) (fun h33 => ?_)
        · refine slv_iconst (v := nI 0) eX12_areHeads_40 (by decide) ?_
          refine slv_istore_n (i := 2) (lv' := [_, _, _, _]) eX12_areHeads_41 rfl (by decide) rfl ?_
          refine slv_iincN (lv' := [_, _, _, _]) eX12_areHeads_42 rfl (by decide) rfl ?_
          refine slv_goto eX12_areHeads_45 ?_
          first | (refine ih (i + 1) n false (by omega) hn Q (fun z3 => ?_); have q := hQ z3; rw [decide_eq_false h33] at q; exact q) | (refine ih (i + 1) n true (by omega) hn Q (fun z3 => ?_); have q := hQ z3; rw [decide_eq_true h33] at q; exact q)
        · refine slv_iconst (v := nI 1) eX12_areHeads_36 (by decide) ?_
          refine slv_goto eX12_areHeads_37 ?_
          refine slv_istore_n (i := 2) (lv' := [_, _, _, _]) eX12_areHeads_41 rfl (by decide) rfl ?_
          refine slv_iincN (lv' := [_, _, _, _]) eX12_areHeads_42 rfl (by decide) rfl ?_
          refine slv_goto eX12_areHeads_45 ?_
          first | (refine ih (i + 1) n false (by omega) hn Q (fun z3 => ?_); have q := hQ z3; rw [decide_eq_false h33] at q; exact q) | (refine ih (i + 1) n true (by omega) hn Q (fun z3 => ?_); have q := hQ z3; rw [decide_eq_true h33] at q; exact q)
  have outer : ∀ (m i : Nat) (z2 z3 : Option Value), i + m = sg_names g → ∀ Q : Option Value → sl_M → Prop, Q (some (.int (sl_bi (!(sl_ex (fun n => !(sl_ex (fun t => decide (sg_heads g t = n)) (sg_rules g) 0)) m i))))) (rf_S v w a nm M) → sl_V YX12_areHeads none 1 0 0 Q 2 [some (.ref 68), some (.int (nI i)), z2, z3] [] (rf_S v w a nm M) := by
    intro m
    induction m with
    | zero =>
      intro i z2 z3 hi Q hQ
      refine slv_iload_n eX12_areHeads_2 rfl ?_
      refine slv_aload_n eX12_areHeads_3 rfl ?_
      refine slr_gi eX12_areHeads_4 fX12_233 rfl (by repeat (first | exact sl_u_eq | assumption | apply rf_ne (by decide) | exact rfl)) ?_
      refine slv_icmp_geN eX12_areHeads_7 (by omega) (by omega) (fun h7 => ?_) (fun h7 => absurd h7 (by omega))
      refine slv_iconst (v := nI 1) eX12_areHeads_60 (by decide) ?_
      refine slv_zret eX12_areHeads_61 rfl rfl ?_
      exact hQ
    | succ m ih =>
      intro i z2 z3 hi Q hQ
      refine slv_iload_n eX12_areHeads_2 rfl ?_
      refine slv_aload_n eX12_areHeads_3 rfl ?_
      refine slr_gi eX12_areHeads_4 fX12_233 rfl (by repeat (first | exact sl_u_eq | assumption | apply rf_ne (by decide) | exact rfl)) ?_
      refine slv_icmp_geN eX12_areHeads_7 (by omega) (by omega) (fun h7 => absurd h7 (by omega)) (fun h7 => ?_)
      refine slv_iconst (v := nI 0) eX12_areHeads_10 (by decide) ?_
      refine slv_istore_n (i := 2) (lv' := [_, _, _, _]) eX12_areHeads_11 rfl (by decide) rfl ?_
      refine slv_iconst (v := nI 0) eX12_areHeads_12 (by decide) ?_
      refine slv_istore_n (i := 3) (lv' := [_, _, _, _]) eX12_areHeads_13 rfl (by decide) rfl ?_
      refine slv_mem rfl (inner (sg_rules g) 0 i false (by omega) (by omega) Q (fun z3 => ?_))
      rw [Bool.false_or]
      simp only [sl_ex] at hQ
      refine slv_iload_n eX12_areHeads_48 rfl ?_
      refine slv_if_neB eX12_areHeads_49 (fun h49 => ?_) (fun h49 => ?_)
      · refine slv_iincN (lv' := [_, _, _, _]) eX12_areHeads_54 rfl (by decide) rfl ?_
        refine slv_goto eX12_areHeads_57 ?_
        rw [h49] at hQ
        simp only [Bool.not_true, Bool.false_or] at hQ
        exact ih (i + 1) _ _ (by omega) Q hQ
      · refine slv_iconst (v := nI 0) eX12_areHeads_52 (by decide) ?_
        refine slv_zret eX12_areHeads_53 rfl rfl ?_
        rw [h49] at hQ
        simp only [Bool.not_false, Bool.true_or] at hQ
        exact hQ
  refine slv_iconst (v := nI 0) eX12_areHeads_0 (by decide) ?_
  refine slv_istore_n (i := 1) (lv' := [_, _, _, _]) eX12_areHeads_1 rfl (by decide) rfl ?_
  exact outer (sg_names g) 0 _ _ (by omega) _ ⟨rfl, rfl⟩
end RMT

set_option maxRecDepth 100000 in
theorem c_X2_isName (M : sl_M) (k : Nat) (hk : k < 1000) : sl_R YX2_isName 0 [.int (nI k)] M (some (.int (sl_bi (decide (100 ≤ k))))) M := by
  refine sl_T.of_V (lv := [_]) (by decide) rfl (Nat.le_of_ble_eq_true rfl) ?_
  rcases Nat.lt_or_ge k 100 with h | h
  · rw [decide_eq_false (show ¬ 100 ≤ k by omega)]
    refine slv_iload_n eX2_isName_0 rfl ?_
    refine slv_bipush (v := nI 100) eX2_isName_1 (by decide) ?_
    refine slv_icmp_ltN eX2_isName_3 (by omega) (by omega) (fun h3 => ?_) (fun h3 => absurd h3 (by omega))
    refine slv_iconst (v := nI 0) eX2_isName_10 (by decide) ?_
    refine slv_zret eX2_isName_11 rfl rfl ?_
    exact ⟨rfl, rfl⟩
  · rw [decide_eq_true (show 100 ≤ k by omega)]
    refine slv_iload_n eX2_isName_0 rfl ?_
    refine slv_bipush (v := nI 100) eX2_isName_1 (by decide) ?_
    refine slv_icmp_ltN eX2_isName_3 (by omega) (by omega) (fun h3 => absurd h3 (by omega)) (fun h3 => ?_)
    refine slv_iconst (v := nI 1) eX2_isName_6 (by decide) ?_
    refine slv_goto eX2_isName_7 ?_
    refine slv_zret eX2_isName_11 rfl rfl ?_
    exact ⟨rfl, rfl⟩
set_option maxRecDepth 100000 in
theorem c_X2_itemAt {b : Nat} {g : sg_T} {M : sl_M} (hg : sg_at b g M) {r i : Nat} (hr : r < 12) (hi : i < 5) : sl_R YX2_itemAt 0 [.ref b, .int (nI r), .int (nI i)] M (some (.int (nI (sg_items g (5 * r + i))))) M := by
  obtain ⟨g0, g1, g2, g3, g4, g5, g6, g7⟩ := hg
  refine sl_T.of_V (lv := [_, _, _]) (by decide) rfl (Nat.le_of_ble_eq_true rfl) ?_
  refine slv_aload_n eX2_itemAt_0 rfl ?_
  refine slv_getf eX2_itemAt_1 fX2_27 (by repeat (first | assumption | exact sl_up_eq | refine sl_up_ne (by first | decide | omega) ?_)) rfl ?_
  refine slv_iload_n eX2_itemAt_4 rfl ?_
  refine slv_iconst (v := nI 5) eX2_itemAt_5 (by decide) ?_
  refine slv_imulN eX2_itemAt_6 ?_
  refine slv_iload_n eX2_itemAt_7 rfl ?_
  refine slv_iaddN eX2_itemAt_8 ?_
  refine slv_ialdN eX2_itemAt_9 (by repeat (first | assumption | exact sl_up_eq | refine sl_up_ne (by first | decide | omega) ?_)) (by omega) (by decide) ?_
  refine slv_iret eX2_itemAt_10 rfl ?_
  exact ⟨by rw [Nat.mul_comm], rfl⟩
set_option maxRecDepth 100000 in
theorem c_X2_terminalNumber {b : Nat} {g : sg_T} {M : sl_M} (hg : sg_at b g M) (hok : sg_ok g) (x : Int32) : sl_R YX2_terminalNumber 0 [.ref b, .int x] M (some (.int (sl_ff (fun t => decide (nI (sg_signs g t) = x)) (sg_terms g) 0))) M := by
  obtain ⟨g0, g1, g2, g3, g4, g5, g6, g7⟩ := hg
  obtain ⟨k0, k1, k2, k3, k4, k5, k6⟩ := hok
  refine sl_T.of_V (lv := [_, _, _]) (by decide) rfl (Nat.le_of_ble_eq_true rfl) ?_
  have loop : ∀ n i : Nat, i + n = sg_terms g → ∀ Q : Option Value → sl_M → Prop, Q (some (.int (sl_ff (fun t => decide (nI (sg_signs g t) = x)) n i))) M → sl_V YX2_terminalNumber none 0 0 0 Q 2 [some (.ref b), some (.int x), some (.int (nI i))] [] M := by
    intro n
    induction n with
    | zero =>
      intro i hi Q hQ
      refine slv_iload_n eX2_terminalNumber_2 rfl ?_
      refine slv_aload_n eX2_terminalNumber_3 rfl ?_
      refine slv_getf eX2_terminalNumber_4 fX2_44 (by repeat (first | assumption | exact sl_up_eq | refine sl_up_ne (by first | decide | omega) ?_)) rfl ?_
      refine slv_icmp_geN eX2_terminalNumber_7 (by omega) (by omega) (fun h7 => ?_) (fun h7 => absurd h7 (by omega))
      refine slv_iconst (v := (-1)) eX2_terminalNumber_28 (by decide) ?_
      refine slv_iret eX2_terminalNumber_29 rfl ?_
      exact hQ
    | succ n ih =>
      intro i hi Q hQ
      refine slv_iload_n eX2_terminalNumber_2 rfl ?_
      refine slv_aload_n eX2_terminalNumber_3 rfl ?_
      refine slv_getf eX2_terminalNumber_4 fX2_44 (by repeat (first | assumption | exact sl_up_eq | refine sl_up_ne (by first | decide | omega) ?_)) rfl ?_
      refine slv_icmp_geN eX2_terminalNumber_7 (by omega) (by omega) (fun h7 => absurd h7 (by omega)) (fun h7 => ?_)
      refine slv_aload_n eX2_terminalNumber_10 rfl ?_
      refine slv_getf eX2_terminalNumber_11 fX2_15 (by repeat (first | assumption | exact sl_up_eq | refine sl_up_ne (by first | decide | omega) ?_)) rfl ?_
      refine slv_iload_n eX2_terminalNumber_14 rfl ?_
      refine slv_ialdN eX2_terminalNumber_15 (by repeat (first | assumption | exact sl_up_eq | refine sl_up_ne (by first | decide | omega) ?_)) (by omega) (by decide) ?_
      refine slv_iload_n eX2_terminalNumber_16 rfl ?_
      refine slv_icmp_ne eX2_terminalNumber_17 (fun h17 => ?_) (fun h17 => ?_)
      · refine slv_iincN (lv' := [_, _, _]) eX2_terminalNumber_22 rfl (by decide) rfl ?_
        refine slv_goto eX2_terminalNumber_25 ?_
        refine ih (i + 1) (by omega) Q ?_
        simpa [sl_ff, h17] using hQ
      · refine slv_iload_n eX2_terminalNumber_20 rfl ?_
        refine slv_iret eX2_terminalNumber_21 rfl ?_
        simpa [sl_ff, h17] using hQ
  refine slv_iconst (v := nI 0) eX2_terminalNumber_0 (by decide) ?_
  refine slv_istore_n (i := 2) (lv' := [_, _, _]) eX2_terminalNumber_1 rfl (by decide) rfl ?_
  exact loop (sg_terms g) 0 (by omega) _ ⟨rfl, rfl⟩
set_option maxRecDepth 100000 in
theorem c_X2_nameNumber {b : Nat} {g : sg_T} {M : sl_M} (hg : sg_at b g M) (hok : sg_ok g) (x : Int32) : sl_R YX2_nameNumber 0 [.ref b, .int x] M (some (.int (sl_ff (fun t => decide (sg_words g t = x)) (sg_names g) 0))) M := by
  obtain ⟨g0, g1, g2, g3, g4, g5, g6, g7⟩ := hg
  obtain ⟨k0, k1, k2, k3, k4, k5, k6⟩ := hok
  refine sl_T.of_V (lv := [_, _, _]) (by decide) rfl (Nat.le_of_ble_eq_true rfl) ?_
  have loop : ∀ n i : Nat, i + n = sg_names g → ∀ Q : Option Value → sl_M → Prop, Q (some (.int (sl_ff (fun t => decide (sg_words g t = x)) n i))) M → sl_V YX2_nameNumber none 0 0 0 Q 2 [some (.ref b), some (.int x), some (.int (nI i))] [] M := by
    intro n
    induction n with
    | zero =>
      intro i hi Q hQ
      refine slv_iload_n eX2_nameNumber_2 rfl ?_
      refine slv_aload_n eX2_nameNumber_3 rfl ?_
      refine slv_getf eX2_nameNumber_4 fX2_41 (by repeat (first | assumption | exact sl_up_eq | refine sl_up_ne (by first | decide | omega) ?_)) rfl ?_
      refine slv_icmp_geN eX2_nameNumber_7 (by omega) (by omega) (fun h7 => ?_) (fun h7 => absurd h7 (by omega))
      refine slv_iconst (v := (-1)) eX2_nameNumber_28 (by decide) ?_
      refine slv_iret eX2_nameNumber_29 rfl ?_
      exact hQ
    | succ n ih =>
      intro i hi Q hQ
      refine slv_iload_n eX2_nameNumber_2 rfl ?_
      refine slv_aload_n eX2_nameNumber_3 rfl ?_
      refine slv_getf eX2_nameNumber_4 fX2_41 (by repeat (first | assumption | exact sl_up_eq | refine sl_up_ne (by first | decide | omega) ?_)) rfl ?_
      refine slv_icmp_geN eX2_nameNumber_7 (by omega) (by omega) (fun h7 => absurd h7 (by omega)) (fun h7 => ?_)
      refine slv_aload_n eX2_nameNumber_10 rfl ?_
      refine slv_getf eX2_nameNumber_11 fX2_9 (by repeat (first | assumption | exact sl_up_eq | refine sl_up_ne (by first | decide | omega) ?_)) rfl ?_
      refine slv_iload_n eX2_nameNumber_14 rfl ?_
      refine slv_ialdN eX2_nameNumber_15 (by repeat (first | assumption | exact sl_up_eq | refine sl_up_ne (by first | decide | omega) ?_)) (by omega) (by decide) ?_
      refine slv_iload_n eX2_nameNumber_16 rfl ?_
      refine slv_icmp_ne eX2_nameNumber_17 (fun h17 => ?_) (fun h17 => ?_)
      · refine slv_iincN (lv' := [_, _, _]) eX2_nameNumber_22 rfl (by decide) rfl ?_
        refine slv_goto eX2_nameNumber_25 ?_
        refine ih (i + 1) (by omega) Q ?_
        simpa [sl_ff, h17] using hQ
      · refine slv_iload_n eX2_nameNumber_20 rfl ?_
        refine slv_iret eX2_nameNumber_21 rfl ?_
        simpa [sl_ff, h17] using hQ
  refine slv_iconst (v := nI 0) eX2_nameNumber_0 (by decide) ?_
  refine slv_istore_n (i := 2) (lv' := [_, _, _]) eX2_nameNumber_1 rfl (by decide) rfl ?_
  exact loop (sg_names g) 0 (by omega) _ ⟨rfl, rfl⟩
set_option maxRecDepth 100000 in
theorem c_X2_isHead {b : Nat} {g : sg_T} {M : sl_M} (hg : sg_at b g M) (hok : sg_ok g) {x : Nat} (hx : x < 100) : sl_R YX2_isHead 0 [.ref b, .int (nI x)] M (some (.int (sl_bi (sl_ex (fun t => decide (sg_heads g t = x)) (sg_rules g) 0)))) M := by
  obtain ⟨g0, g1, g2, g3, g4, g5, g6, g7⟩ := hg
  obtain ⟨k0, k1, k2, k3, k4, k5, k6⟩ := hok
  refine sl_T.of_V (lv := [_, _, _]) (by decide) rfl (Nat.le_of_ble_eq_true rfl) ?_
  have loop : ∀ n i : Nat, i + n = sg_rules g → ∀ Q : Option Value → sl_M → Prop, Q (some (.int (sl_bi (sl_ex (fun t => decide (sg_heads g t = x)) n i)))) M → sl_V YX2_isHead none 0 0 0 Q 2 [some (.ref b), some (.int (nI x)), some (.int (nI i))] [] M := by
    intro n
    induction n with
    | zero =>
      intro i hi Q hQ
      refine slv_iload_n eX2_isHead_2 rfl ?_
      refine slv_aload_n eX2_isHead_3 rfl ?_
      refine slv_getf eX2_isHead_4 fX2_38 (by repeat (first | assumption | exact sl_up_eq | refine sl_up_ne (by first | decide | omega) ?_)) rfl ?_
      refine slv_icmp_geN eX2_isHead_7 (by omega) (by omega) (fun h7 => ?_) (fun h7 => absurd h7 (by omega))
      refine slv_iconst (v := nI 0) eX2_isHead_28 (by decide) ?_
      refine slv_zret eX2_isHead_29 rfl rfl ?_
      exact hQ
    | succ n ih =>
      intro i hi Q hQ
      have hh := (k5 i (by omega)).1
      refine slv_iload_n eX2_isHead_2 rfl ?_
      refine slv_aload_n eX2_isHead_3 rfl ?_
      refine slv_getf eX2_isHead_4 fX2_38 (by repeat (first | assumption | exact sl_up_eq | refine sl_up_ne (by first | decide | omega) ?_)) rfl ?_
      refine slv_icmp_geN eX2_isHead_7 (by omega) (by omega) (fun h7 => absurd h7 (by omega)) (fun h7 => ?_)
      refine slv_aload_n eX2_isHead_10 rfl ?_
      refine slv_getf eX2_isHead_11 fX2_18 (by repeat (first | assumption | exact sl_up_eq | refine sl_up_ne (by first | decide | omega) ?_)) rfl ?_
      refine slv_iload_n eX2_isHead_14 rfl ?_
      refine slv_ialdN eX2_isHead_15 (by repeat (first | assumption | exact sl_up_eq | refine sl_up_ne (by first | decide | omega) ?_)) (by omega) (by decide) ?_
      refine slv_iload_n eX2_isHead_16 rfl ?_
      refine slv_icmp_neN eX2_isHead_17 (by omega) (by omega) (fun h17 => ?_) (fun h17 => ?_)
      · refine slv_iincN (lv' := [_, _, _]) eX2_isHead_22 rfl (by decide) rfl ?_
        refine slv_goto eX2_isHead_25 ?_
        refine ih (i + 1) (by omega) Q ?_
        simpa [sl_ex, h17] using hQ
      · refine slv_iconst (v := nI 1) eX2_isHead_20 (by decide) ?_
        refine slv_zret eX2_isHead_21 rfl rfl ?_
        simp only [sl_ex, h17, decide_true, Bool.true_or] at hQ
        exact hQ
  refine slv_iconst (v := nI 0) eX2_isHead_0 (by decide) ?_
  refine slv_istore_n (i := 2) (lv' := [_, _, _]) eX2_isHead_1 rfl (by decide) rfl ?_
  exact loop (sg_rules g) 0 (by omega) _ ⟨rfl, rfl⟩
/-- item i of rule r -/
abbrev sg_it (g : sg_T) (r i : Nat) : Nat := sg_items g (5 * r + i)
abbrev sg_nm (k : Nat) : Bool := decide (100 ≤ k)
theorem sg_it_lt {g : sg_T} (hok : sg_ok g) {r i : Nat} (hr : r < 12) (hi : i < 5) : sg_items g (5 * r + i) < 1000 := by
  have := hok.2.2.2.2.2.2.1 (5 * r + i) (by omega)
  omega
set_option maxRecDepth 100000 in
theorem c_X2_namesAmong {b : Nat} {g : sg_T} {M : sl_M} (hg : sg_at b g M) (hok : sg_ok g) {r : Nat} (hr : r < 12) : sl_R YX2_namesAmong 1 [.ref b, .int (nI r)] M (some (.int (nI (sl_ct (fun i => sg_nm (sg_it g r i)) (sg_lens g r) 0)))) M := by
  have hg' := hg
  have hok' := hok
  obtain ⟨g0, g1, g2, g3, g4, g5, g6, g7⟩ := hg
  obtain ⟨k0, k1, k2, k3, k4, k5, k6⟩ := hok
  have hl : sg_lens g r ≤ 5 := (k5 r hr).2.2
  refine sl_T.of_V (lv := [_, _, _, _]) (by decide) rfl (Nat.le_of_ble_eq_true rfl) ?_
  have loop : ∀ n i a : Nat, i + n = sg_lens g r → ∀ Q : Option Value → sl_M → Prop, Q (some (.int (nI (a + sl_ct (fun i => sg_nm (sg_it g r i)) n i)))) M → sl_V YX2_namesAmong none 1 0 0 Q 4 [some (.ref b), some (.int (nI r)), some (.int (nI a)), some (.int (nI i))] [] M := by
    intro n
    induction n with
    | zero =>
      intro i a hi Q hQ
      refine slv_iload_n eX2_namesAmong_4 rfl ?_
      refine slv_aload_n eX2_namesAmong_5 rfl ?_
      refine slv_getf eX2_namesAmong_6 fX2_24 (by repeat (first | assumption | exact sl_up_eq | refine sl_up_ne (by first | decide | omega) ?_)) rfl ?_
      refine slv_iload_n eX2_namesAmong_9 rfl ?_
      refine slv_ialdN eX2_namesAmong_10 (by repeat (first | assumption | exact sl_up_eq | refine sl_up_ne (by first | decide | omega) ?_)) (by omega) (by decide) ?_
      refine slv_icmp_geN eX2_namesAmong_11 (by omega) (by omega) (fun h11 => ?_) (fun h11 => absurd h11 (by omega))
      refine slv_iload_n eX2_namesAmong_35 rfl ?_
      refine slv_iret eX2_namesAmong_36 rfl ?_
      exact hQ
    | succ n ih =>
      intro i a hi Q hQ
      refine slv_iload_n eX2_namesAmong_4 rfl ?_
      refine slv_aload_n eX2_namesAmong_5 rfl ?_
      refine slv_getf eX2_namesAmong_6 fX2_24 (by repeat (first | assumption | exact sl_up_eq | refine sl_up_ne (by first | decide | omega) ?_)) rfl ?_
      refine slv_iload_n eX2_namesAmong_9 rfl ?_
      refine slv_ialdN eX2_namesAmong_10 (by repeat (first | assumption | exact sl_up_eq | refine sl_up_ne (by first | decide | omega) ?_)) (by omega) (by decide) ?_
      refine slv_icmp_geN eX2_namesAmong_11 (by omega) (by omega) (fun h11 => absurd h11 (by omega)) (fun h11 => ?_)
      refine slv_aload_n eX2_namesAmong_14 rfl ?_
      refine slv_iload_n eX2_namesAmong_15 rfl ?_
      refine slv_iload_n eX2_namesAmong_16 rfl ?_
      refine slv_rV (As := [_, _]) eX2_namesAmong_17 lX2_47 rfl rfl (by repeat (first | assumption | exact sl_up_eq | refine sl_up_ne (by first | decide | omega) ?_)) rfl (c_X2_itemAt hg' hr (by omega)) (by decide) (Nat.le_of_ble_eq_true rfl) ?_
      refine slv_rS (As := [_]) eX2_namesAmong_20 lX2_51 rfl rfl (c_X2_isName M _ (sg_it_lt hok' hr (by omega))) (by decide) (Nat.le_of_ble_eq_true rfl) ?_
      refine slv_if_eqB eX2_namesAmong_23 (fun h23 => ?_) (fun h23 => ?_)
      · refine slv_iincN (lv' := [_, _, _, _]) eX2_namesAmong_29 rfl (by decide) rfl ?_
        refine slv_goto eX2_namesAmong_32 ?_
        refine ih (i + 1) _ (by omega) Q ?_
        simp only [sl_ct, h23, cond_true, cond_false] at hQ
        first | (rw [Nat.zero_add] at hQ; exact hQ) | (rw [← Nat.add_assoc] at hQ; exact hQ)
      · refine slv_iincN (lv' := [_, _, _, _]) eX2_namesAmong_26 rfl (by decide) rfl ?_
        refine slv_iincN (lv' := [_, _, _, _]) eX2_namesAmong_29 rfl (by decide) rfl ?_
        refine slv_goto eX2_namesAmong_32 ?_
        refine ih (i + 1) _ (by omega) Q ?_
        simp only [sl_ct, h23, cond_true, cond_false] at hQ
        first | (rw [Nat.zero_add] at hQ; exact hQ) | (rw [← Nat.add_assoc] at hQ; exact hQ)
  refine slv_iconst (v := nI 0) eX2_namesAmong_0 (by decide) ?_
  refine slv_istore_n (i := 2) (lv' := [_, _, _, _]) eX2_namesAmong_1 rfl (by decide) rfl ?_
  refine slv_iconst (v := nI 0) eX2_namesAmong_2 (by decide) ?_
  refine slv_istore_n (i := 3) (lv' := [_, _, _, _]) eX2_namesAmong_3 rfl (by decide) rfl ?_
  refine loop (sg_lens g r) 0 0 (by omega) _ ⟨by rw [Nat.zero_add], rfl⟩
/-- rule r has a skeleton -/
def sg_sk (g : sg_T) (r : Nat) : Bool := !(decide (sg_lens g r = 1) && sg_nm (sg_it g r 0))
set_option maxRecDepth 100000 in
theorem c_X2_hasSkeleton {b : Nat} {g : sg_T} {M : sl_M} (hg : sg_at b g M) (hok : sg_ok g) {r : Nat} (hr : r < 12) : sl_R YX2_hasSkeleton 1 [.ref b, .int (nI r)] M (some (.int (sl_bi (sg_sk g r)))) M := by
  have hg' := hg
  have hok' := hok
  obtain ⟨g0, g1, g2, g3, g4, g5, g6, g7⟩ := hg
  obtain ⟨k0, k1, k2, k3, k4, k5, k6⟩ := hok
  have hl : sg_lens g r ≤ 5 := (k5 r hr).2.2
  refine sl_T.of_V (lv := [_, _]) (by decide) rfl (Nat.le_of_ble_eq_true rfl) ?_
  refine slv_aload_n eX2_hasSkeleton_0 rfl ?_
  refine slv_getf eX2_hasSkeleton_1 fX2_24 (by repeat (first | assumption | exact sl_up_eq | refine sl_up_ne (by first | decide | omega) ?_)) rfl ?_
  refine slv_iload_n eX2_hasSkeleton_4 rfl ?_
  refine slv_ialdN eX2_hasSkeleton_5 (by repeat (first | assumption | exact sl_up_eq | refine sl_up_ne (by first | decide | omega) ?_)) (by omega) (by decide) ?_
  refine slv_iconst (v := nI 1) eX2_hasSkeleton_6 (by decide) ?_
  refine slv_icmp_neN eX2_hasSkeleton_7 (by omega) (by omega) (fun h7 => ?_) (fun h7 => ?_)
  · refine slv_iconst (v := nI 1) eX2_hasSkeleton_22 (by decide) ?_
    refine slv_goto eX2_hasSkeleton_23 ?_
    refine slv_zret eX2_hasSkeleton_27 rfl rfl ?_
    exact ⟨by first | (rw [sg_sk, decide_eq_false h7]; rfl) | (rw [sg_sk, decide_eq_true h7, show sg_nm (sg_it g r 0) = _ from h19]; rfl), rfl⟩
  · refine slv_aload_n eX2_hasSkeleton_10 rfl ?_
    refine slv_iload_n eX2_hasSkeleton_11 rfl ?_
    refine slv_iconst (v := nI 0) eX2_hasSkeleton_12 (by decide) ?_
    refine slv_rV (As := [_, _]) eX2_hasSkeleton_13 lX2_47 rfl rfl (by repeat (first | assumption | exact sl_up_eq | refine sl_up_ne (by first | decide | omega) ?_)) rfl (c_X2_itemAt (i := 0) hg' hr (by omega)) (by decide) (Nat.le_of_ble_eq_true rfl) ?_
    refine slv_rS (As := [_]) eX2_hasSkeleton_16 lX2_51 rfl rfl (c_X2_isName M _ (sg_it_lt hok' hr (by omega))) (by decide) (Nat.le_of_ble_eq_true rfl) ?_
    refine slv_if_neB eX2_hasSkeleton_19 (fun h19 => ?_) (fun h19 => ?_)
    · refine slv_iconst (v := nI 0) eX2_hasSkeleton_26 (by decide) ?_
      refine slv_zret eX2_hasSkeleton_27 rfl rfl ?_
      exact ⟨by first | (rw [sg_sk, decide_eq_false h7]; rfl) | (rw [sg_sk, decide_eq_true h7, show sg_nm (sg_it g r 0) = _ from h19]; rfl), rfl⟩
    · refine slv_iconst (v := nI 1) eX2_hasSkeleton_22 (by decide) ?_
      refine slv_goto eX2_hasSkeleton_23 ?_
      refine slv_zret eX2_hasSkeleton_27 rfl rfl ?_
      exact ⟨by first | (rw [sg_sk, decide_eq_false h7]; rfl) | (rw [sg_sk, decide_eq_true h7, show sg_nm (sg_it g r 0) = _ from h19]; rfl), rfl⟩
/-- items a and b differ as parts of skeletons -/
def sg_df (a b : Nat) : Bool := !(decide (a = b)) && !(sg_nm a && sg_nm b)
def sg_same (g : sg_T) (r s : Nat) : Bool := decide (sg_lens g r = sg_lens g s) && !(sl_ex (fun i => sg_df (sg_it g r i) (sg_it g s i)) (sg_lens g r) 0)
set_option maxRecDepth 100000 in
theorem c_X2_sameSkeleton {b : Nat} {g : sg_T} {M : sl_M} (hg : sg_at b g M) (hok : sg_ok g) {r s : Nat} (hr : r < 12) (hs : s < 12) : sl_R YX2_sameSkeleton 1 [.ref b, .int (nI r), .int (nI s)] M (some (.int (sl_bi (sg_same g r s)))) M := by
  have hg' := hg
  have hok' := hok
  obtain ⟨g0, g1, g2, g3, g4, g5, g6, g7⟩ := hg
  obtain ⟨k0, k1, k2, k3, k4, k5, k6⟩ := hok
  have hl : sg_lens g r ≤ 5 := (k5 r hr).2.2
  have hl2 : sg_lens g s ≤ 5 := (k5 s hs).2.2
  refine sl_T.of_V (lv := [_, _, _, _, _, _]) (by decide) rfl (Nat.le_of_ble_eq_true rfl) ?_
  have loop : ∀ (n i : Nat) (v4 v5 : Option Value), i + n = sg_lens g r → ∀ Q : Option Value → sl_M → Prop, Q (some (.int (sl_bi (!(sl_ex (fun i => sg_df (sg_it g r i) (sg_it g s i)) n i))))) M → sl_V YX2_sameSkeleton none 1 0 0 Q 19 [some (.ref b), some (.int (nI r)), some (.int (nI s)), some (.int (nI i)), v4, v5] [] M := by
    intro n
    induction n with
    | zero =>
      intro i v4 v5 hi Q hQ
      refine slv_iload_n eX2_sameSkeleton_19 rfl ?_
      refine slv_aload_n eX2_sameSkeleton_20 rfl ?_
      refine slv_getf eX2_sameSkeleton_21 fX2_24 (by repeat (first | assumption | exact sl_up_eq | refine sl_up_ne (by first | decide | omega) ?_)) rfl ?_
      refine slv_iload_n eX2_sameSkeleton_24 rfl ?_
      refine slv_ialdN eX2_sameSkeleton_25 (by repeat (first | assumption | exact sl_up_eq | refine sl_up_ne (by first | decide | omega) ?_)) (by omega) (by decide) ?_
      refine slv_icmp_geN eX2_sameSkeleton_26 (by omega) (by omega) (fun h26 => ?_) (fun h26 => absurd h26 (by omega))
      refine slv_iconst (v := nI 1) eX2_sameSkeleton_76 (by decide) ?_
      refine slv_zret eX2_sameSkeleton_77 rfl rfl ?_
      exact hQ
    | succ n ih =>
      intro i v4 v5 hi Q hQ
      have i1 := sg_it_lt hok' hr (show i < 5 by omega)
      have i2 := sg_it_lt hok' hs (show i < 5 by omega)
      refine slv_iload_n eX2_sameSkeleton_19 rfl ?_
      refine slv_aload_n eX2_sameSkeleton_20 rfl ?_
      refine slv_getf eX2_sameSkeleton_21 fX2_24 (by repeat (first | assumption | exact sl_up_eq | refine sl_up_ne (by first | decide | omega) ?_)) rfl ?_
      refine slv_iload_n eX2_sameSkeleton_24 rfl ?_
      refine slv_ialdN eX2_sameSkeleton_25 (by repeat (first | assumption | exact sl_up_eq | refine sl_up_ne (by first | decide | omega) ?_)) (by omega) (by decide) ?_
      refine slv_icmp_geN eX2_sameSkeleton_26 (by omega) (by omega) (fun h26 => absurd h26 (by omega)) (fun h26 => ?_)
      refine slv_aload_n eX2_sameSkeleton_29 rfl ?_
      refine slv_iload_n eX2_sameSkeleton_30 rfl ?_
      refine slv_iload_n eX2_sameSkeleton_31 rfl ?_
      refine slv_rV (As := [_, _]) eX2_sameSkeleton_32 lX2_47 rfl rfl (by repeat (first | assumption | exact sl_up_eq | refine sl_up_ne (by first | decide | omega) ?_)) rfl (c_X2_itemAt hg' (by assumption) (by omega)) (by decide) (Nat.le_of_ble_eq_true rfl) ?_
      refine slv_istore (lv' := [_, _, _, _, _, _]) eX2_sameSkeleton_35 (by decide) rfl ?_
      refine slv_aload_n eX2_sameSkeleton_37 rfl ?_
      refine slv_iload_n eX2_sameSkeleton_38 rfl ?_
      refine slv_iload_n eX2_sameSkeleton_39 rfl ?_
      refine slv_rV (As := [_, _]) eX2_sameSkeleton_40 lX2_47 rfl rfl (by repeat (first | assumption | exact sl_up_eq | refine sl_up_ne (by first | decide | omega) ?_)) rfl (c_X2_itemAt hg' (by assumption) (by omega)) (by decide) (Nat.le_of_ble_eq_true rfl) ?_
      refine slv_istore (lv' := [_, _, _, _, _, _]) eX2_sameSkeleton_43 (by decide) rfl ?_
      refine slv_iload eX2_sameSkeleton_45 rfl ?_
      refine slv_iload eX2_sameSkeleton_47 rfl ?_
      refine slv_icmp_eqN eX2_sameSkeleton_49 (by omega) (by omega) (fun h49 => ?_) (fun h49 => ?_)
      · refine slv_iincN (lv' := [_, _, _, _, _, _]) eX2_sameSkeleton_70 rfl (by decide) rfl ?_
        refine slv_goto eX2_sameSkeleton_73 ?_
        have e : sg_df (sg_it g r i) (sg_it g s i) = false := by first | (rw [sg_df, decide_eq_true h49]; rfl) | (rw [sg_df, decide_eq_false h49, show sg_nm (sg_it g r i) = _ from h57, show sg_nm (sg_it g s i) = _ from h65]; rfl)
        refine ih (i + 1) _ _ (by omega) Q ?_
        simp only [sl_ex, e, Bool.false_or] at hQ
        exact hQ
      · refine slv_iload eX2_sameSkeleton_52 rfl ?_
        refine slv_rS (As := [_]) eX2_sameSkeleton_54 lX2_51 rfl rfl (c_X2_isName M _ (by assumption)) (by decide) (Nat.le_of_ble_eq_true rfl) ?_
        refine slv_if_eqB eX2_sameSkeleton_57 (fun h57 => ?_) (fun h57 => ?_)
        · refine slv_iconst (v := nI 0) eX2_sameSkeleton_68 (by decide) ?_
          refine slv_zret eX2_sameSkeleton_69 rfl rfl ?_
          have e : sg_df (sg_it g r i) (sg_it g s i) = true := by first | (rw [sg_df, decide_eq_false h49, show sg_nm (sg_it g r i) = _ from h57, show sg_nm (sg_it g s i) = _ from h65]; rfl) | (rw [sg_df, decide_eq_false h49, show sg_nm (sg_it g r i) = _ from h57]; rfl)
          simp only [sl_ex, e, Bool.true_or] at hQ
          exact hQ
        · refine slv_iload eX2_sameSkeleton_60 rfl ?_
          refine slv_rS (As := [_]) eX2_sameSkeleton_62 lX2_51 rfl rfl (c_X2_isName M _ (by assumption)) (by decide) (Nat.le_of_ble_eq_true rfl) ?_
          refine slv_if_neB eX2_sameSkeleton_65 (fun h65 => ?_) (fun h65 => ?_)
          · refine slv_iincN (lv' := [_, _, _, _, _, _]) eX2_sameSkeleton_70 rfl (by decide) rfl ?_
            refine slv_goto eX2_sameSkeleton_73 ?_
            have e : sg_df (sg_it g r i) (sg_it g s i) = false := by first | (rw [sg_df, decide_eq_true h49]; rfl) | (rw [sg_df, decide_eq_false h49, show sg_nm (sg_it g r i) = _ from h57, show sg_nm (sg_it g s i) = _ from h65]; rfl)
            refine ih (i + 1) _ _ (by omega) Q ?_
            simp only [sl_ex, e, Bool.false_or] at hQ
            exact hQ
          · refine slv_iconst (v := nI 0) eX2_sameSkeleton_68 (by decide) ?_
            refine slv_zret eX2_sameSkeleton_69 rfl rfl ?_
            have e : sg_df (sg_it g r i) (sg_it g s i) = true := by first | (rw [sg_df, decide_eq_false h49, show sg_nm (sg_it g r i) = _ from h57, show sg_nm (sg_it g s i) = _ from h65]; rfl) | (rw [sg_df, decide_eq_false h49, show sg_nm (sg_it g r i) = _ from h57]; rfl)
            simp only [sl_ex, e, Bool.true_or] at hQ
            exact hQ
  refine slv_aload_n eX2_sameSkeleton_0 rfl ?_
  refine slv_getf eX2_sameSkeleton_1 fX2_24 (by repeat (first | assumption | exact sl_up_eq | refine sl_up_ne (by first | decide | omega) ?_)) rfl ?_
  refine slv_iload_n eX2_sameSkeleton_4 rfl ?_
  refine slv_ialdN eX2_sameSkeleton_5 (by repeat (first | assumption | exact sl_up_eq | refine sl_up_ne (by first | decide | omega) ?_)) (by omega) (by decide) ?_
  refine slv_aload_n eX2_sameSkeleton_6 rfl ?_
  refine slv_getf eX2_sameSkeleton_7 fX2_24 (by repeat (first | assumption | exact sl_up_eq | refine sl_up_ne (by first | decide | omega) ?_)) rfl ?_
  refine slv_iload_n eX2_sameSkeleton_10 rfl ?_
  refine slv_ialdN eX2_sameSkeleton_11 (by repeat (first | assumption | exact sl_up_eq | refine sl_up_ne (by first | decide | omega) ?_)) (by omega) (by decide) ?_
  refine slv_icmp_eqN eX2_sameSkeleton_12 (by omega) (by omega) (fun h12 => ?_) (fun h12 => ?_)
  · refine slv_iconst (v := nI 0) eX2_sameSkeleton_17 (by decide) ?_
    refine slv_istore_n (i := 3) (lv' := [_, _, _, _, _, _]) eX2_sameSkeleton_18 rfl (by decide) rfl ?_
    refine loop (sg_lens g r) 0 _ _ (by omega) _ ⟨by rw [sg_same, decide_eq_true h12]; rfl, rfl⟩
  · refine slv_iconst (v := nI 0) eX2_sameSkeleton_15 (by decide) ?_
    refine slv_zret eX2_sameSkeleton_16 rfl rfl ?_
    exact ⟨by rw [sg_same, decide_eq_false h12]; rfl, rfl⟩

/-- rule r is a double of one before it -/
def sg_db (g : sg_T) (r : Nat) : Bool := !(sg_put g r) && sg_sk g r && sl_ex (fun s => !(sg_put g s) && sg_same g r s) r 0
set_option maxRecDepth 100000 in
theorem c_X2_isDouble {b : Nat} {g : sg_T} {M : sl_M} (hg : sg_at b g M) (hok : sg_ok g) {r : Nat} (hr : r < 12) : sl_R YX2_isDouble 2 [.ref b, .int (nI r)] M (some (.int (sl_bi (sg_db g r)))) M := by
  have hg' := hg
  have hok' := hok
  obtain ⟨g0, g1, g2, g3, g4, g5, g6, g7⟩ := hg
  obtain ⟨k0, k1, k2, k3, k4, k5, k6⟩ := hok
  refine sl_T.of_V (lv := [_, _, _]) (by decide) rfl (Nat.le_of_ble_eq_true rfl) ?_
  have loop : ∀ n i : Nat, i + n = r → ∀ Q : Option Value → sl_M → Prop, Q (some (.int (sl_bi (sl_ex (fun s => !(sg_put g s) && sg_same g r s) n i)))) M → sl_V YX2_isDouble none 2 0 0 Q 21 [some (.ref b), some (.int (nI r)), some (.int (nI i))] [] M := by
    intro n
    induction n with
    | zero =>
      intro i hi Q hQ
      refine slv_iload_n eX2_isDouble_21 rfl ?_
      refine slv_iload_n eX2_isDouble_22 rfl ?_
      refine slv_icmp_geN eX2_isDouble_23 (by omega) (by omega) (fun h23 => ?_) (fun h23 => absurd h23 (by omega))
      refine slv_iconst (v := nI 0) eX2_isDouble_52 (by decide) ?_
      refine slv_zret eX2_isDouble_53 rfl rfl ?_
      exact hQ
    | succ n ih =>
      intro i hi Q hQ
      refine slv_iload_n eX2_isDouble_21 rfl ?_
      refine slv_iload_n eX2_isDouble_22 rfl ?_
      refine slv_icmp_geN eX2_isDouble_23 (by omega) (by omega) (fun h23 => absurd h23 (by omega)) (fun h23 => ?_)
      refine slv_aload_n eX2_isDouble_26 rfl ?_
      refine slv_getf eX2_isDouble_27 fX2_30 (by repeat (first | assumption | exact sl_up_eq | refine sl_up_ne (by first | decide | omega) ?_)) rfl ?_
      refine slv_iload_n eX2_isDouble_30 rfl ?_
      refine slv_zaldN eX2_isDouble_31 (by repeat (first | assumption | exact sl_up_eq | refine sl_up_ne (by first | decide | omega) ?_)) (by omega) (by decide) ?_
      refine slv_if_neB eX2_isDouble_32 (fun h32 => ?_) (fun h32 => ?_)
      · refine slv_iincN (lv' := [_, _, _]) eX2_isDouble_46 rfl (by decide) rfl ?_
        refine slv_goto eX2_isDouble_49 ?_
        refine ih (i + 1) (by omega) Q ?_
        first | (simp only [sl_ex, h32, h41, Bool.not_true, Bool.not_false, Bool.true_and, Bool.false_and, Bool.false_or] at hQ; exact hQ) | (simp only [sl_ex, h32, Bool.not_true, Bool.not_false, Bool.true_and, Bool.false_and, Bool.false_or] at hQ; exact hQ)
      · refine slv_aload_n eX2_isDouble_35 rfl ?_
        refine slv_iload_n eX2_isDouble_36 rfl ?_
        refine slv_iload_n eX2_isDouble_37 rfl ?_
        refine slv_rV (As := [_, _]) eX2_isDouble_38 lX2_58 rfl rfl (by repeat (first | assumption | exact sl_up_eq | refine sl_up_ne (by first | decide | omega) ?_)) rfl (c_X2_sameSkeleton hg' hok' hr (by omega)) (by decide) (Nat.le_of_ble_eq_true rfl) ?_
        refine slv_if_eqB eX2_isDouble_41 (fun h41 => ?_) (fun h41 => ?_)
        · refine slv_iincN (lv' := [_, _, _]) eX2_isDouble_46 rfl (by decide) rfl ?_
          refine slv_goto eX2_isDouble_49 ?_
          refine ih (i + 1) (by omega) Q ?_
          first | (simp only [sl_ex, h32, h41, Bool.not_true, Bool.not_false, Bool.true_and, Bool.false_and, Bool.false_or] at hQ; exact hQ) | (simp only [sl_ex, h32, Bool.not_true, Bool.not_false, Bool.true_and, Bool.false_and, Bool.false_or] at hQ; exact hQ)
        · refine slv_iconst (v := nI 1) eX2_isDouble_44 (by decide) ?_
          refine slv_zret eX2_isDouble_45 rfl rfl ?_
          simp only [sl_ex, h32, h41, Bool.not_true, Bool.not_false, Bool.true_and, Bool.false_and, Bool.true_or] at hQ
          exact hQ
  refine slv_aload_n eX2_isDouble_0 rfl ?_
  refine slv_getf eX2_isDouble_1 fX2_30 (by repeat (first | assumption | exact sl_up_eq | refine sl_up_ne (by first | decide | omega) ?_)) rfl ?_
  refine slv_iload_n eX2_isDouble_4 rfl ?_
  refine slv_zaldN eX2_isDouble_5 (by repeat (first | assumption | exact sl_up_eq | refine sl_up_ne (by first | decide | omega) ?_)) (by omega) (by decide) ?_
  refine slv_if_neB eX2_isDouble_6 (fun h6 => ?_) (fun h6 => ?_)
  · refine slv_iconst (v := nI 0) eX2_isDouble_17 (by decide) ?_
    refine slv_zret eX2_isDouble_18 rfl rfl ?_
    exact ⟨by first | (rw [sg_db, h6]; rfl) | (rw [sg_db, h6, h14]; rfl), rfl⟩
  · refine slv_aload_n eX2_isDouble_9 rfl ?_
    refine slv_iload_n eX2_isDouble_10 rfl ?_
    refine slv_rV (As := [_]) eX2_isDouble_11 lX2_55 rfl rfl (by repeat (first | assumption | exact sl_up_eq | refine sl_up_ne (by first | decide | omega) ?_)) rfl (c_X2_hasSkeleton hg' hok' hr) (by decide) (Nat.le_of_ble_eq_true rfl) ?_
    refine slv_if_neB eX2_isDouble_14 (fun h14 => ?_) (fun h14 => ?_)
    · refine slv_iconst (v := nI 0) eX2_isDouble_19 (by decide) ?_
      refine slv_istore_n (i := 2) (lv' := [_, _, _]) eX2_isDouble_20 rfl (by decide) rfl ?_
      refine loop r 0 (by omega) _ ⟨by rw [sg_db, h6, h14]; rfl, rfl⟩
    · refine slv_iconst (v := nI 0) eX2_isDouble_17 (by decide) ?_
      refine slv_zret eX2_isDouble_18 rfl rfl ?_
      exact ⟨by first | (rw [sg_db, h6]; rfl) | (rw [sg_db, h6, h14]; rfl), rfl⟩
def sg_dbs (g : sg_T) : Int32 := sl_fo (fun r (a : Int32) => cond (sg_db g r) (a ||| (1 <<< (nI r &&& 31))) a) (sg_rules g) 0 0
set_option maxRecDepth 100000 in
theorem c_X2_doubleRules {b : Nat} {g : sg_T} {M : sl_M} (hg : sg_at b g M) (hok : sg_ok g) : sl_R YX2_doubleRules 3 [.ref b] M (some (.int (sg_dbs g))) M := by
  have hg' := hg
  have hok' := hok
  obtain ⟨g0, g1, g2, g3, g4, g5, g6, g7⟩ := hg
  obtain ⟨k0, k1, k2, k3, k4, k5, k6⟩ := hok
  refine sl_T.of_V (lv := [_, _, _]) (by decide) rfl (Nat.le_of_ble_eq_true rfl) ?_
  have loop : ∀ (n i : Nat) (a : Int32), i + n = sg_rules g → ∀ Q : Option Value → sl_M → Prop, Q (some (.int (sl_fo (fun r (a : Int32) => cond (sg_db g r) (a ||| (1 <<< (nI r &&& 31))) a) n i a))) M → sl_V YX2_doubleRules none 3 0 0 Q 4 [some (.ref b), some (.int a), some (.int (nI i))] [] M := by
    intro n
    induction n with
    | zero =>
      intro i a hi Q hQ
      refine slv_iload_n eX2_doubleRules_4 rfl ?_
      refine slv_aload_n eX2_doubleRules_5 rfl ?_
      refine slv_getf eX2_doubleRules_6 fX2_38 (by repeat (first | assumption | exact sl_up_eq | refine sl_up_ne (by first | decide | omega) ?_)) rfl ?_
      refine slv_icmp_geN eX2_doubleRules_9 (by omega) (by omega) (fun h9 => ?_) (fun h9 => absurd h9 (by omega))
      refine slv_iload_n eX2_doubleRules_32 rfl ?_
      refine slv_iret eX2_doubleRules_33 rfl ?_
      exact hQ
    | succ n ih =>
      intro i a hi Q hQ
      refine slv_iload_n eX2_doubleRules_4 rfl ?_
      refine slv_aload_n eX2_doubleRules_5 rfl ?_
      refine slv_getf eX2_doubleRules_6 fX2_38 (by repeat (first | assumption | exact sl_up_eq | refine sl_up_ne (by first | decide | omega) ?_)) rfl ?_
      refine slv_icmp_geN eX2_doubleRules_9 (by omega) (by omega) (fun h9 => absurd h9 (by omega)) (fun h9 => ?_)
      refine slv_aload_n eX2_doubleRules_12 rfl ?_
      refine slv_iload_n eX2_doubleRules_13 rfl ?_
      refine slv_rV (As := [_]) eX2_doubleRules_14 lX2_62 rfl rfl (by repeat (first | assumption | exact sl_up_eq | refine sl_up_ne (by first | decide | omega) ?_)) rfl (c_X2_isDouble hg' hok' (by omega)) (by decide) (Nat.le_of_ble_eq_true rfl) ?_
      refine slv_if_eqB eX2_doubleRules_17 (fun h17 => ?_) (fun h17 => ?_)
      · refine slv_iincN (lv' := [_, _, _]) eX2_doubleRules_26 rfl (by decide) rfl ?_
        refine slv_goto eX2_doubleRules_29 ?_
        refine ih (i + 1) _ (by omega) Q ?_
        simp only [sl_fo, h17, cond_true, cond_false] at hQ
        exact hQ
      · refine slv_iload_n eX2_doubleRules_20 rfl ?_
        refine slv_iconst (v := nI 1) eX2_doubleRules_21 (by decide) ?_
        refine slv_iload_n eX2_doubleRules_22 rfl ?_
        refine slv_ishl eX2_doubleRules_23 ?_
        refine slv_ior eX2_doubleRules_24 ?_
        refine slv_istore_n (i := 1) (lv' := [_, _, _]) eX2_doubleRules_25 rfl (by decide) rfl ?_
        refine slv_iincN (lv' := [_, _, _]) eX2_doubleRules_26 rfl (by decide) rfl ?_
        refine slv_goto eX2_doubleRules_29 ?_
        refine ih (i + 1) _ (by omega) Q ?_
        simp only [sl_fo, h17, cond_true, cond_false] at hQ
        exact hQ
  refine slv_iconst (v := nI 0) eX2_doubleRules_0 (by decide) ?_
  refine slv_istore_n (i := 1) (lv' := [_, _, _]) eX2_doubleRules_1 rfl (by decide) rfl ?_
  refine slv_iconst (v := nI 0) eX2_doubleRules_2 (by decide) ?_
  refine slv_istore_n (i := 2) (lv' := [_, _, _]) eX2_doubleRules_3 rfl (by decide) rfl ?_
  exact loop (sg_rules g) 0 _ (by omega) _ ⟨rfl, rfl⟩
set_option maxRecDepth 100000 in
theorem c_X2_putCount {b : Nat} {g : sg_T} {M : sl_M} (hg : sg_at b g M) (hok : sg_ok g) : sl_R YX2_putCount 0 [.ref b] M (some (.int (nI (sl_ct (sg_put g) (sg_rules g) 0)))) M := by
  obtain ⟨g0, g1, g2, g3, g4, g5, g6, g7⟩ := hg
  obtain ⟨k0, k1, k2, k3, k4, k5, k6⟩ := hok
  refine sl_T.of_V (lv := [_, _, _]) (by decide) rfl (Nat.le_of_ble_eq_true rfl) ?_
  have loop : ∀ n i a : Nat, i + n = sg_rules g → ∀ Q : Option Value → sl_M → Prop, Q (some (.int (nI (a + sl_ct (sg_put g) n i)))) M → sl_V YX2_putCount none 0 0 0 Q 4 [some (.ref b), some (.int (nI a)), some (.int (nI i))] [] M := by
    intro n
    induction n with
    | zero =>
      intro i a hi Q hQ
      refine slv_iload_n eX2_putCount_4 rfl ?_
      refine slv_aload_n eX2_putCount_5 rfl ?_
      refine slv_getf eX2_putCount_6 fX2_38 (by repeat (first | assumption | exact sl_up_eq | refine sl_up_ne (by first | decide | omega) ?_)) rfl ?_
      refine slv_icmp_geN eX2_putCount_9 (by omega) (by omega) (fun h9 => ?_) (fun h9 => absurd h9 (by omega))
      refine slv_iload_n eX2_putCount_30 rfl ?_
      refine slv_iret eX2_putCount_31 rfl ?_
      exact hQ
    | succ n ih =>
      intro i a hi Q hQ
      refine slv_iload_n eX2_putCount_4 rfl ?_
      refine slv_aload_n eX2_putCount_5 rfl ?_
      refine slv_getf eX2_putCount_6 fX2_38 (by repeat (first | assumption | exact sl_up_eq | refine sl_up_ne (by first | decide | omega) ?_)) rfl ?_
      refine slv_icmp_geN eX2_putCount_9 (by omega) (by omega) (fun h9 => absurd h9 (by omega)) (fun h9 => ?_)
      refine slv_aload_n eX2_putCount_12 rfl ?_
      refine slv_getf eX2_putCount_13 fX2_30 (by repeat (first | assumption | exact sl_up_eq | refine sl_up_ne (by first | decide | omega) ?_)) rfl ?_
      refine slv_iload_n eX2_putCount_16 rfl ?_
      refine slv_zaldN eX2_putCount_17 (by repeat (first | assumption | exact sl_up_eq | refine sl_up_ne (by first | decide | omega) ?_)) (by omega) (by decide) ?_
      refine slv_if_eqB eX2_putCount_18 (fun h18 => ?_) (fun h18 => ?_)
      · refine slv_iincN (lv' := [_, _, _]) eX2_putCount_24 rfl (by decide) rfl ?_
        refine slv_goto eX2_putCount_27 ?_
        refine ih (i + 1) _ (by omega) Q ?_
        simp only [sl_ct, h18, cond_true, cond_false] at hQ
        first | (rw [Nat.zero_add] at hQ; exact hQ) | (rw [← Nat.add_assoc] at hQ; exact hQ)
      · refine slv_iincN (lv' := [_, _, _]) eX2_putCount_21 rfl (by decide) rfl ?_
        refine slv_iincN (lv' := [_, _, _]) eX2_putCount_24 rfl (by decide) rfl ?_
        refine slv_goto eX2_putCount_27 ?_
        refine ih (i + 1) _ (by omega) Q ?_
        simp only [sl_ct, h18, cond_true, cond_false] at hQ
        first | (rw [Nat.zero_add] at hQ; exact hQ) | (rw [← Nat.add_assoc] at hQ; exact hQ)
  refine slv_iconst (v := nI 0) eX2_putCount_0 (by decide) ?_
  refine slv_istore_n (i := 1) (lv' := [_, _, _]) eX2_putCount_1 rfl (by decide) rfl ?_
  refine slv_iconst (v := nI 0) eX2_putCount_2 (by decide) ?_
  refine slv_istore_n (i := 2) (lv' := [_, _, _]) eX2_putCount_3 rfl (by decide) rfl ?_
  refine loop (sg_rules g) 0 0 (by omega) _ ⟨by rw [Nat.zero_add], rfl⟩
/-- name x has no rule that serves -/
def sg_bn (g : sg_T) (x : Nat) : Bool := !(sl_ex (fun r => decide (sg_heads g r = x) && !(sg_put g r)) (sg_rules g) 0)
set_option maxRecDepth 100000 in
theorem c_X2_isBarren {b : Nat} {g : sg_T} {M : sl_M} (hg : sg_at b g M) (hok : sg_ok g) {x : Nat} (hx : x < 100) : sl_R YX2_isBarren 0 [.ref b, .int (nI x)] M (some (.int (sl_bi (sg_bn g x)))) M := by
  obtain ⟨g0, g1, g2, g3, g4, g5, g6, g7⟩ := hg
  obtain ⟨k0, k1, k2, k3, k4, k5, k6⟩ := hok
  refine sl_T.of_V (lv := [_, _, _]) (by decide) rfl (Nat.le_of_ble_eq_true rfl) ?_
  have loop : ∀ n i : Nat, i + n = sg_rules g → ∀ Q : Option Value → sl_M → Prop, Q (some (.int (sl_bi (!(sl_ex (fun r => decide (sg_heads g r = x) && !(sg_put g r)) n i))))) M → sl_V YX2_isBarren none 0 0 0 Q 2 [some (.ref b), some (.int (nI x)), some (.int (nI i))] [] M := by
    intro n
    induction n with
    | zero =>
      intro i hi Q hQ
      refine slv_iload_n eX2_isBarren_2 rfl ?_
      refine slv_aload_n eX2_isBarren_3 rfl ?_
      refine slv_getf eX2_isBarren_4 fX2_38 (by repeat (first | assumption | exact sl_up_eq | refine sl_up_ne (by first | decide | omega) ?_)) rfl ?_
      refine slv_icmp_geN eX2_isBarren_7 (by omega) (by omega) (fun h7 => ?_) (fun h7 => absurd h7 (by omega))
      refine slv_iconst (v := nI 1) eX2_isBarren_37 (by decide) ?_
      refine slv_zret eX2_isBarren_38 rfl rfl ?_
      exact hQ
    | succ n ih =>
      intro i hi Q hQ
      have hh := (k5 i (by omega)).1
      refine slv_iload_n eX2_isBarren_2 rfl ?_
      refine slv_aload_n eX2_isBarren_3 rfl ?_
      refine slv_getf eX2_isBarren_4 fX2_38 (by repeat (first | assumption | exact sl_up_eq | refine sl_up_ne (by first | decide | omega) ?_)) rfl ?_
      refine slv_icmp_geN eX2_isBarren_7 (by omega) (by omega) (fun h7 => absurd h7 (by omega)) (fun h7 => ?_)
      refine slv_aload_n eX2_isBarren_10 rfl ?_
      refine slv_getf eX2_isBarren_11 fX2_18 (by repeat (first | assumption | exact sl_up_eq | refine sl_up_ne (by first | decide | omega) ?_)) rfl ?_
      refine slv_iload_n eX2_isBarren_14 rfl ?_
      refine slv_ialdN eX2_isBarren_15 (by repeat (first | assumption | exact sl_up_eq | refine sl_up_ne (by first | decide | omega) ?_)) (by omega) (by decide) ?_
      refine slv_iload_n eX2_isBarren_16 rfl ?_
      refine slv_icmp_neN eX2_isBarren_17 (by omega) (by omega) (fun h17 => ?_) (fun h17 => ?_)
      · refine slv_iincN (lv' := [_, _, _]) eX2_isBarren_31 rfl (by decide) rfl ?_
        refine slv_goto eX2_isBarren_34 ?_
        refine ih (i + 1) (by omega) Q ?_
        first | (simp only [sl_ex, h17, h26, decide_true, decide_false, Bool.not_true, Bool.not_false, Bool.true_and, Bool.false_and, Bool.false_or] at hQ; exact hQ) | (simp only [sl_ex, h17, decide_true, decide_false, Bool.not_true, Bool.not_false, Bool.true_and, Bool.false_and, Bool.false_or] at hQ; exact hQ)
      · refine slv_aload_n eX2_isBarren_20 rfl ?_
        refine slv_getf eX2_isBarren_21 fX2_30 (by repeat (first | assumption | exact sl_up_eq | refine sl_up_ne (by first | decide | omega) ?_)) rfl ?_
        refine slv_iload_n eX2_isBarren_24 rfl ?_
        refine slv_zaldN eX2_isBarren_25 (by repeat (first | assumption | exact sl_up_eq | refine sl_up_ne (by first | decide | omega) ?_)) (by omega) (by decide) ?_
        refine slv_if_neB eX2_isBarren_26 (fun h26 => ?_) (fun h26 => ?_)
        · refine slv_iincN (lv' := [_, _, _]) eX2_isBarren_31 rfl (by decide) rfl ?_
          refine slv_goto eX2_isBarren_34 ?_
          refine ih (i + 1) (by omega) Q ?_
          first | (simp only [sl_ex, h17, h26, decide_true, decide_false, Bool.not_true, Bool.not_false, Bool.true_and, Bool.false_and, Bool.false_or] at hQ; exact hQ) | (simp only [sl_ex, h17, decide_true, decide_false, Bool.not_true, Bool.not_false, Bool.true_and, Bool.false_and, Bool.false_or] at hQ; exact hQ)
        · refine slv_iconst (v := nI 0) eX2_isBarren_29 (by decide) ?_
          refine slv_zret eX2_isBarren_30 rfl rfl ?_
          simp only [sl_ex, h17, h26, decide_true, Bool.not_true, Bool.not_false, Bool.true_and, Bool.false_and, Bool.true_or] at hQ
          exact hQ
  refine slv_iconst (v := nI 0) eX2_isBarren_0 (by decide) ?_
  refine slv_istore_n (i := 2) (lv' := [_, _, _]) eX2_isBarren_1 rfl (by decide) rfl ?_
  exact loop (sg_rules g) 0 (by omega) _ ⟨rfl, rfl⟩
/-- barren name number k from name i on, n to look at; -1 -/
def sg_bnk (g : sg_T) : Nat → Nat → Nat → Int32
  | 0, _, _ => -1
  | n + 1, i, k => cond (sg_bn g i) (cond (decide (k = 0)) (nI i) (sg_bnk g n (i + 1) (k - 1))) (sg_bnk g n (i + 1) k)
set_option maxRecDepth 100000 in
theorem c_X2_barrenName {b : Nat} {g : sg_T} {M : sl_M} (hg : sg_at b g M) (hok : sg_ok g) {k : Nat} (hk : k < 2147483648) : sl_R YX2_barrenName 1 [.ref b, .int (nI k)] M (some (.int (sg_bnk g (sg_names g) 0 k))) M := by
  have hg' := hg
  have hok' := hok
  obtain ⟨g0, g1, g2, g3, g4, g5, g6, g7⟩ := hg
  obtain ⟨k0, k1, k2, k3, k4, k5, k6⟩ := hok
  refine sl_T.of_V (lv := [_, _, _, _]) (by decide) rfl (Nat.le_of_ble_eq_true rfl) ?_
  have loop : ∀ n i a : Nat, i + n = sg_names g → a < 2147483648 → ∀ Q : Option Value → sl_M → Prop, Q (some (.int (sg_bnk g n i a))) M → sl_V YX2_barrenName none 1 0 0 Q 4 [some (.ref b), some (.int (nI k)), some (.int (nI a)), some (.int (nI i))] [] M := by
    intro n
    induction n with
    | zero =>
      intro i a hi ha Q hQ
      refine slv_iload_n eX2_barrenName_4 rfl ?_
      refine slv_aload_n eX2_barrenName_5 rfl ?_
      refine slv_getf eX2_barrenName_6 fX2_41 (by repeat (first | assumption | exact sl_up_eq | refine sl_up_ne (by first | decide | omega) ?_)) rfl ?_
      refine slv_icmp_geN eX2_barrenName_9 (by omega) (by omega) (fun h9 => ?_) (fun h9 => absurd h9 (by omega))
      refine slv_iconst (v := (-1)) eX2_barrenName_35 (by decide) ?_
      refine slv_iret eX2_barrenName_36 rfl ?_
      exact hQ
    | succ n ih =>
      intro i a hi ha Q hQ
      refine slv_iload_n eX2_barrenName_4 rfl ?_
      refine slv_aload_n eX2_barrenName_5 rfl ?_
      refine slv_getf eX2_barrenName_6 fX2_41 (by repeat (first | assumption | exact sl_up_eq | refine sl_up_ne (by first | decide | omega) ?_)) rfl ?_
      refine slv_icmp_geN eX2_barrenName_9 (by omega) (by omega) (fun h9 => absurd h9 (by omega)) (fun h9 => ?_)
      refine slv_aload_n eX2_barrenName_12 rfl ?_
      refine slv_iload_n eX2_barrenName_13 rfl ?_
      refine slv_rV (As := [_]) eX2_barrenName_14 lX2_65 rfl rfl (by repeat (first | assumption | exact sl_up_eq | refine sl_up_ne (by first | decide | omega) ?_)) rfl (c_X2_isBarren hg' hok' (by omega)) (by decide) (Nat.le_of_ble_eq_true rfl) ?_
      refine slv_if_eqB eX2_barrenName_17 (fun h17 => ?_) (fun h17 => ?_)
      · refine slv_iincN (lv' := [_, _, _, _]) eX2_barrenName_29 rfl (by decide) rfl ?_
        refine slv_goto eX2_barrenName_32 ?_
        refine ih (i + 1) _ (by omega) (by omega) Q ?_
        first | (simp only [sg_bnk, h17, cond_false] at hQ; exact hQ) | (simp only [sg_bnk, h17, cond_true, decide_eq_false h21, cond_false] at hQ; exact hQ)
      · refine slv_iload_n eX2_barrenName_20 rfl ?_
        refine slv_if_neN eX2_barrenName_21 (by omega) (fun h21 => ?_) (fun h21 => ?_)
        · refine slv_idecN (lv' := [_, _, _, _]) eX2_barrenName_26 rfl (by decide) (by omega) rfl ?_
          refine slv_iincN (lv' := [_, _, _, _]) eX2_barrenName_29 rfl (by decide) rfl ?_
          refine slv_goto eX2_barrenName_32 ?_
          refine ih (i + 1) _ (by omega) (by omega) Q ?_
          first | (simp only [sg_bnk, h17, cond_false] at hQ; exact hQ) | (simp only [sg_bnk, h17, cond_true, decide_eq_false h21, cond_false] at hQ; exact hQ)
        · refine slv_iload_n eX2_barrenName_24 rfl ?_
          refine slv_iret eX2_barrenName_25 rfl ?_
          simp only [sg_bnk, h17, cond_true, decide_eq_true h21] at hQ
          exact hQ
  refine slv_iload_n eX2_barrenName_0 rfl ?_
  refine slv_istore_n (i := 2) (lv' := [_, _, _, _]) eX2_barrenName_1 rfl (by decide) rfl ?_
  refine slv_iconst (v := nI 0) eX2_barrenName_2 (by decide) ?_
  refine slv_istore_n (i := 3) (lv' := [_, _, _, _]) eX2_barrenName_3 rfl (by decide) rfl ?_
  exact loop (sg_names g) 0 k (by omega) hk _ ⟨rfl, rfl⟩

section GRG
variable {b ln : Nat} {R : gr_T} {g : sg_T} {M : sl_M}
set_option maxRecDepth 100000 in
theorem c_X3_takeItem (hS : st_all) (hb : b = 2 ∨ b = 10) (ht : gr_tk R ≤ 4) (hst : gr_st R ≤ 7) (hsg : gr_sg R < 256) (hok : sg_ok g) (hr : sg_rules g < 12) : sl_R YX3_takeItem 7 [.ref 18] (gp_S b ln R g M) none (gp_S b ln (gp_item R g).1 (gp_item R g).2 M) := by
  have hw := fun j hj => gr_isW (b := b) (ln := ln) (R := R) (g := g) (M := M) hS ht j hj
  have hW := c_X3_isNameWord (b := b) (ln := ln) (g := g) (M := M) hS ht
  have hF := fun k => c_X3_failWith (b := b) (ln := ln) (R := R) (g := g) (M := M) k
  have h1 := c_X3_takeNameItem (ln := ln) (R := R) (M := M) hb hok hr
  have h2 := c_X3_takeTerminalItem (ln := ln) (R := R) (M := M) hb hok hr hsg
  have h3 := c_X3_takeTerminalItem (ln := ln) (R := R) (M := M) (x := 0) hb hok hr (by decide)
  refine sl_T.of_V (lv := [_]) (by decide) rfl (Nat.le_of_ble_eq_true rfl) ?_
  have tail : (decide (gr_st R = 5) && gr_is R 7) = false → sl_V YX3_takeItem none 7 0 0 (fun r M1 => r = none ∧ M1 = gp_S b ln (gp_item R g).1 (gp_item R g).2 M) 26 [some (.ref 18)] [] (gp_S b ln R g M) := by
    intro h0
    unfold gp_item
    rw [h0]
    refine slv_aload_n eX3_takeItem_26 rfl ?_
    refine slv_rV (As := []) eX3_takeItem_27 lX3_160 rfl rfl (by repeat (first | assumption | exact sl_up_eq | refine sl_up_ne (by first | decide | omega) ?_)) rfl hW (by decide) (Nat.le_of_ble_eq_true rfl) ?_
    refine slv_if_eqB eX3_takeItem_30 (fun h30 => ?_) (fun h30 => ?_)
    · refine slv_aload_n eX3_takeItem_40 rfl ?_
      refine slv_getf eX3_takeItem_41 fX3_60 (by repeat (first | assumption | exact sl_up_eq | refine sl_up_ne (by first | decide | omega) ?_)) rfl ?_
      refine slv_iconst (v := nI 2) eX3_takeItem_44 (by decide) ?_
      refine slv_icmp_neN eX3_takeItem_45 (by omega) (by omega) (fun h45 => ?_) (fun h45 => ?_)
      · refine slv_aload_n eX3_takeItem_59 rfl ?_
        refine slv_ldcS (tx := "value") 8 eX3_takeItem_60 (by decide +kernel) ?_
        refine slv_rV (As := [_]) eX3_takeItem_62 lX3_117 rfl rfl (by repeat (first | assumption | exact sl_up_eq | refine sl_up_ne (by first | decide | omega) ?_)) rfl (hw 8 (by decide)) (by decide) (Nat.le_of_ble_eq_true rfl) ?_
        refine slv_if_eqB eX3_takeItem_65 (fun h65 => ?_) (fun h65 => ?_)
        · refine slv_aload_n eX3_takeItem_76 rfl ?_
          refine slv_iconst (v := nI 1) eX3_takeItem_77 (by decide) ?_
          refine slv_rV (As := [_]) eX3_takeItem_78 lX3_90 rfl rfl (by repeat (first | assumption | exact sl_up_eq | refine sl_up_ne (by first | decide | omega) ?_)) rfl (hF 1) (by decide) (Nat.le_of_ble_eq_true rfl) ?_
          refine slv_vret eX3_takeItem_81 rfl ?_
          refine ⟨rfl, ?_⟩
          first | (rw [h30, if_neg h45, h65]; rfl) | (rw [h30, if_pos h45]; rfl) | (rw [h30]; rfl)
        · refine slv_aload_n eX3_takeItem_68 rfl ?_
          refine slv_iconst (v := nI 0) eX3_takeItem_69 (by decide) ?_
          refine slv_rV (As := [_]) eX3_takeItem_70 lX3_176 rfl rfl (by repeat (first | assumption | exact sl_up_eq | refine sl_up_ne (by first | decide | omega) ?_)) rfl h3 (by decide) (Nat.le_of_ble_eq_true rfl) ?_
          refine slv_goto eX3_takeItem_73 ?_
          refine slv_vret eX3_takeItem_81 rfl ?_
          refine ⟨rfl, ?_⟩
          first | (rw [h30, if_neg h45, h65]; rfl) | (rw [h30, if_pos h45]; rfl) | (rw [h30]; rfl)
      · refine slv_aload_n eX3_takeItem_48 rfl ?_
        refine slv_aload_n eX3_takeItem_49 rfl ?_
        refine slv_getf eX3_takeItem_50 fX3_77 (by repeat (first | assumption | exact sl_up_eq | refine sl_up_ne (by first | decide | omega) ?_)) rfl ?_
        refine slv_rV (As := [_]) eX3_takeItem_53 lX3_176 rfl rfl (by repeat (first | assumption | exact sl_up_eq | refine sl_up_ne (by first | decide | omega) ?_)) rfl h2 (by decide) (Nat.le_of_ble_eq_true rfl) ?_
        refine slv_goto eX3_takeItem_56 ?_
        refine slv_vret eX3_takeItem_81 rfl ?_
        refine ⟨rfl, ?_⟩
        first | (rw [h30, if_neg h45, h65]; rfl) | (rw [h30, if_pos h45]; rfl) | (rw [h30]; rfl)
    · refine slv_aload_n eX3_takeItem_33 rfl ?_
      refine slv_rV (As := []) eX3_takeItem_34 lX3_173 rfl rfl (by repeat (first | assumption | exact sl_up_eq | refine sl_up_ne (by first | decide | omega) ?_)) rfl h1 (by decide) (Nat.le_of_ble_eq_true rfl) ?_
      refine slv_goto eX3_takeItem_37 ?_
      refine slv_vret eX3_takeItem_81 rfl ?_
      refine ⟨rfl, ?_⟩
      first | (rw [h30, if_neg h45, h65]; rfl) | (rw [h30, if_pos h45]; rfl) | (rw [h30]; rfl)
  refine slv_aload_n eX3_takeItem_0 rfl ?_
  refine slv_getf eX3_takeItem_1 fX3_31 (by repeat (first | assumption | exact sl_up_eq | refine sl_up_ne (by first | decide | omega) ?_)) rfl ?_
  refine slv_iconst (v := nI 5) eX3_takeItem_4 (by decide) ?_
  refine slv_icmp_neN eX3_takeItem_5 (by omega) (by omega) (fun h5 => ?_) (fun h5 => ?_)
  · first | exact tail (by rw [decide_eq_true h5, h14]; rfl) | exact tail (by rw [decide_eq_false h5]; rfl)
  · refine slv_aload_n eX3_takeItem_8 rfl ?_
    refine slv_ldcS (tx := "does") 7 eX3_takeItem_9 (by decide +kernel) ?_
    refine slv_rV (As := [_]) eX3_takeItem_11 lX3_117 rfl rfl (by repeat (first | assumption | exact sl_up_eq | refine sl_up_ne (by first | decide | omega) ?_)) rfl (hw 7 (by decide)) (by decide) (Nat.le_of_ble_eq_true rfl) ?_
    refine slv_if_eqB eX3_takeItem_14 (fun h14 => ?_) (fun h14 => ?_)
    · first | exact tail (by rw [decide_eq_true h5, h14]; rfl) | exact tail (by rw [decide_eq_false h5]; rfl)
    · refine slv_aload_n eX3_takeItem_17 rfl ?_
      refine slv_bipush (v := nI 6) eX3_takeItem_18 (by decide) ?_
      refine slv_putf (fs' := [_, _, _, _, _, _, _, _, _, _, _, _, _]) eX3_takeItem_20 fX3_31 (by repeat (first | assumption | exact sl_up_eq | refine sl_up_ne (by first | decide | omega) ?_)) (Nat.le_of_ble_eq_true rfl) rfl rfl rfl ?_
      refine slv_mem gr_u18 ?_
      refine slv_goto eX3_takeItem_23 ?_
      refine slv_vret eX3_takeItem_81 rfl ?_
      refine ⟨rfl, ?_⟩
      unfold gp_item
      rw [decide_eq_true h5, h14]
      rfl
set_option maxRecDepth 100000 in
theorem c_X3_deedText (M : sl_M) : ∀ d, d < 9 → sl_R YX3_deedText 0 [.int (nI d)] M (some (.ref (sl_X + 2 * gp_dt d))) M := by
  intro d hd
  rcases (show d = 0 ∨ d = 1 ∨ d = 2 ∨ d = 3 ∨ d = 4 ∨ d = 5 ∨ d = 6 ∨ d = 7 ∨ d = 8 by omega) with e | e | e | e | e | e | e | e | e <;> subst e <;> refine sl_T.of_V (lv := [_]) (by decide) rfl (Nat.le_of_ble_eq_true rfl) ?_
  · refine slv_iload_n eX3_deedText_0 rfl ?_
    refine slv_tableIn (off := 47) (t := 48) eX3_deedText_1 (by decide) (by decide) (by decide) (by decide) ?_
    refine slv_ldcS (tx := "add") 9 eX3_deedText_48 (by decide +kernel) ?_
    refine slv_aret eX3_deedText_50 rfl (Or.inl ⟨_, rfl⟩) ?_
    exact ⟨rfl, rfl⟩
  · refine slv_iload_n eX3_deedText_0 rfl ?_
    refine slv_tableIn (off := 50) (t := 51) eX3_deedText_1 (by decide) (by decide) (by decide) (by decide) ?_
    refine slv_ldcS (tx := "less") 10 eX3_deedText_51 (by decide +kernel) ?_
    refine slv_aret eX3_deedText_53 rfl (Or.inl ⟨_, rfl⟩) ?_
    exact ⟨rfl, rfl⟩
  · refine slv_iload_n eX3_deedText_0 rfl ?_
    refine slv_tableIn (off := 53) (t := 54) eX3_deedText_1 (by decide) (by decide) (by decide) (by decide) ?_
    refine slv_ldcS (tx := "times") 11 eX3_deedText_54 (by decide +kernel) ?_
    refine slv_aret eX3_deedText_56 rfl (Or.inl ⟨_, rfl⟩) ?_
    exact ⟨rfl, rfl⟩
  · refine slv_iload_n eX3_deedText_0 rfl ?_
    refine slv_tableIn (off := 56) (t := 57) eX3_deedText_1 (by decide) (by decide) (by decide) (by decide) ?_
    refine slv_ldcS (tx := "over") 12 eX3_deedText_57 (by decide +kernel) ?_
    refine slv_aret eX3_deedText_59 rfl (Or.inl ⟨_, rfl⟩) ?_
    exact ⟨rfl, rfl⟩
  · refine slv_iload_n eX3_deedText_0 rfl ?_
    refine slv_tableIn (off := 59) (t := 60) eX3_deedText_1 (by decide) (by decide) (by decide) (by decide) ?_
    refine slv_ldcS (tx := "minus") 13 eX3_deedText_60 (by decide +kernel) ?_
    refine slv_aret eX3_deedText_62 rfl (Or.inl ⟨_, rfl⟩) ?_
    exact ⟨rfl, rfl⟩
  · refine slv_iload_n eX3_deedText_0 rfl ?_
    refine slv_tableIn (off := 62) (t := 63) eX3_deedText_1 (by decide) (by decide) (by decide) (by decide) ?_
    refine slv_ldcS (tx := "same") 14 eX3_deedText_63 (by decide +kernel) ?_
    refine slv_aret eX3_deedText_65 rfl (Or.inl ⟨_, rfl⟩) ?_
    exact ⟨rfl, rfl⟩
  · refine slv_iload_n eX3_deedText_0 rfl ?_
    refine slv_tableIn (off := 65) (t := 66) eX3_deedText_1 (by decide) (by decide) (by decide) (by decide) ?_
    refine slv_ldcS (tx := "whole") 4 eX3_deedText_66 (by decide +kernel) ?_
    refine slv_aret eX3_deedText_68 rfl (Or.inl ⟨_, rfl⟩) ?_
    exact ⟨rfl, rfl⟩
  · refine slv_iload_n eX3_deedText_0 rfl ?_
    refine slv_tableIn (off := 68) (t := 69) eX3_deedText_1 (by decide) (by decide) (by decide) (by decide) ?_
    refine slv_ldcS (tx := "real") 5 eX3_deedText_69 (by decide +kernel) ?_
    refine slv_aret eX3_deedText_71 rfl (Or.inl ⟨_, rfl⟩) ?_
    exact ⟨rfl, rfl⟩
  · refine slv_iload_n eX3_deedText_0 rfl ?_
    refine slv_tableOut (t := 72) eX3_deedText_1 (by decide) (by decide) ?_
    refine slv_ldcS (tx := "value") 8 eX3_deedText_72 (by decide +kernel) ?_
    refine slv_aret eX3_deedText_74 rfl (Or.inl ⟨_, rfl⟩) ?_
    exact ⟨rfl, rfl⟩
theorem gp_dt_lt : ∀ d, d < 9 → gp_dt d < 15 := by decide
set_option maxRecDepth 100000 in
theorem c_X3_deedOfWord (hS : st_all) (ht : gr_tk R ≤ 4) : sl_R YX3_deedOfWord 6 [.ref 18] (gp_S b ln R g M) (some (.int (sl_io (gp_dw R)))) (gp_S b ln R g M) := by
  have hw := fun j hj => gr_isW (b := b) (ln := ln) (R := R) (g := g) (M := M) hS ht j hj
  refine sl_T.of_V (lv := [_, _]) (by decide) rfl (Nat.le_of_ble_eq_true rfl) ?_
  have loop : ∀ (n i : Nat), i + n = 9 → ∀ Q : Option Value → sl_M → Prop, Q (some (.int (sl_io (sl_fn (fun d => gr_is R (gp_dt d)) n i)))) (gp_S b ln R g M) → sl_V YX3_deedOfWord none 6 0 0 Q 2 [some (.ref 18), some (.int (nI i))] [] (gp_S b ln R g M) := by
    intro n
    induction n with
    | zero =>
      intro i hi Q hQ
      refine slv_iload_n eX3_deedOfWord_2 rfl ?_
      refine slv_bipush (v := nI 8) eX3_deedOfWord_3 (by decide) ?_
      refine slv_icmp_gtN eX3_deedOfWord_5 (by omega) (by omega) (fun h5 => ?_) (fun h5 => absurd h5 (by omega))
      refine slv_iconst (v := (-1)) eX3_deedOfWord_27 (by decide) ?_
      refine slv_iret eX3_deedOfWord_28 rfl ?_
      exact hQ
    | succ n ih =>
      intro i hi Q hQ
      refine slv_iload_n eX3_deedOfWord_2 rfl ?_
      refine slv_bipush (v := nI 8) eX3_deedOfWord_3 (by decide) ?_
      refine slv_icmp_gtN eX3_deedOfWord_5 (by omega) (by omega) (fun h5 => absurd h5 (by omega)) (fun h5 => ?_)
      refine slv_aload_n eX3_deedOfWord_8 rfl ?_
      refine slv_iload_n eX3_deedOfWord_9 rfl ?_
      refine slv_rS (As := [_]) eX3_deedOfWord_10 lX3_204 rfl rfl (c_X3_deedText _ i (by omega)) (by decide) (Nat.le_of_ble_eq_true rfl) ?_
      refine slv_rV (As := [_]) eX3_deedOfWord_13 lX3_117 rfl rfl (by repeat (first | assumption | exact sl_up_eq | refine sl_up_ne (by first | decide | omega) ?_)) rfl (hw _ (gp_dt_lt i (by omega))) (by decide) (Nat.le_of_ble_eq_true rfl) ?_
      refine slv_if_eqB eX3_deedOfWord_16 (fun h16 => ?_) (fun h16 => ?_)
      · refine slv_iincN (lv' := [_, _]) eX3_deedOfWord_21 rfl (by decide) rfl ?_
        refine slv_goto eX3_deedOfWord_24 ?_
        rw [sl_fn, h16] at hQ
        exact ih (i + 1) (by omega) Q hQ
      · refine slv_iload_n eX3_deedOfWord_19 rfl ?_
        refine slv_iret eX3_deedOfWord_20 rfl ?_
        rw [sl_fn, h16] at hQ
        exact hQ
  refine slv_iconst (v := nI 0) eX3_deedOfWord_0 (by decide) ?_
  refine slv_istore_n (i := 1) (lv' := [_, _]) eX3_deedOfWord_1 rfl (by decide) rfl ?_
  exact loop 9 0 rfl _ ⟨rfl, rfl⟩
set_option maxRecDepth 100000 in
theorem c_X3_goesWithRule (hb : b = 2 ∨ b = 10) (hok : sg_ok g) (hr : sg_rules g < 12) {d : Nat} (hd : d < 9) : sl_R YX3_goesWithRule 2 [.ref 18, .int (nI d)] (gp_S b ln R g M) (some (.int (sl_bi (gp_goes g d)))) (gp_S b ln R g M) := by
  have hg := gp_sg (ln := ln) (R := R) (g := g) (M := M) hb
  have hl5 : sg_lens g (sg_rules g) ≤ 5 := (hok.2.2.2.2.2.1 _ hr).2.2
  have hN := c_X2_terminalNumber hg hok (nI 0)
  rw [sl_ff_io] at hN
  have hA := c_X2_namesAmong hg hok hr
  have hc5 : sl_ct (fun i => sg_nm (sg_it g (sg_rules g) i)) (sg_lens g (sg_rules g)) 0 ≤ 5 := Nat.le_trans (sl_ct_le _ _ _) hl5
  have hI := c_X2_itemAt hg hr (show 0 < 5 by decide)
  refine sl_T.of_V (lv := [_, _, _]) (by decide) rfl (Nat.le_of_ble_eq_true rfl) ?_
  refine slv_aload_n eX3_goesWithRule_0 rfl ?_
  refine slv_getf eX3_goesWithRule_1 fX3_22 (by repeat (first | assumption | exact sl_up_eq | refine sl_up_ne (by first | decide | omega) ?_)) rfl ?_
  refine slv_getf eX3_goesWithRule_4 fX3_123 (by repeat (first | assumption | exact sl_up_eq | refine sl_up_ne (by first | decide | omega) ?_)) rfl ?_
  refine slv_istore_n (i := 2) (lv' := [_, _, _]) eX3_goesWithRule_7 rfl (by decide) rfl ?_
  refine slv_iload_n eX3_goesWithRule_8 rfl ?_
  refine slv_bipush (v := nI 8) eX3_goesWithRule_9 (by decide) ?_
  refine slv_icmp_neN eX3_goesWithRule_11 (by omega) (by omega) (fun h11 => ?_) (fun h11 => ?_)
  · refine slv_aload_n eX3_goesWithRule_53 rfl ?_
    refine slv_getf eX3_goesWithRule_54 fX3_22 (by repeat (first | assumption | exact sl_up_eq | refine sl_up_ne (by first | decide | omega) ?_)) rfl ?_
    refine slv_iload_n eX3_goesWithRule_57 rfl ?_
    refine slv_rV (As := [_]) eX3_goesWithRule_58 lX3_220 rfl rfl (by repeat (first | assumption | exact sl_up_eq | refine sl_up_ne (by first | decide | omega) ?_)) rfl hA (by decide) (Nat.le_of_ble_eq_true rfl) ?_
    refine slv_iload_n eX3_goesWithRule_61 rfl ?_
    refine slv_iconst (v := nI 3) eX3_goesWithRule_62 (by decide) ?_
    refine slv_icmp_gtN eX3_goesWithRule_63 (by omega) (by omega) (fun h63 => ?_) (fun h63 => ?_)
    · refine slv_iconst (v := nI 1) eX3_goesWithRule_70 (by decide) ?_
      refine slv_icmp_neN eX3_goesWithRule_71 (by omega) (by omega) (fun h71 => ?_) (fun h71 => ?_)
      · refine slv_iconst (v := nI 0) eX3_goesWithRule_78 (by decide) ?_
        refine slv_zret eX3_goesWithRule_79 rfl rfl ?_
        refine ⟨?_, rfl⟩
        unfold gp_goes
        first | (rw [if_pos h11, decide_eq_false h24]; rfl) | (have z : nI (sg_it g (sg_rules g) 0) = sl_io (gt_k g 0) := h44; rw [if_pos h11, decide_eq_true h24, decide_eq_true z]; rfl) | (have z : ¬ nI (sg_it g (sg_rules g) 0) = sl_io (gt_k g 0) := h44; rw [if_pos h11, decide_eq_true h24, decide_eq_false z]; rfl) | (rw [if_neg h11, if_pos h63, decide_eq_true h71]; rfl) | (rw [if_neg h11, if_pos h63, decide_eq_false h71]; rfl) | (rw [if_neg h11, if_neg (Nat.not_le.mpr h63), decide_eq_true h71]; rfl) | (rw [if_neg h11, if_neg (Nat.not_le.mpr h63), decide_eq_false h71]; rfl)
      · refine slv_iconst (v := nI 1) eX3_goesWithRule_74 (by decide) ?_
        refine slv_goto eX3_goesWithRule_75 ?_
        refine slv_zret eX3_goesWithRule_79 rfl rfl ?_
        refine ⟨?_, rfl⟩
        unfold gp_goes
        first | (rw [if_pos h11, decide_eq_false h24]; rfl) | (have z : nI (sg_it g (sg_rules g) 0) = sl_io (gt_k g 0) := h44; rw [if_pos h11, decide_eq_true h24, decide_eq_true z]; rfl) | (have z : ¬ nI (sg_it g (sg_rules g) 0) = sl_io (gt_k g 0) := h44; rw [if_pos h11, decide_eq_true h24, decide_eq_false z]; rfl) | (rw [if_neg h11, if_pos h63, decide_eq_true h71]; rfl) | (rw [if_neg h11, if_pos h63, decide_eq_false h71]; rfl) | (rw [if_neg h11, if_neg (Nat.not_le.mpr h63), decide_eq_true h71]; rfl) | (rw [if_neg h11, if_neg (Nat.not_le.mpr h63), decide_eq_false h71]; rfl)
    · refine slv_iconst (v := nI 2) eX3_goesWithRule_66 (by decide) ?_
      refine slv_goto eX3_goesWithRule_67 ?_
      refine slv_icmp_neN eX3_goesWithRule_71 (by omega) (by omega) (fun h71 => ?_) (fun h71 => ?_)
      · refine slv_iconst (v := nI 0) eX3_goesWithRule_78 (by decide) ?_
        refine slv_zret eX3_goesWithRule_79 rfl rfl ?_
        refine ⟨?_, rfl⟩
        unfold gp_goes
        first | (rw [if_pos h11, decide_eq_false h24]; rfl) | (have z : nI (sg_it g (sg_rules g) 0) = sl_io (gt_k g 0) := h44; rw [if_pos h11, decide_eq_true h24, decide_eq_true z]; rfl) | (have z : ¬ nI (sg_it g (sg_rules g) 0) = sl_io (gt_k g 0) := h44; rw [if_pos h11, decide_eq_true h24, decide_eq_false z]; rfl) | (rw [if_neg h11, if_pos h63, decide_eq_true h71]; rfl) | (rw [if_neg h11, if_pos h63, decide_eq_false h71]; rfl) | (rw [if_neg h11, if_neg (Nat.not_le.mpr h63), decide_eq_true h71]; rfl) | (rw [if_neg h11, if_neg (Nat.not_le.mpr h63), decide_eq_false h71]; rfl)
      · refine slv_iconst (v := nI 1) eX3_goesWithRule_74 (by decide) ?_
        refine slv_goto eX3_goesWithRule_75 ?_
        refine slv_zret eX3_goesWithRule_79 rfl rfl ?_
        refine ⟨?_, rfl⟩
        unfold gp_goes
        first | (rw [if_pos h11, decide_eq_false h24]; rfl) | (have z : nI (sg_it g (sg_rules g) 0) = sl_io (gt_k g 0) := h44; rw [if_pos h11, decide_eq_true h24, decide_eq_true z]; rfl) | (have z : ¬ nI (sg_it g (sg_rules g) 0) = sl_io (gt_k g 0) := h44; rw [if_pos h11, decide_eq_true h24, decide_eq_false z]; rfl) | (rw [if_neg h11, if_pos h63, decide_eq_true h71]; rfl) | (rw [if_neg h11, if_pos h63, decide_eq_false h71]; rfl) | (rw [if_neg h11, if_neg (Nat.not_le.mpr h63), decide_eq_true h71]; rfl) | (rw [if_neg h11, if_neg (Nat.not_le.mpr h63), decide_eq_false h71]; rfl)
  · refine slv_aload_n eX3_goesWithRule_14 rfl ?_
    refine slv_getf eX3_goesWithRule_15 fX3_22 (by repeat (first | assumption | exact sl_up_eq | refine sl_up_ne (by first | decide | omega) ?_)) rfl ?_
    refine slv_getf eX3_goesWithRule_18 fX3_170 (by repeat (first | assumption | exact sl_up_eq | refine sl_up_ne (by first | decide | omega) ?_)) rfl ?_
    refine slv_iload_n eX3_goesWithRule_21 rfl ?_
    refine slv_ialdN eX3_goesWithRule_22 (by repeat (first | assumption | exact sl_up_eq | refine sl_up_ne (by first | decide | omega) ?_)) (by omega) (by decide) ?_
    refine slv_iconst (v := nI 1) eX3_goesWithRule_23 (by decide) ?_
    refine slv_icmp_neN eX3_goesWithRule_24 (by omega) (by omega) (fun h24 => ?_) (fun h24 => ?_)
    · refine slv_iconst (v := nI 0) eX3_goesWithRule_51 (by decide) ?_
      refine slv_zret eX3_goesWithRule_52 rfl rfl ?_
      refine ⟨?_, rfl⟩
      unfold gp_goes
      first | (rw [if_pos h11, decide_eq_false h24]; rfl) | (have z : nI (sg_it g (sg_rules g) 0) = sl_io (gt_k g 0) := h44; rw [if_pos h11, decide_eq_true h24, decide_eq_true z]; rfl) | (have z : ¬ nI (sg_it g (sg_rules g) 0) = sl_io (gt_k g 0) := h44; rw [if_pos h11, decide_eq_true h24, decide_eq_false z]; rfl) | (rw [if_neg h11, if_pos h63, decide_eq_true h71]; rfl) | (rw [if_neg h11, if_pos h63, decide_eq_false h71]; rfl) | (rw [if_neg h11, if_neg (Nat.not_le.mpr h63), decide_eq_true h71]; rfl) | (rw [if_neg h11, if_neg (Nat.not_le.mpr h63), decide_eq_false h71]; rfl)
    · refine slv_aload_n eX3_goesWithRule_27 rfl ?_
      refine slv_getf eX3_goesWithRule_28 fX3_22 (by repeat (first | assumption | exact sl_up_eq | refine sl_up_ne (by first | decide | omega) ?_)) rfl ?_
      refine slv_iload_n eX3_goesWithRule_31 rfl ?_
      refine slv_iconst (v := nI 0) eX3_goesWithRule_32 (by decide) ?_
      refine slv_rV (As := [_, _]) eX3_goesWithRule_33 lX3_179 rfl rfl (by repeat (first | assumption | exact sl_up_eq | refine sl_up_ne (by first | decide | omega) ?_)) rfl hI (by decide) (Nat.le_of_ble_eq_true rfl) ?_
      refine slv_aload_n eX3_goesWithRule_36 rfl ?_
      refine slv_getf eX3_goesWithRule_37 fX3_22 (by repeat (first | assumption | exact sl_up_eq | refine sl_up_ne (by first | decide | omega) ?_)) rfl ?_
      refine slv_iconst (v := nI 0) eX3_goesWithRule_40 (by decide) ?_
      refine slv_rV (As := [_]) eX3_goesWithRule_41 lX3_151 rfl rfl (by repeat (first | assumption | exact sl_up_eq | refine sl_up_ne (by first | decide | omega) ?_)) rfl hN (by decide) (Nat.le_of_ble_eq_true rfl) ?_
      refine slv_icmp_ne eX3_goesWithRule_44 (fun h44 => ?_) (fun h44 => ?_)
      · refine slv_iconst (v := nI 0) eX3_goesWithRule_51 (by decide) ?_
        refine slv_zret eX3_goesWithRule_52 rfl rfl ?_
        refine ⟨?_, rfl⟩
        unfold gp_goes
        first | (rw [if_pos h11, decide_eq_false h24]; rfl) | (have z : nI (sg_it g (sg_rules g) 0) = sl_io (gt_k g 0) := h44; rw [if_pos h11, decide_eq_true h24, decide_eq_true z]; rfl) | (have z : ¬ nI (sg_it g (sg_rules g) 0) = sl_io (gt_k g 0) := h44; rw [if_pos h11, decide_eq_true h24, decide_eq_false z]; rfl) | (rw [if_neg h11, if_pos h63, decide_eq_true h71]; rfl) | (rw [if_neg h11, if_pos h63, decide_eq_false h71]; rfl) | (rw [if_neg h11, if_neg (Nat.not_le.mpr h63), decide_eq_true h71]; rfl) | (rw [if_neg h11, if_neg (Nat.not_le.mpr h63), decide_eq_false h71]; rfl)
      · refine slv_iconst (v := nI 1) eX3_goesWithRule_47 (by decide) ?_
        refine slv_goto eX3_goesWithRule_48 ?_
        refine slv_zret eX3_goesWithRule_52 rfl rfl ?_
        refine ⟨?_, rfl⟩
        unfold gp_goes
        first | (rw [if_pos h11, decide_eq_false h24]; rfl) | (have z : nI (sg_it g (sg_rules g) 0) = sl_io (gt_k g 0) := h44; rw [if_pos h11, decide_eq_true h24, decide_eq_true z]; rfl) | (have z : ¬ nI (sg_it g (sg_rules g) 0) = sl_io (gt_k g 0) := h44; rw [if_pos h11, decide_eq_true h24, decide_eq_false z]; rfl) | (rw [if_neg h11, if_pos h63, decide_eq_true h71]; rfl) | (rw [if_neg h11, if_pos h63, decide_eq_false h71]; rfl) | (rw [if_neg h11, if_neg (Nat.not_le.mpr h63), decide_eq_true h71]; rfl) | (rw [if_neg h11, if_neg (Nat.not_le.mpr h63), decide_eq_false h71]; rfl)
set_option maxRecDepth 100000 in
theorem c_X3_takeDeed (hS : st_all) (hb : b = 2 ∨ b = 10) (ht : gr_tk R ≤ 4) (hok : sg_ok g) (hr : sg_rules g < 12) : sl_R YX3_takeDeed 7 [.ref 18] (gp_S b ln R g M) none (gp_S b ln (gp_deed R g).1 (gp_deed R g).2 M) := by
  have hD := c_X3_deedOfWord (b := b) (ln := ln) (R := R) (g := g) (M := M) hS ht
  have hF := fun k => c_X3_failWith (b := b) (ln := ln) (R := R) (g := g) (M := M) k
  have hk : ∀ d, gp_dw R = some d → d < 9 := fun d hd => by have := sl_fn_lt _ _ _ hd; omega
  unfold gp_deed
  generalize gp_dw R = o at hD hk
  refine sl_T.of_V (lv := [_, _]) (by decide) rfl (Nat.le_of_ble_eq_true rfl) ?_
  cases o with
  | none =>
    change sl_R YX3_deedOfWord 6 _ _ (some (.int (-1))) _ at hD
    refine slv_aload_n eX3_takeDeed_0 rfl ?_
    refine slv_rV (As := []) eX3_takeDeed_1 lX3_195 rfl rfl (by repeat (first | assumption | exact sl_up_eq | refine sl_up_ne (by first | decide | omega) ?_)) rfl hD (by decide) (Nat.le_of_ble_eq_true rfl) ?_
    refine slv_istore_n (i := 1) (lv' := [_, _]) eX3_takeDeed_4 rfl (by decide) rfl ?_
    refine slv_iload_n eX3_takeDeed_5 rfl ?_
    refine slv_iconst (v := (-1)) eX3_takeDeed_6 (by decide) ?_
    refine slv_icmp_ne eX3_takeDeed_7 (fun h7 => absurd rfl h7) (fun h7 => ?_)
    refine slv_aload_n eX3_takeDeed_10 rfl ?_
    refine slv_iconst (v := nI 1) eX3_takeDeed_11 (by decide) ?_
    refine slv_rV (As := [_]) eX3_takeDeed_12 lX3_90 rfl rfl (by repeat (first | assumption | exact sl_up_eq | refine sl_up_ne (by first | decide | omega) ?_)) rfl (hF 1) (by decide) (Nat.le_of_ble_eq_true rfl) ?_
    refine slv_goto eX3_takeDeed_15 ?_
    refine slv_vret eX3_takeDeed_69 rfl ?_
    exact ⟨rfl, rfl⟩
  | some d =>
    have hd := hk d rfl
    change sl_R YX3_deedOfWord 6 _ _ (some (.int (nI d))) _ at hD
    have hG := c_X3_goesWithRule (ln := ln) (R := R) (M := M) hb hok hr hd
    simp only
    generalize gp_goes g d = gw at hG
    refine slv_aload_n eX3_takeDeed_0 rfl ?_
    refine slv_rV (As := []) eX3_takeDeed_1 lX3_195 rfl rfl (by repeat (first | assumption | exact sl_up_eq | refine sl_up_ne (by first | decide | omega) ?_)) rfl hD (by decide) (Nat.le_of_ble_eq_true rfl) ?_
    refine slv_istore_n (i := 1) (lv' := [_, _]) eX3_takeDeed_4 rfl (by decide) rfl ?_
    refine slv_iload_n eX3_takeDeed_5 rfl ?_
    refine slv_iconst (v := (-1)) eX3_takeDeed_6 (by decide) ?_
    refine slv_icmp_ne eX3_takeDeed_7 (fun h7 => ?_) (fun h7 => absurd h7 (nI_neg1 (by omega)))
    refine slv_aload_n eX3_takeDeed_18 rfl ?_
    refine slv_iload_n eX3_takeDeed_19 rfl ?_
    refine slv_rV (As := [_]) eX3_takeDeed_20 lX3_198 rfl rfl (by repeat (first | assumption | exact sl_up_eq | refine sl_up_ne (by first | decide | omega) ?_)) rfl hG (by decide) (Nat.le_of_ble_eq_true rfl) ?_
    refine slv_if_neB eX3_takeDeed_23 (fun h23 => ?_) (fun h23 => ?_)
    · refine slv_aload_n eX3_takeDeed_34 rfl ?_
      refine slv_getf eX3_takeDeed_35 fX3_22 (by repeat (first | assumption | exact sl_up_eq | refine sl_up_ne (by first | decide | omega) ?_)) rfl ?_
      refine slv_getf eX3_takeDeed_38 fX3_201 (by repeat (first | assumption | exact sl_up_eq | refine sl_up_ne (by first | decide | omega) ?_)) rfl ?_
      refine slv_aload_n eX3_takeDeed_41 rfl ?_
      refine slv_getf eX3_takeDeed_42 fX3_22 (by repeat (first | assumption | exact sl_up_eq | refine sl_up_ne (by first | decide | omega) ?_)) rfl ?_
      refine slv_getf eX3_takeDeed_45 fX3_123 (by repeat (first | assumption | exact sl_up_eq | refine sl_up_ne (by first | decide | omega) ?_)) rfl ?_
      refine slv_iload_n eX3_takeDeed_48 rfl ?_
      refine slv_iastN eX3_takeDeed_49 (by repeat (first | assumption | exact sl_up_eq | refine sl_up_ne (by first | decide | omega) ?_)) (by omega) (by decide) ?_
      refine slv_mem (gp_u4 hb) ?_
      refine slv_aload_n eX3_takeDeed_50 rfl ?_
      refine slv_getf eX3_takeDeed_51 fX3_22 (by repeat (first | assumption | exact sl_up_eq | refine sl_up_ne (by first | decide | omega) ?_)) rfl ?_
      refine slv_dup eX3_takeDeed_54 rfl ?_
      refine slv_getf eX3_takeDeed_55 fX3_123 (by repeat (first | assumption | exact sl_up_eq | refine sl_up_ne (by first | decide | omega) ?_)) rfl ?_
      refine slv_iconst (v := nI 1) eX3_takeDeed_58 (by decide) ?_
      refine slv_iaddN eX3_takeDeed_59 ?_
      refine slv_putf (fs' := [_, _, _, _, _, _, _, _, _, _, _]) eX3_takeDeed_60 fX3_123 (by repeat (first | assumption | exact sl_up_eq | refine sl_up_ne (by first | decide | omega) ?_)) (Nat.le_of_ble_eq_true rfl) rfl rfl rfl ?_
      refine slv_mem (gp_u0 hb) ?_
      refine slv_aload_n eX3_takeDeed_63 rfl ?_
      refine slv_bipush (v := nI 7) eX3_takeDeed_64 (by decide) ?_
      refine slv_putf (fs' := [_, _, _, _, _, _, _, _, _, _, _, _, _]) eX3_takeDeed_66 fX3_31 (by repeat (first | assumption | exact sl_up_eq | refine sl_up_ne (by first | decide | omega) ?_)) (Nat.le_of_ble_eq_true rfl) rfl rfl rfl ?_
      try refine slv_mem gr_u18 ?_
      refine slv_vret eX3_takeDeed_69 rfl ?_
      have z : gw = _ := h23
      subst z
      exact ⟨rfl, rfl⟩
    · refine slv_aload_n eX3_takeDeed_26 rfl ?_
      refine slv_iconst (v := nI 2) eX3_takeDeed_27 (by decide) ?_
      refine slv_rV (As := [_]) eX3_takeDeed_28 lX3_90 rfl rfl (by repeat (first | assumption | exact sl_up_eq | refine sl_up_ne (by first | decide | omega) ?_)) rfl (hF 2) (by decide) (Nat.le_of_ble_eq_true rfl) ?_
      refine slv_goto eX3_takeDeed_31 ?_
      try refine slv_mem gr_u18 ?_
      refine slv_vret eX3_takeDeed_69 rfl ?_
      have z : gw = _ := h23
      subst z
      exact ⟨rfl, rfl⟩
set_option maxRecDepth 100000 in
theorem c_X3_lacksSomething (hb : b = 2 ∨ b = 10) (hok : sg_ok g) : sl_R YX3_lacksSomething 1 [.ref 18] (gp_S b ln R g M) (some (.int (sl_bi (gp_lk R g)))) (gp_S b ln R g M) := by
  have hg := gp_sg (ln := ln) (R := R) (g := g) (M := M) hb
  have hr : sg_rules g ≤ 12 := hok.2.1
  have hn6 : sg_names g ≤ 6 := hok.2.2.1
  have hH := fun (x : Nat) (hx : x < 100) => c_X2_isHead hg hok hx
  refine sl_T.of_V (lv := [_, _]) (by decide) rfl (Nat.le_of_ble_eq_true rfl) ?_
  have loop : ∀ (n i : Nat), i + n = sg_names g → ∀ Q : Option Value → sl_M → Prop, Q (some (.int (sl_bi (sl_ex (fun n => !(sl_ex (fun t => decide (sg_heads g t = n)) (sg_rules g) 0)) n i)))) (gp_S b ln R g M) → sl_V YX3_lacksSomething none 1 0 0 Q 21 [some (.ref 18), some (.int (nI i))] [] (gp_S b ln R g M) := by
    intro n
    induction n with
    | zero =>
      intro i hi Q hQ
      refine slv_iload_n eX3_lacksSomething_21 rfl ?_
      refine slv_aload_n eX3_lacksSomething_22 rfl ?_
      refine slv_getf eX3_lacksSomething_23 fX3_22 (by repeat (first | assumption | exact sl_up_eq | refine sl_up_ne (by first | decide | omega) ?_)) rfl ?_
      refine slv_getf eX3_lacksSomething_26 fX3_144 (by repeat (first | assumption | exact sl_up_eq | refine sl_up_ne (by first | decide | omega) ?_)) rfl ?_
      refine slv_icmp_geN eX3_lacksSomething_29 (by omega) (by omega) (fun h29 => ?_) (fun h29 => absurd h29 (by omega))
      refine slv_iconst (v := nI 0) eX3_lacksSomething_51 (by decide) ?_
      refine slv_zret eX3_lacksSomething_52 rfl rfl ?_
      exact hQ
    | succ n ih =>
      intro i hi Q hQ
      refine slv_iload_n eX3_lacksSomething_21 rfl ?_
      refine slv_aload_n eX3_lacksSomething_22 rfl ?_
      refine slv_getf eX3_lacksSomething_23 fX3_22 (by repeat (first | assumption | exact sl_up_eq | refine sl_up_ne (by first | decide | omega) ?_)) rfl ?_
      refine slv_getf eX3_lacksSomething_26 fX3_144 (by repeat (first | assumption | exact sl_up_eq | refine sl_up_ne (by first | decide | omega) ?_)) rfl ?_
      refine slv_icmp_geN eX3_lacksSomething_29 (by omega) (by omega) (fun h29 => absurd h29 (by omega)) (fun h29 => ?_)
      refine slv_aload_n eX3_lacksSomething_32 rfl ?_
      refine slv_getf eX3_lacksSomething_33 fX3_22 (by repeat (first | assumption | exact sl_up_eq | refine sl_up_ne (by first | decide | omega) ?_)) rfl ?_
      refine slv_iload_n eX3_lacksSomething_36 rfl ?_
      refine slv_rV (As := [_]) eX3_lacksSomething_37 lX3_226 rfl rfl (by repeat (first | assumption | exact sl_up_eq | refine sl_up_ne (by first | decide | omega) ?_)) rfl (hH i (by omega)) (by decide) (Nat.le_of_ble_eq_true rfl) ?_
      refine slv_if_neB eX3_lacksSomething_40 (fun h40 => ?_) (fun h40 => ?_)
      · refine slv_iincN (lv' := [_, _]) eX3_lacksSomething_45 rfl (by decide) rfl ?_
        refine slv_goto eX3_lacksSomething_48 ?_
        rw [sl_ex, h40] at hQ
        exact ih (i + 1) (by omega) Q hQ
      · refine slv_iconst (v := nI 1) eX3_lacksSomething_43 (by decide) ?_
        refine slv_zret eX3_lacksSomething_44 rfl rfl ?_
        rw [sl_ex, h40] at hQ
        exact hQ
  refine slv_aload_n eX3_lacksSomething_0 rfl ?_
  refine slv_getf eX3_lacksSomething_1 fX3_34 (by repeat (first | assumption | exact sl_up_eq | refine sl_up_ne (by first | decide | omega) ?_)) rfl ?_
  refine slv_if_eqB eX3_lacksSomething_4 (fun h4 => ?_) (fun h4 => ?_)
  · refine slv_iconst (v := nI 1) eX3_lacksSomething_17 (by decide) ?_
    refine slv_zret eX3_lacksSomething_18 rfl rfl ?_
    refine ⟨?_, rfl⟩
    unfold gp_lk
    first | (rw [h4]; rfl) | (rw [h4, decide_eq_true h14]; rfl)
  · refine slv_aload_n eX3_lacksSomething_7 rfl ?_
    refine slv_getf eX3_lacksSomething_8 fX3_22 (by repeat (first | assumption | exact sl_up_eq | refine sl_up_ne (by first | decide | omega) ?_)) rfl ?_
    refine slv_getf eX3_lacksSomething_11 fX3_123 (by repeat (first | assumption | exact sl_up_eq | refine sl_up_ne (by first | decide | omega) ?_)) rfl ?_
    refine slv_if_neN eX3_lacksSomething_14 (by omega) (fun h14 => ?_) (fun h14 => ?_)
    · refine slv_iconst (v := nI 0) eX3_lacksSomething_19 (by decide) ?_
      refine slv_istore_n (i := 1) (lv' := [_, _]) eX3_lacksSomething_20 rfl (by decide) rfl ?_
      refine loop (sg_names g) 0 (by omega) _ ⟨?_, rfl⟩
      unfold gp_lk
      first | (rw [h4, decide_eq_false h14]; rfl) | (rw [h4, decide_eq_false (Nat.pos_iff_ne_zero.mp h14)]; rfl)
    · refine slv_iconst (v := nI 1) eX3_lacksSomething_17 (by decide) ?_
      refine slv_zret eX3_lacksSomething_18 rfl rfl ?_
      refine ⟨?_, rfl⟩
      unfold gp_lk
      first | (rw [h4]; rfl) | (rw [h4, decide_eq_true h14]; rfl)
set_option maxRecDepth 100000 in
theorem c_X3_takeParting (hb : b = 2 ∨ b = 10) (ht : gr_tk R ≤ 4) (hok : sg_ok g) : sl_R YX3_takeParting 2 [.ref 18] (gp_S b ln R g M) none (gp_S b ln (gp_part R g) g M) := by
  have hF := fun k => c_X3_failWith (b := b) (ln := ln) (R := R) (g := g) (M := M) k
  have hL := c_X3_lacksSomething (ln := ln) (R := R) (M := M) hb hok
  unfold gp_part
  generalize gp_lk R g = lk at hL
  refine sl_T.of_V (lv := [_]) (by decide) rfl (Nat.le_of_ble_eq_true rfl) ?_
  refine slv_aload_n eX3_takeParting_0 rfl ?_
  refine slv_getf eX3_takeParting_1 fX3_60 (by repeat (first | assumption | exact sl_up_eq | refine sl_up_ne (by first | decide | omega) ?_)) rfl ?_
  refine slv_iconst (v := nI 3) eX3_takeParting_4 (by decide) ?_
  refine slv_icmp_neN eX3_takeParting_5 (by omega) (by omega) (fun h5 => ?_) (fun h5 => ?_)
  · refine slv_aload_n eX3_takeParting_16 rfl ?_
    refine slv_getf eX3_takeParting_17 fX3_60 (by repeat (first | assumption | exact sl_up_eq | refine sl_up_ne (by first | decide | omega) ?_)) rfl ?_
    refine slv_if_eqN eX3_takeParting_20 (by omega) (fun h20 => ?_) (fun h20 => ?_)
    · refine slv_aload_n eX3_takeParting_31 rfl ?_
      refine slv_rV (As := []) eX3_takeParting_32 lX3_223 rfl rfl (by repeat (first | assumption | exact sl_up_eq | refine sl_up_ne (by first | decide | omega) ?_)) rfl hL (by decide) (Nat.le_of_ble_eq_true rfl) ?_
      refine slv_if_eqB eX3_takeParting_35 (fun h35 => ?_) (fun h35 => ?_)
      · refine slv_aload_n eX3_takeParting_46 rfl ?_
        refine slv_iconst (v := nI 1) eX3_takeParting_47 (by decide) ?_
        refine slv_putf (fs' := [_, _, _, _, _, _, _, _, _, _, _, _, _]) eX3_takeParting_48 fX3_38 (by repeat (first | assumption | exact sl_up_eq | refine sl_up_ne (by first | decide | omega) ?_)) (Nat.le_of_ble_eq_true rfl) (by first | rfl | assumption) (by first | rfl | assumption) rfl ?_
        try refine slv_mem (gr_u18 (en' := true)) ?_
        refine slv_vret eX3_takeParting_51 rfl ?_
        refine ⟨rfl, ?_⟩
        first | (rw [if_pos h5]; rfl) | (have z : lk = _ := h35; rw [if_neg h5, if_pos h20, z]; rfl) | (rw [if_neg h5, if_neg h20]) | (rw [if_neg h5, if_neg (Nat.pos_iff_ne_zero.mp h20)])
      · refine slv_aload_n eX3_takeParting_38 rfl ?_
        refine slv_iconst (v := nI 5) eX3_takeParting_39 (by decide) ?_
        refine slv_rV (As := [_]) eX3_takeParting_40 lX3_90 rfl rfl (by repeat (first | assumption | exact sl_up_eq | refine sl_up_ne (by first | decide | omega) ?_)) rfl (hF 5) (by decide) (Nat.le_of_ble_eq_true rfl) ?_
        refine slv_goto eX3_takeParting_43 ?_
        try refine slv_mem (gr_u18 (en' := true)) ?_
        refine slv_vret eX3_takeParting_51 rfl ?_
        refine ⟨rfl, ?_⟩
        first | (rw [if_pos h5]; rfl) | (have z : lk = _ := h35; rw [if_neg h5, if_pos h20, z]; rfl) | (rw [if_neg h5, if_neg h20]) | (rw [if_neg h5, if_neg (Nat.pos_iff_ne_zero.mp h20)])
    · refine slv_aload_n eX3_takeParting_23 rfl ?_
      refine slv_iconst (v := nI 1) eX3_takeParting_24 (by decide) ?_
      refine slv_rV (As := [_]) eX3_takeParting_25 lX3_90 rfl rfl (by repeat (first | assumption | exact sl_up_eq | refine sl_up_ne (by first | decide | omega) ?_)) rfl (hF 1) (by decide) (Nat.le_of_ble_eq_true rfl) ?_
      refine slv_goto eX3_takeParting_28 ?_
      try refine slv_mem (gr_u18 (en' := true)) ?_
      refine slv_vret eX3_takeParting_51 rfl ?_
      refine ⟨rfl, ?_⟩
      first | (rw [if_pos h5]; rfl) | (have z : lk = _ := h35; rw [if_neg h5, if_pos h20, z]; rfl) | (rw [if_neg h5, if_neg h20]) | (rw [if_neg h5, if_neg (Nat.pos_iff_ne_zero.mp h20)])
  · refine slv_aload_n eX3_takeParting_8 rfl ?_
    refine slv_iconst (v := nI 0) eX3_takeParting_9 (by decide) ?_
    refine slv_putf (fs' := [_, _, _, _, _, _, _, _, _, _, _, _, _]) eX3_takeParting_10 fX3_31 (by repeat (first | assumption | exact sl_up_eq | refine sl_up_ne (by first | decide | omega) ?_)) (Nat.le_of_ble_eq_true rfl) rfl rfl rfl ?_
    refine slv_mem gr_u18 ?_
    refine slv_goto eX3_takeParting_13 ?_
    try refine slv_mem (gr_u18 (en' := true)) ?_
    refine slv_vret eX3_takeParting_51 rfl ?_
    refine ⟨rfl, ?_⟩
    first | (rw [if_pos h5]; rfl) | (have z : lk = _ := h35; rw [if_neg h5, if_pos h20, z]; rfl) | (rw [if_neg h5, if_neg h20]) | (rw [if_neg h5, if_neg (Nat.pos_iff_ne_zero.mp h20)])
end GRG

section GCL
variable {b k R N T : Nat} {w : Nat → Int32} {s h d l i : Nat → Nat} {p : Nat → Bool} {M : sl_M}
set_option maxRecDepth 100000 in
theorem c_X2_clear (hg : gs_at b k R N T w s h d l i p M) (hz : ∀ j, 12 ≤ j → l j = 0 ∧ p j = false) : sl_R YX2_clear 0 [.ref b] M none (gs_set b 0 0 0 0 w s h d (fun _ => 0) i (fun _ => false) M) := by
  refine sl_T.of_V (lv := [_, _]) (by decide) rfl (Nat.le_of_ble_eq_true rfl) ?_
  have loop : ∀ (n j : Nat) (l : Nat → Nat) (p : Nat → Bool), j + n = 12 → (∀ q, q < j ∨ 12 ≤ q → l q = 0 ∧ p q = false) → ∀ Q : Option Value → sl_M → Prop, Q none (gs_set b 0 0 0 0 w s h d (fun _ => 0) i (fun _ => false) M) → sl_V YX2_clear none 0 0 0 Q 22 [some (.ref b), some (.int (nI j))] [] (gs_set b 0 0 0 0 w s h d l i p M) := by
    intro n
    induction n with
    | zero =>
      intro j l p hj hl Q hQ
      have e1 : l = fun _ => 0 := funext fun q => (hl q (by omega)).1
      have e2 : p = fun _ => false := funext fun q => (hl q (by omega)).2
      subst e1 e2
      refine slv_iload_n eX2_clear_22 rfl ?_
      refine slv_bipush (v := nI 12) eX2_clear_23 (by decide) ?_
      refine slv_icmp_geN eX2_clear_25 (by omega) (by omega) (fun h25 => ?_) (fun h25 => absurd h25 (by omega))
      refine slv_vret eX2_clear_48 rfl ?_
      exact hQ
    | succ n ih =>
      intro j l p hj hl Q hQ
      refine slv_iload_n eX2_clear_22 rfl ?_
      refine slv_bipush (v := nI 12) eX2_clear_23 (by decide) ?_
      refine slv_icmp_geN eX2_clear_25 (by omega) (by omega) (fun h25 => absurd h25 (by omega)) (fun h25 => ?_)
      refine slv_aload_n eX2_clear_28 rfl ?_
      refine slv_getf eX2_clear_29 fX2_24 (by repeat (first | assumption | exact sl_up_eq | refine sl_up_ne (by first | decide | omega) ?_)) rfl ?_
      refine slv_iload_n eX2_clear_32 rfl ?_
      refine slv_iconst (v := nI 0) eX2_clear_33 (by decide) ?_
      refine slv_iastN (x := 0) eX2_clear_34 (by repeat (first | assumption | exact sl_up_eq | refine sl_up_ne (by first | decide | omega) ?_)) (by omega) (by decide) ?_
      refine slv_mem gs_u5 ?_
      refine slv_aload_n eX2_clear_35 rfl ?_
      refine slv_getf eX2_clear_36 fX2_30 (by repeat (first | assumption | exact sl_up_eq | refine sl_up_ne (by first | decide | omega) ?_)) rfl ?_
      refine slv_iload_n eX2_clear_39 rfl ?_
      refine slv_iconst (v := nI 0) eX2_clear_40 (by decide) ?_
      refine slv_zastB (x := false) eX2_clear_41 (by repeat (first | assumption | exact sl_up_eq | refine sl_up_ne (by first | decide | omega) ?_)) (by omega) (by decide) ?_
      refine slv_mem gs_u7 ?_
      refine slv_iincN (lv' := [_, _]) eX2_clear_42 rfl (by decide) rfl ?_
      refine slv_goto eX2_clear_45 ?_
      refine ih (j + 1) _ _ (by omega) (fun q hq => ?_) Q hQ
      by_cases z : q = j
      · rw [z, sl_u_eq, sl_u_eq]; exact ⟨rfl, rfl⟩
      · rw [sl_u_ne z, sl_u_ne z]; exact hl q (by omega)
  refine slv_mem (gs_self hg).symm ?_
  refine slv_aload_n eX2_clear_0 rfl ?_
  refine slv_iconst (v := nI 0) eX2_clear_1 (by decide) ?_
  refine slv_putf (fs' := [_, _, _, _, _, _, _, _, _, _, _]) eX2_clear_2 fX2_34 (by repeat (first | assumption | exact sl_up_eq | refine sl_up_ne (by first | decide | omega) ?_)) (Nat.le_of_ble_eq_true rfl) rfl rfl rfl ?_
  refine slv_mem (gs_u0 (kd' := 0) (R' := R) (N' := N) (T' := T)) ?_
  refine slv_aload_n eX2_clear_5 rfl ?_
  refine slv_iconst (v := nI 0) eX2_clear_6 (by decide) ?_
  refine slv_putf (fs' := [_, _, _, _, _, _, _, _, _, _, _]) eX2_clear_7 fX2_38 (by repeat (first | assumption | exact sl_up_eq | refine sl_up_ne (by first | decide | omega) ?_)) (Nat.le_of_ble_eq_true rfl) rfl rfl rfl ?_
  refine slv_mem (gs_u0 (kd' := 0) (R' := 0) (N' := N) (T' := T)) ?_
  refine slv_aload_n eX2_clear_10 rfl ?_
  refine slv_iconst (v := nI 0) eX2_clear_11 (by decide) ?_
  refine slv_putf (fs' := [_, _, _, _, _, _, _, _, _, _, _]) eX2_clear_12 fX2_41 (by repeat (first | assumption | exact sl_up_eq | refine sl_up_ne (by first | decide | omega) ?_)) (Nat.le_of_ble_eq_true rfl) rfl rfl rfl ?_
  refine slv_mem (gs_u0 (kd' := 0) (R' := 0) (N' := 0) (T' := T)) ?_
  refine slv_aload_n eX2_clear_15 rfl ?_
  refine slv_iconst (v := nI 0) eX2_clear_16 (by decide) ?_
  refine slv_putf (fs' := [_, _, _, _, _, _, _, _, _, _, _]) eX2_clear_17 fX2_44 (by repeat (first | assumption | exact sl_up_eq | refine sl_up_ne (by first | decide | omega) ?_)) (Nat.le_of_ble_eq_true rfl) rfl rfl rfl ?_
  refine slv_mem (gs_u0 (kd' := 0) (R' := 0) (N' := 0) (T' := 0)) ?_
  refine slv_iconst (v := nI 0) eX2_clear_20 (by decide) ?_
  refine slv_istore_n (i := 1) (lv' := [_, _]) eX2_clear_21 rfl (by decide) rfl ?_
  exact loop 12 0 l p (by omega) (fun q hq => hz q (by omega)) _ ⟨rfl, rfl⟩
variable {c : Nat} {o v : Nat → Int32}
set_option maxRecDepth 100000 in
theorem c_X0_takeBack0 (ha : ac_at 0 o v M) (hb : b = 2 ∨ b = 10) : sl_R YX0_takeBack 0 [.ref 30, .ref b] M none M := by
  obtain ⟨a0, a1, a2⟩ := ha
  refine sl_T.of_V (lv := [_, _, _]) (by decide) rfl (Nat.le_of_ble_eq_true rfl) ?_
  refine slv_aload_n eX0_takeBack_0 rfl ?_
  refine slv_getf eX0_takeBack_1 fX0_18 (by repeat (first | assumption | exact sl_up_eq | refine sl_up_ne (by first | decide | omega) ?_)) rfl ?_
  refine slv_if_neN eX0_takeBack_4 (by omega) (fun h4 => absurd h4 (fun z => z rfl)) (fun h4 => ?_)
  refine slv_vret eX0_takeBack_7 rfl ?_
  exact ⟨rfl, rfl⟩
set_option maxRecDepth 100000 in
theorem c_X0_takeBackK (hg : gs_at b k R N T w s h d l i p M) (hb : b = 2 ∨ b = 10) (ha : ac_at c o v M) (hc : 1 ≤ c ∧ c ≤ 10) {x : Nat} (ho : o (c - 1) = -1) (hv : v (c - 1) = nI x) : sl_R YX0_takeBack 0 [.ref 30, .ref b] M none (gs_set b x R N T w s h d l i p (ac_set (c - 1) o v M)) := by
  have hg2 : gs_at b k R N T w s h d l i p (ac_set (c - 1) o v M) := by
    obtain ⟨g0, g1, g2, g3, g4, g5, g6, g7⟩ := hg
    refine ⟨?_, ?_, ?_, ?_, ?_, ?_, ?_, ?_⟩ <;> (rw [ac_out (by omega)]; assumption)
  refine sl_T.of_V (lv := [_, _, _]) (by decide) rfl (Nat.le_of_ble_eq_true rfl) ?_
  refine slv_mem (ac_self ha).symm ?_
  refine slv_aload_n eX0_takeBack_0 rfl ?_
  refine slv_getf eX0_takeBack_1 fX0_18 (by repeat (first | assumption | exact sl_up_eq | refine sl_up_ne (by first | decide | omega) ?_)) rfl ?_
  refine slv_if_neN eX0_takeBack_4 (by omega) (fun h4 => ?_) (fun h4 => absurd h4 (by omega))
  refine slv_aload_n eX0_takeBack_8 rfl ?_
  refine slv_dup eX0_takeBack_9 rfl ?_
  refine slv_getf eX0_takeBack_10 fX0_18 (by repeat (first | assumption | exact sl_up_eq | refine sl_up_ne (by first | decide | omega) ?_)) rfl ?_
  refine slv_iconst (v := nI 1) eX0_takeBack_13 (by decide) ?_
  refine slv_isubN eX0_takeBack_14 (by omega) ?_
  refine slv_putf (fs' := [_, _, _]) eX0_takeBack_15 fX0_18 (by repeat (first | assumption | exact sl_up_eq | refine sl_up_ne (by first | decide | omega) ?_)) (Nat.le_of_ble_eq_true rfl) rfl rfl rfl ?_
  refine slv_mem (ac_u30 (c' := c - 1)) ?_
  refine slv_mem (gs_self hg2).symm ?_
  refine slv_aload_n eX0_takeBack_18 rfl ?_
  refine slv_getf eX0_takeBack_19 fX0_9 (by repeat (first | assumption | exact sl_up_eq | refine sl_up_ne (by first | decide | omega) ?_)) rfl ?_
  refine slv_aload_n eX0_takeBack_22 rfl ?_
  refine slv_getf eX0_takeBack_23 fX0_18 (by repeat (first | assumption | exact sl_up_eq | refine sl_up_ne (by first | decide | omega) ?_)) rfl ?_
  refine slv_ialdN eX0_takeBack_26 (by repeat (first | assumption | exact sl_up_eq | refine sl_up_ne (by first | decide | omega) ?_)) (by omega) (by decide) ?_
  refine slv_istore_n (i := 2) (lv' := [_, _, _]) eX0_takeBack_27 rfl (by decide) rfl ?_
  refine slv_iload_n eX0_takeBack_28 rfl ?_
  refine slv_iconst (v := (-1)) eX0_takeBack_29 (by decide) ?_
  refine slv_icmp_ne eX0_takeBack_30 (fun h30 => absurd ho h30) (fun h30 => ?_)
  refine slv_aload_n eX0_takeBack_33 rfl ?_
  refine slv_aload_n eX0_takeBack_34 rfl ?_
  refine slv_getf eX0_takeBack_35 fX0_15 (by repeat (first | assumption | exact sl_up_eq | refine sl_up_ne (by first | decide | omega) ?_)) rfl ?_
  refine slv_aload_n eX0_takeBack_38 rfl ?_
  refine slv_getf eX0_takeBack_39 fX0_18 (by repeat (first | assumption | exact sl_up_eq | refine sl_up_ne (by first | decide | omega) ?_)) rfl ?_
  refine slv_ialdN eX0_takeBack_42 (by repeat (first | assumption | exact sl_up_eq | refine sl_up_ne (by first | decide | omega) ?_)) (by omega) (by decide) ?_
  rw [hv]
  refine slv_putf (fs' := [_, _, _, _, _, _, _, _, _, _, _]) eX0_takeBack_43 fX0_28 (by repeat (first | assumption | exact sl_up_eq | refine sl_up_ne (by first | decide | omega) ?_)) (Nat.le_of_ble_eq_true rfl) rfl rfl rfl ?_
  refine slv_mem (gs_u0 (kd' := x) (R' := R) (N' := N) (T' := T)) ?_
  refine slv_goto eX0_takeBack_46 ?_
  refine slv_vret eX0_takeBack_83 rfl ?_
  exact ⟨rfl, rfl⟩
set_option maxRecDepth 100000 in
theorem c_X0_takeBackP (hg : gs_at b k R N T w s h d l i p M) (hb : b = 2 ∨ b = 10) (ha : ac_at c o v M) (hc : 1 ≤ c ∧ c ≤ 10) {r x : Nat} (hr : r < 12) (ho : o (c - 1) = nI r) (hv : v (c - 1) = nI x) (hx : x < 1000) : sl_R YX0_takeBack 0 [.ref 30, .ref b] M none (gs_set b k R N T w s h d l i (sl_u p r (decide (x = 1))) (ac_set (c - 1) o v M)) := by
  have hg2 : gs_at b k R N T w s h d l i p (ac_set (c - 1) o v M) := by
    obtain ⟨g0, g1, g2, g3, g4, g5, g6, g7⟩ := hg
    refine ⟨?_, ?_, ?_, ?_, ?_, ?_, ?_, ?_⟩ <;> (rw [ac_out (by omega)]; assumption)
  refine sl_T.of_V (lv := [_, _, _]) (by decide) rfl (Nat.le_of_ble_eq_true rfl) ?_
  refine slv_mem (ac_self ha).symm ?_
  refine slv_aload_n eX0_takeBack_0 rfl ?_
  refine slv_getf eX0_takeBack_1 fX0_18 (by repeat (first | assumption | exact sl_up_eq | refine sl_up_ne (by first | decide | omega) ?_)) rfl ?_
  refine slv_if_neN eX0_takeBack_4 (by omega) (fun h4 => ?_) (fun h4 => absurd h4 (by omega))
  refine slv_aload_n eX0_takeBack_8 rfl ?_
  refine slv_dup eX0_takeBack_9 rfl ?_
  refine slv_getf eX0_takeBack_10 fX0_18 (by repeat (first | assumption | exact sl_up_eq | refine sl_up_ne (by first | decide | omega) ?_)) rfl ?_
  refine slv_iconst (v := nI 1) eX0_takeBack_13 (by decide) ?_
  refine slv_isubN eX0_takeBack_14 (by omega) ?_
  refine slv_putf (fs' := [_, _, _]) eX0_takeBack_15 fX0_18 (by repeat (first | assumption | exact sl_up_eq | refine sl_up_ne (by first | decide | omega) ?_)) (Nat.le_of_ble_eq_true rfl) rfl rfl rfl ?_
  refine slv_mem (ac_u30 (c' := c - 1)) ?_
  refine slv_mem (gs_self hg2).symm ?_
  refine slv_aload_n eX0_takeBack_18 rfl ?_
  refine slv_getf eX0_takeBack_19 fX0_9 (by repeat (first | assumption | exact sl_up_eq | refine sl_up_ne (by first | decide | omega) ?_)) rfl ?_
  refine slv_aload_n eX0_takeBack_22 rfl ?_
  refine slv_getf eX0_takeBack_23 fX0_18 (by repeat (first | assumption | exact sl_up_eq | refine sl_up_ne (by first | decide | omega) ?_)) rfl ?_
  refine slv_ialdN eX0_takeBack_26 (by repeat (first | assumption | exact sl_up_eq | refine sl_up_ne (by first | decide | omega) ?_)) (by omega) (by decide) ?_
  rw [ho]
  refine slv_istore_n (i := 2) (lv' := [_, _, _]) eX0_takeBack_27 rfl (by decide) rfl ?_
  refine slv_iload_n eX0_takeBack_28 rfl ?_
  refine slv_iconst (v := (-1)) eX0_takeBack_29 (by decide) ?_
  refine slv_icmp_ne eX0_takeBack_30 (fun h30 => ?_) (fun h30 => absurd h30 (nI_neg1 (by omega)))
  refine slv_iload_n eX0_takeBack_49 rfl ?_
  refine slv_if_ltN eX0_takeBack_50 (by omega) ?_
  refine slv_iload_n eX0_takeBack_53 rfl ?_
  refine slv_bipush (v := nI 12) eX0_takeBack_54 (by decide) ?_
  refine slv_icmp_geN eX0_takeBack_56 (by omega) (by omega) (fun h56 => absurd h56 (by omega)) (fun h56 => ?_)
  refine slv_aload_n eX0_takeBack_59 rfl ?_
  refine slv_getf eX0_takeBack_60 fX0_33 (by repeat (first | assumption | exact sl_up_eq | refine sl_up_ne (by first | decide | omega) ?_)) rfl ?_
  refine slv_iload_n eX0_takeBack_63 rfl ?_
  refine slv_aload_n eX0_takeBack_64 rfl ?_
  refine slv_getf eX0_takeBack_65 fX0_15 (by repeat (first | assumption | exact sl_up_eq | refine sl_up_ne (by first | decide | omega) ?_)) rfl ?_
  refine slv_aload_n eX0_takeBack_68 rfl ?_
  refine slv_getf eX0_takeBack_69 fX0_18 (by repeat (first | assumption | exact sl_up_eq | refine sl_up_ne (by first | decide | omega) ?_)) rfl ?_
  refine slv_ialdN eX0_takeBack_72 (by repeat (first | assumption | exact sl_up_eq | refine sl_up_ne (by first | decide | omega) ?_)) (by omega) (by decide) ?_
  rw [hv]
  refine slv_iconst (v := nI 1) eX0_takeBack_73 (by decide) ?_
  refine slv_icmp_neN eX0_takeBack_74 (by omega) (by omega) (fun h74 => ?_) (fun h74 => ?_)
  · refine slv_iconst (v := nI 0) eX0_takeBack_81 (by decide) ?_
    refine slv_top (w := .int (sl_bi (decide (x = 1)))) (by first | (rw [decide_eq_true h74]; rfl) | (rw [decide_eq_false h74]; rfl)) ?_
    refine slv_zastB (x := (decide (x = 1))) eX0_takeBack_82 (by repeat (first | assumption | exact sl_up_eq | refine sl_up_ne (by first | decide | omega) ?_)) (by omega) (by decide) ?_
    refine slv_mem gs_u7 ?_
    refine slv_vret eX0_takeBack_83 rfl ?_
    exact ⟨rfl, rfl⟩
  · refine slv_iconst (v := nI 1) eX0_takeBack_77 (by decide) ?_
    refine slv_goto eX0_takeBack_78 ?_
    refine slv_top (w := .int (sl_bi (decide (x = 1)))) (by first | (rw [decide_eq_true h74]; rfl) | (rw [decide_eq_false h74]; rfl)) ?_
    refine slv_zastB (x := (decide (x = 1))) eX0_takeBack_82 (by repeat (first | assumption | exact sl_up_eq | refine sl_up_ne (by first | decide | omega) ?_)) (by omega) (by decide) ?_
    refine slv_mem gs_u7 ?_
    refine slv_vret eX0_takeBack_83 rfl ?_
    exact ⟨rfl, rfl⟩
end GCL

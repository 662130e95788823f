theorem sg_keep {b : Nat} {g : sg_T} {M M' : sl_M} (h : sg_at b g M) (hk : ∀ k, b ≤ k → k < b + 8 → M' k = M k) : sg_at b g M' := by
  obtain ⟨g0, g1, g2, g3, g4, g5, g6, g7⟩ := h
  exact ⟨(hk _ (by omega) (by omega)).trans g0, (hk _ (by omega) (by omega)).trans g1, (hk _ (by omega) (by omega)).trans g2, (hk _ (by omega) (by omega)).trans g3, (hk _ (by omega) (by omega)).trans g4, (hk _ (by omega) (by omega)).trans g5, (hk _ (by omega) (by omega)).trans g6, (hk _ (by omega) (by omega)).trans g7⟩
theorem rl_sg {b : Nat} {g : sg_T} {M : sl_M} {e : Nat} {l t s : Nat → Int32} (hb : b = 2 ∨ b = 10) (h : sg_at b g M) : sg_at b g (rl_set e l t s M) := sg_keep h (fun k h1 h2 => rl_out (by omega))
/-- what one end of rule r gives to an edge -/
def rl_eo (g : sg_T) (r o i : Nat) (f : Nat → Int32) : Int32 := cond (sg_nm (sg_it g r o)) (cond (sg_nm (sg_it g r i)) (f (sg_it g r o - 100)) (f (sg_it g r o - 100) ||| nI 1 <<< (nI (sg_it g r i) &&& 31))) (nI 1 <<< (nI (sg_it g r o) &&& 31))
set_option maxRecDepth 100000 in
theorem c_X10_edgeOf {b : Nat} {g : sg_T} {M : sl_M} (hg : sg_at b g M) (hok : sg_ok g) {r o i a : Nat} {f : Nat → Int32} (hr : r < 12) (ho : o < 5) (hi : i < 5) (ha : M a = .inl (.int, 6, .inl f)) : sl_R YX10_edgeOf 1 [.ref b, .int (nI r), .int (nI o), .int (nI i), .ref a] M (some (.int (rl_eo g r o i f))) M := by
  have g0 := hg.1
  have i1 := hok.2.2.2.2.2.2.1 (5 * r + o) (by omega)
  have i2 := hok.2.2.2.2.2.2.1 (5 * r + i) (by omega)
  refine sl_T.of_V (lv := [_, _, _, _, _, _, _, _]) (by decide) rfl (Nat.le_of_ble_eq_true rfl) ?_
  refine slv_aload_n eX10_edgeOf_0 rfl ?_
  refine slv_iload_n eX10_edgeOf_1 rfl ?_
  refine slv_iload_n eX10_edgeOf_2 rfl ?_
  refine slv_rV (As := [_, _]) eX10_edgeOf_3 lX10_74 rfl rfl (by repeat (first | assumption | exact sl_up_eq | refine sl_up_ne (by first | decide | omega) ?_)) rfl (c_X2_itemAt hg hr ho) (by decide) (Nat.le_of_ble_eq_true rfl) ?_
  refine slv_istore (lv' := [_, _, _, _, _, _, _, _]) eX10_edgeOf_6 (by decide) rfl ?_
  refine slv_iload eX10_edgeOf_8 rfl ?_
  refine slv_rS (As := [_]) eX10_edgeOf_10 lX10_77 rfl rfl (c_X2_isName M _ (by omega)) (by decide) (Nat.le_of_ble_eq_true rfl) ?_
  refine slv_if_neB eX10_edgeOf_13 (fun h13 => ?_) (fun h13 => ?_)
  · refine slv_aload_n eX10_edgeOf_21 rfl ?_
    refine slv_iload_n eX10_edgeOf_22 rfl ?_
    refine slv_iload_n eX10_edgeOf_23 rfl ?_
    refine slv_rV (As := [_, _]) eX10_edgeOf_24 lX10_74 rfl rfl (by repeat (first | assumption | exact sl_up_eq | refine sl_up_ne (by first | decide | omega) ?_)) rfl (c_X2_itemAt hg hr hi) (by decide) (Nat.le_of_ble_eq_true rfl) ?_
    refine slv_istore (lv' := [_, _, _, _, _, _, _, _]) eX10_edgeOf_27 (by decide) rfl ?_
    refine slv_aload eX10_edgeOf_29 rfl ?_
    refine slv_iload eX10_edgeOf_31 rfl ?_
    refine slv_bipush (v := nI 100) eX10_edgeOf_33 (by decide) ?_
    have g13 : 100 ≤ sg_items g (5 * r + o) := of_decide_eq_true h13
    refine slv_isubN eX10_edgeOf_35 (by omega) ?_
    refine slv_ialdN eX10_edgeOf_36 (by repeat (first | assumption | exact sl_up_eq | refine sl_up_ne (by first | decide | omega) ?_)) (by omega) (by decide) ?_
    refine slv_istore (lv' := [_, _, _, _, _, _, _, _]) eX10_edgeOf_37 (by decide) rfl ?_
    refine slv_iload eX10_edgeOf_39 rfl ?_
    refine slv_rS (As := [_]) eX10_edgeOf_41 lX10_77 rfl rfl (c_X2_isName M _ (by omega)) (by decide) (Nat.le_of_ble_eq_true rfl) ?_
    refine slv_if_eqB eX10_edgeOf_44 (fun h44 => ?_) (fun h44 => ?_)
    · refine slv_iload eX10_edgeOf_52 rfl ?_
      refine slv_iconst (v := nI 1) eX10_edgeOf_54 (by decide) ?_
      refine slv_iload eX10_edgeOf_55 rfl ?_
      refine slv_ishl eX10_edgeOf_57 ?_
      refine slv_ior eX10_edgeOf_58 ?_
      refine slv_iret eX10_edgeOf_59 rfl ?_
      exact ⟨by first | (rw [rl_eo, show sg_nm (sg_it g r o) = _ from h13]; rfl) | (rw [rl_eo, show sg_nm (sg_it g r o) = _ from h13, show sg_nm (sg_it g r i) = _ from h44]; rfl), rfl⟩
    · refine slv_iload eX10_edgeOf_47 rfl ?_
      refine slv_goto eX10_edgeOf_49 ?_
      refine slv_iret eX10_edgeOf_59 rfl ?_
      exact ⟨by first | (rw [rl_eo, show sg_nm (sg_it g r o) = _ from h13]; rfl) | (rw [rl_eo, show sg_nm (sg_it g r o) = _ from h13, show sg_nm (sg_it g r i) = _ from h44]; rfl), rfl⟩
  · refine slv_iconst (v := nI 1) eX10_edgeOf_16 (by decide) ?_
    refine slv_iload eX10_edgeOf_17 rfl ?_
    refine slv_ishl eX10_edgeOf_19 ?_
    refine slv_iret eX10_edgeOf_20 rfl ?_
    exact ⟨by first | (rw [rl_eo, show sg_nm (sg_it g r o) = _ from h13]; rfl) | (rw [rl_eo, show sg_nm (sg_it g r o) = _ from h13, show sg_nm (sg_it g r i) = _ from h44]; rfl), rfl⟩
/-- one rule's step -/
def rl_st (g : sg_T) (r : Nat) (p : (Nat → Int32) × (Nat → Int32)) : (Nat → Int32) × (Nat → Int32) :=
  cond (!(sg_put g r) && decide (0 < sg_lens g r)) (sl_u p.1 (sg_heads g r) (p.1 (sg_heads g r) ||| rl_eo g r 0 (min 1 (sg_lens g r - 1)) p.1), sl_u p.2 (sg_heads g r) (p.2 (sg_heads g r) ||| rl_eo g r (sg_lens g r - 1) (sg_lens g r - 1 - 1) p.2)) p
def rl_gr (g : sg_T) (n i : Nat) (p : (Nat → Int32) × (Nat → Int32)) : (Nat → Int32) × (Nat → Int32) := sl_fo (rl_st g) n i p
set_option maxRecDepth 100000 in
theorem c_X10_growEdges {b : Nat} {g : sg_T} {M : sl_M} (hb : b = 2 ∨ b = 10) (hg : sg_at b g M) (hok : sg_ok g) {e : Nat} {l t s : Nat → Int32} (h : rl_at e l t s M) : sl_R YX10_growEdges 2 [.ref 19, .ref b] M none (rl_set e (rl_gr g (sg_rules g) 0 (l, t)).1 (rl_gr g (sg_rules g) 0 (l, t)).2 s M) := by
  have hok' := hok
  obtain ⟨k0, k1, k2, k3, k4, k5, k6⟩ := hok
  refine sl_T.of_V (lv := [_, _, _, _, _]) (by decide) rfl (Nat.le_of_ble_eq_true rfl) ?_
  have loop : ∀ (n i : Nat) (l t : Nat → Int32) (v3 v4 : Option Value), i + n = sg_rules g → ∀ Q : Option Value → sl_M → Prop, Q none (rl_set e (rl_gr g n i (l, t)).1 (rl_gr g n i (l, t)).2 s M) → sl_V YX10_growEdges none 2 0 0 Q 2 [some (.ref 19), some (.ref b), some (.int (nI i)), v3, v4] [] (rl_set e l t s M) := by
    intro n
    induction n with
    | zero =>
      intro i l t v3 v4 hi Q hQ
      obtain ⟨g0, g1, g2, g3, g4, g5, g6, g7⟩ := hg
      refine slv_iload_n eX10_growEdges_2 rfl ?_
      refine slv_aload_n eX10_growEdges_3 rfl ?_
      refine slv_getf eX10_growEdges_4 fX10_37 (by repeat (first | assumption | exact sl_up_eq | refine sl_up_ne (by first | decide | omega) ?_)) rfl ?_
      refine slv_icmp_geN eX10_growEdges_7 (by omega) (by omega) (fun h7 => ?_) (fun h7 => absurd h7 (by omega))
      refine slv_vret eX10_growEdges_103 rfl ?_
      exact hQ
    | succ n ih =>
      intro i l t v3 v4 hi Q hQ
      have hh := (k5 i (by omega)).1
      have hl := (k5 i (by omega)).2.2
      obtain ⟨g0, g1, g2, g3, g4, g5, g6, g7⟩ := id hg
      have em : 0 < sg_lens g i → (if nI (sg_lens g i - 1) - nI 1 < nI 0 then nI 0 else nI (sg_lens g i - 1) - nI 1) = nI (sg_lens g i - 1 - 1) := by
        intro h0
        rcases Nat.lt_or_ge (sg_lens g i - 1) 1 with q | q
        · rw [show sg_lens g i - 1 = 0 by omega]; decide
        · rw [nI_sub q, if_neg (nI_nlt (Nat.zero_le _) (by omega))]
      refine slv_iload_n eX10_growEdges_2 rfl ?_
      refine slv_aload_n eX10_growEdges_3 rfl ?_
      refine slv_getf eX10_growEdges_4 fX10_37 (by repeat (first | assumption | exact sl_up_eq | refine sl_up_ne (by first | decide | omega) ?_)) rfl ?_
      refine slv_icmp_geN eX10_growEdges_7 (by omega) (by omega) (fun h7 => absurd h7 (by omega)) (fun h7 => ?_)
      refine slv_aload_n eX10_growEdges_10 rfl ?_
      refine slv_getf eX10_growEdges_11 fX10_40 (by repeat (first | assumption | exact sl_up_eq | refine sl_up_ne (by first | decide | omega) ?_)) rfl ?_
      refine slv_iload_n eX10_growEdges_14 rfl ?_
      refine slv_zaldN eX10_growEdges_15 (by repeat (first | assumption | exact sl_up_eq | refine sl_up_ne (by first | decide | omega) ?_)) (by omega) (by decide) ?_
      refine slv_if_neB eX10_growEdges_16 (fun h16 => ?_) (fun h16 => ?_)
      · try rw [rl_u21]
        refine slv_iincN (lv' := [_, _, _, _, _]) eX10_growEdges_97 rfl (by decide) rfl ?_
        refine slv_goto eX10_growEdges_100 ?_
        refine ih (i + 1) _ _ _ _ (by omega) Q ?_
        first | (have q : rl_gr g (n + 1) i (l, t) = rl_gr g n (i + 1) (l, t) := (by simp only [rl_gr, sl_fo, rl_st, h16, Bool.not_true, Bool.false_and, cond_false]); rw [q] at hQ; exact hQ) | (have q : rl_gr g (n + 1) i (l, t) = rl_gr g n (i + 1) (l, t) := (by simp only [rl_gr, sl_fo, rl_st, h16, h25, Nat.lt_irrefl, decide_false, Bool.and_false, cond_false]); rw [q] at hQ; exact hQ) | (simp only [rl_gr, sl_fo, rl_st, h16, h25, decide_true, Bool.not_false, Bool.and_self, cond_true] at hQ; exact hQ)
      · refine slv_aload_n eX10_growEdges_19 rfl ?_
        refine slv_getf eX10_growEdges_20 fX10_55 (by repeat (first | assumption | exact sl_up_eq | refine sl_up_ne (by first | decide | omega) ?_)) rfl ?_
        refine slv_iload_n eX10_growEdges_23 rfl ?_
        refine slv_ialdN eX10_growEdges_24 (by repeat (first | assumption | exact sl_up_eq | refine sl_up_ne (by first | decide | omega) ?_)) (by omega) (by decide) ?_
        refine slv_if_leN eX10_growEdges_25 (by omega) (fun h25 => absurd h25 (by have := k6.2 i (by omega); omega)) (fun h25 => ?_)
        refine slv_aload_n eX10_growEdges_28 rfl ?_
        refine slv_getf eX10_growEdges_29 fX10_55 (by repeat (first | assumption | exact sl_up_eq | refine sl_up_ne (by first | decide | omega) ?_)) rfl ?_
        refine slv_iload_n eX10_growEdges_32 rfl ?_
        refine slv_ialdN eX10_growEdges_33 (by repeat (first | assumption | exact sl_up_eq | refine sl_up_ne (by first | decide | omega) ?_)) (by omega) (by decide) ?_
        refine slv_iconst (v := nI 1) eX10_growEdges_34 (by decide) ?_
        refine slv_isubN eX10_growEdges_35 (by omega) ?_
        refine slv_istore_n (i := 3) (lv' := [_, _, _, _, _]) eX10_growEdges_36 rfl (by decide) rfl ?_
        refine slv_aload_n eX10_growEdges_37 rfl ?_
        refine slv_getf eX10_growEdges_38 fX10_58 (by repeat (first | assumption | exact sl_up_eq | refine sl_up_ne (by first | decide | omega) ?_)) rfl ?_
        refine slv_iload_n eX10_growEdges_41 rfl ?_
        refine slv_ialdN eX10_growEdges_42 (by repeat (first | assumption | exact sl_up_eq | refine sl_up_ne (by first | decide | omega) ?_)) (by omega) (by decide) ?_
        refine slv_istore (lv' := [_, _, _, _, _]) eX10_growEdges_43 (by decide) rfl ?_
        refine slv_aload_n eX10_growEdges_45 rfl ?_
        refine slv_getf eX10_growEdges_46 fX10_9 (by repeat (first | assumption | exact sl_up_eq | refine sl_up_ne (by first | decide | omega) ?_)) rfl ?_
        refine slv_iload eX10_growEdges_49 rfl ?_
        refine slv_dup2 eX10_growEdges_51 rfl rfl ?_
        refine slv_ialdN eX10_growEdges_52 (by repeat (first | assumption | exact sl_up_eq | refine sl_up_ne (by first | decide | omega) ?_)) (by omega) (by decide) ?_
        refine slv_aload_n eX10_growEdges_53 rfl ?_
        refine slv_iload_n eX10_growEdges_54 rfl ?_
        refine slv_iconst (v := nI 0) eX10_growEdges_55 (by decide) ?_
        refine slv_iconst (v := nI 1) eX10_growEdges_56 (by decide) ?_
        refine slv_iload_n eX10_growEdges_57 rfl ?_
        refine slv_minN eX10_growEdges_58 lX10_61 (by omega) (by omega) (by decide) (Nat.le_of_ble_eq_true rfl) ?_
        refine slv_aload_n eX10_growEdges_61 rfl ?_
        refine slv_getf eX10_growEdges_62 fX10_9 (by repeat (first | assumption | exact sl_up_eq | refine sl_up_ne (by first | decide | omega) ?_)) rfl ?_
        refine slv_rS (As := [_, _, _, _, _]) eX10_growEdges_65 lX10_67 rfl rfl (c_X10_edgeOf (rl_sg hb hg) hok' (by omega) (by omega) (by omega) (f := l) (by simp [sl_up])) (by decide) (Nat.le_of_ble_eq_true rfl) ?_
        refine slv_ior eX10_growEdges_68 ?_
        refine slv_iastI eX10_growEdges_69 (by repeat (first | assumption | exact sl_up_eq | refine sl_up_ne (by first | decide | omega) ?_)) (by omega) (by decide) ?_
        rw [rl_u20]
        refine slv_aload_n eX10_growEdges_70 rfl ?_
        refine slv_getf eX10_growEdges_71 fX10_15 (by repeat (first | assumption | exact sl_up_eq | refine sl_up_ne (by first | decide | omega) ?_)) rfl ?_
        refine slv_iload eX10_growEdges_74 rfl ?_
        refine slv_dup2 eX10_growEdges_76 rfl rfl ?_
        refine slv_ialdN eX10_growEdges_77 (by repeat (first | assumption | exact sl_up_eq | refine sl_up_ne (by first | decide | omega) ?_)) (by omega) (by decide) ?_
        refine slv_aload_n eX10_growEdges_78 rfl ?_
        refine slv_iload_n eX10_growEdges_79 rfl ?_
        refine slv_iload_n eX10_growEdges_80 rfl ?_
        refine slv_iload_n eX10_growEdges_81 rfl ?_
        refine slv_iconst (v := nI 1) eX10_growEdges_82 (by decide) ?_
        refine slv_isub eX10_growEdges_83 ?_
        refine slv_iconst (v := nI 0) eX10_growEdges_84 (by decide) ?_
        refine slv_max eX10_growEdges_85 lX10_71 (by decide) (Nat.le_of_ble_eq_true rfl) ?_
        rw [em h25]
        refine slv_aload_n eX10_growEdges_88 rfl ?_
        refine slv_getf eX10_growEdges_89 fX10_15 (by repeat (first | assumption | exact sl_up_eq | refine sl_up_ne (by first | decide | omega) ?_)) rfl ?_
        refine slv_rS (As := [_, _, _, _, _]) eX10_growEdges_92 lX10_67 rfl rfl (c_X10_edgeOf (rl_sg hb hg) hok' (by omega) (by omega) (by omega) (f := t) (by simp [sl_up])) (by decide) (Nat.le_of_ble_eq_true rfl) ?_
        refine slv_ior eX10_growEdges_95 ?_
        refine slv_iastI eX10_growEdges_96 (by repeat (first | assumption | exact sl_up_eq | refine sl_up_ne (by first | decide | omega) ?_)) (by omega) (by decide) ?_
        try rw [rl_u21]
        refine slv_iincN (lv' := [_, _, _, _, _]) eX10_growEdges_97 rfl (by decide) rfl ?_
        refine slv_goto eX10_growEdges_100 ?_
        refine ih (i + 1) _ _ _ _ (by omega) Q ?_
        first | (have q : rl_gr g (n + 1) i (l, t) = rl_gr g n (i + 1) (l, t) := (by simp only [rl_gr, sl_fo, rl_st, h16, Bool.not_true, Bool.false_and, cond_false]); rw [q] at hQ; exact hQ) | (have q : rl_gr g (n + 1) i (l, t) = rl_gr g n (i + 1) (l, t) := (by simp only [rl_gr, sl_fo, rl_st, h16, h25, Nat.lt_irrefl, decide_false, Bool.and_false, cond_false]); rw [q] at hQ; exact hQ) | (simp only [rl_gr, sl_fo, rl_st, h16, h25, decide_true, Bool.not_false, Bool.and_self, cond_true] at hQ; exact hQ)
  rw [← rl_self h]
  refine slv_iconst (v := nI 0) eX10_growEdges_0 (by decide) ?_
  refine slv_istore_n (i := 2) (lv' := [_, _, _, _, _]) eX10_growEdges_1 rfl (by decide) rfl ?_
  refine loop (sg_rules g) 0 l t _ _ (by omega) _ ⟨rfl, ?_⟩
  rw [rl_self h]
/-- two items side by side in rule r -/
def rl_r1 (g : sg_T) (e : Nat) (l t : Nat → Int32) (r i : Nat) (s : Nat → Int32) : Nat → Int32 :=
  cond (sg_nm (sg_it g r i)) (rl_abv e (t (sg_it g r i - 100)) (sg_it g r (i + 1)) e 0 s)
    (cond (sg_nm (sg_it g r (i + 1))) (cond (decide (i + 1 < sg_lens g r - 1)) (rl_add e (rl_bel e (sg_it g r i) (l (sg_it g r (i + 1) - 100)) e 0 s) (sg_it g r i) (sg_it g r (i + 2)) 2) (rl_bel e (sg_it g r i) (l (sg_it g r (i + 1) - 100)) e 0 s))
      (rl_add e s (sg_it g r i) (sg_it g r (i + 1)) 2))
def rl_rr (g : sg_T) (e : Nat) (l t : Nat → Int32) (r n i : Nat) (s : Nat → Int32) : Nat → Int32 := sl_fo (rl_r1 g e l t r) n i s
set_option maxRecDepth 100000 in
theorem c_X10_relateRule {b : Nat} {g : sg_T} {M : sl_M} (hb : b = 2 ∨ b = 10) (hg : sg_at b g M) (hok : sg_ok g) {e : Nat} {l t s : Nat → Int32} (h : rl_at e l t s M) (he : e ≤ 11) {r : Nat} (hr : r < sg_rules g) : sl_R YX10_relateRule 2 [.ref 19, .ref b, .int (nI r)] M none (rl_set e l t (rl_rr g e l t r (sg_lens g r - 1) 0 s) M) := by
  have hok' := hok
  obtain ⟨k0, k1, k2, k3, k4, k5, k6⟩ := hok
  have hl : sg_lens g r ≤ 5 := (k5 r (by omega)).2.2
  have hl1 : 1 ≤ sg_lens g r := k6.2 r hr
  have it : ∀ i, i < 5 → sg_items g (5 * r + i) < 106 := fun i hi => k6.1 _ (by omega)
  refine sl_T.of_V (lv := [_, _, _, _, _, _, _]) (by decide) rfl (Nat.le_of_ble_eq_true rfl) ?_
  have loop : ∀ (n i : Nat) (s : Nat → Int32) (v5 v6 : Option Value), i + n = sg_lens g r - 1 → ∀ Q : Option Value → sl_M → Prop, Q none (rl_set e l t (rl_rr g e l t r n i s) M) → sl_V YX10_relateRule none 2 0 0 Q 12 [some (.ref 19), some (.ref b), some (.int (nI r)), some (.int (nI (sg_lens g r - 1))), some (.int (nI i)), v5, v6] [] (rl_set e l t s M) := by
    intro n
    induction n with
    | zero =>
      intro i s v5 v6 hi Q hQ
      refine slv_iload eX10_relateRule_12 rfl ?_
      refine slv_iload_n eX10_relateRule_14 rfl ?_
      refine slv_icmp_geN eX10_relateRule_15 (by omega) (by omega) (fun h15 => ?_) (fun h15 => absurd h15 (by omega))
      refine slv_vret eX10_relateRule_131 rfl ?_
      exact hQ
    | succ n ih =>
      intro i s v5 v6 hi Q hQ
      have j0 := it i (by omega)
      have j1 := it (i + 1) (by omega)
      have g0 : (rl_set e l t s M) b = _ := (rl_sg hb hg).1
      refine slv_iload eX10_relateRule_12 rfl ?_
      refine slv_iload_n eX10_relateRule_14 rfl ?_
      refine slv_icmp_geN eX10_relateRule_15 (by omega) (by omega) (fun h15 => absurd h15 (by omega)) (fun h15 => ?_)
      refine slv_aload_n eX10_relateRule_18 rfl ?_
      refine slv_iload_n eX10_relateRule_19 rfl ?_
      refine slv_iload eX10_relateRule_20 rfl ?_
      refine slv_rV (As := [_, _]) eX10_relateRule_22 lX10_74 rfl rfl (by repeat (first | assumption | exact sl_up_eq | refine sl_up_ne (by first | decide | omega) ?_)) rfl (c_X2_itemAt (rl_sg hb hg) (by omega) (by omega)) (by decide) (Nat.le_of_ble_eq_true rfl) ?_
      refine slv_istore (lv' := [_, _, _, _, _, _, _]) eX10_relateRule_25 (by decide) rfl ?_
      refine slv_aload_n eX10_relateRule_27 rfl ?_
      refine slv_iload_n eX10_relateRule_28 rfl ?_
      refine slv_iload eX10_relateRule_29 rfl ?_
      refine slv_iconst (v := nI 1) eX10_relateRule_31 (by decide) ?_
      refine slv_iaddN eX10_relateRule_32 ?_
      refine slv_rV (As := [_, _]) eX10_relateRule_33 lX10_74 rfl rfl (by repeat (first | assumption | exact sl_up_eq | refine sl_up_ne (by first | decide | omega) ?_)) rfl (c_X2_itemAt (rl_sg hb hg) (by omega) (by omega)) (by decide) (Nat.le_of_ble_eq_true rfl) ?_
      refine slv_istore (lv' := [_, _, _, _, _, _, _]) eX10_relateRule_36 (by decide) rfl ?_
      refine slv_iload eX10_relateRule_38 rfl ?_
      refine slv_rS (As := [_]) eX10_relateRule_40 lX10_77 rfl rfl (c_X2_isName _ _ (by omega)) (by decide) (Nat.le_of_ble_eq_true rfl) ?_
      refine slv_if_eqB eX10_relateRule_43 (fun h43 => ?_) (fun h43 => ?_)
      · refine slv_iload eX10_relateRule_65 rfl ?_
        refine slv_rS (As := [_]) eX10_relateRule_67 lX10_77 rfl rfl (c_X2_isName _ _ (by omega)) (by decide) (Nat.le_of_ble_eq_true rfl) ?_
        refine slv_if_eqB eX10_relateRule_70 (fun h70 => ?_) (fun h70 => ?_)
        · refine slv_aload_n eX10_relateRule_116 rfl ?_
          refine slv_iload eX10_relateRule_117 rfl ?_
          refine slv_iload eX10_relateRule_119 rfl ?_
          refine slv_iconst (v := nI 2) eX10_relateRule_121 (by decide) ?_
          refine slv_rV (As := [_, _, _]) eX10_relateRule_122 lX10_81 rfl rfl (by repeat (first | assumption | exact sl_up_eq | refine sl_up_ne (by first | decide | omega) ?_)) rfl (c_X10_addRelation rl_of he (by omega) (by omega)) (by decide) (Nat.le_of_ble_eq_true rfl) ?_
          try rw [rl_ss]
          refine slv_iincN (lv' := [_, _, _, _, _, _, _]) eX10_relateRule_125 rfl (by decide) rfl ?_
          refine slv_goto eX10_relateRule_128 ?_
          refine ih (i + 1) _ _ _ (by omega) Q ?_
          first | (simp only [rl_rr, sl_fo, rl_r1, sg_nm, sg_it, h43, h70, decide_eq_true h94, cond_true, cond_false] at hQ; exact hQ) | (simp only [rl_rr, sl_fo, rl_r1, sg_nm, sg_it, h43, h70, decide_eq_false (Nat.not_lt.mpr h94), cond_true, cond_false] at hQ; exact hQ) | (simp only [rl_rr, sl_fo, rl_r1, sg_nm, sg_it, h43, h70, cond_true, cond_false] at hQ; exact hQ) | (simp only [rl_rr, sl_fo, rl_r1, sg_nm, sg_it, h43, cond_true, cond_false] at hQ; exact hQ)
        · refine slv_aload_n eX10_relateRule_73 rfl ?_
          refine slv_iload eX10_relateRule_74 rfl ?_
          refine slv_aload_n eX10_relateRule_76 rfl ?_
          refine slv_getf eX10_relateRule_77 fX10_9 (by repeat (first | assumption | exact sl_up_eq | refine sl_up_ne (by first | decide | omega) ?_)) rfl ?_
          refine slv_iload eX10_relateRule_80 rfl ?_
          refine slv_bipush (v := nI 100) eX10_relateRule_82 (by decide) ?_
          have g70 : 100 ≤ sg_items g (5 * r + (i + 1)) := of_decide_eq_true h70
          refine slv_isubN eX10_relateRule_84 (by omega) ?_
          refine slv_ialdN eX10_relateRule_85 (by repeat (first | assumption | exact sl_up_eq | refine sl_up_ne (by first | decide | omega) ?_)) (by omega) (by decide) ?_
          refine slv_rV (As := [_, _]) eX10_relateRule_86 lX10_48 rfl rfl (by repeat (first | assumption | exact sl_up_eq | refine sl_up_ne (by first | decide | omega) ?_)) rfl (c_X10_addBelow rl_of he (by omega) _) (by decide) (Nat.le_of_ble_eq_true rfl) ?_
          rw [rl_ss]
          refine slv_iload eX10_relateRule_89 rfl ?_
          refine slv_iconst (v := nI 1) eX10_relateRule_91 (by decide) ?_
          refine slv_iaddN eX10_relateRule_92 ?_
          refine slv_iload_n eX10_relateRule_93 rfl ?_
          refine slv_icmp_geN eX10_relateRule_94 (by omega) (by omega) (fun h94 => ?_) (fun h94 => ?_)
          · try rw [rl_ss]
            refine slv_iincN (lv' := [_, _, _, _, _, _, _]) eX10_relateRule_125 rfl (by decide) rfl ?_
            refine slv_goto eX10_relateRule_128 ?_
            refine ih (i + 1) _ _ _ (by omega) Q ?_
            first | (simp only [rl_rr, sl_fo, rl_r1, sg_nm, sg_it, h43, h70, decide_eq_true h94, cond_true, cond_false] at hQ; exact hQ) | (simp only [rl_rr, sl_fo, rl_r1, sg_nm, sg_it, h43, h70, decide_eq_false (Nat.not_lt.mpr h94), cond_true, cond_false] at hQ; exact hQ) | (simp only [rl_rr, sl_fo, rl_r1, sg_nm, sg_it, h43, h70, cond_true, cond_false] at hQ; exact hQ) | (simp only [rl_rr, sl_fo, rl_r1, sg_nm, sg_it, h43, cond_true, cond_false] at hQ; exact hQ)
          · have j2 := it (i + 2) (by omega)
            have g0 : (rl_set e l t (rl_bel e (sg_items g (5 * r + i)) (l (sg_items g (5 * r + (i + 1)) - 100)) e 0 s) M) b = _ := (rl_sg hb hg).1
            refine slv_aload_n eX10_relateRule_97 rfl ?_
            refine slv_iload eX10_relateRule_98 rfl ?_
            refine slv_aload_n eX10_relateRule_100 rfl ?_
            refine slv_iload_n eX10_relateRule_101 rfl ?_
            refine slv_iload eX10_relateRule_102 rfl ?_
            refine slv_iconst (v := nI 2) eX10_relateRule_104 (by decide) ?_
            refine slv_iaddN eX10_relateRule_105 ?_
            refine slv_rV (As := [_, _]) eX10_relateRule_106 lX10_74 rfl rfl (by repeat (first | assumption | exact sl_up_eq | refine sl_up_ne (by first | decide | omega) ?_)) rfl (c_X2_itemAt (rl_sg hb hg) (by omega) (by omega)) (by decide) (Nat.le_of_ble_eq_true rfl) ?_
            refine slv_iconst (v := nI 2) eX10_relateRule_109 (by decide) ?_
            refine slv_rV (As := [_, _, _]) eX10_relateRule_110 lX10_81 rfl rfl (by repeat (first | assumption | exact sl_up_eq | refine sl_up_ne (by first | decide | omega) ?_)) rfl (c_X10_addRelation rl_of he (by omega) (by omega)) (by decide) (Nat.le_of_ble_eq_true rfl) ?_
            rw [rl_ss]
            refine slv_goto eX10_relateRule_113 ?_
            try rw [rl_ss]
            refine slv_iincN (lv' := [_, _, _, _, _, _, _]) eX10_relateRule_125 rfl (by decide) rfl ?_
            refine slv_goto eX10_relateRule_128 ?_
            refine ih (i + 1) _ _ _ (by omega) Q ?_
            first | (simp only [rl_rr, sl_fo, rl_r1, sg_nm, sg_it, h43, h70, decide_eq_true h94, cond_true, cond_false] at hQ; exact hQ) | (simp only [rl_rr, sl_fo, rl_r1, sg_nm, sg_it, h43, h70, decide_eq_false (Nat.not_lt.mpr h94), cond_true, cond_false] at hQ; exact hQ) | (simp only [rl_rr, sl_fo, rl_r1, sg_nm, sg_it, h43, h70, cond_true, cond_false] at hQ; exact hQ) | (simp only [rl_rr, sl_fo, rl_r1, sg_nm, sg_it, h43, cond_true, cond_false] at hQ; exact hQ)
      · refine slv_aload_n eX10_relateRule_46 rfl ?_
        refine slv_aload_n eX10_relateRule_47 rfl ?_
        refine slv_getf eX10_relateRule_48 fX10_15 (by repeat (first | assumption | exact sl_up_eq | refine sl_up_ne (by first | decide | omega) ?_)) rfl ?_
        refine slv_iload eX10_relateRule_51 rfl ?_
        refine slv_bipush (v := nI 100) eX10_relateRule_53 (by decide) ?_
        have g43 : 100 ≤ sg_items g (5 * r + i) := of_decide_eq_true h43
        refine slv_isubN eX10_relateRule_55 (by omega) ?_
        refine slv_ialdN eX10_relateRule_56 (by repeat (first | assumption | exact sl_up_eq | refine sl_up_ne (by first | decide | omega) ?_)) (by omega) (by decide) ?_
        refine slv_iload eX10_relateRule_57 rfl ?_
        refine slv_rV (As := [_, _]) eX10_relateRule_59 lX10_52 rfl rfl (by repeat (first | assumption | exact sl_up_eq | refine sl_up_ne (by first | decide | omega) ?_)) rfl (c_X10_addAbove rl_of he (by omega) _) (by decide) (Nat.le_of_ble_eq_true rfl) ?_
        rw [rl_ss]
        refine slv_goto eX10_relateRule_62 ?_
        try rw [rl_ss]
        refine slv_iincN (lv' := [_, _, _, _, _, _, _]) eX10_relateRule_125 rfl (by decide) rfl ?_
        refine slv_goto eX10_relateRule_128 ?_
        refine ih (i + 1) _ _ _ (by omega) Q ?_
        first | (simp only [rl_rr, sl_fo, rl_r1, sg_nm, sg_it, h43, h70, decide_eq_true h94, cond_true, cond_false] at hQ; exact hQ) | (simp only [rl_rr, sl_fo, rl_r1, sg_nm, sg_it, h43, h70, decide_eq_false (Nat.not_lt.mpr h94), cond_true, cond_false] at hQ; exact hQ) | (simp only [rl_rr, sl_fo, rl_r1, sg_nm, sg_it, h43, h70, cond_true, cond_false] at hQ; exact hQ) | (simp only [rl_rr, sl_fo, rl_r1, sg_nm, sg_it, h43, cond_true, cond_false] at hQ; exact hQ)
  rw [← rl_self h]
  obtain ⟨g0, g1, g2, g3, g4, g5, g6, g7⟩ := id hg
  refine slv_aload_n eX10_relateRule_0 rfl ?_
  refine slv_getf eX10_relateRule_1 fX10_55 (by repeat (first | assumption | exact sl_up_eq | refine sl_up_ne (by first | decide | omega) ?_)) rfl ?_
  refine slv_iload_n eX10_relateRule_4 rfl ?_
  refine slv_ialdN eX10_relateRule_5 (by repeat (first | assumption | exact sl_up_eq | refine sl_up_ne (by first | decide | omega) ?_)) (by omega) (by decide) ?_
  refine slv_iconst (v := nI 1) eX10_relateRule_6 (by decide) ?_
  refine slv_isubN eX10_relateRule_7 (by omega) ?_
  refine slv_istore_n (i := 3) (lv' := [_, _, _, _, _, _, _]) eX10_relateRule_8 rfl (by decide) rfl ?_
  refine slv_iconst (v := nI 0) eX10_relateRule_9 (by decide) ?_
  refine slv_istore (lv' := [_, _, _, _, _, _, _]) eX10_relateRule_10 (by decide) rfl ?_
  refine loop (sg_lens g r - 1) 0 s _ _ (by omega) _ ⟨rfl, ?_⟩
  rw [rl_self h]

def rl_LT (g : sg_T) : (Nat → Int32) × (Nat → Int32) := sl_fo (fun _ p => rl_gr g (sg_rules g) 0 p) (sg_names g + 1) 0 (fun _ => nI 0, fun _ => nI 0)
def rl_S1 (g : sg_T) (n i : Nat) (s : Nat → Int32) : Nat → Int32 := sl_fo (fun r s => cond (sg_put g r) s (rl_rr g (sg_terms g) (rl_LT g).1 (rl_LT g).2 r (sg_lens g r - 1) 0 s)) n i s
def rl_S (g : sg_T) : Nat → Int32 := rl_abv (sg_terms g) ((rl_LT g).2 0) (sg_terms g) (sg_terms g) 0 (rl_bel (sg_terms g) (sg_terms g) ((rl_LT g).1 0) (sg_terms g) 0 (rl_S1 g (sg_rules g) 0 (fun _ => nI 0)))
set_option maxRecDepth 100000 in
set_option maxHeartbeats 4000000 in
theorem c_X10_reckon {b : Nat} {g : sg_T} {M : sl_M} (hb : b = 2 ∨ b = 10) (hg : sg_at b g M) (hok : sg_ok g) {e : Nat} {l t s : Nat → Int32} (h : rl_at e l t s M) (hz : (∀ i, 6 ≤ i → l i = nI 0 ∧ t i = nI 0) ∧ ∀ i, 144 ≤ i → s i = nI 0) : sl_R YX10_reckon 3 [.ref 19, .ref b] M none (rl_set (sg_terms g) (rl_LT g).1 (rl_LT g).2 (rl_S g) M) := by
  have hok' := hok
  obtain ⟨k0, k1, k2, k3, k4, k5, k6⟩ := hok
  have G : ∀ (e : Nat) (l t s : Nat → Int32), sg_at b g (rl_set e l t s M) := fun e l t s => rl_sg hb hg
  refine sl_T.of_V (lv := [_, _, _]) (by decide) rfl (Nat.le_of_ble_eq_true rfl) ?_
  have loopA : ∀ (n i : Nat) (l t : Nat → Int32), i + n = 6 → (∀ j, j < i ∨ 6 ≤ j → l j = nI 0 ∧ t j = nI 0) → ∀ (Q : Option Value → sl_M → Prop), sl_V YX10_reckon none 3 0 0 Q 36 [some (.ref 19), some (.ref b), some (.int (nI 6))] [] (rl_set (sg_terms g) (fun _ => nI 0) (fun _ => nI 0) s M) → sl_V YX10_reckon none 3 0 0 Q 10 [some (.ref 19), some (.ref b), some (.int (nI i))] [] (rl_set (sg_terms g) l t s M) := by
    intro n
    induction n with
    | zero =>
      intro i l t hi hlt Q hk
      have e1 : l = fun _ => nI 0 := funext fun j => (hlt j (by omega)).1
      have e2 : t = fun _ => nI 0 := funext fun j => (hlt j (by omega)).2
      have e3 : i = 6 := by omega
      subst e1 e2 e3
      refine slv_iload_n eX10_reckon_10 rfl ?_
      refine slv_bipush (v := nI 6) eX10_reckon_11 (by decide) ?_
      refine slv_icmp_geN eX10_reckon_13 (by omega) (by omega) (fun h13 => ?_) (fun h13 => absurd h13 (by omega))
      exact hk
    | succ n ih =>
      intro i l t hi hlt Q hk
      refine slv_iload_n eX10_reckon_10 rfl ?_
      refine slv_bipush (v := nI 6) eX10_reckon_11 (by decide) ?_
      refine slv_icmp_geN eX10_reckon_13 (by omega) (by omega) (fun h13 => absurd h13 (by omega)) (fun h13 => ?_)
      refine slv_aload_n eX10_reckon_16 rfl ?_
      refine slv_getf eX10_reckon_17 fX10_9 (by repeat (first | assumption | exact sl_up_eq | refine sl_up_ne (by first | decide | omega) ?_)) rfl ?_
      refine slv_iload_n eX10_reckon_20 rfl ?_
      refine slv_iconst (v := nI 0) eX10_reckon_21 (by decide) ?_
      refine slv_iastI eX10_reckon_22 (by repeat (first | assumption | exact sl_up_eq | refine sl_up_ne (by first | decide | omega) ?_)) (by omega) (by decide) ?_
      rw [rl_u20]
      refine slv_aload_n eX10_reckon_23 rfl ?_
      refine slv_getf eX10_reckon_24 fX10_15 (by repeat (first | assumption | exact sl_up_eq | refine sl_up_ne (by first | decide | omega) ?_)) rfl ?_
      refine slv_iload_n eX10_reckon_27 rfl ?_
      refine slv_iconst (v := nI 0) eX10_reckon_28 (by decide) ?_
      refine slv_iastI eX10_reckon_29 (by repeat (first | assumption | exact sl_up_eq | refine sl_up_ne (by first | decide | omega) ?_)) (by omega) (by decide) ?_
      rw [rl_u21]
      refine slv_iincN (lv' := [_, _, _]) eX10_reckon_30 rfl (by decide) rfl ?_
      refine slv_goto eX10_reckon_33 ?_
      refine ih (i + 1) _ _ (by omega) (fun j hj => ?_) Q hk
      by_cases q : j = i
      · rw [q, sl_u_eq, sl_u_eq]; exact ⟨rfl, rfl⟩
      · rw [sl_u_ne q, sl_u_ne q]; exact hlt j (by omega)
  have loopB : ∀ (n i : Nat) (s : Nat → Int32), i + n = 144 → (∀ j, j < i ∨ 144 ≤ j → s j = nI 0) → ∀ (Q : Option Value → sl_M → Prop), sl_V YX10_reckon none 3 0 0 Q 58 [some (.ref 19), some (.ref b), some (.int (nI 144))] [] (rl_set (sg_terms g) (fun _ => nI 0) (fun _ => nI 0) (fun _ => nI 0) M) → sl_V YX10_reckon none 3 0 0 Q 38 [some (.ref 19), some (.ref b), some (.int (nI i))] [] (rl_set (sg_terms g) (fun _ => nI 0) (fun _ => nI 0) s M) := by
    intro n
    induction n with
    | zero =>
      intro i s hi hlt Q hk
      have e1 : s = fun _ => nI 0 := funext fun j => hlt j (by omega)
      have e3 : i = 144 := by omega
      subst e1 e3
      refine slv_iload_n eX10_reckon_38 rfl ?_
      refine slv_sipush (v := nI 144) eX10_reckon_39 (by decide) ?_
      refine slv_icmp_geN eX10_reckon_42 (by omega) (by omega) (fun h42 => ?_) (fun h42 => absurd h42 (by omega))
      exact hk
    | succ n ih =>
      intro i s hi hlt Q hk
      refine slv_iload_n eX10_reckon_38 rfl ?_
      refine slv_sipush (v := nI 144) eX10_reckon_39 (by decide) ?_
      refine slv_icmp_geN eX10_reckon_42 (by omega) (by omega) (fun h42 => absurd h42 (by omega)) (fun h42 => ?_)
      refine slv_aload_n eX10_reckon_45 rfl ?_
      refine slv_getf eX10_reckon_46 fX10_18 (by repeat (first | assumption | exact sl_up_eq | refine sl_up_ne (by first | decide | omega) ?_)) rfl ?_
      refine slv_iload_n eX10_reckon_49 rfl ?_
      refine slv_iconst (v := nI 0) eX10_reckon_50 (by decide) ?_
      refine slv_iastI eX10_reckon_51 (by repeat (first | assumption | exact sl_up_eq | refine sl_up_ne (by first | decide | omega) ?_)) (by omega) (by decide) ?_
      rw [rl_u22]
      refine slv_iincN (lv' := [_, _, _]) eX10_reckon_52 rfl (by decide) rfl ?_
      refine slv_goto eX10_reckon_55 ?_
      refine ih (i + 1) _ (by omega) (fun j hj => ?_) Q hk
      by_cases q : j = i
      · rw [q, sl_u_eq]
      · rw [sl_u_ne q]; exact hlt j (by omega)
  have loopC : ∀ (n i : Nat) (p : (Nat → Int32) × (Nat → Int32)), i + n = sg_names g + 1 → ∀ (Q : Option Value → sl_M → Prop), sl_V YX10_reckon none 3 0 0 Q 79 [some (.ref 19), some (.ref b), some (.int (nI (sg_names g + 1)))] [] (rl_set (sg_terms g) (sl_fo (fun _ p => rl_gr g (sg_rules g) 0 p) n i p).1 (sl_fo (fun _ p => rl_gr g (sg_rules g) 0 p) n i p).2 (fun _ => nI 0) M) → sl_V YX10_reckon none 3 0 0 Q 60 [some (.ref 19), some (.ref b), some (.int (nI i))] [] (rl_set (sg_terms g) p.1 p.2 (fun _ => nI 0) M) := by
    intro n
    induction n with
    | zero =>
      intro i p hi Q hk
      have e3 : i = sg_names g + 1 := by omega
      subst e3
      obtain ⟨g0, g1, g2, g3, g4, g5, g6, g7⟩ := id hg
      refine slv_iload_n eX10_reckon_60 rfl ?_
      refine slv_aload_n eX10_reckon_61 rfl ?_
      refine slv_getf eX10_reckon_62 fX10_30 (by repeat (first | assumption | exact sl_up_eq | refine sl_up_ne (by first | decide | omega) ?_)) rfl ?_
      refine slv_icmp_gtN eX10_reckon_65 (by omega) (by omega) (fun h65 => ?_) (fun h65 => absurd h65 (by omega))
      exact hk
    | succ n ih =>
      intro i p hi Q hk
      obtain ⟨g0, g1, g2, g3, g4, g5, g6, g7⟩ := id hg
      refine slv_iload_n eX10_reckon_60 rfl ?_
      refine slv_aload_n eX10_reckon_61 rfl ?_
      refine slv_getf eX10_reckon_62 fX10_30 (by repeat (first | assumption | exact sl_up_eq | refine sl_up_ne (by first | decide | omega) ?_)) rfl ?_
      refine slv_icmp_gtN eX10_reckon_65 (by omega) (by omega) (fun h65 => absurd h65 (by omega)) (fun h65 => ?_)
      refine slv_aload_n eX10_reckon_68 rfl ?_
      refine slv_aload_n eX10_reckon_69 rfl ?_
      refine slv_rV (As := [_]) eX10_reckon_70 lX10_33 rfl rfl (by repeat (first | assumption | exact sl_up_eq | refine sl_up_ne (by first | decide | omega) ?_)) rfl (c_X10_growEdges hb (G _ _ _ _) hok' rl_of) (by decide) (Nat.le_of_ble_eq_true rfl) ?_
      rw [rl_ss]
      refine slv_iincN (lv' := [_, _, _]) eX10_reckon_73 rfl (by decide) rfl ?_
      refine slv_goto eX10_reckon_76 ?_
      exact ih (i + 1) _ (by omega) Q hk
  have loopD : ∀ (n i : Nat) (s : Nat → Int32), i + n = sg_rules g → ∀ (Q : Option Value → sl_M → Prop), sl_V YX10_reckon none 3 0 0 Q 110 [some (.ref 19), some (.ref b), some (.int (nI (sg_rules g)))] [] (rl_set (sg_terms g) (rl_LT g).1 (rl_LT g).2 (rl_S1 g n i s) M) → sl_V YX10_reckon none 3 0 0 Q 81 [some (.ref 19), some (.ref b), some (.int (nI i))] [] (rl_set (sg_terms g) (rl_LT g).1 (rl_LT g).2 s M) := by
    intro n
    induction n with
    | zero =>
      intro i s hi Q hk
      have e3 : i = sg_rules g := by omega
      subst e3
      obtain ⟨g0, g1, g2, g3, g4, g5, g6, g7⟩ := id hg
      refine slv_iload_n eX10_reckon_81 rfl ?_
      refine slv_aload_n eX10_reckon_82 rfl ?_
      refine slv_getf eX10_reckon_83 fX10_37 (by repeat (first | assumption | exact sl_up_eq | refine sl_up_ne (by first | decide | omega) ?_)) rfl ?_
      refine slv_icmp_geN eX10_reckon_86 (by omega) (by omega) (fun h86 => ?_) (fun h86 => absurd h86 (by omega))
      exact hk
    | succ n ih =>
      intro i s hi Q hk
      obtain ⟨g0, g1, g2, g3, g4, g5, g6, g7⟩ := id hg
      refine slv_iload_n eX10_reckon_81 rfl ?_
      refine slv_aload_n eX10_reckon_82 rfl ?_
      refine slv_getf eX10_reckon_83 fX10_37 (by repeat (first | assumption | exact sl_up_eq | refine sl_up_ne (by first | decide | omega) ?_)) rfl ?_
      refine slv_icmp_geN eX10_reckon_86 (by omega) (by omega) (fun h86 => absurd h86 (by omega)) (fun h86 => ?_)
      refine slv_aload_n eX10_reckon_89 rfl ?_
      refine slv_getf eX10_reckon_90 fX10_40 (by repeat (first | assumption | exact sl_up_eq | refine sl_up_ne (by first | decide | omega) ?_)) rfl ?_
      refine slv_iload_n eX10_reckon_93 rfl ?_
      refine slv_zaldN eX10_reckon_94 (by repeat (first | assumption | exact sl_up_eq | refine sl_up_ne (by first | decide | omega) ?_)) (by omega) (by decide) ?_
      refine slv_if_neB eX10_reckon_95 (fun h95 => ?_) (fun h95 => ?_)
      · try rw [rl_ss]
        refine slv_iincN (lv' := [_, _, _]) eX10_reckon_104 rfl (by decide) rfl ?_
        refine slv_goto eX10_reckon_107 ?_
        refine ih (i + 1) _ (by omega) Q ?_
        simp only [rl_S1, sl_fo, h95, cond_true, cond_false] at hk
        exact hk
      · refine slv_aload_n eX10_reckon_98 rfl ?_
        refine slv_aload_n eX10_reckon_99 rfl ?_
        refine slv_iload_n eX10_reckon_100 rfl ?_
        refine slv_rV (As := [_, _]) eX10_reckon_101 lX10_44 rfl rfl (by repeat (first | assumption | exact sl_up_eq | refine sl_up_ne (by first | decide | omega) ?_)) rfl (c_X10_relateRule hb (G _ _ _ _) hok' rl_of k3 (by omega)) (by decide) (Nat.le_of_ble_eq_true rfl) ?_
        try rw [rl_ss]
        refine slv_iincN (lv' := [_, _, _]) eX10_reckon_104 rfl (by decide) rfl ?_
        refine slv_goto eX10_reckon_107 ?_
        refine ih (i + 1) _ (by omega) Q ?_
        simp only [rl_S1, sl_fo, h95, cond_true, cond_false] at hk
        exact hk
  rw [← rl_self h]
  obtain ⟨g0, g1, g2, g3, g4, g5, g6, g7⟩ := id hg
  have tail : ∀ (v : Option Value), sl_V YX10_reckon none 3 0 0 (fun r1 M1 => r1 = none ∧ M1 = rl_set (sg_terms g) (rl_LT g).1 (rl_LT g).2 (rl_S g) (rl_set e l t s M)) 110 [some (.ref 19), some (.ref b), v] [] (rl_set (sg_terms g) (rl_LT g).1 (rl_LT g).2 (rl_S1 g (sg_rules g) 0 (fun _ => nI 0)) M) := by
    intro v
    refine slv_aload_n eX10_reckon_110 rfl ?_
    refine slv_aload_n eX10_reckon_111 rfl ?_
    refine slv_getf eX10_reckon_112 fX10_27 (by repeat (first | assumption | exact sl_up_eq | refine sl_up_ne (by first | decide | omega) ?_)) rfl ?_
    refine slv_aload_n eX10_reckon_115 rfl ?_
    refine slv_getf eX10_reckon_116 fX10_9 (by repeat (first | assumption | exact sl_up_eq | refine sl_up_ne (by first | decide | omega) ?_)) rfl ?_
    refine slv_iconst (v := nI 0) eX10_reckon_119 (by decide) ?_
    refine slv_ialdN eX10_reckon_120 (by repeat (first | assumption | exact sl_up_eq | refine sl_up_ne (by first | decide | omega) ?_)) (by omega) (by decide) ?_
    refine slv_rV (As := [_, _]) eX10_reckon_121 lX10_48 rfl rfl (by repeat (first | assumption | exact sl_up_eq | refine sl_up_ne (by first | decide | omega) ?_)) rfl (c_X10_addBelow rl_of k3 (by omega) _) (by decide) (Nat.le_of_ble_eq_true rfl) ?_
    rw [rl_ss]
    refine slv_aload_n eX10_reckon_124 rfl ?_
    refine slv_aload_n eX10_reckon_125 rfl ?_
    refine slv_getf eX10_reckon_126 fX10_15 (by repeat (first | assumption | exact sl_up_eq | refine sl_up_ne (by first | decide | omega) ?_)) rfl ?_
    refine slv_iconst (v := nI 0) eX10_reckon_129 (by decide) ?_
    refine slv_ialdN eX10_reckon_130 (by repeat (first | assumption | exact sl_up_eq | refine sl_up_ne (by first | decide | omega) ?_)) (by omega) (by decide) ?_
    refine slv_aload_n eX10_reckon_131 rfl ?_
    refine slv_getf eX10_reckon_132 fX10_27 (by repeat (first | assumption | exact sl_up_eq | refine sl_up_ne (by first | decide | omega) ?_)) rfl ?_
    refine slv_rV (As := [_, _]) eX10_reckon_135 lX10_52 rfl rfl (by repeat (first | assumption | exact sl_up_eq | refine sl_up_ne (by first | decide | omega) ?_)) rfl (c_X10_addAbove rl_of k3 (by omega) _) (by decide) (Nat.le_of_ble_eq_true rfl) ?_
    rw [rl_ss]
    refine slv_vret eX10_reckon_138 rfl ?_
    exact ⟨rfl, rl_ss⟩
  refine slv_aload_n eX10_reckon_0 rfl ?_
  refine slv_aload_n eX10_reckon_1 rfl ?_
  refine slv_getf eX10_reckon_2 fX10_21 (by repeat (first | assumption | exact sl_up_eq | refine sl_up_ne (by first | decide | omega) ?_)) rfl ?_
  refine slv_putf (fs' := [_, _, _, _]) eX10_reckon_5 fX10_27 (by repeat (first | assumption | exact sl_up_eq | refine sl_up_ne (by first | decide | omega) ?_)) (Nat.le_of_ble_eq_true rfl) rfl rfl rfl ?_
  rw [rl_u19]
  refine slv_iconst (v := nI 0) eX10_reckon_8 (by decide) ?_
  refine slv_istore_n (i := 2) (lv' := [_, _, _]) eX10_reckon_9 rfl (by decide) rfl ?_
  refine loopA 6 0 l t (by omega) (fun j hj => hz.1 j (by omega)) _ ?_
  refine slv_iconst (v := nI 0) eX10_reckon_36 (by decide) ?_
  refine slv_istore_n (i := 2) (lv' := [_, _, _]) eX10_reckon_37 rfl (by decide) rfl ?_
  refine loopB 144 0 s (by omega) (fun j hj => hz.2 j (by omega)) _ ?_
  refine slv_iconst (v := nI 0) eX10_reckon_58 (by decide) ?_
  refine slv_istore_n (i := 2) (lv' := [_, _, _]) eX10_reckon_59 rfl (by decide) rfl ?_
  refine loopC (sg_names g + 1) 0 (fun _ => nI 0, fun _ => nI 0) (by omega) _ ?_
  refine slv_iconst (v := nI 0) eX10_reckon_79 (by decide) ?_
  refine slv_istore_n (i := 2) (lv' := [_, _, _]) eX10_reckon_80 rfl (by decide) rfl ?_
  exact loopD (sg_rules g) 0 (fun _ => nI 0) (by omega) _ (tail _)

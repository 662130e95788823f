/-! the reference lays a node -/
section RLN
variable {v : Nat → Int32} {w : Int64} {a : Nat → Nat → Int32} {nm : Nat → Int64} {M : sl_M} {D : nd_T} {H : hn_T} {vm : Nat}
/-- the node that is laid at place c -/
def ln_a (a : Nat → Nat → Int32) (D : nd_T) (H : hn_T) (c : Nat) (x y : Int32) : Nat → Nat → Int32 := sl_u (sl_u (sl_u (sl_u (sl_u a 71 (sl_u (a 71) c (sl_nd H.1))) 72 (sl_u (a 72) c (sl_nd H.2.1))) 73 (sl_u (a 73) c (nI (1 + max (no_g (nd_de D) H.1) (no_g (nd_de D) H.2.1))))) 74 (sl_u (a 74) c x)) 75 (sl_u (a 75) c y)
set_option maxRecDepth 100000 in
theorem ln_L {c : Nat} {F : Nat → Nat} {de : Nat → Nat} (hm : v 78 = nI vm) (hvm : vm ≤ 2) (hF : ∀ j, j < vm → a 69 j = nI (F j) ∧ F j < 122 ∧ a 73 (F j) = nI (de (F j)) ∧ de (F j) < 1000) : ∀ (n j mx : Nat), j + n = vm → mx < 1000 → ∀ Q : Option Value → sl_M → Prop, (∀ z, sl_V YX12_laysNode none 0 0 0 Q 94 [some (.ref 68), some (.int (nI c)), some (.int (nI (sl_fo (fun j m => max m (de (F j))) n j mx))), z] [] (rf_S v w a nm M)) → sl_V YX12_laysNode none 0 0 0 Q 53 [some (.ref 68), some (.int (nI c)), some (.int (nI mx)), some (.int (nI j))] [] (rf_S v w a nm M) := by
  intro n
  induction n with
  | zero =>
    intro j mx hj hx Q hQ
    refine slv_iload_n eX12_laysNode_53 rfl ?_
    refine slv_aload_n eX12_laysNode_54 rfl ?_
    refine slr_gi eX12_laysNode_55 fX12_469 rfl (by repeat (first | exact sl_u_eq | assumption | apply rf_ne (by decide) | exact rfl)) ?_
    refine slv_icmp_geN eX12_laysNode_58 (by omega) (by omega) (fun h58 => ?_) (fun h58 => absurd h58 (by omega))
    exact hQ _
  | succ n ih =>
    intro j mx hj hx Q hQ
    obtain ⟨f1, f2, f3, f4⟩ := hF j (by omega)
    have hgo : sl_fo (fun j m => max m (de (F j))) (n + 1) j mx = sl_fo (fun j m => max m (de (F j))) n (j + 1) (max mx (de (F j))) := rfl
    rw [hgo] at hQ
    by_cases hle : de (F j) ≤ mx
    · rw [Nat.max_eq_left hle] at hQ
      refine slv_iload_n eX12_laysNode_53 rfl ?_
      refine slv_aload_n eX12_laysNode_54 rfl ?_
      refine slr_gi eX12_laysNode_55 fX12_469 rfl (by repeat (first | exact sl_u_eq | assumption | apply rf_ne (by decide) | exact rfl)) ?_
      refine slv_icmp_geN eX12_laysNode_58 (by omega) (by omega) (fun h58 => absurd h58 (by omega)) (fun h58 => ?_)
      refine slv_aload_n eX12_laysNode_61 rfl ?_
      refine slr_ga (p := 109) eX12_laysNode_62 fX12_137 rfl ?_
      refine slv_aload_n eX12_laysNode_65 rfl ?_
      refine slr_ga (p := 105) eX12_laysNode_66 fX12_125 rfl ?_
      refine slv_iload_n eX12_laysNode_69 rfl ?_
      refine slr_ialdX (k := 69) (p := 105) (len := 17) eX12_laysNode_70 rfl (by repeat (first | exact sl_u_eq | assumption | apply rf_ne (by decide) | exact rfl)) (by omega) (by decide) f1 ?_
      refine slr_ialdX (k := 73) (p := 109) (len := 122) eX12_laysNode_71 rfl (by repeat (first | exact sl_u_eq | assumption | apply rf_ne (by decide) | exact rfl)) (by omega) (by decide) f3 ?_
      refine slv_iload_n eX12_laysNode_72 rfl ?_
      refine slv_icmp_leN eX12_laysNode_73 (by omega) (by omega) (fun h73 => ?_) (fun h73 => absurd h73 (by omega))
      refine slv_iincN (lv' := [_, _, _, _]) eX12_laysNode_88 rfl (by decide) rfl ?_
      refine slv_goto eX12_laysNode_91 ?_
      exact ih (j + 1) mx (by omega) hx Q hQ
    · rw [Nat.max_eq_right (by omega)] at hQ
      refine slv_iload_n eX12_laysNode_53 rfl ?_
      refine slv_aload_n eX12_laysNode_54 rfl ?_
      refine slr_gi eX12_laysNode_55 fX12_469 rfl (by repeat (first | exact sl_u_eq | assumption | apply rf_ne (by decide) | exact rfl)) ?_
      refine slv_icmp_geN eX12_laysNode_58 (by omega) (by omega) (fun h58 => absurd h58 (by omega)) (fun h58 => ?_)
      refine slv_aload_n eX12_laysNode_61 rfl ?_
      refine slr_ga (p := 109) eX12_laysNode_62 fX12_137 rfl ?_
      refine slv_aload_n eX12_laysNode_65 rfl ?_
      refine slr_ga (p := 105) eX12_laysNode_66 fX12_125 rfl ?_
      refine slv_iload_n eX12_laysNode_69 rfl ?_
      refine slr_ialdX (k := 69) (p := 105) (len := 17) eX12_laysNode_70 rfl (by repeat (first | exact sl_u_eq | assumption | apply rf_ne (by decide) | exact rfl)) (by omega) (by decide) f1 ?_
      refine slr_ialdX (k := 73) (p := 109) (len := 122) eX12_laysNode_71 rfl (by repeat (first | exact sl_u_eq | assumption | apply rf_ne (by decide) | exact rfl)) (by omega) (by decide) f3 ?_
      refine slv_iload_n eX12_laysNode_72 rfl ?_
      refine slv_icmp_leN eX12_laysNode_73 (by omega) (by omega) (fun h73 => absurd h73 (by omega)) (fun h73 => ?_)
      refine slv_aload_n eX12_laysNode_76 rfl ?_
      refine slr_ga (p := 109) eX12_laysNode_77 fX12_137 rfl ?_
      refine slv_aload_n eX12_laysNode_80 rfl ?_
      refine slr_ga (p := 105) eX12_laysNode_81 fX12_125 rfl ?_
      refine slv_iload_n eX12_laysNode_84 rfl ?_
      refine slr_ialdX (k := 69) (p := 105) (len := 17) eX12_laysNode_85 rfl (by repeat (first | exact sl_u_eq | assumption | apply rf_ne (by decide) | exact rfl)) (by omega) (by decide) f1 ?_
      refine slr_ialdX (k := 73) (p := 109) (len := 122) eX12_laysNode_86 rfl (by repeat (first | exact sl_u_eq | assumption | apply rf_ne (by decide) | exact rfl)) (by omega) (by decide) f3 ?_
      refine slv_istore_n (i := 2) (lv' := [_, _, _, _]) eX12_laysNode_87 rfl (by decide) rfl ?_
      refine slv_iincN (lv' := [_, _, _, _]) eX12_laysNode_88 rfl (by decide) rfl ?_
      refine slv_goto eX12_laysNode_91 ?_
      exact ih (j + 1) (de (F j)) (by omega) f4 Q hQ
set_option maxRecDepth 100000 in
theorem c_X12_laysNode {c : Nat} {x : Int32} {b : Bool} (hc : c < 122) (hH : rH D H vm v a) (hvm : vm ≤ 2) (h1 : ∀ k, H.1 = some k → k < c) (h2 : ∀ k, H.2.1 = some k → k < c) (hD : ∀ k, k < c → a 73 k = nI (nd_de D k) ∧ nd_de D k < 1000) (hx : v 79 = x) (hb : v 80 = sl_bi b) : sl_R YX12_laysNode 0 [.ref 68, .int (nI c)] (rf_S v w a nm M) none (rf_S v w (ln_a a D H c x (sl_bi b)) nm M) := by
  obtain ⟨⟨k1, k2⟩, k3, ⟨k4, k5⟩, k6, k7⟩ := hH
  refine sl_T.of_V (lv := [_, _, _, _]) (by decide) rfl (Nat.le_of_ble_eq_true rfl) ?_
  rcases (show vm = 0 ∨ vm = 1 ∨ vm = 2 by omega) with q | q | q <;> subst q
  · have e1 := k4.mp rfl
    have e2 := k5.mp (by omega)
    unfold ln_a
    rw [e1, e2]
    refine slv_aload_n eX12_laysNode_0 rfl ?_
    refine slr_ga (p := 107) eX12_laysNode_1 fX12_131 rfl ?_
    refine slv_iload_n eX12_laysNode_4 rfl ?_
    refine slv_aload_n eX12_laysNode_5 rfl ?_
    refine slr_gi eX12_laysNode_6 fX12_469 rfl (by repeat (first | exact sl_u_eq | assumption | apply rf_ne (by decide) | exact rfl)) ?_
    refine slv_if_leN eX12_laysNode_9 (by omega) (fun h9 => ?_) (fun h9 => absurd h9 (by omega))
    refine slv_bipush (v := (-2)) eX12_laysNode_21 (by decide) ?_
    refine slr_iastX (k := 71) (p := 107) (len := 122) eX12_laysNode_23 rfl (by repeat (first | exact sl_u_eq | assumption | apply rf_ne (by decide) | exact rfl)) (by omega) (by decide) (rf_t71 _ _ _ _ _) ?_
    refine slv_aload_n eX12_laysNode_24 rfl ?_
    refine slr_ga (p := 108) eX12_laysNode_25 fX12_134 rfl ?_
    refine slv_iload_n eX12_laysNode_28 rfl ?_
    refine slv_aload_n eX12_laysNode_29 rfl ?_
    refine slr_gi eX12_laysNode_30 fX12_469 rfl (by repeat (first | exact sl_u_eq | assumption | apply rf_ne (by decide) | exact rfl)) ?_
    refine slv_iconst (v := nI 1) eX12_laysNode_33 (by decide) ?_
    refine slv_icmp_leN eX12_laysNode_34 (by omega) (by omega) (fun h34 => ?_) (fun h34 => absurd h34 (by omega))
    refine slv_bipush (v := (-2)) eX12_laysNode_46 (by decide) ?_
    refine slr_iastX (k := 72) (p := 108) (len := 122) eX12_laysNode_48 rfl (by repeat (first | exact sl_u_eq | assumption | apply rf_ne (by decide) | exact rfl)) (by omega) (by decide) (rf_t72 _ _ _ _ _) ?_
    refine slv_iconst (v := nI 0) eX12_laysNode_49 (by decide) ?_
    refine slv_istore_n (i := 2) (lv' := [_, _, _, _]) eX12_laysNode_50 rfl (by decide) rfl ?_
    refine slv_iconst (v := nI 0) eX12_laysNode_51 (by decide) ?_
    refine slv_istore_n (i := 3) (lv' := [_, _, _, _]) eX12_laysNode_52 rfl (by decide) rfl ?_
    refine ln_L (F := fun _ => 0) (de := nd_de D) k2 (by omega) (fun j hj => by omega) 0 0 0 (by omega) (by omega) _ (fun z => ?_)
    refine slv_aload_n eX12_laysNode_94 rfl ?_
    refine slr_ga (p := 109) eX12_laysNode_95 fX12_137 rfl ?_
    refine slv_iload_n eX12_laysNode_98 rfl ?_
    refine slv_iload_n eX12_laysNode_99 rfl ?_
    refine slv_iconst (v := nI 1) eX12_laysNode_100 (by decide) ?_
    refine slv_iaddN eX12_laysNode_101 ?_
    refine slr_iastX (k := 73) (p := 109) (len := 122) eX12_laysNode_102 rfl (by repeat (first | exact sl_u_eq | assumption | apply rf_ne (by decide) | exact rfl)) (by omega) (by decide) (rf_t73 _ _ _ _ _) ?_
    refine slv_aload_n eX12_laysNode_103 rfl ?_
    refine slr_ga (p := 110) eX12_laysNode_104 fX12_140 rfl ?_
    refine slv_iload_n eX12_laysNode_107 rfl ?_
    refine slv_aload_n eX12_laysNode_108 rfl ?_
    refine slr_gi eX12_laysNode_109 fX12_480 rfl (by repeat (first | exact sl_u_eq | assumption | apply rf_ne (by decide) | exact rfl)) ?_
    refine slr_iastX (k := 74) (p := 110) (len := 122) eX12_laysNode_112 rfl (by repeat (first | exact sl_u_eq | assumption | apply rf_ne (by decide) | exact rfl)) (by omega) (by decide) (rf_t74 _ _ _ _ _) ?_
    refine slv_aload_n eX12_laysNode_113 rfl ?_
    refine slr_ga (p := 111) eX12_laysNode_114 fX12_143 rfl ?_
    refine slv_iload_n eX12_laysNode_117 rfl ?_
    refine slv_aload_n eX12_laysNode_118 rfl ?_
    refine slr_gi eX12_laysNode_119 fX12_483 rfl (by repeat (first | exact sl_u_eq | assumption | apply rf_ne (by decide) | exact rfl)) ?_
    refine slr_zastX (k := 75) (p := 111) (len := 122) eX12_laysNode_122 rfl (by repeat (first | exact sl_u_eq | assumption | apply rf_ne (by decide) | exact rfl)) (by omega) (by decide) (sl_nar_bi b) (rf_t75 _ _ _ _ _) ?_
    refine slv_vret eX12_laysNode_123 rfl ?_
    exact ⟨rfl, rfl⟩
  · cases e1 : H.1 with
    | none => exact absurd (k4.mpr e1) (by omega)
    | some p =>
      have e2 := k5.mp (Nat.le_refl 1)
      have hp := h1 p e1
      obtain ⟨n1, n2, n3⟩ := k6 p e1
      obtain ⟨d1, d2⟩ := hD p hp
      unfold ln_a
      rw [e1, e2]
      refine slv_aload_n eX12_laysNode_0 rfl ?_
      refine slr_ga (p := 107) eX12_laysNode_1 fX12_131 rfl ?_
      refine slv_iload_n eX12_laysNode_4 rfl ?_
      refine slv_aload_n eX12_laysNode_5 rfl ?_
      refine slr_gi eX12_laysNode_6 fX12_469 rfl (by repeat (first | exact sl_u_eq | assumption | apply rf_ne (by decide) | exact rfl)) ?_
      refine slv_if_leN eX12_laysNode_9 (by omega) (fun h9 => absurd h9 (by omega)) (fun h9 => ?_)
      refine slv_aload_n eX12_laysNode_12 rfl ?_
      refine slr_ga (p := 105) eX12_laysNode_13 fX12_125 rfl ?_
      refine slv_iconst (v := nI 0) eX12_laysNode_16 (by decide) ?_
      refine slr_ialdX (k := 69) (p := 105) (len := 17) eX12_laysNode_17 rfl (by repeat (first | exact sl_u_eq | assumption | apply rf_ne (by decide) | exact rfl)) (by omega) (by decide) n1 ?_
      refine slv_goto eX12_laysNode_18 ?_
      refine slr_iastX (k := 71) (p := 107) (len := 122) eX12_laysNode_23 rfl (by repeat (first | exact sl_u_eq | assumption | apply rf_ne (by decide) | exact rfl)) (by omega) (by decide) (rf_t71 _ _ _ _ _) ?_
      refine slv_aload_n eX12_laysNode_24 rfl ?_
      refine slr_ga (p := 108) eX12_laysNode_25 fX12_134 rfl ?_
      refine slv_iload_n eX12_laysNode_28 rfl ?_
      refine slv_aload_n eX12_laysNode_29 rfl ?_
      refine slr_gi eX12_laysNode_30 fX12_469 rfl (by repeat (first | exact sl_u_eq | assumption | apply rf_ne (by decide) | exact rfl)) ?_
      refine slv_iconst (v := nI 1) eX12_laysNode_33 (by decide) ?_
      refine slv_icmp_leN eX12_laysNode_34 (by omega) (by omega) (fun h34 => ?_) (fun h34 => absurd h34 (by omega))
      refine slv_bipush (v := (-2)) eX12_laysNode_46 (by decide) ?_
      refine slr_iastX (k := 72) (p := 108) (len := 122) eX12_laysNode_48 rfl (by repeat (first | exact sl_u_eq | assumption | apply rf_ne (by decide) | exact rfl)) (by omega) (by decide) (rf_t72 _ _ _ _ _) ?_
      refine slv_iconst (v := nI 0) eX12_laysNode_49 (by decide) ?_
      refine slv_istore_n (i := 2) (lv' := [_, _, _, _]) eX12_laysNode_50 rfl (by decide) rfl ?_
      refine slv_iconst (v := nI 0) eX12_laysNode_51 (by decide) ?_
      refine slv_istore_n (i := 3) (lv' := [_, _, _, _]) eX12_laysNode_52 rfl (by decide) rfl ?_
      refine ln_L (F := fun _ => p) (de := nd_de D) k2 (by omega) (fun j hj => ?_) 1 0 0 (by omega) (by omega) _ (fun z => ?_)
      · rw [show j = 0 by omega]
        exact ⟨n1, by omega, d1, d2⟩
      · rw [show sl_fo (fun j m => max m (nd_de D p)) 1 0 0 = max (no_g (nd_de D) (some p)) (no_g (nd_de D) none) from by show max 0 (nd_de D p) = max (nd_de D p) 0; omega]
        refine slv_aload_n eX12_laysNode_94 rfl ?_
        refine slr_ga (p := 109) eX12_laysNode_95 fX12_137 rfl ?_
        refine slv_iload_n eX12_laysNode_98 rfl ?_
        refine slv_iload_n eX12_laysNode_99 rfl ?_
        refine slv_iconst (v := nI 1) eX12_laysNode_100 (by decide) ?_
        refine slv_iaddN eX12_laysNode_101 ?_
        refine slr_iastX (k := 73) (p := 109) (len := 122) eX12_laysNode_102 rfl (by repeat (first | exact sl_u_eq | assumption | apply rf_ne (by decide) | exact rfl)) (by omega) (by decide) (rf_t73 _ _ _ _ _) ?_
        refine slv_aload_n eX12_laysNode_103 rfl ?_
        refine slr_ga (p := 110) eX12_laysNode_104 fX12_140 rfl ?_
        refine slv_iload_n eX12_laysNode_107 rfl ?_
        refine slv_aload_n eX12_laysNode_108 rfl ?_
        refine slr_gi eX12_laysNode_109 fX12_480 rfl (by repeat (first | exact sl_u_eq | assumption | apply rf_ne (by decide) | exact rfl)) ?_
        refine slr_iastX (k := 74) (p := 110) (len := 122) eX12_laysNode_112 rfl (by repeat (first | exact sl_u_eq | assumption | apply rf_ne (by decide) | exact rfl)) (by omega) (by decide) (rf_t74 _ _ _ _ _) ?_
        refine slv_aload_n eX12_laysNode_113 rfl ?_
        refine slr_ga (p := 111) eX12_laysNode_114 fX12_143 rfl ?_
        refine slv_iload_n eX12_laysNode_117 rfl ?_
        refine slv_aload_n eX12_laysNode_118 rfl ?_
        refine slr_gi eX12_laysNode_119 fX12_483 rfl (by repeat (first | exact sl_u_eq | assumption | apply rf_ne (by decide) | exact rfl)) ?_
        refine slr_zastX (k := 75) (p := 111) (len := 122) eX12_laysNode_122 rfl (by repeat (first | exact sl_u_eq | assumption | apply rf_ne (by decide) | exact rfl)) (by omega) (by decide) (sl_nar_bi b) (rf_t75 _ _ _ _ _) ?_
        refine slv_vret eX12_laysNode_123 rfl ?_
        exact ⟨rfl, by rw [Nat.add_comm 1]; rfl⟩
  · cases e1 : H.1 with
    | none => exact absurd (k4.mpr e1) (by omega)
    | some p =>
      cases e2 : H.2.1 with
      | none => exact absurd (k5.mpr e2) (by omega)
      | some r =>
        have hp := h1 p e1
        have hr := h2 r e2
        obtain ⟨n1, n2, n3⟩ := k6 p e1
        obtain ⟨d1, d2⟩ := hD p hp
        obtain ⟨m1, m2, m3⟩ := k7 r e2
        obtain ⟨c1, c2⟩ := hD r hr
        unfold ln_a
        rw [e1, e2]
        refine slv_aload_n eX12_laysNode_0 rfl ?_
        refine slr_ga (p := 107) eX12_laysNode_1 fX12_131 rfl ?_
        refine slv_iload_n eX12_laysNode_4 rfl ?_
        refine slv_aload_n eX12_laysNode_5 rfl ?_
        refine slr_gi eX12_laysNode_6 fX12_469 rfl (by repeat (first | exact sl_u_eq | assumption | apply rf_ne (by decide) | exact rfl)) ?_
        refine slv_if_leN eX12_laysNode_9 (by omega) (fun h9 => absurd h9 (by omega)) (fun h9 => ?_)
        refine slv_aload_n eX12_laysNode_12 rfl ?_
        refine slr_ga (p := 105) eX12_laysNode_13 fX12_125 rfl ?_
        refine slv_iconst (v := nI 0) eX12_laysNode_16 (by decide) ?_
        refine slr_ialdX (k := 69) (p := 105) (len := 17) eX12_laysNode_17 rfl (by repeat (first | exact sl_u_eq | assumption | apply rf_ne (by decide) | exact rfl)) (by omega) (by decide) n1 ?_
        refine slv_goto eX12_laysNode_18 ?_
        refine slr_iastX (k := 71) (p := 107) (len := 122) eX12_laysNode_23 rfl (by repeat (first | exact sl_u_eq | assumption | apply rf_ne (by decide) | exact rfl)) (by omega) (by decide) (rf_t71 _ _ _ _ _) ?_
        refine slv_aload_n eX12_laysNode_24 rfl ?_
        refine slr_ga (p := 108) eX12_laysNode_25 fX12_134 rfl ?_
        refine slv_iload_n eX12_laysNode_28 rfl ?_
        refine slv_aload_n eX12_laysNode_29 rfl ?_
        refine slr_gi eX12_laysNode_30 fX12_469 rfl (by repeat (first | exact sl_u_eq | assumption | apply rf_ne (by decide) | exact rfl)) ?_
        refine slv_iconst (v := nI 1) eX12_laysNode_33 (by decide) ?_
        refine slv_icmp_leN eX12_laysNode_34 (by omega) (by omega) (fun h34 => absurd h34 (by omega)) (fun h34 => ?_)
        refine slv_aload_n eX12_laysNode_37 rfl ?_
        refine slr_ga (p := 105) eX12_laysNode_38 fX12_125 rfl ?_
        refine slv_iconst (v := nI 1) eX12_laysNode_41 (by decide) ?_
        refine slr_ialdX (k := 69) (p := 105) (len := 17) eX12_laysNode_42 rfl (by repeat (first | exact sl_u_eq | assumption | apply rf_ne (by decide) | exact rfl)) (by omega) (by decide) m1 ?_
        refine slv_goto eX12_laysNode_43 ?_
        refine slr_iastX (k := 72) (p := 108) (len := 122) eX12_laysNode_48 rfl (by repeat (first | exact sl_u_eq | assumption | apply rf_ne (by decide) | exact rfl)) (by omega) (by decide) (rf_t72 _ _ _ _ _) ?_
        refine slv_iconst (v := nI 0) eX12_laysNode_49 (by decide) ?_
        refine slv_istore_n (i := 2) (lv' := [_, _, _, _]) eX12_laysNode_50 rfl (by decide) rfl ?_
        refine slv_iconst (v := nI 0) eX12_laysNode_51 (by decide) ?_
        refine slv_istore_n (i := 3) (lv' := [_, _, _, _]) eX12_laysNode_52 rfl (by decide) rfl ?_
        refine ln_L (F := fun j => if j = 0 then p else r) (de := nd_de D) k2 (by omega) (fun j hj => ?_) 2 0 0 (by omega) (by omega) _ (fun z => ?_)
        · rcases (show j = 0 ∨ j = 1 by omega) with q | q
          · rw [q]; exact ⟨n1, by show p < 122; omega, d1, d2⟩
          · rw [q]; exact ⟨m1, by show r < 122; omega, c1, c2⟩
        · rw [show sl_fo (fun j m => max m (nd_de D (if j = 0 then p else r))) 2 0 0 = max (no_g (nd_de D) (some p)) (no_g (nd_de D) (some r)) from by show max (max 0 (nd_de D p)) (nd_de D r) = max (nd_de D p) (nd_de D r); omega]
          refine slv_aload_n eX12_laysNode_94 rfl ?_
          refine slr_ga (p := 109) eX12_laysNode_95 fX12_137 rfl ?_
          refine slv_iload_n eX12_laysNode_98 rfl ?_
          refine slv_iload_n eX12_laysNode_99 rfl ?_
          refine slv_iconst (v := nI 1) eX12_laysNode_100 (by decide) ?_
          refine slv_iaddN eX12_laysNode_101 ?_
          refine slr_iastX (k := 73) (p := 109) (len := 122) eX12_laysNode_102 rfl (by repeat (first | exact sl_u_eq | assumption | apply rf_ne (by decide) | exact rfl)) (by omega) (by decide) (rf_t73 _ _ _ _ _) ?_
          refine slv_aload_n eX12_laysNode_103 rfl ?_
          refine slr_ga (p := 110) eX12_laysNode_104 fX12_140 rfl ?_
          refine slv_iload_n eX12_laysNode_107 rfl ?_
          refine slv_aload_n eX12_laysNode_108 rfl ?_
          refine slr_gi eX12_laysNode_109 fX12_480 rfl (by repeat (first | exact sl_u_eq | assumption | apply rf_ne (by decide) | exact rfl)) ?_
          refine slr_iastX (k := 74) (p := 110) (len := 122) eX12_laysNode_112 rfl (by repeat (first | exact sl_u_eq | assumption | apply rf_ne (by decide) | exact rfl)) (by omega) (by decide) (rf_t74 _ _ _ _ _) ?_
          refine slv_aload_n eX12_laysNode_113 rfl ?_
          refine slr_ga (p := 111) eX12_laysNode_114 fX12_143 rfl ?_
          refine slv_iload_n eX12_laysNode_117 rfl ?_
          refine slv_aload_n eX12_laysNode_118 rfl ?_
          refine slr_gi eX12_laysNode_119 fX12_483 rfl (by repeat (first | exact sl_u_eq | assumption | apply rf_ne (by decide) | exact rfl)) ?_
          refine slr_zastX (k := 75) (p := 111) (len := 122) eX12_laysNode_122 rfl (by repeat (first | exact sl_u_eq | assumption | apply rf_ne (by decide) | exact rfl)) (by omega) (by decide) (sl_nar_bi b) (rf_t75 _ _ _ _ _) ?_
          refine slv_vret eX12_laysNode_123 rfl ?_
          exact ⟨rfl, by rw [Nat.add_comm 1]; rfl⟩
end RLN

/-! the reference: node, value -/
section RQB
variable {v : Nat → Int32} {w : Int64} {a : Nat → Nat → Int32} {nm : Nat → Int64} {M : sl_M} {g : sg_T} {s : Nat → Int32} {rn : Nat} {rk kn nu : Nat → Nat} {ln how : Nat} {q : fs_T} {S0 S : rd_T} {sn tl : Bool}
set_option maxRecDepth 100000 in
theorem c_X12_node (h21 : v 21 = sl_bi sn) (h24 : v 53 = sl_bi tl) (hts : tl = true → sn = true) (hH : tl = true → rqH g s rn rk kn nu ln q how S0 S v a) (hc : nd_c (rd_nd S) ≤ 60) (x y : Int32) : sl_T YX12_node 10 0 0 (qA v w a nm M (an_node tl (rd_nd S) x y)) [.ref 68, .int x, .int y] (rf_S v w a nm M) := by
  have F0 := rqF_0 v a (nI 0)
  have hN := c_X12_isNode (v := sl_u v 0 (nI 0)) (w := w) (a := a) (nm := nm) (M := M) h21 h24 hts (fun e => rqH_F (hH e) F0) hc x
  have hI := c_X12_in (rf_S (sl_u v 0 (nI 0)) w a nm M) y (nI 0) (nI 4)
  have hin : (decide (nI 0 ≤ y) && decide (y ≤ nI 4)) = (sl_vi y 5).isSome := in_vi (n := 5) (by decide)
  rw [hin] at hI
  refine sl_T.of_V (lv := [_, _, _]) (by decide) rfl (Nat.le_of_ble_eq_true rfl) ?_
  cases hy : sl_vi y 5 with
  | none =>
    rw [hy] at hI
    have e : an_node tl (rd_nd S) x y = an_low := by unfold an_node; rw [hy]; cases sl_vr tl x (nd_c (rd_nd S)) <;> rfl
    rw [e]
    refine slv_aload_n eX12_node_0 rfl ?_
    refine slv_iconst (v := nI 0) eX12_node_1 (by decide) ?_
    refine slr_pi eX12_node_2 fX12_149 (Nat.le_of_ble_eq_true rfl) rf_s0 ?_
    refine slv_iload_n eX12_node_5 rfl ?_
    refine slv_iconst (v := nI 0) eX12_node_6 (by decide) ?_
    refine slv_iconst (v := nI 4) eX12_node_7 (by decide) ?_
    refine slv_rS (As := [_, _, _]) eX12_node_8 lX12_180 rfl rfl hI (by decide) (Nat.le_of_ble_eq_true rfl) ?_
    refine slv_if_eqB eX12_node_11 (fun h11 => ?_) (fun h11 => absurd h11 (by first | decide | (intro z; cases z)))
    refine slv_aload_n eX12_node_22 rfl ?_
    refine slv_iconst (v := nI 1) eX12_node_23 (by decide) ?_
    refine slv_rV (As := [_]) eX12_node_24 lX12_536 rfl rfl rf_68 rfl (c_X12_refusedLow 1) (by decide) (Nat.le_of_ble_eq_true rfl) ?_
    refine slv_iret eX12_node_27 rfl ?_
    exact qA_1 1 F0
  | some z =>
    rw [hy] at hI
    obtain ⟨ey, hz⟩ := vi_some hy
    unfold an_node
    rw [hy]
    subst ey
    cases hx : sl_vr tl x (nd_c (rd_nd S)) with
    | none =>
      rw [hx] at hN
      refine slv_aload_n eX12_node_0 rfl ?_
      refine slv_iconst (v := nI 0) eX12_node_1 (by decide) ?_
      refine slr_pi eX12_node_2 fX12_149 (Nat.le_of_ble_eq_true rfl) rf_s0 ?_
      refine slv_iload_n eX12_node_5 rfl ?_
      refine slv_iconst (v := nI 0) eX12_node_6 (by decide) ?_
      refine slv_iconst (v := nI 4) eX12_node_7 (by decide) ?_
      refine slv_rS (As := [_, _, _]) eX12_node_8 lX12_180 rfl rfl hI (by decide) (Nat.le_of_ble_eq_true rfl) ?_
      refine slv_if_eqB eX12_node_11 (fun h11 => absurd h11 (by first | decide | (intro z; cases z))) (fun h11 => ?_)
      refine slv_aload_n eX12_node_14 rfl ?_
      refine slv_iload_n eX12_node_15 rfl ?_
      refine slv_callV (As := [_]) eX12_node_16 lX12_533 rfl rfl rf_68 rfl hN (by decide) (Nat.le_of_ble_eq_true rfl) (Nat.zero_add _).symm (Nat.zero_add _).symm (Or.inl rfl) ?_
      rintro _ _ ⟨rfl, v2, a2, rfl, z1, z2⟩
      refine slv_if_neB eX12_node_19 (fun h19 => absurd h19 (by first | decide | (intro z; cases z))) (fun h19 => ?_)
      refine slv_aload_n eX12_node_22 rfl ?_
      refine slv_iconst (v := nI 1) eX12_node_23 (by decide) ?_
      refine slv_rV (As := [_]) eX12_node_24 lX12_536 rfl rfl rf_68 rfl (c_X12_refusedLow 1) (by decide) (Nat.le_of_ble_eq_true rfl) ?_
      refine slv_iret eX12_node_27 rfl ?_
      exact qA_1 1 (rqF_t F0 (rsF_q z1))
    | some k =>
      rw [hx] at hN
      obtain ⟨etl, ex, hk⟩ := vr_some hx
      subst ex
      have aft : ∀ v2 a2, rqR S v2 a2 → rsF (sl_u v 0 (nI 0)) a v2 a2 → sl_V YX12_node none 10 0 0 (qA v w a nm M (match some z with
          | some 0 => an_ok (sl_nd (nd_fi (rd_nd S) k))
          | some 1 => an_ok (sl_nd (nd_se (rd_nd S) k))
          | some 2 => an_ok (nI (nd_de (rd_nd S) k))
          | some 3 => an_ok (sl_bi (nd_rl (rd_nd S) k))
          | some 4 => an_ok (nd_bi (rd_nd S) k)
          | _ => an_low)) 28 [some (.ref 68), some (.int (nI k)), some (.int (nI z))] [] (rf_S v2 w a2 nm M) := by
        intro v2 a2 z1 z2
        obtain ⟨y1, y2, y3, y4, y5, y6⟩ := z1.2.2 k hk
        have zF := rqF_t F0 (rsF_q z2)
        rcases (show z = 0 ∨ z = 1 ∨ z = 2 ∨ z = 3 ∨ z = 4 by omega) with e | e | e | e | e <;> subst e
        · refine slv_iload_n eX12_node_28 rfl ?_
          refine slv_tableIn (off := 31) (t := 60) eX12_node_29 (by decide) (by decide) (by decide) (by decide) ?_
          refine slv_aload_n eX12_node_60 rfl ?_
          refine slv_aload_n eX12_node_61 rfl ?_
          refine slr_ga (p := 107) eX12_node_62 fX12_131 rfl ?_
          refine slv_iload_n eX12_node_65 rfl ?_
          refine slr_ialdX (k := 71) (p := 107) (len := 122) eX12_node_66 rfl (by repeat (first | exact sl_u_eq | assumption | apply rf_ne (by decide) | exact rfl)) (by omega) (by decide) y2 ?_
          refine slv_rV (As := [_]) eX12_node_67 lX12_314 rfl rfl rf_68 rfl (c_X12_good _) (by decide) (Nat.le_of_ble_eq_true rfl) ?_
          refine slv_iret eX12_node_70 rfl ?_
          exact qA_1 0 zF
        · refine slv_iload_n eX12_node_28 rfl ?_
          refine slv_tableIn (off := 42) (t := 71) eX12_node_29 (by decide) (by decide) (by decide) (by decide) ?_
          refine slv_aload_n eX12_node_71 rfl ?_
          refine slv_aload_n eX12_node_72 rfl ?_
          refine slr_ga (p := 108) eX12_node_73 fX12_134 rfl ?_
          refine slv_iload_n eX12_node_76 rfl ?_
          refine slr_ialdX (k := 72) (p := 108) (len := 122) eX12_node_77 rfl (by repeat (first | exact sl_u_eq | assumption | apply rf_ne (by decide) | exact rfl)) (by omega) (by decide) y3 ?_
          refine slv_rV (As := [_]) eX12_node_78 lX12_314 rfl rfl rf_68 rfl (c_X12_good _) (by decide) (Nat.le_of_ble_eq_true rfl) ?_
          refine slv_iret eX12_node_81 rfl ?_
          exact qA_1 0 zF
        · refine slv_iload_n eX12_node_28 rfl ?_
          refine slv_tableIn (off := 53) (t := 82) eX12_node_29 (by decide) (by decide) (by decide) (by decide) ?_
          refine slv_aload_n eX12_node_82 rfl ?_
          refine slv_aload_n eX12_node_83 rfl ?_
          refine slr_ga (p := 109) eX12_node_84 fX12_137 rfl ?_
          refine slv_iload_n eX12_node_87 rfl ?_
          refine slr_ialdX (k := 73) (p := 109) (len := 122) eX12_node_88 rfl (by repeat (first | exact sl_u_eq | assumption | apply rf_ne (by decide) | exact rfl)) (by omega) (by decide) y4 ?_
          refine slv_rV (As := [_]) eX12_node_89 lX12_314 rfl rfl rf_68 rfl (c_X12_good _) (by decide) (Nat.le_of_ble_eq_true rfl) ?_
          refine slv_iret eX12_node_92 rfl ?_
          exact qA_1 0 zF
        · cases hb : nd_rl (rd_nd S) k with
          | true =>
            rw [hb] at y6
            refine slv_iload_n eX12_node_28 rfl ?_
            refine slv_tableIn (off := 64) (t := 93) eX12_node_29 (by decide) (by decide) (by decide) (by decide) ?_
            refine slv_aload_n eX12_node_93 rfl ?_
            refine slv_aload_n eX12_node_94 rfl ?_
            refine slr_ga (p := 111) eX12_node_95 fX12_143 rfl ?_
            refine slv_iload_n eX12_node_98 rfl ?_
            refine slr_zaldX (k := 75) (p := 111) (len := 122) eX12_node_99 rfl (by repeat (first | exact sl_u_eq | assumption | apply rf_ne (by decide) | exact rfl)) (by omega) (by decide) y6 ?_
            refine slv_if_eqB eX12_node_100 (fun h100 => absurd h100 (by first | decide | (intro z; cases z))) (fun h100 => ?_)
            refine slv_iconst (v := nI 1) eX12_node_103 (by decide) ?_
            refine slv_goto eX12_node_104 ?_
            refine slv_rV (As := [_]) eX12_node_108 lX12_314 rfl rfl rf_68 rfl (c_X12_good _) (by decide) (Nat.le_of_ble_eq_true rfl) ?_
            refine slv_iret eX12_node_111 rfl ?_
            exact qA_1 0 zF
          | false =>
            rw [hb] at y6
            refine slv_iload_n eX12_node_28 rfl ?_
            refine slv_tableIn (off := 64) (t := 93) eX12_node_29 (by decide) (by decide) (by decide) (by decide) ?_
            refine slv_aload_n eX12_node_93 rfl ?_
            refine slv_aload_n eX12_node_94 rfl ?_
            refine slr_ga (p := 111) eX12_node_95 fX12_143 rfl ?_
            refine slv_iload_n eX12_node_98 rfl ?_
            refine slr_zaldX (k := 75) (p := 111) (len := 122) eX12_node_99 rfl (by repeat (first | exact sl_u_eq | assumption | apply rf_ne (by decide) | exact rfl)) (by omega) (by decide) y6 ?_
            refine slv_if_eqB eX12_node_100 (fun h100 => ?_) (fun h100 => absurd h100 (by first | decide | (intro z; cases z)))
            refine slv_iconst (v := nI 0) eX12_node_107 (by decide) ?_
            refine slv_rV (As := [_]) eX12_node_108 lX12_314 rfl rfl rf_68 rfl (c_X12_good _) (by decide) (Nat.le_of_ble_eq_true rfl) ?_
            refine slv_iret eX12_node_111 rfl ?_
            exact qA_1 0 zF
        · refine slv_iload_n eX12_node_28 rfl ?_
          refine slv_tableOut (t := 112) eX12_node_29 (by decide) (by decide) ?_
          refine slv_aload_n eX12_node_112 rfl ?_
          refine slv_aload_n eX12_node_113 rfl ?_
          refine slr_ga (p := 110) eX12_node_114 fX12_140 rfl ?_
          refine slv_iload_n eX12_node_117 rfl ?_
          refine slr_ialdX (k := 74) (p := 110) (len := 122) eX12_node_118 rfl (by repeat (first | exact sl_u_eq | assumption | apply rf_ne (by decide) | exact rfl)) (by omega) (by decide) y5 ?_
          refine slv_rV (As := [_]) eX12_node_119 lX12_314 rfl rfl rf_68 rfl (c_X12_good _) (by decide) (Nat.le_of_ble_eq_true rfl) ?_
          refine slv_iret eX12_node_122 rfl ?_
          exact qA_1 0 zF
      refine slv_aload_n eX12_node_0 rfl ?_
      refine slv_iconst (v := nI 0) eX12_node_1 (by decide) ?_
      refine slr_pi eX12_node_2 fX12_149 (Nat.le_of_ble_eq_true rfl) rf_s0 ?_
      refine slv_iload_n eX12_node_5 rfl ?_
      refine slv_iconst (v := nI 0) eX12_node_6 (by decide) ?_
      refine slv_iconst (v := nI 4) eX12_node_7 (by decide) ?_
      refine slv_rS (As := [_, _, _]) eX12_node_8 lX12_180 rfl rfl hI (by decide) (Nat.le_of_ble_eq_true rfl) ?_
      refine slv_if_eqB eX12_node_11 (fun h11 => absurd h11 (by first | decide | (intro z; cases z))) (fun h11 => ?_)
      refine slv_aload_n eX12_node_14 rfl ?_
      refine slv_iload_n eX12_node_15 rfl ?_
      refine slv_callV (As := [_]) eX12_node_16 lX12_533 rfl rfl rf_68 rfl hN (by decide) (Nat.le_of_ble_eq_true rfl) (Nat.zero_add _).symm (Nat.zero_add _).symm (Or.inl rfl) ?_
      rintro _ _ ⟨rfl, v2, a2, rfl, z1, z2⟩
      refine slv_if_neB eX12_node_19 (fun h19 => ?_) (fun h19 => absurd h19 (by first | decide | (intro z; cases z)))
      exact aft v2 a2 (z2 etl) z1
set_option maxRecDepth 100000 in
theorem c_X12_hasIt (h21 : v 21 = sl_bi sn) (h24 : v 53 = sl_bi tl) (hts : tl = true → sn = true) (hH : tl = true → rqH g s rn rk kn nu ln q how S0 S v a) : sl_T YX12_hasIt 9 0 0 (fun r M' => r = some (.int (sl_bi (tl && decide (rd_fa S = 0)))) ∧ ∃ v' a', M' = rf_S v' w a' nm M ∧ rsF v a v' a' ∧ (tl = true → rqR S v' a')) [.ref 68] (rf_S v w a nm M) := by
  have hA := c_X12_isAsked (v := v) (w := w) (a := a) (nm := nm) (M := M) h21 h24 hts (nI 0) (nI 0)
  rw [in_00] at hA
  refine sl_T.of_V (lv := [_]) (by decide) rfl (Nat.le_of_ble_eq_true rfl) ?_
  cases tl with
  | false =>
    refine slv_aload_n eX12_hasIt_0 rfl ?_
    refine slv_iconst (v := nI 0) eX12_hasIt_1 (by decide) ?_
    refine slv_iconst (v := nI 0) eX12_hasIt_2 (by decide) ?_
    refine slv_rV (As := [_, _]) eX12_hasIt_3 lX12_530 rfl rfl rf_68 rfl hA (by decide) (Nat.le_of_ble_eq_true rfl) ?_
    refine slv_if_neB eX12_hasIt_6 (fun h6 => absurd h6 (by first | decide | (intro z; cases z))) (fun h6 => ?_)
    refine slv_iconst (v := nI 0) eX12_hasIt_9 (by decide) ?_
    refine slv_zret eX12_hasIt_10 rfl rfl ?_
    exact ⟨rfl, v, a, rfl, ⟨fun _ _ => rfl, fun _ _ => rfl⟩, fun q => by cases q⟩
  | true =>
    have hH := hH rfl
    have hRB := rq_by (w := w) (nm := nm) (M := M) hH
    have ghow := hH.2.2.2.1.1
    have hfa : rd_fa S < 100 := by rw [hH.2.2.2.2.2.2.2.2.2.2]; exact rdS_fa
    have aft : ∀ v2 a2, rqR S v2 a2 → rsF v a v2 a2 → sl_V YX12_hasIt none 9 0 0 (fun r M' => r = some (.int (sl_bi (true && decide (rd_fa S = 0)))) ∧ ∃ v' a', M' = rf_S v' w a' nm M ∧ rsF v a v' a' ∧ (true = true → rqR S v' a')) 19 [some (.ref 68)] [] (rf_S v2 w a2 nm M) := by
      intro v2 a2 z1 z2
      have y1 := z1.1.1
      by_cases h : rd_fa S = 0
      · rw [decide_eq_true h]
        refine slv_aload_n eX12_hasIt_19 rfl ?_
        refine slr_gi eX12_hasIt_20 fX12_441 rfl (by repeat (first | exact sl_u_eq | assumption | apply rf_ne (by decide) | exact rfl)) ?_
        refine slv_if_neN eX12_hasIt_23 (by omega) (fun h23 => absurd h23 (by omega)) (fun h23 => ?_)
        refine slv_iconst (v := nI 1) eX12_hasIt_26 (by decide) ?_
        refine slv_goto eX12_hasIt_27 ?_
        refine slv_zret eX12_hasIt_31 rfl rfl ?_
        exact ⟨rfl, v2, a2, rfl, z2, fun _ => z1⟩
      · rw [decide_eq_false h]
        refine slv_aload_n eX12_hasIt_19 rfl ?_
        refine slr_gi eX12_hasIt_20 fX12_441 rfl (by repeat (first | exact sl_u_eq | assumption | apply rf_ne (by decide) | exact rfl)) ?_
        refine slv_if_neN eX12_hasIt_23 (by omega) (fun h23 => ?_) (fun h23 => absurd h23 (by omega))
        refine slv_iconst (v := nI 0) eX12_hasIt_30 (by decide) ?_
        refine slv_zret eX12_hasIt_31 rfl rfl ?_
        exact ⟨rfl, v2, a2, rfl, z2, fun _ => z1⟩
    refine slv_aload_n eX12_hasIt_0 rfl ?_
    refine slv_iconst (v := nI 0) eX12_hasIt_1 (by decide) ?_
    refine slv_iconst (v := nI 0) eX12_hasIt_2 (by decide) ?_
    refine slv_rV (As := [_, _]) eX12_hasIt_3 lX12_530 rfl rfl rf_68 rfl hA (by decide) (Nat.le_of_ble_eq_true rfl) ?_
    refine slv_if_neB eX12_hasIt_6 (fun h6 => ?_) (fun h6 => absurd h6 (by first | decide | (intro z; cases z)))
    refine slv_aload_n eX12_hasIt_11 rfl ?_
    refine slv_aload_n eX12_hasIt_12 rfl ?_
    refine slr_gi eX12_hasIt_13 fX12_521 rfl ghow ?_
    refine slv_callV (As := [_]) eX12_hasIt_16 lX12_524 rfl rfl rf_68 rfl hRB (by decide) (Nat.le_of_ble_eq_true rfl) (Nat.zero_add _).symm (Nat.zero_add _).symm (Or.inl rfl) ?_
    rintro _ _ ⟨rfl, v2, a2, rfl, z1, z2⟩
    exact aft v2 a2 z1 z2
/-- the value's bits are canonical -/
def rqC (S : rd_T) : Prop := ∀ k, rd_beh S 0 = some k → nd_rl (rd_nd S) k = true → fl_b (nd_bi (rd_nd S) k).toUInt32 = nd_bi (rd_nd S) k
set_option maxRecDepth 100000 in
theorem c_X12_value (h21 : v 21 = sl_bi sn) (h24 : v 53 = sl_bi tl) (hts : tl = true → sn = true) (hH : tl = true → rqH g s rn rk kn nu ln q how S0 S v a) (hC : tl = true → rqC S) (x : Int32) : sl_T YX12_value 10 0 0 (qA v w a nm M (an_value tl S x)) [.ref 68, .int x] (rf_S v w a nm M) := by
  have F0 := rqF_0 v a (nI 0)
  have hN := c_X12_hasIt (v := sl_u v 0 (nI 0)) (w := w) (a := a) (nm := nm) (M := M) h21 h24 hts (fun e => rqH_F (hH e) F0)
  have hI := c_X12_in (rf_S (sl_u v 0 (nI 0)) w a nm M) x (nI 0) (nI 2)
  have hin : (decide (nI 0 ≤ x) && decide (x ≤ nI 2)) = (sl_vi x 3).isSome := in_vi (n := 3) (by decide)
  rw [hin] at hI
  refine sl_T.of_V (lv := [_, _]) (by decide) rfl (Nat.le_of_ble_eq_true rfl) ?_
  cases hx : sl_vi x 3 with
  | none =>
    rw [hx] at hI
    have e : an_value tl S x = an_low := by unfold an_value; rw [hx]; cases an_root tl S <;> rfl
    rw [e]
    refine slv_aload_n eX12_value_0 rfl ?_
    refine slv_iconst (v := nI 0) eX12_value_1 (by decide) ?_
    refine slr_pi eX12_value_2 fX12_149 (Nat.le_of_ble_eq_true rfl) rf_s0 ?_
    refine slv_iload_n eX12_value_5 rfl ?_
    refine slv_iconst (v := nI 0) eX12_value_6 (by decide) ?_
    refine slv_iconst (v := nI 2) eX12_value_7 (by decide) ?_
    refine slv_rS (As := [_, _, _]) eX12_value_8 lX12_180 rfl rfl hI (by decide) (Nat.le_of_ble_eq_true rfl) ?_
    refine slv_if_eqB eX12_value_11 (fun h11 => ?_) (fun h11 => absurd h11 (by first | decide | (intro z; cases z)))
    refine slv_aload_n eX12_value_21 rfl ?_
    refine slv_iconst (v := nI 1) eX12_value_22 (by decide) ?_
    refine slv_rV (As := [_]) eX12_value_23 lX12_536 rfl rfl rf_68 rfl (c_X12_refusedLow 1) (by decide) (Nat.le_of_ble_eq_true rfl) ?_
    refine slv_iret eX12_value_26 rfl ?_
    exact qA_1 1 F0
  | some z =>
    rw [hx] at hI
    obtain ⟨ex, hz⟩ := vi_some hx
    unfold an_value an_root
    rw [hx]
    subst ex
    cases hb : (tl && decide (rd_fa S = 0)) with
    | false =>
      rw [hb] at hN
      refine slv_aload_n eX12_value_0 rfl ?_
      refine slv_iconst (v := nI 0) eX12_value_1 (by decide) ?_
      refine slr_pi eX12_value_2 fX12_149 (Nat.le_of_ble_eq_true rfl) rf_s0 ?_
      refine slv_iload_n eX12_value_5 rfl ?_
      refine slv_iconst (v := nI 0) eX12_value_6 (by decide) ?_
      refine slv_iconst (v := nI 2) eX12_value_7 (by decide) ?_
      refine slv_rS (As := [_, _, _]) eX12_value_8 lX12_180 rfl rfl hI (by decide) (Nat.le_of_ble_eq_true rfl) ?_
      refine slv_if_eqB eX12_value_11 (fun h11 => absurd h11 (by first | decide | (intro z; cases z))) (fun h11 => ?_)
      refine slv_aload_n eX12_value_14 rfl ?_
      refine slv_callV (As := []) eX12_value_15 lX12_542 rfl rfl rf_68 rfl hN (by decide) (Nat.le_of_ble_eq_true rfl) (Nat.zero_add _).symm (Nat.zero_add _).symm (Or.inl rfl) ?_
      rintro _ _ ⟨rfl, v2, a2, rfl, z1, z2⟩
      refine slv_if_neB eX12_value_18 (fun h18 => absurd h18 (by first | decide | (intro z; cases z))) (fun h18 => ?_)
      refine slv_aload_n eX12_value_21 rfl ?_
      refine slv_iconst (v := nI 1) eX12_value_22 (by decide) ?_
      refine slv_rV (As := [_]) eX12_value_23 lX12_536 rfl rfl rf_68 rfl (c_X12_refusedLow 1) (by decide) (Nat.le_of_ble_eq_true rfl) ?_
      refine slv_iret eX12_value_26 rfl ?_
      exact qA_1 1 (rqF_t F0 (rsF_q z1))
    | true =>
      rw [hb] at hN
      rw [Bool.and_eq_true] at hb
      have hfa := of_decide_eq_true hb.2
      have aft : ∀ v2 a2, rqR S v2 a2 → rsF (sl_u v 0 (nI 0)) a v2 a2 → sl_V YX12_value none 10 0 0 (qA v w a nm M (match rd_beh S 0 with
          | none => an_low
          | some k => match some z with
            | some 0 => an_ok (sl_bi (nd_rl (rd_nd S) k))
            | some 1 => an_ok (nd_bi (rd_nd S) k)
            | some 2 => an_ok (cond (nd_rl (rd_nd S) k) (FP.f2i (nd_bi (rd_nd S) k).toUInt32) (nd_bi (rd_nd S) k))
            | _ => an_low)) 27 [some (.ref 68), some (.int (nI z))] [] (rf_S v2 w a2 nm M) := by
        intro v2 a2 z1 z2
        obtain ⟨k, hk, y1, y2⟩ := z1.2.1 hfa
        rw [hk]
        have hcq := hC hb.1 k hk
        have zF := rqF_t F0 (rsF_q z2)
        cases hrl : nd_rl (rd_nd S) k with
        | true =>
          rw [hrl] at y2
          have hv := cn_q (hcq hrl)
          rcases (show z = 0 ∨ z = 1 ∨ z = 2 by omega) with e | e | e <;> subst e <;> dsimp only <;> (try rw [hrl])
          · refine slv_iload_n eX12_value_27 rfl ?_
            refine slv_if_neN eX12_value_28 (by omega) (fun h28 => absurd h28 (by omega)) (fun h28 => ?_)
            refine slv_aload_n eX12_value_31 rfl ?_
            refine slv_aload_n eX12_value_32 rfl ?_
            refine slr_ga (p := 101) eX12_value_33 fX12_113 rfl ?_
            refine slv_iconst (v := nI 0) eX12_value_36 (by decide) ?_
            refine slr_zaldX (k := 59) (p := 101) (len := 16) eX12_value_37 rfl (by repeat (first | exact sl_u_eq | assumption | apply rf_ne (by decide) | exact rfl)) (by omega) (by decide) y2 ?_
            refine slv_if_eqB eX12_value_38 (fun h38 => absurd h38 (by first | decide | (intro z; cases z))) (fun h38 => ?_)
            refine slv_iconst (v := nI 1) eX12_value_41 (by decide) ?_
            refine slv_goto eX12_value_42 ?_
            refine slv_rV (As := [_]) eX12_value_46 lX12_314 rfl rfl rf_68 rfl (c_X12_good _) (by decide) (Nat.le_of_ble_eq_true rfl) ?_
            refine slv_iret eX12_value_49 rfl ?_
            exact qA_1 0 zF
          · refine slv_iload_n eX12_value_27 rfl ?_
            refine slv_if_neN eX12_value_28 (by omega) (fun h28 => ?_) (fun h28 => absurd h28 (by omega))
            refine slv_iload_n eX12_value_50 rfl ?_
            refine slv_iconst (v := nI 1) eX12_value_51 (by decide) ?_
            refine slv_icmp_neN eX12_value_52 (by omega) (by omega) (fun h52 => absurd h52 (by omega)) (fun h52 => ?_)
            refine slv_aload_n eX12_value_55 rfl ?_
            refine slv_aload_n eX12_value_56 rfl ?_
            refine slr_ga (p := 97) eX12_value_57 fX12_101 rfl ?_
            refine slv_iconst (v := nI 0) eX12_value_60 (by decide) ?_
            refine slr_ialdX (k := 55) (p := 97) (len := 16) eX12_value_61 rfl (by repeat (first | exact sl_u_eq | assumption | apply rf_ne (by decide) | exact rfl)) (by omega) (by decide) y1 ?_
            refine slv_rV (As := [_]) eX12_value_62 lX12_314 rfl rfl rf_68 rfl (c_X12_good _) (by decide) (Nat.le_of_ble_eq_true rfl) ?_
            refine slv_iret eX12_value_65 rfl ?_
            exact qA_1 0 zF
          · refine slv_iload_n eX12_value_27 rfl ?_
            refine slv_if_neN eX12_value_28 (by omega) (fun h28 => ?_) (fun h28 => absurd h28 (by omega))
            refine slv_iload_n eX12_value_50 rfl ?_
            refine slv_iconst (v := nI 1) eX12_value_51 (by decide) ?_
            refine slv_icmp_neN eX12_value_52 (by omega) (by omega) (fun h52 => ?_) (fun h52 => absurd h52 (by omega))
            refine slv_aload_n eX12_value_66 rfl ?_
            refine slv_aload_n eX12_value_67 rfl ?_
            refine slr_ga (p := 101) eX12_value_68 fX12_113 rfl ?_
            refine slv_iconst (v := nI 0) eX12_value_71 (by decide) ?_
            refine slr_zaldX (k := 59) (p := 101) (len := 16) eX12_value_72 rfl (by repeat (first | exact sl_u_eq | assumption | apply rf_ne (by decide) | exact rfl)) (by omega) (by decide) y2 ?_
            refine slv_if_eqB eX12_value_73 (fun h73 => absurd h73 (by first | decide | (intro z; cases z))) (fun h73 => ?_)
            refine slv_aload_n eX12_value_76 rfl ?_
            refine slr_ga (p := 97) eX12_value_77 fX12_101 rfl ?_
            refine slv_iconst (v := nI 0) eX12_value_80 (by decide) ?_
            refine slr_ialdX (k := 55) (p := 97) (len := 16) eX12_value_81 rfl (by repeat (first | exact sl_u_eq | assumption | apply rf_ne (by decide) | exact rfl)) (by omega) (by decide) y1 ?_
            refine slv_bits2f eX12_value_82 ib_w1 ib_w2 ib_w3 fb_w4 (by decide) (Nat.le_of_ble_eq_true rfl) hv ?_
            refine slv_f2i eX12_value_85 ?_
            refine slv_goto eX12_value_86 ?_
            refine slv_rV (As := [_]) eX12_value_95 lX12_314 rfl rfl rf_68 rfl (c_X12_good _) (by decide) (Nat.le_of_ble_eq_true rfl) ?_
            refine slv_iret eX12_value_98 rfl ?_
            exact qA_1 0 zF
        | false =>
          rw [hrl] at y2
          rcases (show z = 0 ∨ z = 1 ∨ z = 2 by omega) with e | e | e <;> subst e <;> dsimp only <;> (try rw [hrl])
          · refine slv_iload_n eX12_value_27 rfl ?_
            refine slv_if_neN eX12_value_28 (by omega) (fun h28 => absurd h28 (by omega)) (fun h28 => ?_)
            refine slv_aload_n eX12_value_31 rfl ?_
            refine slv_aload_n eX12_value_32 rfl ?_
            refine slr_ga (p := 101) eX12_value_33 fX12_113 rfl ?_
            refine slv_iconst (v := nI 0) eX12_value_36 (by decide) ?_
            refine slr_zaldX (k := 59) (p := 101) (len := 16) eX12_value_37 rfl (by repeat (first | exact sl_u_eq | assumption | apply rf_ne (by decide) | exact rfl)) (by omega) (by decide) y2 ?_
            refine slv_if_eqB eX12_value_38 (fun h38 => ?_) (fun h38 => absurd h38 (by first | decide | (intro z; cases z)))
            refine slv_iconst (v := nI 0) eX12_value_45 (by decide) ?_
            refine slv_rV (As := [_]) eX12_value_46 lX12_314 rfl rfl rf_68 rfl (c_X12_good _) (by decide) (Nat.le_of_ble_eq_true rfl) ?_
            refine slv_iret eX12_value_49 rfl ?_
            exact qA_1 0 zF
          · refine slv_iload_n eX12_value_27 rfl ?_
            refine slv_if_neN eX12_value_28 (by omega) (fun h28 => ?_) (fun h28 => absurd h28 (by omega))
            refine slv_iload_n eX12_value_50 rfl ?_
            refine slv_iconst (v := nI 1) eX12_value_51 (by decide) ?_
            refine slv_icmp_neN eX12_value_52 (by omega) (by omega) (fun h52 => absurd h52 (by omega)) (fun h52 => ?_)
            refine slv_aload_n eX12_value_55 rfl ?_
            refine slv_aload_n eX12_value_56 rfl ?_
            refine slr_ga (p := 97) eX12_value_57 fX12_101 rfl ?_
            refine slv_iconst (v := nI 0) eX12_value_60 (by decide) ?_
            refine slr_ialdX (k := 55) (p := 97) (len := 16) eX12_value_61 rfl (by repeat (first | exact sl_u_eq | assumption | apply rf_ne (by decide) | exact rfl)) (by omega) (by decide) y1 ?_
            refine slv_rV (As := [_]) eX12_value_62 lX12_314 rfl rfl rf_68 rfl (c_X12_good _) (by decide) (Nat.le_of_ble_eq_true rfl) ?_
            refine slv_iret eX12_value_65 rfl ?_
            exact qA_1 0 zF
          · refine slv_iload_n eX12_value_27 rfl ?_
            refine slv_if_neN eX12_value_28 (by omega) (fun h28 => ?_) (fun h28 => absurd h28 (by omega))
            refine slv_iload_n eX12_value_50 rfl ?_
            refine slv_iconst (v := nI 1) eX12_value_51 (by decide) ?_
            refine slv_icmp_neN eX12_value_52 (by omega) (by omega) (fun h52 => ?_) (fun h52 => absurd h52 (by omega))
            refine slv_aload_n eX12_value_66 rfl ?_
            refine slv_aload_n eX12_value_67 rfl ?_
            refine slr_ga (p := 101) eX12_value_68 fX12_113 rfl ?_
            refine slv_iconst (v := nI 0) eX12_value_71 (by decide) ?_
            refine slr_zaldX (k := 59) (p := 101) (len := 16) eX12_value_72 rfl (by repeat (first | exact sl_u_eq | assumption | apply rf_ne (by decide) | exact rfl)) (by omega) (by decide) y2 ?_
            refine slv_if_eqB eX12_value_73 (fun h73 => ?_) (fun h73 => absurd h73 (by first | decide | (intro z; cases z)))
            refine slv_aload_n eX12_value_89 rfl ?_
            refine slr_ga (p := 97) eX12_value_90 fX12_101 rfl ?_
            refine slv_iconst (v := nI 0) eX12_value_93 (by decide) ?_
            refine slr_ialdX (k := 55) (p := 97) (len := 16) eX12_value_94 rfl (by repeat (first | exact sl_u_eq | assumption | apply rf_ne (by decide) | exact rfl)) (by omega) (by decide) y1 ?_
            refine slv_rV (As := [_]) eX12_value_95 lX12_314 rfl rfl rf_68 rfl (c_X12_good _) (by decide) (Nat.le_of_ble_eq_true rfl) ?_
            refine slv_iret eX12_value_98 rfl ?_
            exact qA_1 0 zF
      refine slv_aload_n eX12_value_0 rfl ?_
      refine slv_iconst (v := nI 0) eX12_value_1 (by decide) ?_
      refine slr_pi eX12_value_2 fX12_149 (Nat.le_of_ble_eq_true rfl) rf_s0 ?_
      refine slv_iload_n eX12_value_5 rfl ?_
      refine slv_iconst (v := nI 0) eX12_value_6 (by decide) ?_
      refine slv_iconst (v := nI 2) eX12_value_7 (by decide) ?_
      refine slv_rS (As := [_, _, _]) eX12_value_8 lX12_180 rfl rfl hI (by decide) (Nat.le_of_ble_eq_true rfl) ?_
      refine slv_if_eqB eX12_value_11 (fun h11 => absurd h11 (by first | decide | (intro z; cases z))) (fun h11 => ?_)
      refine slv_aload_n eX12_value_14 rfl ?_
      refine slv_callV (As := []) eX12_value_15 lX12_542 rfl rfl rf_68 rfl hN (by decide) (Nat.le_of_ble_eq_true rfl) (Nat.zero_add _).symm (Nat.zero_add _).symm (Or.inl rfl) ?_
      rintro _ _ ⟨rfl, v2, a2, rfl, z1, z2⟩
      refine slv_if_neB eX12_value_18 (fun h18 => ?_) (fun h18 => absurd h18 (by first | decide | (intro z; cases z)))
      exact aft v2 a2 (z2 hb.1) z1
end RQB

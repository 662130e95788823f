section RDJ
variable {b ho gb : Nat} {E : rx_T} {S : rd_T} {M : sl_M} {bd : Option Nat} {cn at_ : Nat}
theorem rg_q4g (hbb : ∀ i k, i < 16 → rd_beh S i = some k → k < 60) {fr : Nat} (h1 : 1 ≤ fr) (h2 : fr ≤ rd_tp S) (h3 : rd_tp S ≤ 15) : sl_R YX4_gather 2 [.ref (b + 12), .ref (b + 9), .ref (b + 11), .int (nI fr), .int (nI (rd_tp S))] (rg_S b ho gb S M) none (rg_S b ho gb (S.1, S.2.1, S.2.2.1, rd_gat S fr, S.2.2.2.2) M) := by
  have z := c_X4_gather (M := rg_S b ho gb S M) (b := b + 12) (sp := b + 9) (bp := b + 11) (stk := rd_stk S) (beh := rd_beh S) (f := (rd_hn S).1) (s := (rd_hn S).2.1) (n := (rd_hn S).2.2.1) (it := (rd_hn S).2.2.2) rg_of.2.1 rg_of.2.2.2.1 ⟨by omega, by omega, by omega, by omega⟩ rg_hn_at hbb h1 h2 h3
  rw [rg_hn] at z
  exact z
theorem rg_q6a (hc : nd_c (rd_nd S) < 60) (hde : ∀ k, k < 60 → nd_de (rd_nd S) k < 1000) (r : Nat) {o1 o2 : Option Nat} (h1 : ∀ k, o1 = some k → k < 60) (h2 : ∀ k, o2 = some k → k < 60) (q : Bool × Int32) : sl_R YX6_add 1 [.ref (b + 1), .int (nI r), .int (sl_nd o1), .int (sl_nd o2), .int (sl_bi q.1), .int q.2] (rg_S b ho gb S M) none (rg_S b ho gb (S.1, S.2.1, nd_add (rd_nd S) r o1 o2 q, S.2.2.2) M) := by
  have z := c_X6_add (M := rg_S b ho gb S M) (b := b + 1) rg_no_at hc hde (r := r) h1 h2 q.1 q.2
  rw [rg_no] at z
  exact z
theorem rd_vk_lt (k : Nat) (q : Bool × Int32) : (rd_vk k q).1 < 100 := by unfold rd_vk; simp only; split <;> decide
theorem rd_mv_lt (k d : Nat) (tv : Bool × Int32) (rl : Nat → Bool) (bi : Nat → Int32) (f s : Option Nat) (r : Bool × Int32) : (rd_mv k d tv rl bi f s r).1 < 100 := by
  unfold rd_mv
  split
  · exact rd_vk_lt _ _
  · split
    · exact (show 4 < 100 by decide)
    · split
      · exact rd_vk_lt _ _
      · split
        · exact (show 4 < 100 by decide)
        · unfold rd_v2
          rename_i a _ _ c
          cases (rl a || rl c) with
          | true => exact rd_vk_lt _ _
          | false => cases (decide (d = 3) && decide (bi c = nI 0)) with
            | true => exact (show 6 < 100 by decide)
            | false => exact rd_vk_lt _ _
set_option maxRecDepth 100000 in
theorem c_X7_reduce26 (hR : rr_all) (h : rx_at b gb E bd cn at_ M) (hk : rd_ok E S) {fr : Nat} (h1 : 1 ≤ fr) (h2 : fr ≤ rd_tp S) (hc60 : nd_c (rd_nd S) < 60) (Q : Option Value → sl_M → Prop) (hQ : Q none (rg_S b ho gb (rd_red2 E S fr (rd_gat S fr)) M)) : sl_V YX7_reduceLast none 4 0 0 Q 26 [some (.ref b), some (.int (nI fr)), none, none] [] (rg_S b ho gb S M) := by
  have htc := rx_tc60 h
  have h0 := h
  obtain ⟨hb, hg2, hg, hok, hf, hd, hc, ht⟩ := h
  have hk0 := hk
  obtain ⟨a1, a2, a3, a4, a5, a6, a7, a8, a9, a10, a11, a12, a13, a14⟩ := hk
  have hg0 := hg
  obtain ⟨g0, g1, g2, g3, g4, g5, g6, g7⟩ := hg
  have hnx : rd_nx S ≤ 60 := Nat.le_trans a1 htc
  have hG := rd_gat_ok hk0 (fr := fr) h1 h2
  obtain ⟨q1, q2, q3, q4, q5⟩ := hG
  refine slv_aload_n eX7_reduceLast_26 rfl ?_
  refine slv_getf eX7_reduceLast_27 fX7_31 (by repeat (first | assumption | exact sl_up_eq | refine sl_up_ne (by first | decide | omega) ?_)) rfl ?_
  refine slv_aload_n eX7_reduceLast_30 rfl ?_
  refine slv_getf eX7_reduceLast_31 fX7_18 (by repeat (first | assumption | exact sl_up_eq | refine sl_up_ne (by first | decide | omega) ?_)) rfl ?_
  refine slv_aload_n eX7_reduceLast_34 rfl ?_
  refine slv_getf eX7_reduceLast_35 fX7_25 (by repeat (first | assumption | exact sl_up_eq | refine sl_up_ne (by first | decide | omega) ?_)) rfl ?_
  refine slv_iload_n eX7_reduceLast_38 rfl ?_
  refine slv_aload_n eX7_reduceLast_39 rfl ?_
  refine slv_getf eX7_reduceLast_40 fX7_84 (by repeat (first | assumption | exact sl_up_eq | refine sl_up_ne (by first | decide | omega) ?_)) rfl ?_
  refine slv_rV (As := [_, _, _, _]) eX7_reduceLast_43 lX7_163 rfl rfl (by repeat (first | assumption | exact sl_up_eq | refine sl_up_ne (by first | decide | omega) ?_)) rfl (rg_q4g a7 h1 h2 a2) (by decide) (Nat.le_of_ble_eq_true rfl) ?_
  skip
  unfold rd_red2 at hQ
  generalize rd_gat S fr = H at q1 q2 q3 q4 q5 hQ
  have hU := c_X4_ruleOf (M := rg_S b ho gb (S.1, S.2.1, S.2.2.1, H, S.2.2.2.2) M) (b := b + 12) (rg_sg hb hg2 hg0) hok rg_hn_at q3 q4
  have hrl : ∀ r, rd_rule (rx_g E) H = some r → r < sg_rules (rx_g E) := fun r hr => by have := sl_fn_lt _ _ _ hr; omega
  change sl_R YX4_ruleOf 2 [.ref (b + 12), .ref gb] _ (some (.int (sl_io (rd_rule (rx_g E) H)))) _ at hU
  generalize rd_rule (rx_g E) H = ru at hU hrl hQ
  have hr12 : sg_rules (rx_g E) ≤ 12 := hok.2.1
  cases ru with
  | none =>
    change sl_R YX4_ruleOf 2 _ _ (some (.int (-1))) _ at hU
    refine slv_aload_n eX7_reduceLast_46 rfl ?_
    refine slv_getf eX7_reduceLast_47 fX7_31 (by repeat (first | assumption | exact sl_up_eq | refine sl_up_ne (by first | decide | omega) ?_)) rfl ?_
    refine slv_aload_n eX7_reduceLast_50 rfl ?_
    refine slv_getf eX7_reduceLast_51 fX7_42 (by repeat (first | assumption | exact sl_up_eq | refine sl_up_ne (by first | decide | omega) ?_)) rfl ?_
    refine slv_rV (As := [_]) eX7_reduceLast_54 lX7_167 rfl rfl (by repeat (first | assumption | exact sl_up_eq | refine sl_up_ne (by first | decide | omega) ?_)) rfl hU (by decide) (Nat.le_of_ble_eq_true rfl) ?_
    refine slv_istore_n (i := 2) (lv' := [_, _, _, _]) eX7_reduceLast_57 rfl (by decide) rfl ?_
    refine slv_iload_n eX7_reduceLast_58 rfl ?_
    refine slv_iconst (v := (-1)) eX7_reduceLast_59 (by decide) ?_
    refine slv_icmp_ne eX7_reduceLast_60 (fun h60 => absurd rfl h60) (fun h60 => ?_)
    refine slv_aload_n eX7_reduceLast_63 rfl ?_
    refine slv_iconst (v := nI 4) eX7_reduceLast_64 (by decide) ?_
    refine slv_rV (As := [_]) eX7_reduceLast_65 lX7_124 rfl rfl (by repeat (first | assumption | exact sl_up_eq | refine sl_up_ne (by first | decide | omega) ?_)) rfl (rx_fh (S := (S.1, S.2.1, S.2.2.1, H, S.2.2.2.2)) h0 hnx 4) (by decide) (Nat.le_of_ble_eq_true rfl) ?_
    refine slv_vret eX7_reduceLast_68 rfl ?_
    exact hQ
  | some r =>
    have hr := hrl r rfl
    have hdd : sg_deeds (rx_g E) r < 9 := (hok.2.2.2.2.2.1 r (by omega)).2.1
    have q1' : ∀ k, H.1 = some k → k < 60 := fun k hk => Nat.lt_trans (q1 k hk) hc60
    have q2' : ∀ k, H.2.1 = some k → k < 60 := fun k hk => Nat.lt_trans (q2 k hk) hc60
    have ht60 := a6 fr (by omega)
    have hV := c_X7_makeValue (ho := ho) (S1 := S.1) (S2 := S.2.1) (D := S.2.2.1) (f := H.1) (s := H.2.1) (n := H.2.2.1) (it := H.2.2.2) (r := S.2.2.2.2) hR h0 q1' q2' hdd ht60
    have hvl := rd_mv_lt (sg_kind (rx_g E)) (sg_deeds (rx_g E) r) (rx_rl E (rd_tok S fr), rx_bt E (rd_tok S fr)) (nd_rl (rd_nd S)) (nd_bi (rd_nd S)) H.1 H.2.1 (rd_rc S)
    change sl_R YX4_ruleOf 2 _ _ (some (.int (nI r))) _ at hU
    simp only at hQ
    generalize rd_mv (sg_kind (rx_g E)) (sg_deeds (rx_g E) r) (rx_rl E (rd_tok S fr), rx_bt E (rd_tok S fr)) (nd_rl (rd_nd S)) (nd_bi (rd_nd S)) H.1 H.2.1 (rd_rc S) = V at hV hvl hQ
    have hde : ∀ k, k < 60 → nd_de (rd_nd S) k < 1000 := fun k hk => by have := a9 k hk; omega
    have hA := rg_q6a (b := b) (ho := ho) (gb := gb) (M := M) (S := (S.1, (rd_stk S, rd_tok S, sl_u (rd_beh S) (fr - 1) (some (nd_c (rd_nd S)))), S.2.2.1, H, V.2)) hc60 hde r q1' q2' V.2
    refine slv_aload_n eX7_reduceLast_46 rfl ?_
    refine slv_getf eX7_reduceLast_47 fX7_31 (by repeat (first | assumption | exact sl_up_eq | refine sl_up_ne (by first | decide | omega) ?_)) rfl ?_
    refine slv_aload_n eX7_reduceLast_50 rfl ?_
    refine slv_getf eX7_reduceLast_51 fX7_42 (by repeat (first | assumption | exact sl_up_eq | refine sl_up_ne (by first | decide | omega) ?_)) rfl ?_
    refine slv_rV (As := [_]) eX7_reduceLast_54 lX7_167 rfl rfl (by repeat (first | assumption | exact sl_up_eq | refine sl_up_ne (by first | decide | omega) ?_)) rfl hU (by decide) (Nat.le_of_ble_eq_true rfl) ?_
    refine slv_istore_n (i := 2) (lv' := [_, _, _, _]) eX7_reduceLast_57 rfl (by decide) rfl ?_
    refine slv_iload_n eX7_reduceLast_58 rfl ?_
    refine slv_iconst (v := (-1)) eX7_reduceLast_59 (by decide) ?_
    refine slv_icmp_ne eX7_reduceLast_60 (fun h60 => ?_) (fun h60 => absurd h60 (nI_neg1 (by omega)))
    refine slv_aload_n eX7_reduceLast_69 rfl ?_
    refine slv_aload_n eX7_reduceLast_70 rfl ?_
    refine slv_getf eX7_reduceLast_71 fX7_42 (by repeat (first | assumption | exact sl_up_eq | refine sl_up_ne (by first | decide | omega) ?_)) rfl ?_
    refine slv_getf eX7_reduceLast_74 fX7_171 (by repeat (first | assumption | exact sl_up_eq | refine sl_up_ne (by first | decide | omega) ?_)) rfl ?_
    refine slv_iload_n eX7_reduceLast_77 rfl ?_
    refine slv_ialdN eX7_reduceLast_78 (by repeat (first | assumption | exact sl_up_eq | refine sl_up_ne (by first | decide | omega) ?_)) (by omega) (by decide) ?_
    refine slv_aload_n eX7_reduceLast_79 rfl ?_
    refine slv_getf eX7_reduceLast_80 fX7_22 (by repeat (first | assumption | exact sl_up_eq | refine sl_up_ne (by first | decide | omega) ?_)) rfl ?_
    refine slv_iload_n eX7_reduceLast_83 rfl ?_
    refine slv_ialdN eX7_reduceLast_84 (by repeat (first | assumption | exact sl_up_eq | refine sl_up_ne (by first | decide | omega) ?_)) (by omega) (by decide) ?_
    refine slv_rV (As := [_, _]) eX7_reduceLast_85 lX7_174 rfl rfl (by repeat (first | assumption | exact sl_up_eq | refine sl_up_ne (by first | decide | omega) ?_)) rfl hV (by decide) (Nat.le_of_ble_eq_true rfl) ?_
    refine slv_istore_n (i := 3) (lv' := [_, _, _, _]) eX7_reduceLast_88 rfl (by decide) rfl ?_
    refine slv_iload_n eX7_reduceLast_89 rfl ?_
    refine slv_if_eqN eX7_reduceLast_90 (by omega) (fun h90 => ?_) (fun h90 => ?_)
    · refine slv_aload_n eX7_reduceLast_99 rfl ?_
      refine slv_getf eX7_reduceLast_100 fX7_25 (by repeat (first | assumption | exact sl_up_eq | refine sl_up_ne (by first | decide | omega) ?_)) rfl ?_
      refine slv_iload_n eX7_reduceLast_103 rfl ?_
      refine slv_iconst (v := nI 1) eX7_reduceLast_104 (by decide) ?_
      refine slv_isubN eX7_reduceLast_105 (by omega) ?_
      refine slv_aload_n eX7_reduceLast_106 rfl ?_
      refine slv_getf eX7_reduceLast_107 fX7_12 (by repeat (first | assumption | exact sl_up_eq | refine sl_up_ne (by first | decide | omega) ?_)) rfl ?_
      refine slv_getf eX7_reduceLast_110 fX7_74 (by repeat (first | assumption | exact sl_up_eq | refine sl_up_ne (by first | decide | omega) ?_)) rfl ?_
      refine slv_iastO (x := some (nd_c (rd_nd S))) eX7_reduceLast_113 (by repeat (first | assumption | exact sl_up_eq | refine sl_up_ne (by first | decide | omega) ?_)) (by omega) (by decide) ?_
      refine slv_mem rg_uB ?_
      refine slv_aload_n eX7_reduceLast_114 rfl ?_
      refine slv_getf eX7_reduceLast_115 fX7_12 (by repeat (first | assumption | exact sl_up_eq | refine sl_up_ne (by first | decide | omega) ?_)) rfl ?_
      refine slv_iload_n eX7_reduceLast_118 rfl ?_
      refine slv_aload_n eX7_reduceLast_119 rfl ?_
      refine slv_getf eX7_reduceLast_120 fX7_31 (by repeat (first | assumption | exact sl_up_eq | refine sl_up_ne (by first | decide | omega) ?_)) rfl ?_
      refine slv_getf eX7_reduceLast_123 fX7_177 (by repeat (first | assumption | exact sl_up_eq | refine sl_up_ne (by first | decide | omega) ?_)) rfl ?_
      refine slv_aload_n eX7_reduceLast_126 rfl ?_
      refine slv_getf eX7_reduceLast_127 fX7_31 (by repeat (first | assumption | exact sl_up_eq | refine sl_up_ne (by first | decide | omega) ?_)) rfl ?_
      refine slv_getf eX7_reduceLast_130 fX7_180 (by repeat (first | assumption | exact sl_up_eq | refine sl_up_ne (by first | decide | omega) ?_)) rfl ?_
      refine slv_aload_n eX7_reduceLast_133 rfl ?_
      refine slv_getf eX7_reduceLast_134 fX7_38 (by repeat (first | assumption | exact sl_up_eq | refine sl_up_ne (by first | decide | omega) ?_)) rfl ?_
      refine slv_getf eX7_reduceLast_137 fX7_183 (by repeat (first | assumption | exact sl_up_eq | refine sl_up_ne (by first | decide | omega) ?_)) rfl ?_
      refine slv_aload_n eX7_reduceLast_140 rfl ?_
      refine slv_getf eX7_reduceLast_141 fX7_38 (by repeat (first | assumption | exact sl_up_eq | refine sl_up_ne (by first | decide | omega) ?_)) rfl ?_
      refine slv_getf eX7_reduceLast_144 fX7_186 (by repeat (first | assumption | exact sl_up_eq | refine sl_up_ne (by first | decide | omega) ?_)) rfl ?_
      refine slv_rV (As := [_, _, _, _, _]) eX7_reduceLast_147 lX7_189 rfl rfl (by repeat (first | assumption | exact sl_up_eq | refine sl_up_ne (by first | decide | omega) ?_)) rfl hA (by decide) (Nat.le_of_ble_eq_true rfl) ?_
      refine slv_aload_n eX7_reduceLast_150 rfl ?_
      refine slv_iload_n eX7_reduceLast_151 rfl ?_
      refine slv_iconst (v := nI 1) eX7_reduceLast_152 (by decide) ?_
      refine slv_isubN eX7_reduceLast_153 (by omega) ?_
      refine slv_putf (fs' := [_, _, _, _, _, _, _, _, _, _, _, _, _, _, _, _, _, _]) eX7_reduceLast_154 fX7_84 (by repeat (first | assumption | exact sl_up_eq | refine sl_up_ne (by first | decide | omega) ?_)) (Nat.le_of_ble_eq_true rfl) rfl rfl rfl ?_
      refine slv_mem (rg_u0 (tp' := fr - 1)) ?_
      refine slv_aload_n eX7_reduceLast_157 rfl ?_
      refine slv_dup eX7_reduceLast_158 rfl ?_
      refine slv_getf eX7_reduceLast_159 fX7_68 (by repeat (first | assumption | exact sl_up_eq | refine sl_up_ne (by first | decide | omega) ?_)) rfl ?_
      refine slv_iconst (v := nI 1) eX7_reduceLast_162 (by decide) ?_
      refine slv_iaddN eX7_reduceLast_163 ?_
      refine slv_putf (fs' := [_, _, _, _, _, _, _, _, _, _, _, _, _, _, _, _, _, _]) eX7_reduceLast_164 fX7_68 (by repeat (first | assumption | exact sl_up_eq | refine sl_up_ne (by first | decide | omega) ?_)) (Nat.le_of_ble_eq_true rfl) rfl rfl rfl ?_
      refine slv_mem (rg_u0 (sp' := rd_sp S + 1)) ?_
      refine slv_vret eX7_reduceLast_167 rfl ?_
      rw [rd_red3, if_pos h90] at hQ
      exact hQ
    · refine slv_aload_n eX7_reduceLast_93 rfl ?_
      refine slv_iload_n eX7_reduceLast_94 rfl ?_
      refine slv_rV (As := [_]) eX7_reduceLast_95 lX7_124 rfl rfl (by repeat (first | assumption | exact sl_up_eq | refine sl_up_ne (by first | decide | omega) ?_)) rfl (rx_fh (S := (S.1, S.2.1, S.2.2.1, H, V.2)) h0 hnx V.1) (by decide) (Nat.le_of_ble_eq_true rfl) ?_
      refine slv_vret eX7_reduceLast_98 rfl ?_
      rw [rd_red3, if_neg h90] at hQ
      exact hQ
set_option maxRecDepth 100000 in
theorem c_X7_reduceLast (hR : rr_all) (h : rx_at b gb E bd cn at_ M) (hO : ro_ok b ho gb (rx_o E) M) (hk : rd_ok E S) : sl_R YX7_reduceLast 4 [.ref b] (rg_S b ho gb S M) none (rg_S b ho gb (rd_red E S) M) := by
  have htc := rx_tc60 h
  have hk0 := hk
  obtain ⟨a1, a2, a3, a4, a5, a6, a7, a8, a9, a10, a11, a12, a13, a14⟩ := hk
  have hH := c_X7_handleFrom (S := S) hO a2 a5
  have hnx : rd_nx S ≤ 60 := Nat.le_trans a1 htc
  unfold rd_red
  have hl := rd_hd_le (rx_o E) (rd_stk S) (rd_tp S)
  generalize rd_hd (rx_o E) (rd_stk S) (rd_tp S) = fr at hH hl
  have hF := c_X6_isFull (M := rg_S b ho gb S M) (b := b + 1) rg_no_at (show nd_c (rd_nd S) < 1000 by omega)
  refine sl_T.of_V (lv := [_, _, _, _]) (by decide) rfl (Nat.le_of_ble_eq_true rfl) ?_
  refine slv_aload_n eX7_reduceLast_0 rfl ?_
  refine slv_rV (As := []) eX7_reduceLast_1 lX7_156 rfl rfl (by repeat (first | assumption | exact sl_up_eq | refine sl_up_ne (by first | decide | omega) ?_)) rfl hH (by decide) (Nat.le_of_ble_eq_true rfl) ?_
  refine slv_istore_n (i := 1) (lv' := [_, _, _, _]) eX7_reduceLast_4 rfl (by decide) rfl ?_
  refine slv_iload_n eX7_reduceLast_5 rfl ?_
  refine slv_iconst (v := nI 1) eX7_reduceLast_6 (by decide) ?_
  refine slv_icmp_ltN eX7_reduceLast_7 (by omega) (by omega) (fun h7 => ?_) (fun h7 => ?_)
  · refine slv_aload_n eX7_reduceLast_20 rfl ?_
    refine slv_iconst (v := nI 4) eX7_reduceLast_21 (by decide) ?_
    refine slv_rV (As := [_]) eX7_reduceLast_22 lX7_124 rfl rfl (by repeat (first | assumption | exact sl_up_eq | refine sl_up_ne (by first | decide | omega) ?_)) rfl (rx_fh h hnx 4) (by decide) (Nat.le_of_ble_eq_true rfl) ?_
    refine slv_vret eX7_reduceLast_25 rfl ?_
    refine ⟨rfl, ?_⟩
    first | rw [if_pos (Or.inl h7)] | rw [if_pos (Or.inr (of_decide_eq_true h17))]
  · refine slv_aload_n eX7_reduceLast_10 rfl ?_
    refine slv_getf eX7_reduceLast_11 fX7_12 (by repeat (first | assumption | exact sl_up_eq | refine sl_up_ne (by first | decide | omega) ?_)) rfl ?_
    refine slv_rV (As := []) eX7_reduceLast_14 lX7_159 rfl rfl (by repeat (first | assumption | exact sl_up_eq | refine sl_up_ne (by first | decide | omega) ?_)) rfl hF (by decide) (Nat.le_of_ble_eq_true rfl) ?_
    refine slv_if_eqB eX7_reduceLast_17 (fun h17 => ?_) (fun h17 => ?_)
    · have hc60 : nd_c (rd_nd S) < 60 := Nat.not_le.mp (of_decide_eq_false h17)
      refine c_X7_reduce26 hR h hk0 h7 hl.1 hc60 _ ⟨rfl, ?_⟩
      rw [if_neg (by omega)]
    · refine slv_aload_n eX7_reduceLast_20 rfl ?_
      refine slv_iconst (v := nI 4) eX7_reduceLast_21 (by decide) ?_
      refine slv_rV (As := [_]) eX7_reduceLast_22 lX7_124 rfl rfl (by repeat (first | assumption | exact sl_up_eq | refine sl_up_ne (by first | decide | omega) ?_)) rfl (rx_fh h hnx 4) (by decide) (Nat.le_of_ble_eq_true rfl) ?_
      refine slv_vret eX7_reduceLast_25 rfl ?_
      refine ⟨rfl, ?_⟩
      first | rw [if_pos (Or.inl h7)] | rw [if_pos (Or.inr (of_decide_eq_true h17))]
set_option maxRecDepth 100000 in
theorem c_X7_goOn (hR : rr_all) (h : rx_at b gb E bd cn at_ M) (hO : ro_ok b ho gb (rx_o E) M) (hk : rd_ok E S) : sl_R YX7_goOn 5 [.ref b] (rg_S b ho gb S M) none (rg_S b ho gb (rd_go E S) M) := by
  have htc := rx_tc60 h
  have h0 := h
  obtain ⟨hb, hg2, hg, hok, hf, hd, hc, ht⟩ := h
  have hk0 := hk
  obtain ⟨a1, a2, a3, a4, a5, a6, a7, a8, a9, a10, a11, a12, a13, a14⟩ := hk
  have hg0 := hg
  obtain ⟨g0, g1, g2, g3, g4, g5, g6, g7⟩ := hg
  have hnx : rd_nx S ≤ 60 := Nat.le_trans a1 htc
  have h11 : sg_terms (rx_g E) ≤ 11 := hok.2.2.2.1
  have hx12 := a5 (rd_tp S) (by omega)
  have hN := c_X7_nextTerminal (ho := ho) h0 hnx
  unfold rd_go
  have hy12 : ∀ y, rd_nt E (rd_nx S) = some y → y < 12 := fun y hy => by have := rd_nt_lt hok hy; omega
  generalize rd_nt E (rd_nx S) = ny at hN hy12
  refine sl_T.of_V (lv := [_, _, _, _, _]) (by decide) rfl (Nat.le_of_ble_eq_true rfl) ?_
  cases ny with
  | none =>
    change sl_R YX7_nextTerminal 1 _ _ (some (.int (-1))) _ at hN
    refine slv_aload_n eX7_goOn_0 rfl ?_
    refine slv_getf eX7_goOn_1 fX7_42 (by repeat (first | assumption | exact sl_up_eq | refine sl_up_ne (by first | decide | omega) ?_)) rfl ?_
    refine slv_getf eX7_goOn_4 fX7_87 (by repeat (first | assumption | exact sl_up_eq | refine sl_up_ne (by first | decide | omega) ?_)) rfl ?_
    refine slv_istore_n (i := 1) (lv' := [_, _, _, _, _]) eX7_goOn_7 rfl (by decide) rfl ?_
    refine slv_aload_n eX7_goOn_8 rfl ?_
    refine slv_getf eX7_goOn_9 fX7_18 (by repeat (first | assumption | exact sl_up_eq | refine sl_up_ne (by first | decide | omega) ?_)) rfl ?_
    refine slv_aload_n eX7_goOn_12 rfl ?_
    refine slv_getf eX7_goOn_13 fX7_84 (by repeat (first | assumption | exact sl_up_eq | refine sl_up_ne (by first | decide | omega) ?_)) rfl ?_
    refine slv_ialdN eX7_goOn_16 (by repeat (first | assumption | exact sl_up_eq | refine sl_up_ne (by first | decide | omega) ?_)) (by omega) (by decide) ?_
    refine slv_istore_n (i := 2) (lv' := [_, _, _, _, _]) eX7_goOn_17 rfl (by decide) rfl ?_
    refine slv_aload_n eX7_goOn_18 rfl ?_
    refine slv_rV (As := []) eX7_goOn_19 lX7_121 rfl rfl (by repeat (first | assumption | exact sl_up_eq | refine sl_up_ne (by first | decide | omega) ?_)) rfl hN (by decide) (Nat.le_of_ble_eq_true rfl) ?_
    refine slv_istore_n (i := 3) (lv' := [_, _, _, _, _]) eX7_goOn_22 rfl (by decide) rfl ?_
    refine slv_iload_n eX7_goOn_23 rfl ?_
    refine slv_iconst (v := (-1)) eX7_goOn_24 (by decide) ?_
    refine slv_icmp_ne eX7_goOn_25 (fun h25 => absurd rfl h25) (fun h25 => ?_)
    refine slv_aload_n eX7_goOn_28 rfl ?_
    refine slv_iconst (v := nI 2) eX7_goOn_29 (by decide) ?_
    refine slv_rV (As := [_]) eX7_goOn_30 lX7_124 rfl rfl (by repeat (first | assumption | exact sl_up_eq | refine sl_up_ne (by first | decide | omega) ?_)) rfl (rx_fh h0 hnx 2) (by decide) (Nat.le_of_ble_eq_true rfl) ?_
    refine slv_goto eX7_goOn_33 ?_
    refine slv_vret eX7_goOn_99 rfl ?_
    exact ⟨rfl, rfl⟩
  | some y =>
    have hy := hy12 y rfl
    change sl_R YX7_nextTerminal 1 _ _ (some (.int (nI y))) _ at hN
    have hW := hO S (rd_stk S (rd_tp S)) y hx12 hy
    simp only
    refine slv_aload_n eX7_goOn_0 rfl ?_
    refine slv_getf eX7_goOn_1 fX7_42 (by repeat (first | assumption | exact sl_up_eq | refine sl_up_ne (by first | decide | omega) ?_)) rfl ?_
    refine slv_getf eX7_goOn_4 fX7_87 (by repeat (first | assumption | exact sl_up_eq | refine sl_up_ne (by first | decide | omega) ?_)) rfl ?_
    refine slv_istore_n (i := 1) (lv' := [_, _, _, _, _]) eX7_goOn_7 rfl (by decide) rfl ?_
    refine slv_aload_n eX7_goOn_8 rfl ?_
    refine slv_getf eX7_goOn_9 fX7_18 (by repeat (first | assumption | exact sl_up_eq | refine sl_up_ne (by first | decide | omega) ?_)) rfl ?_
    refine slv_aload_n eX7_goOn_12 rfl ?_
    refine slv_getf eX7_goOn_13 fX7_84 (by repeat (first | assumption | exact sl_up_eq | refine sl_up_ne (by first | decide | omega) ?_)) rfl ?_
    refine slv_ialdN eX7_goOn_16 (by repeat (first | assumption | exact sl_up_eq | refine sl_up_ne (by first | decide | omega) ?_)) (by omega) (by decide) ?_
    refine slv_istore_n (i := 2) (lv' := [_, _, _, _, _]) eX7_goOn_17 rfl (by decide) rfl ?_
    refine slv_aload_n eX7_goOn_18 rfl ?_
    refine slv_rV (As := []) eX7_goOn_19 lX7_121 rfl rfl (by repeat (first | assumption | exact sl_up_eq | refine sl_up_ne (by first | decide | omega) ?_)) rfl hN (by decide) (Nat.le_of_ble_eq_true rfl) ?_
    refine slv_istore_n (i := 3) (lv' := [_, _, _, _, _]) eX7_goOn_22 rfl (by decide) rfl ?_
    refine slv_iload_n eX7_goOn_23 rfl ?_
    refine slv_iconst (v := (-1)) eX7_goOn_24 (by decide) ?_
    refine slv_icmp_ne eX7_goOn_25 (fun h25 => ?_) (fun h25 => absurd h25 (nI_neg1 (by omega)))
    refine slv_iload_n eX7_goOn_36 rfl ?_
    refine slv_iload_n eX7_goOn_37 rfl ?_
    refine slv_icmp_neN eX7_goOn_38 (by omega) (by omega) (fun h38 => ?_) (fun h38 => ?_)
    · refine slv_aload_n eX7_goOn_53 rfl ?_
      refine slv_iload_n eX7_goOn_54 rfl ?_
      refine slv_iload_n eX7_goOn_55 rfl ?_
      refine slv_rV (As := [_, _]) eX7_goOn_56 lX7_131 rfl rfl (by repeat (first | assumption | exact sl_up_eq | refine sl_up_ne (by first | decide | omega) ?_)) rfl hW (by decide) (Nat.le_of_ble_eq_true rfl) ?_
      refine slv_istore (lv' := [_, _, _, _, _]) eX7_goOn_59 (by decide) rfl ?_
      refine slv_iload eX7_goOn_61 rfl ?_
      refine slv_iconst (v := nI 4) eX7_goOn_63 (by decide) ?_
      refine slv_icmp_ne eX7_goOn_64 (fun h64 => ?_) (fun h64 => ?_)
      · refine slv_iload eX7_goOn_74 rfl ?_
        refine slv_iconst (v := nI 1) eX7_goOn_76 (by decide) ?_
        refine slv_icmp_eq eX7_goOn_77 (fun h77 => ?_) (fun h77 => ?_)
        · refine slv_aload_n eX7_goOn_86 rfl ?_
          refine slv_iload_n eX7_goOn_87 rfl ?_
          refine slv_rV (As := [_]) eX7_goOn_88 lX7_138 rfl rfl (by repeat (first | assumption | exact sl_up_eq | refine sl_up_ne (by first | decide | omega) ?_)) rfl (c_X7_stackNext h0 hnx a2 a3 y) (by decide) (Nat.le_of_ble_eq_true rfl) ?_
          refine slv_goto eX7_goOn_91 ?_
          refine slv_vret eX7_goOn_99 rfl ?_
          refine ⟨rfl, ?_⟩
          first | (have z := And.intro h38 h43; rw [if_pos z]) | (rw [if_neg (fun q => h38 q.1), rd_go2, if_pos h64]) | (rw [if_neg (fun q => h43 q.2), rd_go2, if_pos h64]) | (rw [if_neg (fun q => h38 q.1), rd_go2, if_neg h64, if_pos (Or.inl h77)]) | (rw [if_neg (fun q => h43 q.2), rd_go2, if_neg h64, if_pos (Or.inl h77)]) | (rw [if_neg (fun q => h38 q.1), rd_go2, if_neg h64, if_pos (Or.inr h83)]) | (rw [if_neg (fun q => h43 q.2), rd_go2, if_neg h64, if_pos (Or.inr h83)]) | (rw [if_neg (fun q => h38 q.1), rd_go2, if_neg h64, if_neg (fun q => q.elim h77 h83)]) | (rw [if_neg (fun q => h43 q.2), rd_go2, if_neg h64, if_neg (fun q => q.elim h77 h83)])
        · refine slv_iload eX7_goOn_80 rfl ?_
          refine slv_iconst (v := nI 2) eX7_goOn_82 (by decide) ?_
          refine slv_icmp_ne eX7_goOn_83 (fun h83 => ?_) (fun h83 => ?_)
          · refine slv_aload_n eX7_goOn_94 rfl ?_
            refine slv_iconst (v := nI 3) eX7_goOn_95 (by decide) ?_
            refine slv_rV (As := [_]) eX7_goOn_96 lX7_124 rfl rfl (by repeat (first | assumption | exact sl_up_eq | refine sl_up_ne (by first | decide | omega) ?_)) rfl (rx_fh h0 hnx 3) (by decide) (Nat.le_of_ble_eq_true rfl) ?_
            refine slv_vret eX7_goOn_99 rfl ?_
            refine ⟨rfl, ?_⟩
            first | (have z := And.intro h38 h43; rw [if_pos z]) | (rw [if_neg (fun q => h38 q.1), rd_go2, if_pos h64]) | (rw [if_neg (fun q => h43 q.2), rd_go2, if_pos h64]) | (rw [if_neg (fun q => h38 q.1), rd_go2, if_neg h64, if_pos (Or.inl h77)]) | (rw [if_neg (fun q => h43 q.2), rd_go2, if_neg h64, if_pos (Or.inl h77)]) | (rw [if_neg (fun q => h38 q.1), rd_go2, if_neg h64, if_pos (Or.inr h83)]) | (rw [if_neg (fun q => h43 q.2), rd_go2, if_neg h64, if_pos (Or.inr h83)]) | (rw [if_neg (fun q => h38 q.1), rd_go2, if_neg h64, if_neg (fun q => q.elim h77 h83)]) | (rw [if_neg (fun q => h43 q.2), rd_go2, if_neg h64, if_neg (fun q => q.elim h77 h83)])
          · refine slv_aload_n eX7_goOn_86 rfl ?_
            refine slv_iload_n eX7_goOn_87 rfl ?_
            refine slv_rV (As := [_]) eX7_goOn_88 lX7_138 rfl rfl (by repeat (first | assumption | exact sl_up_eq | refine sl_up_ne (by first | decide | omega) ?_)) rfl (c_X7_stackNext h0 hnx a2 a3 y) (by decide) (Nat.le_of_ble_eq_true rfl) ?_
            refine slv_goto eX7_goOn_91 ?_
            refine slv_vret eX7_goOn_99 rfl ?_
            refine ⟨rfl, ?_⟩
            first | (have z := And.intro h38 h43; rw [if_pos z]) | (rw [if_neg (fun q => h38 q.1), rd_go2, if_pos h64]) | (rw [if_neg (fun q => h43 q.2), rd_go2, if_pos h64]) | (rw [if_neg (fun q => h38 q.1), rd_go2, if_neg h64, if_pos (Or.inl h77)]) | (rw [if_neg (fun q => h43 q.2), rd_go2, if_neg h64, if_pos (Or.inl h77)]) | (rw [if_neg (fun q => h38 q.1), rd_go2, if_neg h64, if_pos (Or.inr h83)]) | (rw [if_neg (fun q => h43 q.2), rd_go2, if_neg h64, if_pos (Or.inr h83)]) | (rw [if_neg (fun q => h38 q.1), rd_go2, if_neg h64, if_neg (fun q => q.elim h77 h83)]) | (rw [if_neg (fun q => h43 q.2), rd_go2, if_neg h64, if_neg (fun q => q.elim h77 h83)])
      · refine slv_aload_n eX7_goOn_67 rfl ?_
        refine slv_rV (As := []) eX7_goOn_68 lX7_135 rfl rfl (by repeat (first | assumption | exact sl_up_eq | refine sl_up_ne (by first | decide | omega) ?_)) rfl (c_X7_reduceLast hR h0 hO hk0) (by decide) (Nat.le_of_ble_eq_true rfl) ?_
        refine slv_goto eX7_goOn_71 ?_
        refine slv_vret eX7_goOn_99 rfl ?_
        refine ⟨rfl, ?_⟩
        first | (have z := And.intro h38 h43; rw [if_pos z]) | (rw [if_neg (fun q => h38 q.1), rd_go2, if_pos h64]) | (rw [if_neg (fun q => h43 q.2), rd_go2, if_pos h64]) | (rw [if_neg (fun q => h38 q.1), rd_go2, if_neg h64, if_pos (Or.inl h77)]) | (rw [if_neg (fun q => h43 q.2), rd_go2, if_neg h64, if_pos (Or.inl h77)]) | (rw [if_neg (fun q => h38 q.1), rd_go2, if_neg h64, if_pos (Or.inr h83)]) | (rw [if_neg (fun q => h43 q.2), rd_go2, if_neg h64, if_pos (Or.inr h83)]) | (rw [if_neg (fun q => h38 q.1), rd_go2, if_neg h64, if_neg (fun q => q.elim h77 h83)]) | (rw [if_neg (fun q => h43 q.2), rd_go2, if_neg h64, if_neg (fun q => q.elim h77 h83)])
    · refine slv_iload_n eX7_goOn_41 rfl ?_
      refine slv_iload_n eX7_goOn_42 rfl ?_
      refine slv_icmp_neN eX7_goOn_43 (by omega) (by omega) (fun h43 => ?_) (fun h43 => ?_)
      · refine slv_aload_n eX7_goOn_53 rfl ?_
        refine slv_iload_n eX7_goOn_54 rfl ?_
        refine slv_iload_n eX7_goOn_55 rfl ?_
        refine slv_rV (As := [_, _]) eX7_goOn_56 lX7_131 rfl rfl (by repeat (first | assumption | exact sl_up_eq | refine sl_up_ne (by first | decide | omega) ?_)) rfl hW (by decide) (Nat.le_of_ble_eq_true rfl) ?_
        refine slv_istore (lv' := [_, _, _, _, _]) eX7_goOn_59 (by decide) rfl ?_
        refine slv_iload eX7_goOn_61 rfl ?_
        refine slv_iconst (v := nI 4) eX7_goOn_63 (by decide) ?_
        refine slv_icmp_ne eX7_goOn_64 (fun h64 => ?_) (fun h64 => ?_)
        · refine slv_iload eX7_goOn_74 rfl ?_
          refine slv_iconst (v := nI 1) eX7_goOn_76 (by decide) ?_
          refine slv_icmp_eq eX7_goOn_77 (fun h77 => ?_) (fun h77 => ?_)
          · refine slv_aload_n eX7_goOn_86 rfl ?_
            refine slv_iload_n eX7_goOn_87 rfl ?_
            refine slv_rV (As := [_]) eX7_goOn_88 lX7_138 rfl rfl (by repeat (first | assumption | exact sl_up_eq | refine sl_up_ne (by first | decide | omega) ?_)) rfl (c_X7_stackNext h0 hnx a2 a3 y) (by decide) (Nat.le_of_ble_eq_true rfl) ?_
            refine slv_goto eX7_goOn_91 ?_
            refine slv_vret eX7_goOn_99 rfl ?_
            refine ⟨rfl, ?_⟩
            first | (have z := And.intro h38 h43; rw [if_pos z]) | (rw [if_neg (fun q => h38 q.1), rd_go2, if_pos h64]) | (rw [if_neg (fun q => h43 q.2), rd_go2, if_pos h64]) | (rw [if_neg (fun q => h38 q.1), rd_go2, if_neg h64, if_pos (Or.inl h77)]) | (rw [if_neg (fun q => h43 q.2), rd_go2, if_neg h64, if_pos (Or.inl h77)]) | (rw [if_neg (fun q => h38 q.1), rd_go2, if_neg h64, if_pos (Or.inr h83)]) | (rw [if_neg (fun q => h43 q.2), rd_go2, if_neg h64, if_pos (Or.inr h83)]) | (rw [if_neg (fun q => h38 q.1), rd_go2, if_neg h64, if_neg (fun q => q.elim h77 h83)]) | (rw [if_neg (fun q => h43 q.2), rd_go2, if_neg h64, if_neg (fun q => q.elim h77 h83)])
          · refine slv_iload eX7_goOn_80 rfl ?_
            refine slv_iconst (v := nI 2) eX7_goOn_82 (by decide) ?_
            refine slv_icmp_ne eX7_goOn_83 (fun h83 => ?_) (fun h83 => ?_)
            · refine slv_aload_n eX7_goOn_94 rfl ?_
              refine slv_iconst (v := nI 3) eX7_goOn_95 (by decide) ?_
              refine slv_rV (As := [_]) eX7_goOn_96 lX7_124 rfl rfl (by repeat (first | assumption | exact sl_up_eq | refine sl_up_ne (by first | decide | omega) ?_)) rfl (rx_fh h0 hnx 3) (by decide) (Nat.le_of_ble_eq_true rfl) ?_
              refine slv_vret eX7_goOn_99 rfl ?_
              refine ⟨rfl, ?_⟩
              first | (have z := And.intro h38 h43; rw [if_pos z]) | (rw [if_neg (fun q => h38 q.1), rd_go2, if_pos h64]) | (rw [if_neg (fun q => h43 q.2), rd_go2, if_pos h64]) | (rw [if_neg (fun q => h38 q.1), rd_go2, if_neg h64, if_pos (Or.inl h77)]) | (rw [if_neg (fun q => h43 q.2), rd_go2, if_neg h64, if_pos (Or.inl h77)]) | (rw [if_neg (fun q => h38 q.1), rd_go2, if_neg h64, if_pos (Or.inr h83)]) | (rw [if_neg (fun q => h43 q.2), rd_go2, if_neg h64, if_pos (Or.inr h83)]) | (rw [if_neg (fun q => h38 q.1), rd_go2, if_neg h64, if_neg (fun q => q.elim h77 h83)]) | (rw [if_neg (fun q => h43 q.2), rd_go2, if_neg h64, if_neg (fun q => q.elim h77 h83)])
            · refine slv_aload_n eX7_goOn_86 rfl ?_
              refine slv_iload_n eX7_goOn_87 rfl ?_
              refine slv_rV (As := [_]) eX7_goOn_88 lX7_138 rfl rfl (by repeat (first | assumption | exact sl_up_eq | refine sl_up_ne (by first | decide | omega) ?_)) rfl (c_X7_stackNext h0 hnx a2 a3 y) (by decide) (Nat.le_of_ble_eq_true rfl) ?_
              refine slv_goto eX7_goOn_91 ?_
              refine slv_vret eX7_goOn_99 rfl ?_
              refine ⟨rfl, ?_⟩
              first | (have z := And.intro h38 h43; rw [if_pos z]) | (rw [if_neg (fun q => h38 q.1), rd_go2, if_pos h64]) | (rw [if_neg (fun q => h43 q.2), rd_go2, if_pos h64]) | (rw [if_neg (fun q => h38 q.1), rd_go2, if_neg h64, if_pos (Or.inl h77)]) | (rw [if_neg (fun q => h43 q.2), rd_go2, if_neg h64, if_pos (Or.inl h77)]) | (rw [if_neg (fun q => h38 q.1), rd_go2, if_neg h64, if_pos (Or.inr h83)]) | (rw [if_neg (fun q => h43 q.2), rd_go2, if_neg h64, if_pos (Or.inr h83)]) | (rw [if_neg (fun q => h38 q.1), rd_go2, if_neg h64, if_neg (fun q => q.elim h77 h83)]) | (rw [if_neg (fun q => h43 q.2), rd_go2, if_neg h64, if_neg (fun q => q.elim h77 h83)])
        · refine slv_aload_n eX7_goOn_67 rfl ?_
          refine slv_rV (As := []) eX7_goOn_68 lX7_135 rfl rfl (by repeat (first | assumption | exact sl_up_eq | refine sl_up_ne (by first | decide | omega) ?_)) rfl (c_X7_reduceLast hR h0 hO hk0) (by decide) (Nat.le_of_ble_eq_true rfl) ?_
          refine slv_goto eX7_goOn_71 ?_
          refine slv_vret eX7_goOn_99 rfl ?_
          refine ⟨rfl, ?_⟩
          first | (have z := And.intro h38 h43; rw [if_pos z]) | (rw [if_neg (fun q => h38 q.1), rd_go2, if_pos h64]) | (rw [if_neg (fun q => h43 q.2), rd_go2, if_pos h64]) | (rw [if_neg (fun q => h38 q.1), rd_go2, if_neg h64, if_pos (Or.inl h77)]) | (rw [if_neg (fun q => h43 q.2), rd_go2, if_neg h64, if_pos (Or.inl h77)]) | (rw [if_neg (fun q => h38 q.1), rd_go2, if_neg h64, if_pos (Or.inr h83)]) | (rw [if_neg (fun q => h43 q.2), rd_go2, if_neg h64, if_pos (Or.inr h83)]) | (rw [if_neg (fun q => h38 q.1), rd_go2, if_neg h64, if_neg (fun q => q.elim h77 h83)]) | (rw [if_neg (fun q => h43 q.2), rd_go2, if_neg h64, if_neg (fun q => q.elim h77 h83)])
      · refine slv_aload_n eX7_goOn_46 rfl ?_
        refine slv_rV (As := []) eX7_goOn_47 lX7_128 rfl rfl (by repeat (first | assumption | exact sl_up_eq | refine sl_up_ne (by first | decide | omega) ?_)) rfl (c_X7_finish h0 hnx (fun k hh => a7 0 k (by decide) hh)) (by decide) (Nat.le_of_ble_eq_true rfl) ?_
        refine slv_goto eX7_goOn_50 ?_
        refine slv_vret eX7_goOn_99 rfl ?_
        refine ⟨rfl, ?_⟩
        first | (have z := And.intro h38 h43; rw [if_pos z]) | (rw [if_neg (fun q => h38 q.1), rd_go2, if_pos h64]) | (rw [if_neg (fun q => h43 q.2), rd_go2, if_pos h64]) | (rw [if_neg (fun q => h38 q.1), rd_go2, if_neg h64, if_pos (Or.inl h77)]) | (rw [if_neg (fun q => h43 q.2), rd_go2, if_neg h64, if_pos (Or.inl h77)]) | (rw [if_neg (fun q => h38 q.1), rd_go2, if_neg h64, if_pos (Or.inr h83)]) | (rw [if_neg (fun q => h43 q.2), rd_go2, if_neg h64, if_pos (Or.inr h83)]) | (rw [if_neg (fun q => h38 q.1), rd_go2, if_neg h64, if_neg (fun q => q.elim h77 h83)]) | (rw [if_neg (fun q => h43 q.2), rd_go2, if_neg h64, if_neg (fun q => q.elim h77 h83)])
/-- a reading, begun anew -/
def rd_new (E : rx_T) (bd : Option Nat) (S : rd_T) : rd_T := match bd with
  | none => ((0, -1, 0, 0, 0, false, 0), (sl_u (rd_stk S) 0 (sg_terms (rx_g E)), rd_tok S, sl_u (rd_beh S) 0 none), (0, S.2.2.1.2), S.2.2.2)
  | some p => rd_fl 1 (nI p) ((0, -1, 0, 0, 0, false, 0), (sl_u (rd_stk S) 0 (sg_terms (rx_g E)), rd_tok S, sl_u (rd_beh S) 0 none), (0, S.2.2.1.2), S.2.2.2)
/-- a reading at rest: what the next one finds -/
def rd_rest (S : rd_T) : Prop := (∀ i, i < 16 → rd_stk S i < 12) ∧ (∀ i, i < 16 → rd_tok S i < 60) ∧ (∀ i k, i < 16 → rd_beh S i = some k → k < 60) ∧ (∀ k, k < 60 → nd_de (rd_nd S) k ≤ k + 1) ∧ (∀ i, i < 31 → (rd_hn S).2.2.2 i < 1000) ∧ (∀ k j, k < 60 → nd_fi (rd_nd S) k = some j → j < 60) ∧ (∀ k j, k < 60 → nd_se (rd_nd S) k = some j → j < 60) ∧ (∀ k, k < 60 → nd_si (rd_nd S) k ≤ k + 1)
theorem rd_ok_rest (h : rd_ok E S) : rd_rest S := by
  obtain ⟨a1, a2, a3, a4, a5, a6, a7, a8, a9, a10, a11, a12, a13, a14⟩ := h
  exact ⟨a5, a6, a7, a9, a10, fun k j h e => (a11 k j h e).1, fun k j h e => (a12 k j h e).1, a13⟩
theorem rd_ok_new (h : rd_rest S) (hok : sg_ok (rx_g E)) (bd : Option Nat) : rd_ok E (rd_new E bd S) := by
  obtain ⟨a5, a6, a7, a9, a10, a11, a12, a13⟩ := h
  have h11 : sg_terms (rx_g E) ≤ 11 := hok.2.2.2.1
  have key : rd_ok E ((0, -1, 0, 0, 0, false, 0), (sl_u (rd_stk S) 0 (sg_terms (rx_g E)), rd_tok S, sl_u (rd_beh S) 0 none), (0, S.2.2.1.2), S.2.2.2) := by
    refine ⟨Nat.zero_le _, Nat.zero_le _, Nat.zero_le _, Nat.zero_le _, ?_, a6, ?_, ?_, a9, a10, (fun k j h e => ⟨a11 k j h e, fun q => absurd q (Nat.not_lt_zero k)⟩), (fun k j h e => ⟨a12 k j h e, fun q => absurd q (Nat.not_lt_zero k)⟩), a13, ?_⟩
    · intro i hi
      show sl_u _ _ _ i < 12
      unfold sl_u; split
      · omega
      · exact a5 i hi
    · intro i k hi hk
      have hk : sl_u _ _ _ i = some k := hk
      unfold sl_u at hk; split at hk
      · cases hk
      · exact a7 i k hi hk
    · intro i k hi hk
      have hi : i ≤ 0 := hi
      have hk : sl_u _ _ _ i = some k := hk
      unfold sl_u at hk; split at hk
      · cases hk
      · omega
    · exact Nat.le_refl 0
  cases bd with
  | none => exact key
  | some p => exact key
theorem rd_ok_run (hok : sg_ok (rx_g E)) (ht : rx_tc E ≤ 60) (hO : ∀ x, x < 12 → rx_o E x (sg_terms (rx_g E)) ≠ nI 1 ∧ rx_o E x (sg_terms (rx_g E)) ≠ nI 2) : ∀ (n : Nat) (S : rd_T), rd_ok E S → rd_ok E (rd_run E n S) := by
  intro n
  induction n with
  | zero => intro S h; exact h
  | succ n ih =>
    intro S h
    rw [rd_run]
    cases rd_en S with
    | true => exact h
    | false => exact ih _ (rd_ok_go hok ht hO h)
set_option maxRecDepth 100000 in
theorem c_X7_readThrough (hR : rr_all) (h : rx_at b gb E bd cn at_ M) (hO : ro_ok b ho gb (rx_o E) M) (hE : ∀ x, x < 12 → rx_o E x (sg_terms (rx_g E)) ≠ nI 1 ∧ rx_o E x (sg_terms (rx_g E)) ≠ nI 2) (hk : rd_rest S) {ho0 : Nat} {gv rv lv fv : Value} :
    sl_R YX7_readThrough 6 [.ref b, .ref gb, .ref 19, .ref 23, .ref 33, .int (nI ho)] (rg_set b ho0 (rd_fa S) (rd_pl S) (rd_sp S) (rd_mo S) gv rv lv fv (rd_nx S) (rd_en S) (rd_tp S) (rd_stk S) (rd_tok S) (rd_beh S) (nd_c (rd_nd S)) (nd_ru (rd_nd S)) (nd_fi (rd_nd S)) (nd_se (rd_nd S)) (nd_de (rd_nd S)) (nd_si (rd_nd S)) (nd_rl (rd_nd S)) (nd_bi (rd_nd S)) (rd_hn S).1 (rd_hn S).2.1 (rd_hn S).2.2.1 (rd_hn S).2.2.2 (rd_rc S).1 (rd_rc S).2 M) none (rg_S b ho gb (rd_run E 121 (rd_new E bd S)) M) := by
  have htc := rx_tc60 h
  have h0 := h
  have hn := rd_ok_new (E := E) hk h.2.2.2.1 bd
  obtain ⟨hb, hg2, hg, hok, hf, hd, hc, ht⟩ := h
  have hg0 := hg
  obtain ⟨g0, g1, g2, g3, g4, g5, g6, g7⟩ := hg
  obtain ⟨f0, f1, f2, f3, f4⟩ := hf
  have h11 : sg_terms (rx_g E) ≤ 11 := hok.2.2.2.1
  have loop : ∀ (n i : Nat) (S : rd_T), i + n = 121 → rd_ok E S → ∀ Q : Option Value → sl_M → Prop, Q none (rg_S b ho gb (rd_run E n S) M) → sl_V YX7_readThrough none 6 0 0 Q 110 [some (.ref b), some (.ref gb), some (.ref 19), some (.ref 23), some (.ref 33), some (.int (nI ho)), some (.int (nI i))] [] (rg_S b ho gb S M) := by
    intro n
    induction n with
    | zero =>
      intro i S hi hS Q hQ
      refine slv_iload eX7_readThrough_110 rfl ?_
      refine slv_bipush (v := nI 121) eX7_readThrough_112 (by decide) ?_
      refine slv_icmp_geN eX7_readThrough_114 (by omega) (by omega) (fun h114 => ?_) (fun h114 => absurd h114 (by omega))
      refine slv_vret eX7_readThrough_134 rfl ?_
      exact hQ
    | succ n ih =>
      intro i S hi hS Q hQ
      refine slv_iload eX7_readThrough_110 rfl ?_
      refine slv_bipush (v := nI 121) eX7_readThrough_112 (by decide) ?_
      refine slv_icmp_geN eX7_readThrough_114 (by omega) (by omega) (fun h114 => absurd h114 (by omega)) (fun h114 => ?_)
      refine slv_aload_n eX7_readThrough_117 rfl ?_
      refine slv_getf eX7_readThrough_118 fX7_80 (by repeat (first | assumption | exact sl_up_eq | refine sl_up_ne (by first | decide | omega) ?_)) rfl ?_
      refine slv_if_neB eX7_readThrough_121 (fun h121 => ?_) (fun h121 => ?_)
      · refine slv_vret eX7_readThrough_134 rfl ?_
        rw [rd_run, h121] at hQ
        exact hQ
      · refine slv_aload_n eX7_readThrough_124 rfl ?_
        refine slv_rV (As := []) eX7_readThrough_125 lX7_101 rfl rfl (by repeat (first | assumption | exact sl_up_eq | refine sl_up_ne (by first | decide | omega) ?_)) rfl (c_X7_goOn hR h0 hO hS) (by decide) (Nat.le_of_ble_eq_true rfl) ?_
        refine slv_iincN (lv' := [_, _, _, _, _, _, _]) eX7_readThrough_128 rfl (by decide) rfl ?_
        refine slv_goto eX7_readThrough_131 ?_
        rw [rd_run, h121] at hQ
        exact ih (i + 1) _ (by omega) (rd_ok_go hok htc hE hS) Q hQ
  refine sl_T.of_V (lv := [_, _, _, _, _, _, _]) (by decide) rfl (Nat.le_of_ble_eq_true rfl) ?_
  refine slv_aload_n eX7_readThrough_0 rfl ?_
  refine slv_aload_n eX7_readThrough_1 rfl ?_
  refine slv_putf (fs' := [_, _, _, _, _, _, _, _, _, _, _, _, _, _, _, _, _, _]) eX7_readThrough_2 fX7_42 (by repeat (first | assumption | exact sl_up_eq | refine sl_up_ne (by first | decide | omega) ?_)) (Nat.le_of_ble_eq_true rfl) rfl rfl rfl ?_
  refine slv_mem (rg_u0 (gv' := .ref gb)) ?_
  refine slv_aload_n eX7_readThrough_5 rfl ?_
  refine slv_aload_n eX7_readThrough_6 rfl ?_
  refine slv_putf (fs' := [_, _, _, _, _, _, _, _, _, _, _, _, _, _, _, _, _, _]) eX7_readThrough_7 fX7_46 (by repeat (first | assumption | exact sl_up_eq | refine sl_up_ne (by first | decide | omega) ?_)) (Nat.le_of_ble_eq_true rfl) rfl rfl rfl ?_
  refine slv_mem (rg_u0 (rv' := .ref 19)) ?_
  refine slv_aload_n eX7_readThrough_10 rfl ?_
  refine slv_aload_n eX7_readThrough_11 rfl ?_
  refine slv_putf (fs' := [_, _, _, _, _, _, _, _, _, _, _, _, _, _, _, _, _, _]) eX7_readThrough_12 fX7_50 (by repeat (first | assumption | exact sl_up_eq | refine sl_up_ne (by first | decide | omega) ?_)) (Nat.le_of_ble_eq_true rfl) rfl rfl rfl ?_
  refine slv_mem (rg_u0 (lv' := .ref 23)) ?_
  refine slv_aload_n eX7_readThrough_15 rfl ?_
  refine slv_aload eX7_readThrough_16 rfl ?_
  refine slv_putf (fs' := [_, _, _, _, _, _, _, _, _, _, _, _, _, _, _, _, _, _]) eX7_readThrough_18 fX7_54 (by repeat (first | assumption | exact sl_up_eq | refine sl_up_ne (by first | decide | omega) ?_)) (Nat.le_of_ble_eq_true rfl) rfl rfl rfl ?_
  refine slv_mem (rg_u0 (fv' := .ref 33)) ?_
  refine slv_aload_n eX7_readThrough_21 rfl ?_
  refine slv_iload eX7_readThrough_22 rfl ?_
  refine slv_putf (fs' := [_, _, _, _, _, _, _, _, _, _, _, _, _, _, _, _, _, _]) eX7_readThrough_24 fX7_58 (by repeat (first | assumption | exact sl_up_eq | refine sl_up_ne (by first | decide | omega) ?_)) (Nat.le_of_ble_eq_true rfl) rfl rfl rfl ?_
  refine slv_mem (rg_u0 (ho' := ho)) ?_
  refine slv_aload_n eX7_readThrough_27 rfl ?_
  refine slv_iconst (v := nI 0) eX7_readThrough_28 (by decide) ?_
  refine slv_putf (fs' := [_, _, _, _, _, _, _, _, _, _, _, _, _, _, _, _, _, _]) eX7_readThrough_29 fX7_62 (by repeat (first | assumption | exact sl_up_eq | refine sl_up_ne (by first | decide | omega) ?_)) (Nat.le_of_ble_eq_true rfl) rfl rfl rfl ?_
  refine slv_mem (rg_u0 (fa' := 0)) ?_
  refine slv_aload_n eX7_readThrough_32 rfl ?_
  refine slv_iconst (v := (-1)) eX7_readThrough_33 (by decide) ?_
  refine slv_putf (fs' := [_, _, _, _, _, _, _, _, _, _, _, _, _, _, _, _, _, _]) eX7_readThrough_34 fX7_65 (by repeat (first | assumption | exact sl_up_eq | refine sl_up_ne (by first | decide | omega) ?_)) (Nat.le_of_ble_eq_true rfl) rfl rfl rfl ?_
  refine slv_mem (rg_u0 (pl' := -1)) ?_
  refine slv_aload_n eX7_readThrough_37 rfl ?_
  refine slv_iconst (v := nI 0) eX7_readThrough_38 (by decide) ?_
  refine slv_putf (fs' := [_, _, _, _, _, _, _, _, _, _, _, _, _, _, _, _, _, _]) eX7_readThrough_39 fX7_68 (by repeat (first | assumption | exact sl_up_eq | refine sl_up_ne (by first | decide | omega) ?_)) (Nat.le_of_ble_eq_true rfl) rfl rfl rfl ?_
  refine slv_mem (rg_u0 (sp' := 0)) ?_
  refine slv_aload_n eX7_readThrough_42 rfl ?_
  refine slv_iconst (v := nI 0) eX7_readThrough_43 (by decide) ?_
  refine slv_putf (fs' := [_, _, _, _, _, _, _, _, _, _, _, _, _, _, _, _, _, _]) eX7_readThrough_44 fX7_71 (by repeat (first | assumption | exact sl_up_eq | refine sl_up_ne (by first | decide | omega) ?_)) (Nat.le_of_ble_eq_true rfl) rfl rfl rfl ?_
  refine slv_mem (rg_u0 (mo' := 0)) ?_
  refine slv_aload_n eX7_readThrough_47 rfl ?_
  refine slv_getf eX7_readThrough_48 fX7_12 (by repeat (first | assumption | exact sl_up_eq | refine sl_up_ne (by first | decide | omega) ?_)) rfl ?_
  refine slv_iconst (v := nI 0) eX7_readThrough_51 (by decide) ?_
  refine slv_putf (fs' := [_, _, _, _, _, _, _, _]) eX7_readThrough_52 fX7_74 (by repeat (first | assumption | exact sl_up_eq | refine sl_up_ne (by first | decide | omega) ?_)) (Nat.le_of_ble_eq_true rfl) rfl rfl rfl ?_
  refine slv_mem (rg_uN (c' := 0)) ?_
  refine slv_aload_n eX7_readThrough_55 rfl ?_
  refine slv_iconst (v := nI 0) eX7_readThrough_56 (by decide) ?_
  refine slv_putf (fs' := [_, _, _, _, _, _, _, _, _, _, _, _, _, _, _, _, _, _]) eX7_readThrough_57 fX7_77 (by repeat (first | assumption | exact sl_up_eq | refine sl_up_ne (by first | decide | omega) ?_)) (Nat.le_of_ble_eq_true rfl) rfl rfl rfl ?_
  refine slv_mem (rg_u0 (nx' := 0)) ?_
  refine slv_aload_n eX7_readThrough_60 rfl ?_
  refine slv_iconst (v := nI 0) eX7_readThrough_61 (by decide) ?_
  refine slv_putf (fs' := [_, _, _, _, _, _, _, _, _, _, _, _, _, _, _, _, _, _]) eX7_readThrough_62 fX7_80 (by repeat (first | assumption | exact sl_up_eq | refine sl_up_ne (by first | decide | omega) ?_)) (Nat.le_of_ble_eq_true rfl) (by first | rfl | assumption) (by first | rfl | assumption) rfl ?_
  refine slv_mem (rg_u0 (en' := false)) ?_
  refine slv_aload_n eX7_readThrough_65 rfl ?_
  refine slv_iconst (v := nI 0) eX7_readThrough_66 (by decide) ?_
  refine slv_putf (fs' := [_, _, _, _, _, _, _, _, _, _, _, _, _, _, _, _, _, _]) eX7_readThrough_67 fX7_84 (by repeat (first | assumption | exact sl_up_eq | refine sl_up_ne (by first | decide | omega) ?_)) (Nat.le_of_ble_eq_true rfl) rfl rfl rfl ?_
  refine slv_mem (rg_u0 (tp' := 0)) ?_
  refine slv_aload_n eX7_readThrough_70 rfl ?_
  refine slv_getf eX7_readThrough_71 fX7_18 (by repeat (first | assumption | exact sl_up_eq | refine sl_up_ne (by first | decide | omega) ?_)) rfl ?_
  refine slv_iconst (v := nI 0) eX7_readThrough_74 (by decide) ?_
  refine slv_aload_n eX7_readThrough_75 rfl ?_
  refine slv_getf eX7_readThrough_76 fX7_87 (by repeat (first | assumption | exact sl_up_eq | refine sl_up_ne (by first | decide | omega) ?_)) rfl ?_
  refine slv_iastN eX7_readThrough_79 (by repeat (first | assumption | exact sl_up_eq | refine sl_up_ne (by first | decide | omega) ?_)) (by omega) (by decide) ?_
  refine slv_mem rg_uS ?_
  refine slv_aload_n eX7_readThrough_80 rfl ?_
  refine slv_getf eX7_readThrough_81 fX7_25 (by repeat (first | assumption | exact sl_up_eq | refine sl_up_ne (by first | decide | omega) ?_)) rfl ?_
  refine slv_iconst (v := nI 0) eX7_readThrough_84 (by decide) ?_
  refine slv_bipush (v := (-2)) eX7_readThrough_85 (by decide) ?_
  refine slv_iastO (x := none) eX7_readThrough_87 (by repeat (first | assumption | exact sl_up_eq | refine sl_up_ne (by first | decide | omega) ?_)) (by omega) (by decide) ?_
  refine slv_mem rg_uB ?_
  skip
  cases bd with
  | none =>
    change M 33 = .inr (1, [.int (nI (rx_ln E)), .int (-1), .ref 34, .ref 35, .ref 36, .ref 37, .ref 1, .int (nI cn), .int (nI at_)]) at f0
    refine slv_aload eX7_readThrough_88 rfl ?_
    refine slv_getf eX7_readThrough_90 fX7_92 (by repeat (first | assumption | exact sl_up_eq | refine sl_up_ne (by first | decide | omega) ?_)) rfl ?_
    refine slv_iconst (v := (-1)) eX7_readThrough_93 (by decide) ?_
    refine slv_icmp_eq eX7_readThrough_94 (fun h94 => ?_) (fun h94 => absurd rfl h94)
    refine slv_iconst (v := nI 0) eX7_readThrough_107 (by decide) ?_
    refine slv_istore (lv' := [_, _, _, _, _, _, _]) eX7_readThrough_108 (by decide) rfl ?_
    exact loop 121 0 (rd_new E none S) (by omega) hn _ ⟨rfl, rfl⟩
  | some p =>
    have hp := hd p rfl
    change M 33 = .inr (1, [.int (nI (rx_ln E)), .int (nI p), .ref 34, .ref 35, .ref 36, .ref 37, .ref 1, .int (nI cn), .int (nI at_)]) at f0
    have hFA := c_X7_failAt (b := b) (ho := ho) (gb := gb) (M := M) (S := ((0, -1, 0, 0, 0, false, 0), (sl_u (rd_stk S) 0 (sg_terms (rx_g E)), rd_tok S, sl_u (rd_beh S) 0 none), (0, S.2.2.1.2), S.2.2.2)) 1 (nI p)
    refine slv_aload eX7_readThrough_88 rfl ?_
    refine slv_getf eX7_readThrough_90 fX7_92 (by repeat (first | assumption | exact sl_up_eq | refine sl_up_ne (by first | decide | omega) ?_)) rfl ?_
    refine slv_iconst (v := (-1)) eX7_readThrough_93 (by decide) ?_
    refine slv_icmp_eq eX7_readThrough_94 (fun h94 => absurd h94 (nI_neg1 hp)) (fun h94 => ?_)
    refine slv_aload_n eX7_readThrough_97 rfl ?_
    refine slv_iconst (v := nI 1) eX7_readThrough_98 (by decide) ?_
    refine slv_aload eX7_readThrough_99 rfl ?_
    refine slv_getf eX7_readThrough_101 fX7_92 (by repeat (first | assumption | exact sl_up_eq | refine sl_up_ne (by first | decide | omega) ?_)) rfl ?_
    refine slv_rV (As := [_, _]) eX7_readThrough_104 lX7_97 rfl rfl (by repeat (first | assumption | exact sl_up_eq | refine sl_up_ne (by first | decide | omega) ?_)) rfl hFA (by decide) (Nat.le_of_ble_eq_true rfl) ?_
    refine slv_iconst (v := nI 0) eX7_readThrough_107 (by decide) ?_
    refine slv_istore (lv' := [_, _, _, _, _, _, _]) eX7_readThrough_108 (by decide) rfl ?_
    exact loop 121 0 (rd_new E (some p) S) (by omega) hn _ ⟨rfl, rfl⟩
end RDJ

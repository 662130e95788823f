/-! sizes of nodes; what the reference counts and finds under one -/
def ndZ (D : nd_T) : Prop := ∀ k, k < nd_c D → nd_si D k = 1 + no_g (nd_si D) (nd_fi D k) + no_g (nd_si D) (nd_se D k)
def ndC (D : nd_T) : Prop := ∀ k, k < nd_c D → nd_rl D k = true → fl_b (nd_bi D k).toUInt32 = nd_bi D k
theorem no_g_u {f : Nat → Nat} {o : Option Nat} {c x : Nat} (h : ∀ j, o = some j → j < c) : no_g (sl_u f c x) o = no_g f o := by
  cases o with
  | none => rfl
  | some j =>
    show sl_u f c x j = f j
    have := h j rfl
    rw [sl_u_ne (by omega)]
theorem ndZ_add {D : nd_T} {r : Nat} {f s : Option Nat} {q : Bool × Int32} (h : ndZ D) (hf : ∀ j, f = some j → j < nd_c D) (hs : ∀ j, s = some j → j < nd_c D) (h1 : ∀ k j, k < nd_c D → nd_fi D k = some j → j < k) (h2 : ∀ k j, k < nd_c D → nd_se D k = some j → j < k) : ndZ (nd_add D r f s q) := by
  intro k hk
  have hk' : k < nd_c D + 1 := hk
  show sl_u (nd_si D) (nd_c D) (1 + no_g (nd_si D) f + no_g (nd_si D) s) k = 1 + no_g (sl_u (nd_si D) (nd_c D) (1 + no_g (nd_si D) f + no_g (nd_si D) s)) (sl_u (nd_fi D) (nd_c D) f k) + no_g (sl_u (nd_si D) (nd_c D) (1 + no_g (nd_si D) f + no_g (nd_si D) s)) (sl_u (nd_se D) (nd_c D) s k)
  by_cases e : k = nd_c D
  · rw [e, sl_u_eq, sl_u_eq, sl_u_eq, no_g_u hf, no_g_u hs]
  · have hk2 : k < nd_c D := by omega
    rw [sl_u_ne e, sl_u_ne e, sl_u_ne e, no_g_u (fun j hj => by have := h1 k j hk2 hj; omega), no_g_u (fun j hj => by have := h2 k j hk2 hj; omega)]
    exact h k hk2
section NDR
variable {E : rx_T} {S : rd_T}
theorem rd_nd_red2 (hk : rd_ok E S) {fr : Nat} (h1 : 1 ≤ fr) (h2 : fr ≤ rd_tp S) : (rd_fa (rd_red2 E S fr (rd_gat S fr)) ≠ 0 ∧ rd_nd (rd_red2 E S fr (rd_gat S fr)) = rd_nd S) ∨ (ndZ (rd_nd S) → ndZ (rd_nd (rd_red2 E S fr (rd_gat S fr)))) := by
  obtain ⟨q1, q2, q3, q4, q5⟩ := rd_gat_ok hk h1 h2
  have hc60 : nd_c (rd_nd S) ≤ 60 := hk.2.2.2.1
  have f1 : ∀ k j, k < nd_c (rd_nd S) → nd_fi (rd_nd S) k = some j → j < k := fun k j h e => (hk.2.2.2.2.2.2.2.2.2.2.1 k j (by omega) e).2 h
  have f2 : ∀ k j, k < nd_c (rd_nd S) → nd_se (rd_nd S) k = some j → j < k := fun k j h e => (hk.2.2.2.2.2.2.2.2.2.2.2.1 k j (by omega) e).2 h
  unfold rd_red2
  cases rd_rule (rx_g E) (rd_gat S fr) with
  | none => exact Or.inl ⟨(by decide : (4 : Nat) ≠ 0), rfl⟩
  | some r =>
    simp only
    unfold rd_red3
    split
    · exact Or.inr (fun h => ndZ_add h q1 q2 f1 f2)
    · rename_i hv
      exact Or.inl ⟨hv, rfl⟩
theorem nd_go (hE : rdE E) (hI : rdI E S) (hfa : rd_fa S = 0) (hen : rd_en S = false) : (rd_en (rd_go E S) = true ∧ rd_nd (rd_go E S) = rd_nd S) ∨ (rdI E (rd_go E S) ∧ rd_fa (rd_go E S) = 0 ∧ rd_en (rd_go E S) = false ∧ (ndZ (rd_nd S) → ndZ (rd_nd (rd_go E S)))) := by
  have hro := hE.2.2.2.2
  have he : sg_terms (rx_g E) ≤ 11 := hE.1.2.2.2.1
  have htc := hE.2.2.1
  have hst : ∀ i, i < 16 → rd_stk S i < 12 := hI.1.2.2.2.2.1
  have htp : rd_tp S ≤ 15 := hI.1.2.1
  have hnx : rd_nx S ≤ rx_tc E := hI.1.1
  have hx12 := hst (rd_tp S) (by omega)
  unfold rd_go
  cases hnt : rd_nt E (rd_nx S) with
  | none => exact Or.inl ⟨rfl, rfl⟩
  | some y =>
    simp only
    have hye : y ≤ sg_terms (rx_g E) ∧ (y ≠ sg_terms (rx_g E) → rd_nx S < rx_tc E ∧ gt_k (rx_g E) (rx_sg E (rd_nx S)) = some y) := by
      by_cases q : rd_nx S < rx_tc E
      · rw [rd_nt_k q] at hnt
        exact ⟨Nat.le_of_lt (gt_k_lt hnt), fun _ => ⟨q, hnt⟩⟩
      · rw [rd_nt_e q] at hnt
        have := Option.some.inj hnt
        exact ⟨by omega, fun q2 => absurd this.symm q2⟩
    by_cases hfin : rd_stk S (rd_tp S) = sg_terms (rx_g E) ∧ y = sg_terms (rx_g E)
    · rw [if_pos hfin]
      unfold rd_fin
      cases (decide (rd_beh S 0 = none)) with
      | true => exact Or.inl ⟨rfl, rfl⟩
      | false => exact Or.inl ⟨rfl, rfl⟩
    · rw [if_neg hfin]
      unfold rd_go2
      by_cases o4 : rx_o E (rd_stk S (rd_tp S)) y = nI 4
      · rw [if_pos o4]
        have htp1 : 1 ≤ rd_tp S := by
          rcases Nat.eq_zero_or_pos (rd_tp S) with q | q
          · rw [q, hI.2.2.2.1] at o4
            exact absurd o4 (hro.1 y (by omega)).2
          · exact q
        have hhd := rd_hd_le (rx_o E) (rd_stk S) (rd_tp S)
        have hh1 := hhd.2 htp1
        have hcn := hI.2.1
        have hred : rd_red E S = rd_red2 E S (rd_hd (rx_o E) (rd_stk S) (rd_tp S)) (rd_gat S (rd_hd (rx_o E) (rd_stk S) (rd_tp S))) := by
          unfold rd_red
          rw [if_neg (by omega)]
        have hnd := rd_nd_red2 hI.1 hh1 hhd.1
        rw [← hred] at hnd
        by_cases hz : rd_fa (rd_red E S) = 0
        · obtain ⟨y1, y2, y3⟩ := rdI_red hE hI htp1 hfa hz
          rcases hnd with c | c
          · exact absurd hz c.1
          · exact Or.inr ⟨y1, hz, y2.trans hen, c⟩
        · obtain ⟨y1, y2, y3⟩ := rd_red_f hfa hz
          refine Or.inl ⟨y1, ?_⟩
          rw [hred]
          rw [hred] at hz
          unfold rd_red2 at hz ⊢
          cases hru : rd_rule (rx_g E) (rd_gat S (rd_hd (rx_o E) (rd_stk S) (rd_tp S))) with
          | none => rfl
          | some r =>
            rw [hru] at hz
            simp only at hz ⊢
            unfold rd_red3 at hz ⊢
            split
            · rename_i hv
              rw [if_pos hv] at hz
              exact absurd hfa hz
            · rfl
      · rw [if_neg o4]
        by_cases o12 : rx_o E (rd_stk S (rd_tp S)) y = nI 1 ∨ rx_o E (rd_stk S (rd_tp S)) y = nI 2
        · rw [if_pos o12]
          have hyn : y ≠ sg_terms (rx_g E) := fun q => by
            rw [q] at o12
            have := hro.2 (rd_stk S (rd_tp S)) hx12
            rcases o12 with c | c
            · exact this.1 c
            · exact this.2 c
          obtain ⟨hlt, hgk⟩ := hye.2 hyn
          by_cases h15 : rd_tp S < 15
          · refine Or.inr ⟨rdI_push hE hI hgk hlt h15, ?_⟩
            unfold rd_push
            rw [if_pos h15]
            exact ⟨hfa, hen, fun h => h⟩
          · unfold rd_push
            rw [if_neg h15]
            exact Or.inl ⟨rfl, rfl⟩
        · rw [if_neg o12]
          exact Or.inl ⟨rfl, rfl⟩
theorem nd_run (hE : rdE E) : ∀ (n : Nat) (S : rd_T), rdI E S → rd_fa S = 0 → rd_en S = false → ndZ (rd_nd S) → ndZ (rd_nd (rd_run E n S)) ∧ ndC (rd_nd (rd_run E n S)) := by
  intro n
  induction n with
  | zero => intro S hI _ _ hz; exact ⟨hz, hI.2.2.2.2.2⟩
  | succ n ih =>
    intro S hI hfa hen hz
    have hrun : rd_run E (n + 1) S = rd_run E n (rd_go E S) := by rw [rd_run, hen]; rfl
    rw [hrun]
    rcases nd_go hE hI hfa hen with c | c
    · rw [rd_run_en c.1, c.2]
      exact ⟨hz, hI.2.2.2.2.2⟩
    · exact ih _ c.1 c.2.1 c.2.2.1 (c.2.2.2 hz)
theorem rdI_new {S0 : rd_T} (hE : rdE E) (hr : rd_rest S0) : rdI E (rd_new E none S0) := ⟨rd_ok_new (E := E) hr hE.1 none, Nat.le_refl 0, rfl, (show sl_u (rd_stk S0) 0 (sg_terms (rx_g E)) 0 = sg_terms (rx_g E) from sl_u_eq), fun i h1 h2 => by have h2' : i ≤ 0 := h2; omega, fun k q => absurd q (Nat.not_lt_zero k)⟩
end NDR
section RQD
variable {g : sg_T} {s : Nat → Int32} {kn nu : Nat → Nat} {ln how : Nat} {q : fs_T} {S0 : rd_T}
theorem rdS_ok (hE : rdE (rxE g ln q (ro_o s (sg_terms g) nu kn how))) (hr : rd_rest S0) : rd_ok (rxE g ln q (ro_o s (sg_terms g) nu kn how)) (rdS g ln q s nu kn how S0) := rd_ok_run hE.1 hE.2.2.1 (fun x hx => hE.2.2.2.2.2 x hx) 121 _ (rd_ok_new (E := rxE g ln q (ro_o s (sg_terms g) nu kn how)) hr hE.1 q.1)
theorem rdS_nd (hE : rdE (rxE g ln q (ro_o s (sg_terms g) nu kn how))) (hr : rd_rest S0) : ndZ (rd_nd (rdS g ln q s nu kn how S0)) ∧ ndC (rd_nd (rdS g ln q s nu kn how S0)) := by
  unfold rdS
  cases hq : q.1 with
  | none => exact nd_run hE 121 _ (rdI_new hE hr) rfl rfl (fun k h => absurd h (Nat.not_lt_zero k))
  | some p =>
    rw [rd_run_en rfl]
    exact ⟨fun k h => absurd h (Nat.not_lt_zero k), fun k h => absurd h (Nat.not_lt_zero k)⟩
theorem rqH_E {rn : Nat} {rk : Nat → Nat} {S : rd_T} {v : Nat → Int32} {a : Nat → Nat → Int32} (h : rqH g s rn rk kn nu ln q how S0 S v a) : rdE (rxE g ln q (ro_o s (sg_terms g) nu kn how)) ∧ rd_ok (rxE g ln q (ro_o s (sg_terms g) nu kn how)) S ∧ ndZ (rd_nd S) ∧ ndC (rd_nd S) := by
  obtain ⟨h1, h2, h3, h4, h5, h6, h7, h8, h9, h10, h11⟩ := h
  have hE := rxE_ok (ln := ln) h1 h2 h5 h6 (ro_g_o (kn := kn) (nu := nu) h3.2.2.2.2 how)
  rw [h11]
  exact ⟨hE, rdS_ok hE h10, rdS_nd hE h10⟩
theorem rqH_C {rn : Nat} {rk : Nat → Nat} {S : rd_T} {v : Nat → Int32} {a : Nat → Nat → Int32} (h : rqH g s rn rk kn nu ln q how S0 S v a) : rqC S := by
  obtain ⟨e1, e2, e3, e4⟩ := rqH_E h
  exact fun k hk => e4 k (e2.2.2.2.2.2.2.2.1 0 k (Nat.zero_le _) hk)
end RQD
section RQU
variable {v : Nat → Int32} {w : Int64} {a : Nat → Nat → Int32} {nm : Nat → Int64} {M : sl_M} {D : nd_T}
set_option maxRecDepth 100000 in
theorem c_X12_countUnder (hc : nd_c D ≤ 60) (hz : ndZ D) (hs : ∀ k, k < 60 → nd_si D k ≤ k + 1) (h1 : ∀ k, k < nd_c D → a 71 k = sl_nd (nd_fi D k) ∧ a 72 k = sl_nd (nd_se D k)) (f1 : ∀ k j, k < nd_c D → nd_fi D k = some j → j < k) (f2 : ∀ k j, k < nd_c D → nd_se D k = some j → j < k) : ∀ (m : Nat) (o : Option Nat), m ≤ nd_c D → (∀ k, o = some k → k < m) → sl_R YX12_countUnder m [.ref 68, .int (sl_nd o)] (rf_S v w a nm M) (some (.int (nI (no_g (nd_si D) o)))) (rf_S v w a nm M) := by
  intro m
  induction m with
  | zero =>
    intro o _ ho
    cases o with
    | some k => exact absurd (ho k rfl) (Nat.not_lt_zero k)
    | none =>
      refine sl_T.of_V (lv := [_, _]) (by decide) rfl (Nat.le_of_ble_eq_true rfl) ?_
      refine slv_iload_n eX12_countUnder_0 rfl ?_
      refine slv_bipush (v := (-2)) eX12_countUnder_1 (by decide) ?_
      refine slv_icmp_ne eX12_countUnder_3 (fun h3 => absurd rfl h3) (fun h3 => ?_)
      refine slv_iconst (v := nI 0) eX12_countUnder_6 (by decide) ?_
      refine slv_goto eX12_countUnder_7 ?_
      refine slv_iret eX12_countUnder_33 rfl ?_
      exact ⟨rfl, rfl⟩
  | succ m ih =>
    intro o hm ho
    refine sl_T.of_V (lv := [_, _]) (by decide) rfl (Nat.le_of_ble_eq_true rfl) ?_
    cases o with
    | none =>
      refine slv_iload_n eX12_countUnder_0 rfl ?_
      refine slv_bipush (v := (-2)) eX12_countUnder_1 (by decide) ?_
      refine slv_icmp_ne eX12_countUnder_3 (fun h3 => absurd rfl h3) (fun h3 => ?_)
      refine slv_iconst (v := nI 0) eX12_countUnder_6 (by decide) ?_
      refine slv_goto eX12_countUnder_7 ?_
      refine slv_iret eX12_countUnder_33 rfl ?_
      exact ⟨rfl, rfl⟩
    | some k =>
      have hk := ho k rfl
      have hne : nI k ≠ -2 := fun e => by
        have := (sl_nd_eq (o := some k) (fun j hj => by have := Option.some.inj hj; omega)).mp e
        cases this
      obtain ⟨u1, u2⟩ := h1 k (by omega)
      have z1 := ih (nd_fi D k) (by omega) (fun j hj => by have := f1 k j (by omega) hj; omega)
      have z2 := ih (nd_se D k) (by omega) (fun j hj => by have := f2 k j (by omega) hj; omega)
      have hzk := hz k (by omega)
      show sl_V _ _ _ _ _ (fun r1 M1 => r1 = some (.int (nI (nd_si D k))) ∧ M1 = _) _ [some (.ref 68), some (.int (nI k))] _ _
      have hsk := hs k (by omega)
      rw [hzk]
      refine slv_iload_n eX12_countUnder_0 rfl ?_
      refine slv_bipush (v := (-2)) eX12_countUnder_1 (by decide) ?_
      refine slv_icmp_ne eX12_countUnder_3 (fun h3 => ?_) (fun h3 => absurd h3 hne)
      refine slv_iconst (v := nI 1) eX12_countUnder_10 (by decide) ?_
      refine slv_aload_n eX12_countUnder_11 rfl ?_
      refine slv_aload_n eX12_countUnder_12 rfl ?_
      refine slr_ga (p := 107) eX12_countUnder_13 fX12_131 rfl ?_
      refine slv_iload_n eX12_countUnder_16 rfl ?_
      refine slr_ialdX (k := 71) (p := 107) (len := 122) eX12_countUnder_17 rfl (by repeat (first | exact sl_u_eq | assumption | apply rf_ne (by decide) | exact rfl)) (by omega) (by decide) u1 ?_
      refine slv_rV (As := [_]) eX12_countUnder_18 lX12_539 rfl rfl rf_68 rfl z1 (Nat.le_refl _) (Nat.le_of_ble_eq_true rfl) ?_
      refine slv_iaddN eX12_countUnder_21 ?_
      refine slv_aload_n eX12_countUnder_22 rfl ?_
      refine slv_aload_n eX12_countUnder_23 rfl ?_
      refine slr_ga (p := 108) eX12_countUnder_24 fX12_134 rfl ?_
      refine slv_iload_n eX12_countUnder_27 rfl ?_
      refine slr_ialdX (k := 72) (p := 108) (len := 122) eX12_countUnder_28 rfl (by repeat (first | exact sl_u_eq | assumption | apply rf_ne (by decide) | exact rfl)) (by omega) (by decide) u2 ?_
      refine slv_rV (As := [_]) eX12_countUnder_29 lX12_539 rfl rfl rf_68 rfl z2 (Nat.le_refl _) (Nat.le_of_ble_eq_true rfl) ?_
      refine slv_iaddN eX12_countUnder_32 ?_
      refine slv_iret eX12_countUnder_33 rfl ?_
      exact ⟨rfl, rfl⟩
set_option maxRecDepth 100000 in
theorem un_L {x y : Int32} (hc : nd_c D ≤ 60) (hz : ndZ D) (hs : ∀ k, k < 60 → nd_si D k ≤ k + 1) (h1 : ∀ k, k < nd_c D → a 71 k = sl_nd (nd_fi D k) ∧ a 72 k = sl_nd (nd_se D k)) (f1 : ∀ k j, k < nd_c D → nd_fi D k = some j → j < k) (f2 : ∀ k j, k < nd_c D → nd_se D k = some j → j < k) : ∀ (n k l : Nat) (z : Option Value), l ≤ n → l < nd_si D k → k < nd_c D → ∀ Q : Option Value → sl_M → Prop, Q (some (.int (sl_nd (no_bl (nd_fi D) (nd_se D) (nd_si D) n (some k) l)))) (rf_S (rf_gd v 0) w a nm M) → sl_V YX12_under none 62 0 0 Q 39 [some (.ref 68), some (.int x), some (.int y), some (.int (nI k)), some (.int (nI l)), z] [] (rf_S v w a nm M) := by
  intro n
  induction n with
  | zero =>
    intro k l z hn hl hk Q hQ
    refine slv_iload eX12_under_39 rfl ?_
    refine slv_if_leN eX12_under_41 (by omega) (fun h41 => ?_) (fun h41 => absurd h41 (by omega))
    refine slv_aload_n eX12_under_93 rfl ?_
    refine slv_iload_n eX12_under_94 rfl ?_
    refine slv_rV (As := [_]) eX12_under_95 lX12_314 rfl rfl rf_68 rfl (c_X12_good _) (by decide) (Nat.le_of_ble_eq_true rfl) ?_
    refine slv_iret eX12_under_98 rfl ?_
    exact hQ
  | succ n ih =>
    intro k l z hn hl hk Q hQ
    have hgo : no_bl (nd_fi D) (nd_se D) (nd_si D) (n + 1) (some k) l = cond (decide (l = 0)) (some k) (cond (decide (l ≤ no_g (nd_si D) (nd_fi D k))) (no_bl (nd_fi D) (nd_se D) (nd_si D) n (nd_fi D k) (l - 1)) (no_bl (nd_fi D) (nd_se D) (nd_si D) n (nd_se D k) (l - (1 + no_g (nd_si D) (nd_fi D k))))) := rfl
    rw [hgo] at hQ
    by_cases h0 : l = 0
    · rw [decide_eq_true h0, cond_true] at hQ
      refine slv_iload eX12_under_39 rfl ?_
      refine slv_if_leN eX12_under_41 (by omega) (fun h41 => ?_) (fun h41 => absurd h41 (by omega))
      refine slv_aload_n eX12_under_93 rfl ?_
      refine slv_iload_n eX12_under_94 rfl ?_
      refine slv_rV (As := [_]) eX12_under_95 lX12_314 rfl rfl rf_68 rfl (c_X12_good _) (by decide) (Nat.le_of_ble_eq_true rfl) ?_
      refine slv_iret eX12_under_98 rfl ?_
      exact hQ
    · rw [decide_eq_false h0, cond_false] at hQ
      obtain ⟨u1, u2⟩ := h1 k hk
      have z1 := c_X12_countUnder (v := v) (w := w) (a := a) (nm := nm) (M := M) hc hz hs h1 f1 f2 (nd_c D) (nd_fi D k) (Nat.le_refl _) (fun j hj => by have := f1 k j (by omega) hj; omega)
      have hzk := hz k hk
      have hsk := hs k (by omega)
      by_cases hle : l ≤ no_g (nd_si D) (nd_fi D k)
      · rw [decide_eq_true hle, cond_true] at hQ
        cases hf : nd_fi D k with
        | none => rw [hf] at hle; have hle' : l ≤ 0 := hle; omega
        | some j =>
          rw [hf] at u1 z1 hQ hle hzk
          have hj := f1 k j (by omega) hf
          have hle' : l ≤ nd_si D j := hle
          have hzk' : nd_si D k = 1 + nd_si D j + no_g (nd_si D) (nd_se D k) := hzk
          change sl_R YX12_countUnder _ [.ref 68, .int (nI j)] _ (some (.int (nI (nd_si D j)))) _ at z1
          change a 71 k = nI j at u1
          refine slv_iload eX12_under_39 rfl ?_
          refine slv_if_leN eX12_under_41 (by omega) (fun h41 => absurd h41 (by omega)) (fun h41 => ?_)
          refine slv_aload_n eX12_under_44 rfl ?_
          refine slv_aload_n eX12_under_45 rfl ?_
          refine slr_ga (p := 107) eX12_under_46 fX12_131 rfl ?_
          refine slv_iload_n eX12_under_49 rfl ?_
          refine slr_ialdX (k := 71) (p := 107) (len := 122) eX12_under_50 rfl (by repeat (first | exact sl_u_eq | assumption | apply rf_ne (by decide) | exact rfl)) (by omega) (by decide) u1 ?_
          refine slv_rV (As := [_]) eX12_under_51 lX12_539 rfl rfl rf_68 rfl z1 (by omega) (Nat.le_of_ble_eq_true rfl) ?_
          refine slv_istore (lv' := [_, _, _, _, _, _]) eX12_under_54 (by decide) rfl ?_
          refine slv_idecN (lv' := [_, _, _, _, _, _]) eX12_under_56 rfl (by decide) (by omega) rfl ?_
          refine slv_iload eX12_under_59 rfl ?_
          refine slv_iload eX12_under_61 rfl ?_
          refine slv_icmp_geN eX12_under_63 (by omega) (by omega) (fun h63 => absurd h63 (by omega)) (fun h63 => ?_)
          refine slv_aload_n eX12_under_66 rfl ?_
          refine slr_ga (p := 107) eX12_under_67 fX12_131 rfl ?_
          refine slv_iload_n eX12_under_70 rfl ?_
          refine slr_ialdX (k := 71) (p := 107) (len := 122) eX12_under_71 rfl (by repeat (first | exact sl_u_eq | assumption | apply rf_ne (by decide) | exact rfl)) (by omega) (by decide) u1 ?_
          refine slv_istore_n (i := 3) (lv' := [_, _, _, _, _, _]) eX12_under_72 rfl (by decide) rfl ?_
          refine slv_goto eX12_under_73 ?_
          refine slv_goto eX12_under_90 ?_
          exact ih j (l - 1) _ (by omega) (by omega) (by omega) Q hQ
      · rw [decide_eq_false hle, cond_false] at hQ
        cases hf : nd_se D k with
        | none => rw [hf] at hzk; have hzk' : nd_si D k = 1 + no_g (nd_si D) (nd_fi D k) + 0 := hzk; omega
        | some j =>
          rw [hf] at u2 hQ hzk
          have hj := f2 k j (by omega) hf
          have hzk' : nd_si D k = 1 + no_g (nd_si D) (nd_fi D k) + nd_si D j := hzk
          change a 72 k = nI j at u2
          rw [show l - (1 + no_g (nd_si D) (nd_fi D k)) = l - 1 - no_g (nd_si D) (nd_fi D k) by omega] at hQ
          refine slv_iload eX12_under_39 rfl ?_
          refine slv_if_leN eX12_under_41 (by omega) (fun h41 => absurd h41 (by omega)) (fun h41 => ?_)
          refine slv_aload_n eX12_under_44 rfl ?_
          refine slv_aload_n eX12_under_45 rfl ?_
          refine slr_ga (p := 107) eX12_under_46 fX12_131 rfl ?_
          refine slv_iload_n eX12_under_49 rfl ?_
          refine slr_ialdX (k := 71) (p := 107) (len := 122) eX12_under_50 rfl (by repeat (first | exact sl_u_eq | assumption | apply rf_ne (by decide) | exact rfl)) (by omega) (by decide) u1 ?_
          refine slv_rV (As := [_]) eX12_under_51 lX12_539 rfl rfl rf_68 rfl z1 (by omega) (Nat.le_of_ble_eq_true rfl) ?_
          refine slv_istore (lv' := [_, _, _, _, _, _]) eX12_under_54 (by decide) rfl ?_
          refine slv_idecN (lv' := [_, _, _, _, _, _]) eX12_under_56 rfl (by decide) (by omega) rfl ?_
          refine slv_iload eX12_under_59 rfl ?_
          refine slv_iload eX12_under_61 rfl ?_
          refine slv_icmp_geN eX12_under_63 (by omega) (by omega) (fun h63 => ?_) (fun h63 => absurd h63 (by omega))
          refine slv_iload eX12_under_76 rfl ?_
          refine slv_iload eX12_under_78 rfl ?_
          refine slv_isubN eX12_under_80 (by omega) ?_
          refine slv_istore (lv' := [_, _, _, _, _, _]) eX12_under_81 (by decide) rfl ?_
          refine slv_aload_n eX12_under_83 rfl ?_
          refine slr_ga (p := 108) eX12_under_84 fX12_134 rfl ?_
          refine slv_iload_n eX12_under_87 rfl ?_
          refine slr_ialdX (k := 72) (p := 108) (len := 122) eX12_under_88 rfl (by repeat (first | exact sl_u_eq | assumption | apply rf_ne (by decide) | exact rfl)) (by omega) (by decide) u2 ?_
          refine slv_istore_n (i := 3) (lv' := [_, _, _, _, _, _]) eX12_under_89 rfl (by decide) rfl ?_
          refine slv_goto eX12_under_90 ?_
          exact ih j (l - 1 - no_g (nd_si D) (nd_fi D k)) _ (by omega) (by omega) (by omega) Q hQ
end RQU
section RQV
variable {v : Nat → Int32} {w : Int64} {a : Nat → Nat → Int32} {nm : Nat → Int64} {M : sl_M} {g : sg_T} {s : Nat → Int32} {rn : Nat} {rk kn nu : Nat → Nat} {ln how : Nat} {q : fs_T} {S0 S : rd_T} {sn tl : Bool}
set_option maxRecDepth 100000 in
theorem c_X12_under (h21 : v 21 = sl_bi sn) (h24 : v 53 = sl_bi tl) (hts : tl = true → sn = true) (hH : tl = true → rqH g s rn rk kn nu ln q how S0 S v a) (hc : nd_c (rd_nd S) ≤ 60) (x y : Int32) : sl_T YX12_under 62 0 0 (qA v w a nm M (an_under tl (rd_nd S) x y)) [.ref 68, .int x, .int y] (rf_S v w a nm M) := by
  have F0 := rqF_0 v a (nI 0)
  have hN := c_X12_isNode (v := sl_u v 0 (nI 0)) (w := w) (a := a) (nm := nm) (M := M) h21 h24 hts (fun e => rqH_F (hH e) F0) hc x
  refine sl_T.of_V (lv := [_, _, _, _, _, _]) (by decide) rfl (Nat.le_of_ble_eq_true rfl) ?_
  unfold an_under
  cases hx : sl_vr tl x (nd_c (rd_nd S)) with
  | none =>
    rw [hx] at hN
    refine slv_aload_n eX12_under_0 rfl ?_
    refine slv_iconst (v := nI 0) eX12_under_1 (by decide) ?_
    refine slr_pi eX12_under_2 fX12_149 (Nat.le_of_ble_eq_true rfl) rf_s0 ?_
    refine slv_aload_n eX12_under_5 rfl ?_
    refine slv_iload_n eX12_under_6 rfl ?_
    refine slv_callV (As := [_]) eX12_under_7 lX12_533 rfl rfl rf_68 rfl hN (by decide) (Nat.le_of_ble_eq_true rfl) (Nat.zero_add _).symm (Nat.zero_add _).symm (Or.inl rfl) ?_
    rintro _ _ ⟨rfl, v2, a2, rfl, z1, z2⟩
    refine slv_if_eqB eX12_under_10 (fun h10 => ?_) (fun h10 => absurd h10 (by first | decide | (intro z; cases z)))
    refine slv_aload_n eX12_under_28 rfl ?_
    refine slv_iconst (v := nI 1) eX12_under_29 (by decide) ?_
    refine slv_rV (As := [_]) eX12_under_30 lX12_155 rfl rfl rf_68 rfl (c_X12_refused 1) (by decide) (Nat.le_of_ble_eq_true rfl) ?_
    refine slv_iret eX12_under_33 rfl ?_
    exact qA_1 1 (rqF_t F0 (rsF_q z1))
  | some k =>
    rw [hx] at hN
    obtain ⟨etl, ex, hk⟩ := vr_some hx
    subst ex
    obtain ⟨-, hok, hz, -⟩ := rqH_E (hH etl)
    have hs : ∀ k, k < 60 → nd_si (rd_nd S) k ≤ k + 1 := hok.2.2.2.2.2.2.2.2.2.2.2.2.1
    have f1 : ∀ k j, k < nd_c (rd_nd S) → nd_fi (rd_nd S) k = some j → j < k := fun k j h e => (hok.2.2.2.2.2.2.2.2.2.2.1 k j (by omega) e).2 h
    have f2 : ∀ k j, k < nd_c (rd_nd S) → nd_se (rd_nd S) k = some j → j < k := fun k j h e => (hok.2.2.2.2.2.2.2.2.2.2.2.1 k j (by omega) e).2 h
    have hsk := hs k (by omega)
    have aft : ∀ v2 a2, rqR S v2 a2 → rsF (sl_u v 0 (nI 0)) a v2 a2 → sl_V YX12_under none 62 0 0 (qA v w a nm M (match sl_vi y (nd_si (rd_nd S) k) with
        | none => an_no 1
        | some l => an_ok (sl_nd (no_bl (nd_fi (rd_nd S)) (nd_se (rd_nd S)) (nd_si (rd_nd S)) 60 (some k) l)))) 13 [some (.ref 68), some (.int (nI k)), some (.int y), none, none, none] [] (rf_S v2 w a2 nm M) := by
      intro v2 a2 z1 z2
      have zF := rqF_t F0 (rsF_q z2)
      have hrow : ∀ k, k < nd_c (rd_nd S) → a2 71 k = sl_nd (nd_fi (rd_nd S) k) ∧ a2 72 k = sl_nd (nd_se (rd_nd S) k) := fun k hk => ⟨(z1.2.2 k hk).2.1, (z1.2.2 k hk).2.2.1⟩
      have hCU := c_X12_countUnder (v := v2) (w := w) (a := a2) (nm := nm) (M := M) hc hz hs hrow f1 f2 (nd_c (rd_nd S)) (some k) (Nat.le_refl _) (fun j hj => by have := Option.some.inj hj; omega)
      change sl_R YX12_countUnder _ [.ref 68, .int (nI k)] _ (some (.int (nI (nd_si (rd_nd S) k)))) _ at hCU
      have hI := c_X12_in (rf_S v2 w a2 nm M) y (nI 0) (nI (nd_si (rd_nd S) k) - nI 1)
      rw [in_vi (by omega)] at hI
      cases hy : sl_vi y (nd_si (rd_nd S) k) with
      | none =>
        rw [hy] at hI
        refine slv_iload_n eX12_under_13 rfl ?_
        refine slv_iconst (v := nI 0) eX12_under_14 (by decide) ?_
        refine slv_aload_n eX12_under_15 rfl ?_
        refine slv_iload_n eX12_under_16 rfl ?_
        refine slv_rV (As := [_]) eX12_under_17 lX12_539 rfl rfl rf_68 rfl hCU (by omega) (Nat.le_of_ble_eq_true rfl) ?_
        refine slv_iconst (v := nI 1) eX12_under_20 (by decide) ?_
        refine slv_isub eX12_under_21 ?_
        refine slv_rS (As := [_, _, _]) eX12_under_22 lX12_180 rfl rfl hI (by decide) (Nat.le_of_ble_eq_true rfl) ?_
        refine slv_if_neB eX12_under_25 (fun h25 => absurd h25 (by first | decide | (intro z; cases z))) (fun h25 => ?_)
        refine slv_aload_n eX12_under_28 rfl ?_
        refine slv_iconst (v := nI 1) eX12_under_29 (by decide) ?_
        refine slv_rV (As := [_]) eX12_under_30 lX12_155 rfl rfl rf_68 rfl (c_X12_refused 1) (by decide) (Nat.le_of_ble_eq_true rfl) ?_
        refine slv_iret eX12_under_33 rfl ?_
        exact qA_1 1 zF
      | some l =>
        rw [hy] at hI
        obtain ⟨ey, hl⟩ := vi_some hy
        subst ey
        refine slv_iload_n eX12_under_13 rfl ?_
        refine slv_iconst (v := nI 0) eX12_under_14 (by decide) ?_
        refine slv_aload_n eX12_under_15 rfl ?_
        refine slv_iload_n eX12_under_16 rfl ?_
        refine slv_rV (As := [_]) eX12_under_17 lX12_539 rfl rfl rf_68 rfl hCU (by omega) (Nat.le_of_ble_eq_true rfl) ?_
        refine slv_iconst (v := nI 1) eX12_under_20 (by decide) ?_
        refine slv_isub eX12_under_21 ?_
        refine slv_rS (As := [_, _, _]) eX12_under_22 lX12_180 rfl rfl hI (by decide) (Nat.le_of_ble_eq_true rfl) ?_
        refine slv_if_neB eX12_under_25 (fun h25 => ?_) (fun h25 => absurd h25 (by first | decide | (intro z; cases z)))
        refine slv_iload_n eX12_under_34 rfl ?_
        refine slv_istore_n (i := 3) (lv' := [_, _, _, _, _, _]) eX12_under_35 rfl (by decide) rfl ?_
        refine slv_iload_n eX12_under_36 rfl ?_
        refine slv_istore (lv' := [_, _, _, _, _, _]) eX12_under_37 (by decide) rfl ?_
        exact un_L hc hz hs hrow f1 f2 60 k l _ (by omega) hl hk _ (qA_1 0 zF)
    refine slv_aload_n eX12_under_0 rfl ?_
    refine slv_iconst (v := nI 0) eX12_under_1 (by decide) ?_
    refine slr_pi eX12_under_2 fX12_149 (Nat.le_of_ble_eq_true rfl) rf_s0 ?_
    refine slv_aload_n eX12_under_5 rfl ?_
    refine slv_iload_n eX12_under_6 rfl ?_
    refine slv_callV (As := [_]) eX12_under_7 lX12_533 rfl rfl rf_68 rfl hN (by decide) (Nat.le_of_ble_eq_true rfl) (Nat.zero_add _).symm (Nat.zero_add _).symm (Or.inl rfl) ?_
    rintro _ _ ⟨rfl, v2, a2, rfl, z1, z2⟩
    refine slv_if_eqB eX12_under_10 (fun h10 => absurd h10 (by first | decide | (intro z; cases z))) (fun h10 => ?_)
    exact aft v2 a2 (z2 etl) z1
end RQV

/-! what holds while a formula is read, kept -/
theorem rf_K_F {rn : Nat} {rk kn nu : Nat → Nat} {v v' : Nat → Int32} {a a' : Nat → Nat → Int32} (h : rf_K rn rk kn nu v a) (hv : ∀ k, k ∈ [44] → v' k = v k) (ha : ∀ k, k ∈ [39, 40, 45] → a' k = a k) : rf_K rn rk kn nu v' a' := by
  unfold rf_K at *
  rw [hv 44 (by decide), ha 39 (by decide), ha 40 (by decide), ha 45 (by decide)]
  exact h
theorem rtk_F {E : rx_T} {a a' : Nat → Nat → Int32} (h : rtk E a) (ha : ∀ k, k ∈ [47, 46, 48, 49] → a' k = a k) : rtk E a' := by
  unfold rtk at *
  rw [ha 47 (by decide), ha 46 (by decide), ha 48 (by decide), ha 49 (by decide)]
  exact h
theorem rd_mv_can {k d : Nat} {tv r : Bool × Int32} {rl : Nat → Bool} {bi : Nat → Int32} {f s : Option Nat} (hd : d < 9) (h8 : d = 8 → tv.1 = true → fl_b tv.2.toUInt32 = tv.2) (hf : ∀ x, f = some x → rl x = true → fl_b (bi x).toUInt32 = bi x) (h0 : (rd_mv k d tv rl bi f s r).1 = 0) (ht : (rd_mv k d tv rl bi f s r).2.1 = true) : fl_b (rd_mv k d tv rl bi f s r).2.2.toUInt32 = (rd_mv k d tv rl bi f s r).2.2 := by
  by_cases d8 : d = 8
  · rw [rd_mv_8 d8] at ht ⊢
    exact h8 d8 ht
  · cases f with
    | none => rw [rd_mv_n d8] at h0; cases h0
    | some x =>
      by_cases d3 : d ≤ 3
      · cases s with
        | none => rw [rd_mv_n2 d8 d3] at h0; cases h0
        | some y =>
          rw [rd_mv_2 d8 d3] at h0 ht ⊢
          unfold rd_v2 at h0 ht ⊢
          cases hc : (rl x || rl y) with
          | true =>
            rw [hc] at h0 ht
            simp only [cond_true] at h0 ht ⊢
            show fl_b (rr_r d (rd_rb rl bi x) (rd_rb rl bi y)).toUInt32 = rr_r d (rd_rb rl bi x) (rd_rb rl bi y)
            rw [rr_r_fj]
            exact fl_b_b _
          | false =>
            rw [hc] at h0 ht
            simp only [cond_false] at h0 ht ⊢
            cases hz : (decide (d = 3) && decide (bi y = nI 0)) with
            | true => rw [hz] at h0; cases h0
            | false => rw [hz] at ht; cases ht
      · rw [rd_mv_1 d8 (by omega)] at h0 ht ⊢
        have ht' : rr_ob d (rl x) = true := ht
        show fl_b (rr_o1 d (rl x) (bi x)).toUInt32 = rr_o1 d (rl x) (bi x)
        have hx := hf x rfl
        rcases (show d = 4 ∨ d = 5 ∨ d = 6 ∨ d = 7 by omega) with q | q | q | q <;> subst q
        · have ht2 : rl x = true := ht'
          show fl_b (cond (rl x) (rr_neg (bi x)) (-(bi x))).toUInt32 = cond (rl x) (rr_neg (bi x)) (-(bi x))
          rw [ht2, cond_true, ← fl_neg]
          exact fl_b_b _
        · exact hx ht'
        · cases ht'
        · show fl_b (cond (rl x) (bi x) (FP.i2f (bi x)).toInt32).toUInt32 = cond (rl x) (bi x) (FP.i2f (bi x)).toInt32
          cases hq : rl x with
          | true => exact hx hq
          | false => rw [cond_false, ← fl_i2f]; exact fl_b_b _
section RKP
variable {E : rx_T} {S : rd_T}
theorem gt_k_lt {g : sg_T} {x y : Nat} (h : gt_k g x = some y) : y < sg_terms g := by
  have := (sl_fn_lt _ _ _ h).2.1
  omega
theorem rdI_push (hE : rdE E) (hI : rdI E S) {y : Nat} (hy : gt_k (rx_g E) (rx_sg E (rd_nx S)) = some y) (hn : rd_nx S < rx_tc E) (ht : rd_tp S < 15) : rdI E (rd_push E y S) := by
  obtain ⟨hk, hcn, hsp, hs0, hsi, hcan⟩ := hI
  have he : sg_terms (rx_g E) ≤ 11 := hE.1.2.2.2.1
  have hy2 := gt_k_lt hy
  refine ⟨rd_ok_push hk (by omega) hn hE.2.2.1, ?_⟩
  have hP : rd_push E y S = ((rd_fa S, rd_pl S, rd_sp S + 1, max (rd_mo S) (rd_tp S + 1), rd_nx S + 1, rd_en S, rd_tp S + 1), (sl_u (rd_stk S) (rd_tp S + 1) y, sl_u (rd_tok S) (rd_tp S + 1) (rd_nx S), sl_u (rd_beh S) (rd_tp S + 1) none), S.2.2) := by unfold rd_push; rw [if_pos ht]
  rw [hP]
  refine ⟨by show nd_c (rd_nd S) + (rd_tp S + 1) ≤ rd_nx S + 1; omega, by show rd_sp S + 1 = rd_nx S + 1 + nd_c (rd_nd S); omega, ?_, fun i h1 hi => ?_, hcan⟩
  · show sl_u (rd_stk S) (rd_tp S + 1) y 0 = _
    rw [sl_u_ne (by omega)]
    exact hs0
  · have hi' : i ≤ rd_tp S + 1 := hi
    show sl_u (rd_stk S) (rd_tp S + 1) y i < _ ∧ sl_u (rd_tok S) (rd_tp S + 1) (rd_nx S) i < _ ∧ gt_k (rx_g E) (rx_sg E (sl_u (rd_tok S) (rd_tp S + 1) (rd_nx S) i)) = some (sl_u (rd_stk S) (rd_tp S + 1) y i)
    by_cases q : i = rd_tp S + 1
    · rw [q, sl_u_eq, sl_u_eq]
      exact ⟨hy2, hn, hy⟩
    · rw [sl_u_ne q, sl_u_ne q]
      exact hsi i h1 (by omega)
theorem rdI_red (hE : rdE E) (hI : rdI E S) (htp1 : 1 ≤ rd_tp S) (hfa : rd_fa S = 0) (h0 : rd_fa (rd_red E S) = 0) : rdI E (rd_red E S) ∧ rd_en (rd_red E S) = rd_en S ∧ rd_sp (rd_red E S) = rd_sp S + 1 := by
  have hrk := hI.1
  refine ⟨⟨rd_ok_red hrk, ?_⟩, ?_⟩ <;> obtain ⟨hk, hcn, hsp, hs0, hsi, hcan⟩ := hI
  all_goals
    obtain ⟨hok, hstr, htc, htk, hro⟩ := hE
    have hnx : rd_nx S ≤ rx_tc E := hk.1
    have hhd := rd_hd_le (rx_o E) (rd_stk S) (rd_tp S)
    have h1 := hhd.2 htp1
    have h2 := hhd.1
    have hred : rd_red E S = rd_red2 E S (rd_hd (rx_o E) (rd_stk S) (rd_tp S)) (rd_gat S (rd_hd (rx_o E) (rd_stk S) (rd_tp S))) := by
      unfold rd_red
      rw [if_neg (by omega)]
    rw [hred] at h0 ⊢
    generalize rd_hd (rx_o E) (rd_stk S) (rd_tp S) = fr at *
    unfold rd_red2 at h0 ⊢
    cases hru : rd_rule (rx_g E) (rd_gat S fr) with
    | none => rw [hru] at h0; cases h0
    | some r =>
      rw [hru] at h0
      simp only at h0 ⊢
      obtain ⟨f1, f2, f3⟩ := rm_facts hstr hru
      obtain ⟨p1, p2, p3⟩ := rd_gat_I hk h1 h2
      obtain ⟨q1, q2, q3, q4, q5⟩ := rd_gat_ok hk h1 h2
      have hr12 : sg_rules (rx_g E) ≤ 12 := hok.2.1
      have hd9 := (hok.2.2.2.2.2.1 r (by omega)).2.1
      have hcv := rd_mv_can (k := sg_kind (rx_g E)) (tv := (rx_rl E (rd_tok S fr), rx_bt E (rd_tok S fr))) (r := rd_rc S) (rl := nd_rl (rd_nd S)) (bi := nd_bi (rd_nd S)) (f := (rd_gat S fr).1) (s := (rd_gat S fr).2.1) hd9 (fun q => by
        obtain ⟨g1, g2, g3⟩ := f3 q
        rw [p3 g2] at g3
        obtain ⟨t1, t2, t3⟩ := hsi fr h1 h2
        have t4 := (sl_fn_lt _ _ _ t3).2.2
        have t5 : nI (sg_signs (rx_g E) (rd_stk S fr)) = nI (rx_sg E (rd_tok S fr)) := of_decide_eq_true t4
        have t6 := (htk _ t2).1
        rw [g3] at t5
        have t7 := (nI_inj (by omega) (by omega)).mp t5
        exact (htk _ t2).2 t7.symm) (fun x hx => hcan x (q1 x hx))
      generalize rd_mv (sg_kind (rx_g E)) (sg_deeds (rx_g E) r) (rx_rl E (rd_tok S fr), rx_bt E (rd_tok S fr)) (nd_rl (rd_nd S)) (nd_bi (rd_nd S)) (rd_gat S fr).1 (rd_gat S fr).2.1 (rd_rc S) = V at h0 hcv ⊢
      have hV0 : V.1 = 0 := by
        by_cases q : V.1 = 0
        · exact q
        · unfold rd_red3 at h0
          rw [if_neg q] at h0
          exact h0
      have e : rd_red3 E S fr (rd_gat S fr) r V = ((rd_fa S, rd_pl S, rd_sp S + 1, rd_mo S, rd_nx S, rd_en S, fr - 1), (rd_stk S, rd_tok S, sl_u (rd_beh S) (fr - 1) (some (nd_c (rd_nd S)))), nd_add (rd_nd S) r (rd_gat S fr).1 (rd_gat S fr).2.1 V.2, rd_gat S fr, V.2) := if_pos hV0
      rw [e]
      first
      | exact ⟨rfl, rfl⟩
      | (refine ⟨by show nd_c (rd_nd S) + 1 + (fr - 1) ≤ rd_nx S; omega, by show rd_sp S + 1 = rd_nx S + (nd_c (rd_nd S) + 1); omega, hs0, fun i g1 g2 => hsi i g1 (by have g2' : i ≤ fr - 1 := g2; omega), fun k hk2 => ?_⟩
         have hk' : k < nd_c (rd_nd S) + 1 := hk2
         show sl_u (nd_rl (rd_nd S)) (nd_c (rd_nd S)) V.2.1 k = true → fl_b (sl_u (nd_bi (rd_nd S)) (nd_c (rd_nd S)) V.2.2 k).toUInt32 = sl_u (nd_bi (rd_nd S)) (nd_c (rd_nd S)) V.2.2 k
         by_cases q : k = nd_c (rd_nd S)
         · rw [q, sl_u_eq, sl_u_eq]
           exact hcv hV0
         · rw [sl_u_ne q, sl_u_ne q]
           exact hcan k (by omega))
theorem rd_nt_k (hn : rd_nx S < rx_tc E) : rd_nt E (rd_nx S) = gt_k (rx_g E) (rx_sg E (rd_nx S)) := by
  unfold rd_nt
  rw [decide_eq_true hn]
  rfl
theorem rd_nt_e (hn : ¬ rd_nx S < rx_tc E) : rd_nt E (rd_nx S) = some (sg_terms (rx_g E)) := by
  unfold rd_nt
  rw [decide_eq_false hn]
  rfl
end RKP

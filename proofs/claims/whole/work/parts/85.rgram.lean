/-! the reference takes a grammar -/
theorem jo_put {g : sg_T} {o : Option Nat} {q : gr_T × sg_T} {z : Nat} (h : sg_put q.2 = sg_put g) : sg_put (gp_jo o q z).2 = sg_put g := by
  unfold gp_jo
  cases o with
  | none => exact h
  | some k => exact h
theorem gms_put {R : gr_T} {g : sg_T} : sg_put (gm_s R g).2 = sg_put g := by
  unfold gm_s
  cases gm_k g (gr_wd R) with
  | some k => rfl
  | none => simp only; split <;> rfl
theorem gts_put {R : gr_T} {g : sg_T} {x : Nat} : sg_put (gt_s R g x).2 = sg_put g := by
  unfold gt_s
  cases gt_k g x with
  | some k => rfl
  | none => simp only; split <;> rfl
theorem take_put {R : gr_T} {g : sg_T} : sg_put (gp_take R g).2 = sg_put g := by
  have hti : ∀ x, sg_put (gp_ti R g x).2 = sg_put g := by
    intro x
    unfold gp_ti
    split
    · exact jo_put gts_put
    · rfl
  have hit : sg_put (gp_item R g).2 = sg_put g := by
    unfold gp_item
    cases (decide (gr_st R = 5) && gr_is R 7) with
    | true => rfl
    | false =>
      simp only [cond_false]
      cases gr_nw R with
      | true =>
        simp only [cond_true]
        unfold gp_ni
        cases (decide (0 < sg_lens g (sg_rules g)) && sg_nm (sg_it g (sg_rules g) (sg_lens g (sg_rules g) - 1))) with
        | true => rfl
        | false =>
          simp only [cond_false]
          split
          · exact jo_put gms_put
          · rfl
      | false =>
        simp only [cond_false]
        split
        · exact hti _
        · cases gr_is R 8 with
          | true => exact hti _
          | false => rfl
  unfold gp_take
  split
  · rfl
  · split
    · rfl
    · unfold gp_kind
      cases gr_is R 3 <;> cases gr_is R 4 <;> cases gr_is R 5 <;> rfl
    · unfold gp_head
      cases gr_nw R with
      | false => rfl
      | true =>
        cases gm_o R g with
        | none => exact gms_put
        | some k => exact gms_put
    · rfl
    · exact hit
    · exact hit
    · unfold gp_deed
      cases gp_dw R with
      | none => rfl
      | some d => simp only; cases gp_goes g d <;> rfl
    · rfl
theorem run_put {f : Nat → Int32} {ln : Nat} : ∀ (n : Nat) (q : gr_T × sg_T), sg_put (gp_run f ln n q).2 = sg_put q.2 := by
  intro n
  induction n with
  | zero => intro q; rfl
  | succ n ih =>
    intro q
    rw [gp_run]
    cases gr_en q.1 with
    | true => rfl
    | false =>
      rw [cond_false, ih]
      exact take_put
section RGM
variable {v : Nat → Int32} {w : Int64} {a : Nat → Nat → Int32} {nm : Nat → Int64} {M : sl_M} {f : Nat → Int32} {ln : Nat} {R : gr_T} {g : sg_T} {Q : Option Value → sl_M → Prop}
set_option maxRecDepth 100000 in
theorem rm_readAll (hS : st_all) (h27 : a 27 = f) (hl : ln ≤ 900) (h29 : v 29 = nI ln) (h30 : v 30 = nI 0) (h34 : v 34 = nI 0) (h2 : gr_tk R ≤ 4) (h4 : gr_sg R < 256) (hok : sg_ok g) : sl_T YX12_readAll 11 0 0 (fun r M' => r = none ∧ ∃ v' w' a' nm', M' = rf_S v' w' a' nm' M ∧ rfk v a v' a' ∧ rAo (gp_run f ln (ln + 1) (gp_R0 R, gp_g0 g)) v' a' nm') [.ref 68] (rf_S v w a nm M) := by
  have hk0 : gpo_k ln (gp_R0 R) (gp_g0 g) := gpo_k_0 h2 h4 hok
  have hkk := gr_tok_k (R := gp_R0 R) f hk0.1
  have hfp := gr_tok_fp (ln := ln) f (gp_R0 R)
  have hN := c_X12_next (v := sl_u (sl_u (sl_u (sl_u v 17 (nI 0)) 18 (nI 0)) 19 (nI 0)) 20 (-1)) (w := w) (nm := nm) (M := M) (R := gp_R0 R) h27 hl h29 h34 h30 hk0.1
  have hL := fun (v1 : Nat → Int32) (w1 : Int64) (h : rOK ln 0 (gr_tok f ln (gp_R0 R), gp_g0 g) v1 w1 a nm) (h2 : rkd (gr_tok f ln (gp_R0 R), gp_g0 g) v1) => rm_readLine (M := M) hS h27 hl h h2
  refine sl_T.of_V (lv := [_]) (by decide) rfl (Nat.le_of_ble_eq_true rfl) ?_
  refine slv_aload_n eX12_readAll_0 rfl ?_
  refine slv_iconst (v := nI 0) eX12_readAll_1 (by decide) ?_
  refine slr_pi eX12_readAll_2 fX12_239 (Nat.le_of_ble_eq_true rfl) rf_s17 ?_
  refine slv_aload_n eX12_readAll_5 rfl ?_
  refine slv_iconst (v := nI 0) eX12_readAll_6 (by decide) ?_
  refine slr_pi eX12_readAll_7 fX12_233 (Nat.le_of_ble_eq_true rfl) rf_s18 ?_
  refine slv_aload_n eX12_readAll_10 rfl ?_
  refine slv_iconst (v := nI 0) eX12_readAll_11 (by decide) ?_
  refine slr_pi eX12_readAll_12 fX12_236 (Nat.le_of_ble_eq_true rfl) rf_s19 ?_
  refine slv_aload_n eX12_readAll_15 rfl ?_
  refine slv_iconst (v := (-1)) eX12_readAll_16 (by decide) ?_
  refine slr_pi eX12_readAll_17 fX12_242 (Nat.le_of_ble_eq_true rfl) rf_s20 ?_
  refine slv_aload_n eX12_readAll_20 rfl ?_
  refine slv_callV (As := []) eX12_readAll_21 lX12_220 rfl rfl rf_68 rfl hN (by decide) (Nat.le_of_ble_eq_true rfl) (Nat.zero_add _).symm (Nat.zero_add _).symm (Or.inl rfl) ?_
  rintro _ _ ⟨rfl, v1, w1, rfl, hv1, ht1⟩
  have hO1 : rOK ln 0 (gr_tok f ln (gp_R0 R), gp_g0 g) v1 w1 a nm := ⟨ht1, ⟨hv1 _ (by decide), hv1 _ (by decide), hv1 _ (by decide), fun r (q : r < 0) => by omega, fun r i (q : r < 0) => by omega, fun r (q : r < 0) => by omega, fun r (q : r < 0) => by omega⟩, gpo_k_tok f hk0, gsp_lo (st := 0) ⟨fun r (q : r < 0) => by omega, fun r i (q : r < 0) => by omega, fun r i (q : r < 0) => by omega, fun r (q : r < 0) => by omega, fun r i (q : r < 0) => by omega, fun q => by omega⟩ (by left; simp only; rw [hkk.1.1]; exact Nat.zero_lt_succ 2), hkk.1.2.2, hkk.1.1⟩
  have hk1 : rkd (gr_tok f ln (gp_R0 R), gp_g0 g) v1 := (hv1 _ (by decide)).trans (by simp only; rw [hkk.1.2.1]; rfl)
  refine slv_aload_n eX12_readAll_24 rfl ?_
  refine slv_callV (As := []) eX12_readAll_25 lX12_245 rfl rfl rf_68 rfl (hL v1 w1 hO1 hk1) (by decide) (Nat.le_of_ble_eq_true rfl) (Nat.zero_add _).symm (Nat.zero_add _).symm (Or.inl rfl) ?_
  rintro _ _ ⟨rfl, v2, w2, a2, nm2, C2, rfl, q1, q2, q3⟩
  skip
  have hf1 : rfk v a v1 a := ⟨fun k hk => by
    rw [hv1 k (fun q => hk (by revert q; simp; omega)), sl_u_ne (fun e => hk (by rw [e]; decide)), sl_u_ne (fun e => hk (by rw [e]; decide)), sl_u_ne (fun e => hk (by rw [e]; decide)), sl_u_ne (fun e => hk (by rw [e]; decide))], fun _ _ => rfl⟩
  have hQ : rAq f ln M (gr_tok f ln (gp_R0 R), gp_g0 g) v1 a (fun r M' => r = none ∧ ∃ v' w' a' nm', M' = rf_S v' w' a' nm' M ∧ rfk v a v' a' ∧ rAo (gp_run f ln (ln + 1) (gp_R0 R, gp_g0 g)) v' a' nm') := by
    intro v' w' a' nm' E e1 e2 e3 e4
    rw [run_is (q := (gp_R0 R, gp_g0 g)) rfl hk0 (by simp only; omega) e1 e3]
    exact ⟨rfl, v', w', a', nm', rfl, rfk_t hf1 e2, e4⟩
  rcases q3 with ⟨b1, b2⟩ | hB
  · obtain ⟨k1, k2, k3⟩ := rst_k q1 hO1.2.2.1
    obtain ⟨k4, k5, k6⟩ := k3 b1.2.2.2.2.1
    exact rm_all28 hS hl (ln + 1) C2 v2 w2 a2 nm2 (by omega) ((q2.2 _ (by decide)).trans h27) b1 b2 (k5.trans hfp.1) (k6.trans hfp.2) _ (rAq_t hQ q1 q2)
  · exact rab28 hB.2.1 hB.2.2.1 hB.2.2.2.1 hB.2.2.2.2.2 (hQ _ _ _ _ _ q1 q2 hB.1 (rAo_bad _ _ hB))
end RGM

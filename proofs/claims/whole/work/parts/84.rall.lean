/-! the reference reads a grammar -/
def rAo (E : gr_T × sg_T) (v : Nat → Int32) (a : Nat → Nat → Int32) (nm : Nat → Int64) : Prop := (gr_fa E.1 = 0 ∧ gr_pl E.1 = 0 ∧ v 34 = nI 0 ∧ rm_g E.2 v a nm ∧ v 20 = nI (sg_kind E.2) ∧ sg_str E.2 ∧ 1 ≤ sg_rules E.2) ∨ (0 < gr_fa E.1 ∧ gr_fa E.1 < 100 ∧ v 34 = nI (gr_fa E.1) ∧ v 32 = nI (gr_pl E.1))
def rAq (f : Nat → Int32) (ln : Nat) (M : sl_M) (C : gr_T × sg_T) (v : Nat → Int32) (a : Nat → Nat → Int32) (Q : Option Value → sl_M → Prop) : Prop := ∀ v' w' a' nm' E, rst f ln C E → rfk v a v' a' → gr_en E.1 = true → rAo E v' a' nm' → Q none (rf_S v' w' a' nm' M)
theorem rAq_t {f : Nat → Int32} {ln : Nat} {M : sl_M} {C C1 : gr_T × sg_T} {v v1 : Nat → Int32} {a a1 : Nat → Nat → Int32} {Q : Option Value → sl_M → Prop} (h : rAq f ln M C v a Q) (h1 : rst f ln C C1) (h2 : rfk v a v1 a1) : rAq f ln M C1 v1 a1 Q := fun v' w' a' nm' E q1 q2 q3 q4 => h v' w' a' nm' E (rst_t h1 q1) (rfk_t h2 q2) q3 q4
theorem rAo_bad {C : gr_T × sg_T} {v : Nat → Int32} (a : Nat → Nat → Int32) (nm : Nat → Int64) (h : rBAD C v) : rAo C v a nm := Or.inr ⟨h.2.1, h.2.2.1, h.2.2.2.1, h.2.2.2.2.1⟩
theorem rfk_0 (v : Nat → Int32) (a : Nat → Nat → Int32) : rfk v a v a := ⟨fun _ _ => rfl, fun _ _ => rfl⟩
theorem rkd_nx {R R' : gr_T} {g : sg_T} {v v1 : Nat → Int32} (h : rkd (R, g) v) (h1 : v1 20 = v 20) (h2 : gr_hd R' = gr_hd R) : rkd (R', g) v1 := by
  unfold rkd at h ⊢
  rw [h1, h]
  simp only
  rw [h2]
section RAL
variable {v : Nat → Int32} {w : Int64} {a : Nat → Nat → Int32} {nm : Nat → Int64} {M : sl_M} {f : Nat → Int32} {ln : Nat} {R : gr_T} {g : sg_T} {Q : Option Value → sl_M → Prop}
set_option maxRecDepth 100000 in
theorem rab28 {k : Nat} (hk : 0 < k) (hk2 : k < 100) (h34 : v 34 = nI k) (h31 : v 31 = nI 0) (hQ : Q none (rf_S v w a nm M)) : sl_V YX12_readAll none 11 0 0 Q 28 [some (.ref 68)] [] (rf_S v w a nm M) := by
  refine slv_aload_n eX12_readAll_28 rfl ?_
  refine slr_gi eX12_readAll_29 fX12_177 rfl (by repeat (first | exact sl_u_eq | assumption | apply rf_ne (by decide) | exact rfl)) ?_
  refine slv_iconst (v := nI 4) eX12_readAll_32 (by decide) ?_
  refine slv_icmp_neN eX12_readAll_33 (by omega) (by omega) (fun h33 => ?_) (fun h33 => absurd h33 (by omega))
  refine slv_aload_n eX12_readAll_47 rfl ?_
  refine slr_gi eX12_readAll_48 fX12_177 rfl (by repeat (first | exact sl_u_eq | assumption | apply rf_ne (by decide) | exact rfl)) ?_
  refine slv_iconst (v := nI 1) eX12_readAll_51 (by decide) ?_
  refine slv_icmp_eqN eX12_readAll_52 (by omega) (by omega) (fun h52 => absurd h52 (by omega)) (fun h52 => ?_)
  refine slv_aload_n eX12_readAll_55 rfl ?_
  refine slv_iconst (v := nI 1) eX12_readAll_56 (by decide) ?_
  refine slv_rV (As := [_]) eX12_readAll_57 lX12_216 rfl rfl rf_68 rfl (c_X12_flawB hk hk2 h34 h31 1) (by decide) (Nat.le_of_ble_eq_true rfl) ?_
  refine slv_aload_n eX12_readAll_60 rfl ?_
  refine slr_gi eX12_readAll_61 fX12_165 rfl (by repeat (first | exact sl_u_eq | assumption | apply rf_ne (by decide) | exact rfl)) ?_
  refine slv_if_neN eX12_readAll_64 (by omega) (fun h64 => ?_) (fun h64 => absurd h64 (by omega))
  refine slv_vret eX12_readAll_94 rfl ?_
  exact hQ
set_option maxRecDepth 100000 in
theorem rm_all47 (hC : rOK ln 7 (R, g) v w a nm) (hkd : rkd (R, g) v) (h3 : gr_tk R ≠ 3) (hfa : gr_fa R = 0) (hpl : gr_pl R = 0) (hQ : rAq f ln M (R, g) v a Q) : sl_V YX12_readAll none 11 0 0 Q 47 [some (.ref 68)] [] (rf_S v w a nm M) := by
  obtain ⟨ht, hg, hk, hs, he, hst⟩ := hC
  simp only at ht hg hk hs he hst
  have htk := hk.2.1
  have hok := hk.2.2.2.2.1
  have hr12 : sg_rules g ≤ 12 := hok.2.1
  have hk2 : sg_kind g ≤ 2 := hok.1
  have h34 := ht.1
  have h31 := ht.2.2.2.1
  have g1 := hg.1
  have hlt := tkm_lt htk
  have hta := take_7 (g := g) hst
  unfold gp_part at hta
  rw [if_neg h3] at hta
  unfold rkd at hkd
  simp only at hkd
  by_cases h0 : gr_tk R = 0
  · rw [if_pos h0] at hta
    have h1 := (tkm_1 htk).mpr h0
    have hA := rm_areHeads (w := w) (M := M) hg hok
    have bad5 : gp_lk R g = true → Q none (rf_S (sl_u (sl_u v 34 (nI 5)) 31 (nI 0)) w a nm M) := by
      intro q
      rw [q, cond_true] at hta
      refine hQ _ w a nm _ (rst_1 f ln (R, g)) (rfk_r (rfr_fl v a 5)) ?_ ?_
      · rw [show stp f ln (R, g) = (gr_fl 5 R, g) from stp_fl he hta]; rfl
      · rw [show stp f ln (R, g) = (gr_fl 5 R, g) from stp_fl he hta]; exact rAo_bad _ _ (rBAD_fl ht (by omega) (by omega))
    have hlk : gp_lk R g = (!(gr_hd R) || (decide (sg_rules g = 0) || sl_ex (fun n => !(sl_ex (fun t => decide (sg_heads g t = n)) (sg_rules g) 0)) (sg_names g) 0)) := rfl
    cases hd : gr_hd R with
    | false =>
      rw [hd] at hkd hlk
      rw [cond_false] at hkd
      have hb := bad5 hlk
      refine slv_aload_n eX12_readAll_47 rfl ?_
      refine slr_gi eX12_readAll_48 fX12_177 rfl (by repeat (first | exact sl_u_eq | assumption | apply rf_ne (by decide) | exact rfl)) ?_
      refine slv_iconst (v := nI 1) eX12_readAll_51 (by decide) ?_
      refine slv_icmp_eqN eX12_readAll_52 (by omega) (by omega) (fun h52 => ?_) (fun h52 => absurd h52 (fun q => q h1))
      refine slv_aload_n eX12_readAll_60 rfl ?_
      refine slr_gi eX12_readAll_61 fX12_165 rfl (by repeat (first | exact sl_u_eq | assumption | apply rf_ne (by decide) | exact rfl)) ?_
      refine slv_if_ne eX12_readAll_64 (fun h64 => absurd rfl h64) (fun h64 => ?_)
      refine slv_aload_n eX12_readAll_67 rfl ?_
      refine slr_gi eX12_readAll_68 fX12_242 rfl (by repeat (first | exact sl_u_eq | assumption | apply rf_ne (by decide) | exact rfl)) ?_
      refine slv_iconst (v := (-1)) eX12_readAll_71 (by decide) ?_
      refine slv_icmp_eq eX12_readAll_72 (fun h72 => ?_) (fun h72 => absurd rfl h72)
      refine slv_aload_n eX12_readAll_89 rfl ?_
      refine slv_iconst (v := nI 5) eX12_readAll_90 (by decide) ?_
      refine slv_rV (As := [_]) eX12_readAll_91 lX12_216 rfl rfl rf_68 rfl (c_X12_flaw h34 5) (by decide) (Nat.le_of_ble_eq_true rfl) ?_
      refine slv_vret eX12_readAll_94 rfl ?_
      exact hb
    | true =>
      rw [hd] at hkd hlk
      rw [cond_true] at hkd
      rw [Bool.not_true, Bool.false_or] at hlk
      by_cases hr0 : sg_rules g = 0
      · rw [decide_eq_true hr0] at hlk
        have hb := bad5 hlk
        refine slv_aload_n eX12_readAll_47 rfl ?_
        refine slr_gi eX12_readAll_48 fX12_177 rfl (by repeat (first | exact sl_u_eq | assumption | apply rf_ne (by decide) | exact rfl)) ?_
        refine slv_iconst (v := nI 1) eX12_readAll_51 (by decide) ?_
        refine slv_icmp_eqN eX12_readAll_52 (by omega) (by omega) (fun h52 => ?_) (fun h52 => absurd h52 (fun q => q h1))
        refine slv_aload_n eX12_readAll_60 rfl ?_
        refine slr_gi eX12_readAll_61 fX12_165 rfl (by repeat (first | exact sl_u_eq | assumption | apply rf_ne (by decide) | exact rfl)) ?_
        refine slv_if_ne eX12_readAll_64 (fun h64 => absurd rfl h64) (fun h64 => ?_)
        refine slv_aload_n eX12_readAll_67 rfl ?_
        refine slr_gi eX12_readAll_68 fX12_242 rfl (by repeat (first | exact sl_u_eq | assumption | apply rf_ne (by decide) | exact rfl)) ?_
        refine slv_iconst (v := (-1)) eX12_readAll_71 (by decide) ?_
        refine slv_icmp_eq eX12_readAll_72 (fun h72 => absurd h72 (nI_neg1 (by omega))) (fun h72 => ?_)
        refine slv_aload_n eX12_readAll_75 rfl ?_
        refine slr_gi eX12_readAll_76 fX12_239 rfl (by repeat (first | exact sl_u_eq | assumption | apply rf_ne (by decide) | exact rfl)) ?_
        refine slv_if_eqN eX12_readAll_79 (by omega) (fun h79 => ?_) (fun h79 => absurd h79 (fun q => q hr0))
        refine slv_aload_n eX12_readAll_89 rfl ?_
        refine slv_iconst (v := nI 5) eX12_readAll_90 (by decide) ?_
        refine slv_rV (As := [_]) eX12_readAll_91 lX12_216 rfl rfl rf_68 rfl (c_X12_flaw h34 5) (by decide) (Nat.le_of_ble_eq_true rfl) ?_
        refine slv_vret eX12_readAll_94 rfl ?_
        exact hb
      · rw [decide_eq_false hr0, Bool.false_or] at hlk
        rw [← hlk] at hA
        cases hq : gp_lk R g with
        | true =>
          have hb := bad5 hq
          rw [hq] at hA
          refine slv_aload_n eX12_readAll_47 rfl ?_
          refine slr_gi eX12_readAll_48 fX12_177 rfl (by repeat (first | exact sl_u_eq | assumption | apply rf_ne (by decide) | exact rfl)) ?_
          refine slv_iconst (v := nI 1) eX12_readAll_51 (by decide) ?_
          refine slv_icmp_eqN eX12_readAll_52 (by omega) (by omega) (fun h52 => ?_) (fun h52 => absurd h52 (fun q => q h1))
          refine slv_aload_n eX12_readAll_60 rfl ?_
          refine slr_gi eX12_readAll_61 fX12_165 rfl (by repeat (first | exact sl_u_eq | assumption | apply rf_ne (by decide) | exact rfl)) ?_
          refine slv_if_ne eX12_readAll_64 (fun h64 => absurd rfl h64) (fun h64 => ?_)
          refine slv_aload_n eX12_readAll_67 rfl ?_
          refine slr_gi eX12_readAll_68 fX12_242 rfl (by repeat (first | exact sl_u_eq | assumption | apply rf_ne (by decide) | exact rfl)) ?_
          refine slv_iconst (v := (-1)) eX12_readAll_71 (by decide) ?_
          refine slv_icmp_eq eX12_readAll_72 (fun h72 => absurd h72 (nI_neg1 (by omega))) (fun h72 => ?_)
          refine slv_aload_n eX12_readAll_75 rfl ?_
          refine slr_gi eX12_readAll_76 fX12_239 rfl (by repeat (first | exact sl_u_eq | assumption | apply rf_ne (by decide) | exact rfl)) ?_
          refine slv_if_eqN eX12_readAll_79 (by omega) (fun h79 => absurd h79 hr0) (fun h79 => ?_)
          refine slv_aload_n eX12_readAll_82 rfl ?_
          refine slv_rV (As := []) eX12_readAll_83 lX12_248 rfl rfl rf_68 rfl hA (by decide) (Nat.le_of_ble_eq_true rfl) ?_
          refine slv_if_neB eX12_readAll_86 (fun h86 => absurd h86 (by decide)) (fun h86 => ?_)
          refine slv_aload_n eX12_readAll_89 rfl ?_
          refine slv_iconst (v := nI 5) eX12_readAll_90 (by decide) ?_
          refine slv_rV (As := [_]) eX12_readAll_91 lX12_216 rfl rfl rf_68 rfl (c_X12_flaw h34 5) (by decide) (Nat.le_of_ble_eq_true rfl) ?_
          refine slv_vret eX12_readAll_94 rfl ?_
          exact hb
        | false =>
          rw [hq] at hA hta
          rw [cond_false] at hta
          have hst' : stp f ln (R, g) = ((gr_fa R, gr_pl R, gr_a R, gr_st R, gr_hd R, true, gr_tk R, gr_tp R, gr_wd R, gr_sg R), g) := by
            unfold stp
            simp only
            rw [he, cond_false, hta]
            rfl
          have hfin : Q none (rf_S v w a nm M) := by
            refine hQ v w a nm _ (rst_1 f ln (R, g)) (rfk_0 v a) ?_ ?_
            · rw [hst']
            · rw [hst']
              exact Or.inl ⟨hfa, hpl, h34, hg, hkd, gsp_str hs, by show 1 ≤ sg_rules g; omega⟩
          refine slv_aload_n eX12_readAll_47 rfl ?_
          refine slr_gi eX12_readAll_48 fX12_177 rfl (by repeat (first | exact sl_u_eq | assumption | apply rf_ne (by decide) | exact rfl)) ?_
          refine slv_iconst (v := nI 1) eX12_readAll_51 (by decide) ?_
          refine slv_icmp_eqN eX12_readAll_52 (by omega) (by omega) (fun h52 => ?_) (fun h52 => absurd h52 (fun q => q h1))
          refine slv_aload_n eX12_readAll_60 rfl ?_
          refine slr_gi eX12_readAll_61 fX12_165 rfl (by repeat (first | exact sl_u_eq | assumption | apply rf_ne (by decide) | exact rfl)) ?_
          refine slv_if_ne eX12_readAll_64 (fun h64 => absurd rfl h64) (fun h64 => ?_)
          refine slv_aload_n eX12_readAll_67 rfl ?_
          refine slr_gi eX12_readAll_68 fX12_242 rfl (by repeat (first | exact sl_u_eq | assumption | apply rf_ne (by decide) | exact rfl)) ?_
          refine slv_iconst (v := (-1)) eX12_readAll_71 (by decide) ?_
          refine slv_icmp_eq eX12_readAll_72 (fun h72 => absurd h72 (nI_neg1 (by omega))) (fun h72 => ?_)
          refine slv_aload_n eX12_readAll_75 rfl ?_
          refine slr_gi eX12_readAll_76 fX12_239 rfl (by repeat (first | exact sl_u_eq | assumption | apply rf_ne (by decide) | exact rfl)) ?_
          refine slv_if_eqN eX12_readAll_79 (by omega) (fun h79 => absurd h79 hr0) (fun h79 => ?_)
          refine slv_aload_n eX12_readAll_82 rfl ?_
          refine slv_rV (As := []) eX12_readAll_83 lX12_248 rfl rfl rf_68 rfl hA (by decide) (Nat.le_of_ble_eq_true rfl) ?_
          refine slv_if_neB eX12_readAll_86 (fun h86 => ?_) (fun h86 => absurd h86 (by decide))
          refine slv_vret eX12_readAll_94 rfl ?_
          exact hfin
  · rw [if_neg h0] at hta
    have h1 : ¬ tkm (gr_tk R) = 1 := fun q => h0 ((tkm_1 htk).mp q)
    have hb : Q none (rf_S (sl_u (sl_u v 34 (nI 1)) 31 (nI 0)) w a nm M) := by
      refine hQ _ w a nm _ (rst_1 f ln (R, g)) (rfk_r (rfr_fl v a 1)) ?_ ?_
      · rw [show stp f ln (R, g) = (gr_fl 1 R, g) from stp_fl he hta]; rfl
      · rw [show stp f ln (R, g) = (gr_fl 1 R, g) from stp_fl he hta]; exact rAo_bad _ _ (rBAD_fl ht (by omega) (by omega))
    refine slv_aload_n eX12_readAll_47 rfl ?_
    refine slr_gi eX12_readAll_48 fX12_177 rfl (by repeat (first | exact sl_u_eq | assumption | apply rf_ne (by decide) | exact rfl)) ?_
    refine slv_iconst (v := nI 1) eX12_readAll_51 (by decide) ?_
    refine slv_icmp_eqN eX12_readAll_52 (by omega) (by omega) (fun h52 => absurd h52 h1) (fun h52 => ?_)
    refine slv_aload_n eX12_readAll_55 rfl ?_
    refine slv_iconst (v := nI 1) eX12_readAll_56 (by decide) ?_
    refine slv_rV (As := [_]) eX12_readAll_57 lX12_216 rfl rfl rf_68 rfl (c_X12_flaw h34 1) (by decide) (Nat.le_of_ble_eq_true rfl) ?_
    refine slv_aload_n eX12_readAll_60 rfl ?_
    refine slr_gi eX12_readAll_61 fX12_165 rfl (by repeat (first | exact sl_u_eq | assumption | apply rf_ne (by decide) | exact rfl)) ?_
    refine slv_if_neN eX12_readAll_64 (by omega) (fun h64 => ?_) (fun h64 => absurd h64 (by omega))
    refine slv_vret eX12_readAll_94 rfl ?_
    exact hb
set_option maxRecDepth 100000 in
theorem rm_all28 (hS : st_all) (hl : ln ≤ 900) : ∀ (n : Nat) (C : gr_T × sg_T) (v : Nat → Int32) (w : Int64) (a : Nat → Nat → Int32) (nm : Nat → Int64), ln < gr_a C.1 + n → a 27 = f → rOK ln 7 C v w a nm → rkd C v → gr_fa C.1 = 0 → gr_pl C.1 = 0 → ∀ Q, rAq f ln M C v a Q → sl_V YX12_readAll none 11 0 0 Q 28 [some (.ref 68)] [] (rf_S v w a nm M) := by
  intro n
  induction n with
  | zero =>
    intro C v w a nm hn h27 hC
    have := hC.2.2.1.1
    omega
  | succ n ih =>
    rintro ⟨R, g⟩ v w a nm hn h27 hC hkd hfa hpl Q hQ
    have hC' := hC
    obtain ⟨ht, hg, hk, hs, he, hst⟩ := hC
    simp only at ht hg hk hs he hst hfa hpl hn
    have htk := hk.2.1
    have h34 := ht.1
    have h31 := ht.2.2.2.1
    have hlt := tkm_lt htk
    by_cases h3 : gr_tk R = 3
    · have h4 := (tkm_4 htk).mpr h3
      have hta := take_7 (g := g) hst
      unfold gp_part at hta
      rw [if_pos h3] at hta
      have hko := gpo_k_take hk
      rw [hta] at hko
      have hst' : stp f ln (R, g) = (gr_tok f ln (gr_to 0 R), g) := stp_go he hta he
      have hN := c_X12_next (v := v) (w := w) (nm := nm) (M := M) (R := gr_to 0 R) h27 hl ht.2.1 h34 ht.2.2.1 hk.1
      have hkk := gr_tok_k (R := gr_to 0 R) f hk.1
      have hr1 : rst f ln (R, g) (gr_tok f ln (gr_to 0 R), g) := hst' ▸ rst_1 f ln (R, g)
      have hfp := gr_tok_fp (ln := ln) f (gr_to 0 R)
      have hL := fun (v1 : Nat → Int32) (w1 : Int64) (h : rOK ln 0 (gr_tok f ln (gr_to 0 R), g) v1 w1 a nm) (h2 : rkd (gr_tok f ln (gr_to 0 R), g) v1) => rm_readLine (M := M) hS h27 hl h h2
      refine slv_aload_n eX12_readAll_28 rfl ?_
      refine slr_gi eX12_readAll_29 fX12_177 rfl (by repeat (first | exact sl_u_eq | assumption | apply rf_ne (by decide) | exact rfl)) ?_
      refine slv_iconst (v := nI 4) eX12_readAll_32 (by decide) ?_
      refine slv_icmp_neN eX12_readAll_33 (by omega) (by omega) (fun h33 => absurd h33 (fun q => q h4)) (fun h33 => ?_)
      refine slv_aload_n eX12_readAll_36 rfl ?_
      refine slv_callV (As := []) eX12_readAll_37 lX12_220 rfl rfl rf_68 rfl hN (by decide) (Nat.le_of_ble_eq_true rfl) (Nat.zero_add _).symm (Nat.zero_add _).symm (Or.inl rfl) ?_
      rintro _ _ ⟨rfl, v1, w1, rfl, hv1, ht1⟩
      have hO1 : rOK ln 0 (gr_tok f ln (gr_to 0 R), g) v1 w1 a nm := rOK_h hk.1 he ht1 (rm_g_v hg (hv1 _ (by decide)) (hv1 _ (by decide)) (hv1 _ (by decide))) hko (gsp_lo hs (by omega))
      have hk1 : rkd (gr_tok f ln (gr_to 0 R), g) v1 := rkd_nx hkd (hv1 _ (by decide)) hkk.1.2.1
      refine slv_aload_n eX12_readAll_40 rfl ?_
      refine slv_callV (As := []) eX12_readAll_41 lX12_245 rfl rfl rf_68 rfl (hL v1 w1 hO1 hk1) (by decide) (Nat.le_of_ble_eq_true rfl) (Nat.zero_add _).symm (Nat.zero_add _).symm (Or.inl rfl) ?_
      rintro _ _ ⟨rfl, v2, w2, a2, nm2, C2, rfl, q1, q2, q3⟩
      refine slv_goto eX12_readAll_44 ?_
      have hf2 : rfk v a v2 a2 := rfk_t (rfk_r (rfr_nx a hv1)) q2
      have hr2 := rst_t hr1 q1
      rcases q3 with ⟨b1, b2⟩ | hB
      · obtain ⟨k1, k2, k3⟩ := rst_k q1 hO1.2.2.1
        obtain ⟨k4, k5, k6⟩ := k3 b1.2.2.2.2.1
        have h0 : gr_tk (gr_tok f ln (gr_to 0 R)) ≠ 0 := by
          rcases k4 with e | e
          · have e1 := b1.2.2.2.2.2
            have e2 := hO1.2.2.2.2.2
            rw [e] at e1
            simp only at e1 e2
            omega
          · exact e
        have hadv := hkk.2.2 h0
        refine ih C2 v2 w2 a2 nm2 ?_ ((q2.2 _ (by decide)).trans h27) b1 b2 (k5.trans (hfp.1.trans hfa)) (k6.trans (hfp.2.trans hpl)) Q (rAq_t hQ hr2 hf2)
        have e0 : gr_a (gr_to 0 R) = gr_a R := rfl
        simp only at k2
        omega
      · exact rab28 hB.2.1 hB.2.2.1 hB.2.2.2.1 hB.2.2.2.2.2 (hQ _ _ _ _ _ hr2 hf2 hB.1 (rAo_bad _ _ hB))
    · have h4 : ¬ tkm (gr_tk R) = 4 := fun q => h3 ((tkm_4 htk).mp q)
      refine slv_aload_n eX12_readAll_28 rfl ?_
      refine slr_gi eX12_readAll_29 fX12_177 rfl (by repeat (first | exact sl_u_eq | assumption | apply rf_ne (by decide) | exact rfl)) ?_
      refine slv_iconst (v := nI 4) eX12_readAll_32 (by decide) ?_
      refine slv_icmp_neN eX12_readAll_33 (by omega) (by omega) (fun h33 => ?_) (fun h33 => absurd h33 h4)
      exact rm_all47 hC' hkd h3 hfa hpl hQ
end RAL

/-! the reference's grammar, asked -/
/-- where the reading of a grammar ends -/
abbrev gr_E (f : Nat → Int32) (ln : Nat) (R : gr_T) (g : sg_T) : gr_T × sg_T := gp_run f ln (ln + 1) (gp_R0 R, gp_g0 g)
def rg_v : List Nat := [0, 1, 2, 29, 28, 30, 34, 20, 17, 18, 19, 31, 32, 33]
def rg_a : List Nat := [8, 9, 10, 11, 12]
/-- what a grammar that is refused leaves -/
def rg_bad (E : gr_T × sg_T) (v : Nat → Int32) (a : Nat → Nat → Int32) (v' : Nat → Int32) (a' : Nat → Nat → Int32) : Prop := (∀ k, k ∉ rg_v → v' k = v k) ∧ (∀ k, k ∉ rg_a → a' k = a k) ∧ v' 0 = nI 0 ∧ v' 1 = nI 4 ∧ v' 2 = nI (gr_pl E.1) ∧ v' 34 = nI (gr_fa E.1) ∧ v' 28 = nI 0
/-- what a grammar that is taken leaves -/
def rg_good (E : gr_T × sg_T) (v : Nat → Int32) (a : Nat → Nat → Int32) (v' : Nat → Int32) (a' : Nat → Nat → Int32) : Prop := (∀ k, k ∉ [21, 14, 15, 16, 22, 23, 26, 53, 44] ++ rg_v → v' k = v k) ∧ (∀ k, k ∉ [3, 5, 6, 4, 7, 36, 37, 38, 39, 40, 41, 42, 43, 45] ++ rg_a → a' k = a k) ∧ v' 0 = nI 0 ∧ v' 1 = nI 0 ∧ v' 2 = -1 ∧ v' 34 = nI 0 ∧ v' 28 = nI 0 ∧ v' 21 = sl_bi true ∧ v' 26 = nI 0 ∧ v' 23 = nI 0 ∧ v' 53 = nI 0 ∧ rf_G E.2 v' a' ∧ rf_laid E.2 v' a' ∧ sg_str E.2
section RGO
variable {v : Nat → Int32} {w : Int64} {a : Nat → Nat → Int32} {nm : Nat → Int64} {M : sl_M} {f : Nat → Int32} {ln : Nat} {R : gr_T} {g : sg_T}
set_option maxRecDepth 100000 in
theorem c_X12_grammar (hS : st_all) (h27 : a 27 = f) {fd : Nat} (hfd : fd ≤ 900) (htp : v 28 = nI fd) (h2 : gr_tk R ≤ 4) (h4 : gr_sg R < 256) (hok : sg_ok g) (hz : rf_z0 a) (x : Int32) : sl_T YX12_grammar 12 0 0 (fun r M' => match sl_vi x (fd + 1) with
    | none => r = some (.int (-1)) ∧ M' = rf_S (rf_an v 2) w a nm M
    | some ln => if 0 < gr_fa (gr_E f ln R g).1 then r = some (.int (-1)) ∧ ∃ v' w' a' nm', M' = rf_S v' w' a' nm' M ∧ rg_bad (gr_E f ln R g) v a v' a' else r = some (.int (nI (sg_rules (gr_E f ln R g).2))) ∧ ∃ v' w' a' nm', M' = rf_S v' w' a' nm' M ∧ rg_good (gr_E f ln R g) v a v' a') [.ref 68, .int x] (rf_S v w a nm M) := by
  refine sl_T.of_V (lv := [_, _]) (by decide) rfl (Nat.le_of_ble_eq_true rfl) ?_
  cases hv : sl_vi x (fd + 1) with
  | none =>
    simp only
    rcases vi_lt (by omega) hv with c | c
    · refine slv_aload_n eX12_grammar_0 rfl ?_
      refine slv_iconst (v := nI 0) eX12_grammar_1 (by decide) ?_
      refine slr_pi eX12_grammar_2 fX12_149 (Nat.le_of_ble_eq_true rfl) rf_s0 ?_
      refine slv_iload_n eX12_grammar_5 rfl ?_
      refine slv_if_lt eX12_grammar_6 (fun h6 => ?_) (fun h6 => absurd c h6)
      refine slv_aload_n eX12_grammar_17 rfl ?_
      refine slv_iconst (v := nI 2) eX12_grammar_18 (by decide) ?_
      refine slv_rV (As := [_]) eX12_grammar_19 lX12_155 rfl rfl rf_68 rfl (c_X12_refused 2) (by decide) (Nat.le_of_ble_eq_true rfl) ?_
      refine slv_iret eX12_grammar_22 rfl ?_
      exact ⟨rfl, rfl⟩
    · refine slv_aload_n eX12_grammar_0 rfl ?_
      refine slv_iconst (v := nI 0) eX12_grammar_1 (by decide) ?_
      refine slr_pi eX12_grammar_2 fX12_149 (Nat.le_of_ble_eq_true rfl) rf_s0 ?_
      refine slv_iload_n eX12_grammar_5 rfl ?_
      refine slv_if_lt eX12_grammar_6 (fun h6 => ?_) (fun h6 => ?_)
      · refine slv_aload_n eX12_grammar_17 rfl ?_
        refine slv_iconst (v := nI 2) eX12_grammar_18 (by decide) ?_
        refine slv_rV (As := [_]) eX12_grammar_19 lX12_155 rfl rfl rf_68 rfl (c_X12_refused 2) (by decide) (Nat.le_of_ble_eq_true rfl) ?_
        refine slv_iret eX12_grammar_22 rfl ?_
        exact ⟨rfl, rfl⟩
      · refine slv_iload_n eX12_grammar_9 rfl ?_
        refine slv_aload_n eX12_grammar_10 rfl ?_
        refine slr_gi eX12_grammar_11 fX12_302 rfl (by repeat (first | exact sl_u_eq | assumption | apply rf_ne (by decide) | exact rfl)) ?_
        refine slv_icmp_le eX12_grammar_14 (fun h14 => absurd h14 (fun q => c (vi_le1 (by omega) q))) (fun h14 => ?_)
        refine slv_aload_n eX12_grammar_17 rfl ?_
        refine slv_iconst (v := nI 2) eX12_grammar_18 (by decide) ?_
        refine slv_rV (As := [_]) eX12_grammar_19 lX12_155 rfl rfl rf_68 rfl (c_X12_refused 2) (by decide) (Nat.le_of_ble_eq_true rfl) ?_
        refine slv_iret eX12_grammar_22 rfl ?_
        exact ⟨rfl, rfl⟩
  | some ln =>
    simp only
    obtain ⟨hx, hln⟩ := vi_some hv
    subst hx
    have hA := rm_readAll (v := sl_u (sl_u (sl_u (sl_u (sl_u v 0 (nI 0)) 29 (nI ln)) 28 (nI 0)) 30 (nI 0)) 34 (nI 0)) (w := w) (nm := nm) (M := M) (ln := ln) hS h27 (by omega) rfl rfl rfl h2 h4 hok
    have hkE := gpo_k_run (f := f) (ln + 1) (gp_R0 R, gp_g0 g) (gpo_k_0 (ln := ln) h2 h4 hok)
    have hpE : ∀ r, sg_put (gp_run f ln (ln + 1) (gp_R0 R, gp_g0 g)).2 r = false := fun r => by rw [run_put]; rfl
    unfold gr_E
    generalize gp_run f ln (ln + 1) (gp_R0 R, gp_g0 g) = E at *
    have hokE := hkE.2.2.2.2.1
    have hr12 : sg_rules E.2 ≤ 12 := hokE.2.1
    refine slv_aload_n eX12_grammar_0 rfl ?_
    refine slv_iconst (v := nI 0) eX12_grammar_1 (by decide) ?_
    refine slr_pi eX12_grammar_2 fX12_149 (Nat.le_of_ble_eq_true rfl) rf_s0 ?_
    refine slv_iload_n eX12_grammar_5 rfl ?_
    refine slv_if_lt eX12_grammar_6 (fun h6 => absurd h6 (vi_neg (by omega))) (fun h6 => ?_)
    refine slv_iload_n eX12_grammar_9 rfl ?_
    refine slv_aload_n eX12_grammar_10 rfl ?_
    refine slr_gi eX12_grammar_11 fX12_302 rfl (by repeat (first | exact sl_u_eq | assumption | apply rf_ne (by decide) | exact rfl)) ?_
    refine slv_icmp_leN eX12_grammar_14 (by omega) (by omega) (fun h14 => ?_) (fun h14 => absurd h14 (by omega))
    refine slv_aload_n eX12_grammar_23 rfl ?_
    refine slv_iload_n eX12_grammar_24 rfl ?_
    refine slr_pi eX12_grammar_25 fX12_162 (Nat.le_of_ble_eq_true rfl) rf_s29 ?_
    refine slv_aload_n eX12_grammar_28 rfl ?_
    refine slv_iconst (v := nI 0) eX12_grammar_29 (by decide) ?_
    refine slr_pi eX12_grammar_30 fX12_302 (Nat.le_of_ble_eq_true rfl) rf_s28 ?_
    refine slv_aload_n eX12_grammar_33 rfl ?_
    refine slv_iconst (v := nI 0) eX12_grammar_34 (by decide) ?_
    refine slr_pi eX12_grammar_35 fX12_168 (Nat.le_of_ble_eq_true rfl) rf_s30 ?_
    refine slv_aload_n eX12_grammar_38 rfl ?_
    refine slv_iconst (v := nI 0) eX12_grammar_39 (by decide) ?_
    refine slr_pi eX12_grammar_40 fX12_165 (Nat.le_of_ble_eq_true rfl) rf_s34 ?_
    refine slv_aload_n eX12_grammar_43 rfl ?_
    refine slv_callV (As := []) eX12_grammar_44 lX12_305 rfl rfl rf_68 rfl hA (by decide) (Nat.le_of_ble_eq_true rfl) (Nat.zero_add _).symm (Nat.zero_add _).symm (Or.inl rfl) ?_
    rintro _ _ ⟨rfl, v1, w1, a1, nm1, rfl, hfr, hO⟩
    skip
    have hv1 : ∀ k, k ∉ rg_v → v1 k = v k := fun k hk => by
      rw [hfr.1 k (fun q => hk (by revert q; simp [rg_v]; omega)), sl_u_ne (fun e => hk (by rw [e]; decide)), sl_u_ne (fun e => hk (by rw [e]; decide)), sl_u_ne (fun e => hk (by rw [e]; decide)), sl_u_ne (fun e => hk (by rw [e]; decide)), sl_u_ne (fun e => hk (by rw [e]; decide))]
    have ht1 : v1 0 = nI 0 := hfr.1 _ (by decide)
    have ht2 : v1 28 = nI 0 := hfr.1 _ (by decide)
    have ha1 : ∀ k, k ∉ rg_a → a1 k = a k := hfr.2
    rcases hO with ⟨o1, o2, o3, o4, o5, o6, o7⟩ | ⟨o1, o2, o3, o4⟩
    · simp only [show ¬ 0 < gr_fa E.1 from by omega, if_false]
      have hT := c_X12_takesOver (w := w1) (M := M) o4 o5 hokE o6 hpE (show rf_z0 a1 from ⟨by rw [ha1 _ (by decide), ha1 _ (by decide)]; exact hz.1, by rw [ha1 _ (by decide)]; exact hz.2⟩)
      refine slv_aload_n eX12_grammar_47 rfl ?_
      refine slr_gi eX12_grammar_48 fX12_165 rfl (by repeat (first | exact sl_u_eq | assumption | apply rf_ne (by decide) | exact rfl)) ?_
      refine slv_if_leN eX12_grammar_51 (by omega) (fun h51 => ?_) (fun h51 => absurd h51 (by omega))
      refine slv_aload_n eX12_grammar_69 rfl ?_
      refine slv_callV (As := []) eX12_grammar_70 lX12_308 rfl rfl rf_68 rfl hT (by decide) (Nat.le_of_ble_eq_true rfl) (Nat.zero_add _).symm (Nat.zero_add _).symm (Or.inl rfl) ?_
      rintro _ _ ⟨rfl, v2, a2, rfl, q1, q2, q3, q4, q5, q6, q7, q8⟩
      have hr2 : v2 14 = nI (sg_rules E.2) := q7.1
      refine slv_aload_n eX12_grammar_73 rfl ?_
      refine slv_aload_n eX12_grammar_74 rfl ?_
      refine slr_gi eX12_grammar_75 fX12_311 rfl (by repeat (first | exact sl_u_eq | assumption | apply rf_ne (by decide) | exact rfl)) ?_
      refine slv_rV (As := [_]) eX12_grammar_78 lX12_314 rfl rfl rf_68 rfl (c_X12_good _) (by decide) (Nat.le_of_ble_eq_true rfl) ?_
      refine slv_iret eX12_grammar_81 rfl ?_
      refine ⟨rfl, _, _, _, _, rfl, fun k hk => ?_, fun k hk => ?_, ?_, rfl, rfl, ?_, ?_, q3, q4, q5, q6, rf_G_same q7 (fun k hk => ?_) (fun k hk => rfl), ?_, o6⟩
      · show sl_u (sl_u v2 1 (nI 0)) 2 (-1) k = v k
        rw [sl_u_ne (fun e => hk (by rw [e]; decide)), sl_u_ne (fun e => hk (by rw [e]; decide)), q1 k (fun q => hk (List.mem_append_left _ q)), hv1 k (fun q => hk (List.mem_append_right _ q))]
      · rw [q2 k (fun q => hk (List.mem_append_left _ q)), ha1 k (fun q => hk (List.mem_append_right _ q))]
      · exact (q1 _ (by decide)).trans ht1
      · exact (q1 _ (by decide)).trans o3
      · exact (q1 _ (by decide)).trans ht2
      · show sl_u (sl_u v2 1 (nI 0)) 2 (-1) k = v2 k
        have h1 : k ≠ 2 := by revert hk; simp; omega
        have h2 : k ≠ 1 := by revert hk; simp; omega
        rw [sl_u_ne h1, sl_u_ne h2]
      · obtain ⟨z1, z2, z3, z4⟩ := q8
        exact ⟨z1, z2, z3, fun rk ba => rf_Kv (z4 rk ba) rfl⟩
    · simp only [o1, if_true]
      refine slv_aload_n eX12_grammar_47 rfl ?_
      refine slr_gi eX12_grammar_48 fX12_165 rfl (by repeat (first | exact sl_u_eq | assumption | apply rf_ne (by decide) | exact rfl)) ?_
      refine slv_if_leN eX12_grammar_51 (by omega) (fun h51 => absurd h51 (by omega)) (fun h51 => ?_)
      refine slv_aload_n eX12_grammar_54 rfl ?_
      refine slv_iconst (v := nI 4) eX12_grammar_55 (by decide) ?_
      refine slr_pi eX12_grammar_56 fX12_152 (Nat.le_of_ble_eq_true rfl) rf_s1 ?_
      refine slv_aload_n eX12_grammar_59 rfl ?_
      refine slv_aload_n eX12_grammar_60 rfl ?_
      refine slr_gi eX12_grammar_61 fX12_174 rfl (by repeat (first | exact sl_u_eq | assumption | apply rf_ne (by decide) | exact rfl)) ?_
      refine slr_pi eX12_grammar_64 fX12_9 (Nat.le_of_ble_eq_true rfl) rf_s2 ?_
      refine slv_iconst (v := (-1)) eX12_grammar_67 (by decide) ?_
      refine slv_iret eX12_grammar_68 rfl ?_
      refine ⟨rfl, _, _, _, _, rfl, fun k hk => ?_, ha1, ht1, rfl, ?_, o3, ht2⟩
      · rw [sl_u_ne (fun e => hk (by rw [e]; decide)), sl_u_ne (fun e => hk (by rw [e]; decide)), hv1 k hk]
      · first | exact o4 | rfl
end RGO

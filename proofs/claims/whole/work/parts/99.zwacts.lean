/-! aside, undo: both answer alike -/
section AGB
variable {C : cT} {v : Nat → Int32} {w : Int64} {a : Nat → Nat → Int32} {nm : Nat → Int64} {M : sl_M}
/-- all is laid anew over g' -/
abbrev cT.wlay (C : cT) (g' : sg_T) (c : Nat) (ak : Nat → Option Nat) (av : Nat → Nat) : cT := ((C.fd, C.db, C.sb, C.sn, false, C.lf, 0, C.lp), C.2.1, (g', C.gs), C.2.2.2.1, (sg_terms g', (rl_LT g').1, (rl_LT g').2, rl_S g'), ((lk_F (rl_S g') (sg_terms g') C.rk C.ba).1, sg_terms g', (lk_F (rl_S g') (sg_terms g') C.rk C.ba).2.1, lk_K (rl_S g') (sg_terms g'), lk_N (rl_S g') (sg_terms g') (lk_F (rl_S g') (sg_terms g') C.rk C.ba).1, (lk_F (rl_S g') (sg_terms g') C.rk C.ba).2.2, lk_A (rl_S g') (sg_terms g'), lk_R (rl_S g') (sg_terms g')), (c, ak, av), C.2.2.2.2.2.2.2)
set_option maxRecDepth 100000 in
theorem clA_lay (hK : clK C) (hA : clA C M) (g' : sg_T) (c : Nat) (ak : Nat → Option Nat) (av : Nat → Nat) : clA (C.wlay g' c ak av) (ob_set C.fd C.db C.sb C.sn false C.lf 0 C.lp (sd_set g' C.rk C.ba (gp_G C.db g' (ac_set c (fun i => sl_io (ak i)) (fun i => nI (av i)) M)))) := by
  have hb : C.db = 2 ∨ C.db = 10 := by have := hK.1; omega
  have hb2 : C.sb = 2 ∨ C.sb = 10 := by have := hK.1; omega
  obtain ⟨g0, g1, g2, g3, g4, g5, g6, g7, g8, g9, g10⟩ := hA
  have p : ∀ k {x : sl_E}, 32 < k → k < 68 → M k = x → ob_set C.fd C.db C.sb C.sn false C.lf 0 C.lp (sd_set g' C.rk C.ba (gp_G C.db g' (ac_set c (fun i => sl_io (ak i)) (fun i => nI (av i)) M))) k = x := fun k x h1 h2 h => (ob_out (by omega)).trans ((ld_out (by omega)).trans ((rl_out (by omega)).trans ((gs_out (by omega)).trans ((ac_out (by omega)).trans h))))
  exact ⟨ob_of, t_ob_1 (t_ld_1 (t_rl_1 (t_gs_1 hb (t_ac_1 g1)))), t_ob_sg hb (t_ld_sg hb (t_rl_sg hb gp_Gof)), t_ob_sg hb2 (t_ld_sg hb2 (t_rl_sg hb2 (t_gs_sg hb2 hb (by have := hK.1; omega) (t_ac_sg hb2 g3)))), t_ob_gr (t_ld_gr (t_rl_gr (t_gs_gr hb (t_ac_gr g4)))), t_ob_rl (t_ld_rl rl_of), t_ob_ld ld_of, t_ob_ac (t_ld_ac (t_rl_ac (t_gs_ac hb ac_of))), ⟨p 33 (by decide) (by decide) g8.1, p 34 (by decide) (by decide) g8.2.1, p 35 (by decide) (by decide) g8.2.2.1, p 36 (by decide) (by decide) g8.2.2.2.1, p 37 (by decide) (by decide) g8.2.2.2.2⟩, t_ob_rg (Or.inl rfl) (t_ld_rg (Or.inl rfl) (t_rl_rg (Or.inl rfl) (t_gs_rg (Or.inl rfl) hb (t_ac_rg (Or.inl rfl) g9)))), t_ob_rg (Or.inr rfl) (t_ld_rg (Or.inr rfl) (t_rl_rg (Or.inr rfl) (t_gs_rg (Or.inr rfl) hb (t_ac_rg (Or.inr rfl) g10))))⟩
set_option maxRecDepth 100000 in
/-- what moved goes on to hold -/
theorem lwI_lay (hK : clK C) (hA : clA C M) (hS : rf_S v w a nm M = M) (h113 : ∃ z : Nat → Int64, M 113 = .inl (.long, 1, .inr (.inl z))) (hR : lwR C v a) (hsn : C.sn = true) {g' : sg_T} {c : Nat} {ak : Nat → Option Nat} {av : Nat → Nat} {vk aq : List Nat} {v' : Nat → Int32} {a' : Nat → Nat → Int32} (hok' : sg_ok g') (hst' : sg_str g') (hz' : sg_z g') (hc : c ≤ 10) (hmv : rf_moved g' v a vk aq v' a') (hvk : ∀ k, k ∈ vk → k ∈ [22, 23, 26]) (haq : ∀ k, k ∈ aq → k ∈ [24, 25]) (h26 : v' 26 = nI c) (hG : rf_G g' v' a') (hac : ac_ok c g' ak av v' a') : lwI (rf_S v' w a' nm (ob_set C.fd C.db C.sb C.sn false C.lf 0 C.lp (sd_set g' C.rk C.ba (gp_G C.db g' (ac_set c (fun i => sl_io (ak i)) (fun i => nI (av i)) M))))) := by
  have hb : C.db = 2 ∨ C.db = 10 := by have := hK.1; omega
  have hA1 := clA_lay hK hA g' c ak av
  have hout : ∀ k, 68 ≤ k → (ob_set C.fd C.db C.sb C.sn false C.lf 0 C.lp (sd_set g' C.rk C.ba (gp_G C.db g' (ac_set c (fun i => sl_io (ak i)) (fun i => nI (av i)) M)))) k = M k := fun k hk => (ob_out (by omega)).trans ((ld_out (by omega)).trans ((rl_out (by omega)).trans ((gs_out (by omega)).trans (ac_out (by omega)))))
  generalize ob_set C.fd C.db C.sb C.sn false C.lf 0 C.lp (sd_set g' C.rk C.ba (gp_G C.db g' (ac_set c (fun i => sl_io (ak i)) (fun i => nI (av i)) M))) = M1 at *
  have he11 : sg_terms g' ≤ 11 := hok'.2.2.2.1
  obtain ⟨m1, m2, m3, m4, m5, m6, m7⟩ := hmv
  obtain ⟨-, -, -, -, z5, z6, z7⟩ := m7.2.2.2 C.rk C.ba
  refine ⟨C.wlay g' c ak av, v', w, a', nm, clA_lo hK.1 hA1 (fun k hk => rf_lo hk), rf_rf, h113.imp (fun z hz => (rf_hi (by decide)).trans ((hout 113 (by decide)).trans hz)), ?_, ?_⟩
  · exact ⟨hK.1, ⟨hK.2.1.1, (show (0 : Nat) < 100 by decide), hc, he11⟩, ⟨hok', hK.2.2.1.2.1, hz', hK.2.2.1.2.2.2⟩, hK.2.2.2.1, ⟨rl_LT_6 hok', rl_S_144 hok' hst'⟩, fun p hp => ⟨lk_K_z p hp, lk_A_z he11 p hp, lk_R_z he11 p hp, lk_N_z p hp, lk_F_z (fun p hp => (hK.2.2.2.2.2.1 p hp).2.2.2.2) p hp⟩, ⟨z6, z7, z5⟩, hK.2.2.2.2.2.2.2⟩
  · obtain ⟨⟨a1, a2, a3, a4, a5, a6, a7, a8, a9⟩, b1, b2, b3, b4⟩ := hR
    have hv : ∀ k, k ∈ [34, 28, 21] → v' k = v k := fun k hk => m1 k (fun q => by
      simp only [List.mem_cons] at q
      rcases q with q | q | q | q | q | q
      · rw [q] at hk; revert hk; decide
      · rw [q] at hk; revert hk; decide
      · rw [q] at hk; revert hk; decide
      · rw [q] at hk; revert hk; decide
      · rw [q] at hk; revert hk; decide
      · have := hvk k q
        simp only [List.mem_cons, List.mem_nil_iff, or_false] at this hk
        omega)
    have ha : a' 27 = a 27 := m6 27 (fun q => by
      simp only [List.mem_cons] at q
      rcases q with q | q | q | q | q | q | q | q | q | q
      all_goals (first | (exact absurd q (by decide)) | (have := haq _ q; revert this; decide)))
    exact ⟨⟨m3, m4, (hv _ (by decide)).trans a3, (hv _ (by decide)).trans a4, ha.trans a5, (hv _ (by decide)).trans a6, m5, h26, rf_z0_laid hok' hst' m7⟩, fun e => (by have e' : C.sn = false := e; rw [hsn] at e'; cases e'), fun _ => ⟨hst', hG, m7, rfl, rfl, rfl, rfl, rfl, C.rk, C.ba, rfl, rfl, rfl, rfl⟩, hac, fun e => (by cases e)⟩
end AGB

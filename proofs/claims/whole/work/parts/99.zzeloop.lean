/-! the law: the loop -/
theorem and_63 (x : Int32) : ∃ k, k < 64 ∧ x &&& nI 63 = nI k := by
  refine ⟨(x &&& nI 63).toBitVec.toNat, ?_, ?_⟩
  · rw [Int32.toBitVec_and, BitVec.toNat_and]
    have h : (nI 63).toBitVec.toNat = 63 := by decide
    rw [h]
    have := Nat.and_le_right (n := x.toBitVec.toNat) (m := 63)
    omega
  · apply Int32.toBitVec_inj.mp
    show _ = BitVec.ofNat 32 _
    rw [BitVec.ofNat_toNat, BitVec.setWidth_eq]
theorem lt_m6 {i L : Nat} (hi : i < 100000) (hL : L < 100000) : nI L - nI 6 < nI i ↔ L < i + 6 := by
  by_cases h : 6 ≤ L
  · rw [nI_sub h, nI_lt_iff (by omega) (by omega)]
    omega
  · refine ⟨fun _ => by omega, fun _ => ?_⟩
    have h0 : ∀ k, k < 6 → nI k - nI 6 < nI 0 := by decide
    have h1 : nI 0 ≤ nI i := ge_nI0.mpr (by rw [nI_toInt (by omega)]; omega)
    exact Int32.lt_of_lt_of_le (h0 L (by omega)) h1
section LWL
variable {L : Nat} {xs : Nat → Int32} {mB sB : Nat} {Q : Option Value → sl_M → Prop}
def zok (z : Option Value) : Prop := z = none ∨ ∃ x, z = some (.int x)
set_option maxRecDepth 100000 in
theorem lw_body (hRR : rr_all) (hSS : st_all) (hB : ba_all mB sB) {kc ks i : Nat} {z5 z6 : Option Value} {M : sl_M} (hI : lwI M) (hi : i + 6 ≤ L) (hL : L ≤ 3072) (h5 : zok z5) (h6 : zok z6) (fin : ∀ M' z5 z6, lwI M' → zok z5 → zok z6 → sl_V YL_law (some (L, xs)) 70 kc ks Q 1115 [some (.ref (sl_X + 500)), some (.ref 0), some (.ref 68), some (.ref 113), some (.int (nI i)), z5, z6] [] M') : sl_V YL_law (some (L, xs)) 70 (mB + kc) (sB + ks) Q 33 [some (.ref (sl_X + 500)), some (.ref 0), some (.ref 68), some (.ref 113), some (.int (nI i)), z5, z6] [] M := by
  have fin2 : ∀ M', lwI M' → sl_V YL_law (some (L, xs)) 70 (mB + kc) (sB + ks) Q 1115 [some (.ref (sl_X + 500)), some (.ref 0), some (.ref 68), some (.ref 113), some (.int (nI i)), z5, z6] [] M' := fun M' h => slv_less (by omega) (by omega) (fin M' z5 z6 h h5 h6)
  refine slv_aload_n eL_law_33 rfl ?_
  refine slv_iload eL_law_34 rfl ?_
  refine slv_sldN eL_law_36 rfl (by omega) (by omega) ?_
  refine slv_bipush (v := nI 63) eL_law_37 (by decide) ?_
  obtain ⟨k, hk, e⟩ := and_63 (xs i)
  refine slv_iand eL_law_39 ?_
  rw [e]
  by_cases h34 : k ≤ 34
  · rcases (show k = 0 ∨ k = 1 ∨ k = 2 ∨ k = 3 ∨ k = 4 ∨ k = 5 ∨ k = 6 ∨ k = 7 ∨ k = 8 ∨ k = 9 ∨ k = 10 ∨ k = 11 ∨ k = 12 ∨ k = 13 ∨ k = 14 ∨ k = 15 ∨ k = 16 ∨ k = 17 ∨ k = 18 ∨ k = 19 ∨ k = 20 ∨ k = 21 ∨ k = 22 ∨ k = 23 ∨ k = 24 ∨ k = 25 ∨ k = 26 ∨ k = 27 ∨ k = 28 ∨ k = 29 ∨ k = 30 ∨ k = 31 ∨ k = 32 ∨ k = 33 ∨ k = 34 by omega) with q | q | q | q | q | q | q | q | q | q | q | q | q | q | q | q | q | q | q | q | q | q | q | q | q | q | q | q | q | q | q | q | q | q | q
    · subst q
      refine slv_tableIn (off := 156) (t := 196) eL_law_40 (by decide) (by decide) (by decide) (by decide) ?_
      exact lo_feed  hI hi hL fin2
    · subst q
      refine slv_tableIn (off := 229) (t := 269) eL_law_40 (by decide) (by decide) (by decide) (by decide) ?_
      exact lo_grammar hSS hI hi hL fin2
    · subst q
      refine slv_tableIn (off := 254) (t := 294) eL_law_40 (by decide) (by decide) (by decide) (by decide) ?_
      exact lo_fault  hI hi hL fin2
    · subst q
      refine slv_tableIn (off := 267) (t := 307) eL_law_40 (by decide) (by decide) (by decide) (by decide) ?_
      exact lo_where  hI hi hL fin2
    · subst q
      refine slv_tableIn (off := 280) (t := 320) eL_law_40 (by decide) (by decide) (by decide) (by decide) ?_
      exact lo_about  hI hi hL fin2
    · subst q
      refine slv_tableIn (off := 305) (t := 345) eL_law_40 (by decide) (by decide) (by decide) (by decide) ?_
      exact lo_rule  hI hi hL fin2
    · subst q
      refine slv_tableIn (off := 342) (t := 382) eL_law_40 (by decide) (by decide) (by decide) (by decide) ?_
      exact lo_item  hI hi hL fin2
    · subst q
      refine slv_tableIn (off := 379) (t := 419) eL_law_40 (by decide) (by decide) (by decide) (by decide) ?_
      exact lo_sign  hI hi hL fin2
    · subst q
      refine slv_tableIn (off := 404) (t := 444) eL_law_40 (by decide) (by decide) (by decide) (by decide) ?_
      exact lo_edge  hI hi hL fin2
    · subst q
      refine slv_tableIn (off := 441) (t := 481) eL_law_40 (by decide) (by decide) (by decide) (by decide) ?_
      exact lo_relation  hI hi hL fin2
    · subst q
      refine slv_tableIn (off := 478) (t := 518) eL_law_40 (by decide) (by decide) (by decide) (by decide) ?_
      exact lo_related  hI hi hL fin2
    · subst q
      refine slv_tableIn (off := 503) (t := 543) eL_law_40 (by decide) (by decide) (by decide) (by decide) ?_
      exact lo_clashes  hI hi hL fin2
    · subst q
      refine slv_tableIn (off := 516) (t := 556) eL_law_40 (by decide) (by decide) (by decide) (by decide) ?_
      exact lo_clash  hI hi hL fin2
    · subst q
      refine slv_tableIn (off := 541) (t := 581) eL_law_40 (by decide) (by decide) (by decide) (by decide) ?_
      exact lo_doubles  hI hi hL fin2
    · subst q
      refine slv_tableIn (off := 554) (t := 594) eL_law_40 (by decide) (by decide) (by decide) (by decide) ?_
      exact lo_function  hI hi hL fin2
    · subst q
      refine slv_tableIn (off := 591) (t := 631) eL_law_40 (by decide) (by decide) (by decide) (by decide) ?_
      exact lo_highest  hI hi hL fin2
    · subst q
      refine slv_tableIn (off := 604) (t := 644) eL_law_40 (by decide) (by decide) (by decide) (by decide) ?_
      exact lo_hidden  hI hi hL fin2
    · subst q
      refine slv_tableIn (off := 629) (t := 669) eL_law_40 (by decide) (by decide) (by decide) (by decide) ?_
      exact lo_knotted  hI hi hL fin2
    · subst q
      refine slv_tableIn (off := 642) (t := 682) eL_law_40 (by decide) (by decide) (by decide) (by decide) ?_
      exact lo_ring  hI hi hL fin2
    · subst q
      refine slv_tableIn (off := 655) (t := 695) eL_law_40 (by decide) (by decide) (by decide) (by decide) ?_
      exact lo_ringAt  hI hi hL fin2
    · subst q
      refine slv_tableIn (off := 680) (t := 720) eL_law_40 (by decide) (by decide) (by decide) (by decide) ?_
      exact lo_formula hRR hSS hI hi hL fin2
    · subst q
      refine slv_tableIn (off := 717) (t := 757) eL_law_40 (by decide) (by decide) (by decide) (by decide) ?_
      exact lo_read  hI hi hL fin2
    · subst q
      refine slv_tableIn (off := 742) (t := 782) eL_law_40 (by decide) (by decide) (by decide) (by decide) ?_
      exact lo_reduced  hI hi hL fin2
    · subst q
      refine slv_tableIn (off := 767) (t := 807) eL_law_40 (by decide) (by decide) (by decide) (by decide) ?_
      exact lo_node  hI hi hL fin2
    · subst q
      refine slv_tableIn (off := 804) (t := 844) eL_law_40 (by decide) (by decide) (by decide) (by decide) ?_
      exact lo_under  hI hi hL fin2
    · subst q
      refine slv_tableIn (off := 841) (t := 881) eL_law_40 (by decide) (by decide) (by decide) (by decide) ?_
      exact lo_value hRR hI hi hL fin2
    · subst q
      refine slv_tableIn (off := 866) (t := 906) eL_law_40 (by decide) (by decide) (by decide) (by decide) ?_
      exact lo_third hRR hI fin2
    · subst q
      refine slv_tableIn (off := 880) (t := 920) eL_law_40 (by decide) (by decide) (by decide) (by decide) ?_
      exact lo_otherwise hRR hI hi hL fin2
    · subst q
      refine slv_tableIn (off := 893) (t := 933) eL_law_40 (by decide) (by decide) (by decide) (by decide) ?_
      exact lo_later hRR hI hi hL fin2
    · subst q
      refine slv_tableIn (off := 906) (t := 946) eL_law_40 (by decide) (by decide) (by decide) (by decide) ?_
      exact lo_aside  hI hi hL fin2
    · subst q
      refine slv_tableIn (off := 943) (t := 983) eL_law_40 (by decide) (by decide) (by decide) (by decide) ?_
      exact lo_kind  hI hi hL fin2
    · subst q
      refine slv_tableIn (off := 968) (t := 1008) eL_law_40 (by decide) (by decide) (by decide) (by decide) ?_
      exact lo_undo  hI hi hL fin2
    · subst q
      refine slv_tableIn (off := 981) (t := 1021) eL_law_40 (by decide) (by decide) (by decide) (by decide) ?_
      exact lo_barren hB hI hi hL h5 h6 (fun M' x y h => fin M' _ _ h (Or.inr ⟨x, rfl⟩) (Or.inr ⟨y, rfl⟩))
    · subst q
      refine slv_tableIn (off := 1037) (t := 1077) eL_law_40 (by decide) (by decide) (by decide) (by decide) ?_
      exact lo_size  hI hi hL fin2
    · subst q
      refine slv_tableIn (off := 1062) (t := 1102) eL_law_40 (by decide) (by decide) (by decide) (by decide) ?_
      exact lo_trouble  hI hi hL fin2
  · refine slv_tableOut (t := 1115) eL_law_40 (by rw [nI_toInt (by omega)]; omega) (by decide) ?_
    exact fin2 M hI
set_option maxRecDepth 100000 in
theorem lw_loop (hRR : rr_all) (hSS : st_all) (hB : ba_all mB sB) (hL : L ≤ 3072) (hQ : ∀ M, Q (some (.int (nI 1))) M) : ∀ (n i : Nat) (z5 z6 : Option Value) (M : sl_M), i ≤ 3078 → L < i + 6 * n + 6 → lwI M → zok z5 → zok z6 → sl_V YL_law (some (L, xs)) 70 (n * mB) (n * sB) Q 23 [some (.ref (sl_X + 500)), some (.ref 0), some (.ref 68), some (.ref 113), some (.int (nI i)), z5, z6] [] M := by
  have hend : ∀ (kc ks i : Nat) (z5 z6 : Option Value) (M : sl_M), i ≤ 3078 → L < i + 6 → sl_V YL_law (some (L, xs)) 70 kc ks Q 23 [some (.ref (sl_X + 500)), some (.ref 0), some (.ref 68), some (.ref 113), some (.int (nI i)), z5, z6] [] M := by
    intro kc ks i z5 z6 M hi h
    refine slv_iload eL_law_23 rfl ?_
    refine slv_aload_n eL_law_25 rfl ?_
    refine slv_slen eL_law_26 rfl ?_
    refine slv_bipush (v := nI 6) eL_law_27 (by decide) ?_
    refine slv_isub eL_law_29 ?_
    refine slv_icmp_gt eL_law_30 (fun _ => ?_) (fun g => absurd ((lt_m6 (by omega) (by omega)).mpr h) g)
    refine slv_iconst (v := nI 1) eL_law_1121 (by decide) ?_
    refine slv_zret eL_law_1122 rfl rfl ?_
    exact hQ M
  intro n
  induction n with
  | zero => intro i z5 z6 M hi h _ _ _; exact hend _ _ i z5 z6 M hi (by omega)
  | succ n ih =>
    intro i z5 z6 M hi h hI h5 h6
    by_cases h0 : L < i + 6
    · exact hend _ _ i z5 z6 M hi h0
    · refine slv_iload eL_law_23 rfl ?_
      refine slv_aload_n eL_law_25 rfl ?_
      refine slv_slen eL_law_26 rfl ?_
      refine slv_bipush (v := nI 6) eL_law_27 (by decide) ?_
      refine slv_isub eL_law_29 ?_
      refine slv_icmp_gt eL_law_30 (fun g => absurd ((lt_m6 (by omega) (by omega)).mp g) h0) (fun _ => ?_)
      rw [show (n + 1) * mB = mB + n * mB by rw [Nat.succ_mul, Nat.add_comm], show (n + 1) * sB = sB + n * sB by rw [Nat.succ_mul, Nat.add_comm]]
      refine lw_body hRR hSS hB hI (by omega) hL h5 h6 (fun M' z5 z6 hI' h5 h6 => ?_)
      refine slv_iinc (y := nI (i + 6)) (lv' := [_, _, _, _, _, _, _]) eL_law_1115 rfl (by decide) (by rw [show Int32.ofInt 6 = nI 6 from by decide, nI_add']) rfl ?_
      refine slv_goto eL_law_1118 ?_
      exact ih (i + 6) z5 z6 M' (by omega) (by omega) hI' h5 h6
end LWL

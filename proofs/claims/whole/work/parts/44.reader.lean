section GRH
variable {b ln : Nat} {R : gr_T} {g : sg_T} {M : sl_M} {f : Nat → Int32}
set_option maxRecDepth 100000 in
theorem c_X3_takeToken (hS : st_all) (hb : b = 2 ∨ b = 10) (h : gpo_k ln R g) : sl_R YX3_takeToken 8 [.ref 18] (gp_S b ln R g M) none (gp_S b ln (gp_take R g).1 (gp_take R g).2 M) := by
  obtain ⟨a1, a2, a3, a4, a5, a6, a7, a8⟩ := h
  have d2 : sg_rules g ≤ 12 := a5.2.1
  have hF := fun k => c_X3_failWith (b := b) (ln := ln) (R := R) (g := g) (M := M) k
  refine sl_T.of_V (lv := [_]) (by decide) rfl (Nat.le_of_ble_eq_true rfl) ?_
  rcases (show gr_st R = 0 ∨ gr_st R = 1 ∨ gr_st R = 2 ∨ gr_st R = 3 ∨ gr_st R = 4 ∨ gr_st R = 5 ∨ gr_st R = 6 ∨ gr_st R = 7 by omega) with e | e | e | e | e | e | e | e
  · refine slv_aload_n eX3_takeToken_0 rfl ?_
    refine slv_getf eX3_takeToken_1 fX3_60 (by repeat (first | assumption | exact sl_up_eq | refine sl_up_ne (by first | decide | omega) ?_)) rfl ?_
    refine slv_iconst (v := nI 4) eX3_takeToken_4 (by decide) ?_
    refine slv_icmp_neN eX3_takeToken_5 (by omega) (by omega) (fun h5 => ?_) (fun h5 => ?_)
    · refine slv_aload_n eX3_takeToken_14 rfl ?_
      refine slv_getf eX3_takeToken_15 fX3_31 (by repeat (first | assumption | exact sl_up_eq | refine sl_up_ne (by first | decide | omega) ?_)) rfl ?_
      refine slv_top (w := .int (nI 0)) (by rw [e]) ?_
      refine slv_tableIn (off := 42) (t := 60) eX3_takeToken_18 (by decide) (by decide) (by decide) (by decide) ?_
      refine slv_aload_n eX3_takeToken_60 rfl ?_
      refine slv_rV (As := []) eX3_takeToken_61 lX3_94 rfl rfl (by repeat (first | assumption | exact sl_up_eq | refine sl_up_ne (by first | decide | omega) ?_)) rfl (c_X3_takeLine hS hb a2 d2) (by decide) (Nat.le_of_ble_eq_true rfl) ?_
      refine slv_goto eX3_takeToken_64 ?_
      refine slv_vret eX3_takeToken_106 rfl ?_
      exact ⟨rfl, by rw [gp_take, if_neg h5, e]; rfl⟩
    · refine slv_aload_n eX3_takeToken_8 rfl ?_
      refine slv_iconst (v := nI 1) eX3_takeToken_9 (by decide) ?_
      refine slv_rV (As := [_]) eX3_takeToken_10 lX3_90 rfl rfl (by repeat (first | assumption | exact sl_up_eq | refine sl_up_ne (by first | decide | omega) ?_)) rfl (hF 1) (by decide) (Nat.le_of_ble_eq_true rfl) ?_
      refine slv_vret eX3_takeToken_13 rfl ?_
      exact ⟨rfl, by rw [gp_take, if_pos h5]⟩
  · refine slv_aload_n eX3_takeToken_0 rfl ?_
    refine slv_getf eX3_takeToken_1 fX3_60 (by repeat (first | assumption | exact sl_up_eq | refine sl_up_ne (by first | decide | omega) ?_)) rfl ?_
    refine slv_iconst (v := nI 4) eX3_takeToken_4 (by decide) ?_
    refine slv_icmp_neN eX3_takeToken_5 (by omega) (by omega) (fun h5 => ?_) (fun h5 => ?_)
    · refine slv_aload_n eX3_takeToken_14 rfl ?_
      refine slv_getf eX3_takeToken_15 fX3_31 (by repeat (first | assumption | exact sl_up_eq | refine sl_up_ne (by first | decide | omega) ?_)) rfl ?_
      refine slv_top (w := .int (nI 1)) (by rw [e]) ?_
      refine slv_tableIn (off := 49) (t := 67) eX3_takeToken_18 (by decide) (by decide) (by decide) (by decide) ?_
      refine slv_aload_n eX3_takeToken_67 rfl ?_
      refine slv_rV (As := []) eX3_takeToken_68 lX3_97 rfl rfl (by repeat (first | assumption | exact sl_up_eq | refine sl_up_ne (by first | decide | omega) ?_)) rfl (c_X3_takeKind hS hb a2) (by decide) (Nat.le_of_ble_eq_true rfl) ?_
      refine slv_goto eX3_takeToken_71 ?_
      refine slv_vret eX3_takeToken_106 rfl ?_
      exact ⟨rfl, by rw [gp_take, if_neg h5, e]; rfl⟩
    · refine slv_aload_n eX3_takeToken_8 rfl ?_
      refine slv_iconst (v := nI 1) eX3_takeToken_9 (by decide) ?_
      refine slv_rV (As := [_]) eX3_takeToken_10 lX3_90 rfl rfl (by repeat (first | assumption | exact sl_up_eq | refine sl_up_ne (by first | decide | omega) ?_)) rfl (hF 1) (by decide) (Nat.le_of_ble_eq_true rfl) ?_
      refine slv_vret eX3_takeToken_13 rfl ?_
      exact ⟨rfl, by rw [gp_take, if_pos h5]⟩
  · refine slv_aload_n eX3_takeToken_0 rfl ?_
    refine slv_getf eX3_takeToken_1 fX3_60 (by repeat (first | assumption | exact sl_up_eq | refine sl_up_ne (by first | decide | omega) ?_)) rfl ?_
    refine slv_iconst (v := nI 4) eX3_takeToken_4 (by decide) ?_
    refine slv_icmp_neN eX3_takeToken_5 (by omega) (by omega) (fun h5 => ?_) (fun h5 => ?_)
    · refine slv_aload_n eX3_takeToken_14 rfl ?_
      refine slv_getf eX3_takeToken_15 fX3_31 (by repeat (first | assumption | exact sl_up_eq | refine sl_up_ne (by first | decide | omega) ?_)) rfl ?_
      refine slv_top (w := .int (nI 2)) (by rw [e]) ?_
      refine slv_tableIn (off := 56) (t := 74) eX3_takeToken_18 (by decide) (by decide) (by decide) (by decide) ?_
      refine slv_aload_n eX3_takeToken_74 rfl ?_
      refine slv_rV (As := []) eX3_takeToken_75 lX3_100 rfl rfl (by repeat (first | assumption | exact sl_up_eq | refine sl_up_ne (by first | decide | omega) ?_)) rfl (c_X3_takeHead hS hb a2 a5 (a7 (by omega) (by omega))) (by decide) (Nat.le_of_ble_eq_true rfl) ?_
      refine slv_goto eX3_takeToken_78 ?_
      refine slv_vret eX3_takeToken_106 rfl ?_
      exact ⟨rfl, by rw [gp_take, if_neg h5, e]; rfl⟩
    · refine slv_aload_n eX3_takeToken_8 rfl ?_
      refine slv_iconst (v := nI 1) eX3_takeToken_9 (by decide) ?_
      refine slv_rV (As := [_]) eX3_takeToken_10 lX3_90 rfl rfl (by repeat (first | assumption | exact sl_up_eq | refine sl_up_ne (by first | decide | omega) ?_)) rfl (hF 1) (by decide) (Nat.le_of_ble_eq_true rfl) ?_
      refine slv_vret eX3_takeToken_13 rfl ?_
      exact ⟨rfl, by rw [gp_take, if_pos h5]⟩
  · refine slv_aload_n eX3_takeToken_0 rfl ?_
    refine slv_getf eX3_takeToken_1 fX3_60 (by repeat (first | assumption | exact sl_up_eq | refine sl_up_ne (by first | decide | omega) ?_)) rfl ?_
    refine slv_iconst (v := nI 4) eX3_takeToken_4 (by decide) ?_
    refine slv_icmp_neN eX3_takeToken_5 (by omega) (by omega) (fun h5 => ?_) (fun h5 => ?_)
    · refine slv_aload_n eX3_takeToken_14 rfl ?_
      refine slv_getf eX3_takeToken_15 fX3_31 (by repeat (first | assumption | exact sl_up_eq | refine sl_up_ne (by first | decide | omega) ?_)) rfl ?_
      refine slv_top (w := .int (nI 3)) (by rw [e]) ?_
      refine slv_tableIn (off := 63) (t := 81) eX3_takeToken_18 (by decide) (by decide) (by decide) (by decide) ?_
      refine slv_aload_n eX3_takeToken_81 rfl ?_
      refine slv_rV (As := []) eX3_takeToken_82 lX3_103 rfl rfl (by repeat (first | assumption | exact sl_up_eq | refine sl_up_ne (by first | decide | omega) ?_)) rfl (c_X3_takeIs hS a2) (by decide) (Nat.le_of_ble_eq_true rfl) ?_
      refine slv_goto eX3_takeToken_85 ?_
      refine slv_vret eX3_takeToken_106 rfl ?_
      exact ⟨rfl, by rw [gp_take, if_neg h5, e]; rfl⟩
    · refine slv_aload_n eX3_takeToken_8 rfl ?_
      refine slv_iconst (v := nI 1) eX3_takeToken_9 (by decide) ?_
      refine slv_rV (As := [_]) eX3_takeToken_10 lX3_90 rfl rfl (by repeat (first | assumption | exact sl_up_eq | refine sl_up_ne (by first | decide | omega) ?_)) rfl (hF 1) (by decide) (Nat.le_of_ble_eq_true rfl) ?_
      refine slv_vret eX3_takeToken_13 rfl ?_
      exact ⟨rfl, by rw [gp_take, if_pos h5]⟩
  · refine slv_aload_n eX3_takeToken_0 rfl ?_
    refine slv_getf eX3_takeToken_1 fX3_60 (by repeat (first | assumption | exact sl_up_eq | refine sl_up_ne (by first | decide | omega) ?_)) rfl ?_
    refine slv_iconst (v := nI 4) eX3_takeToken_4 (by decide) ?_
    refine slv_icmp_neN eX3_takeToken_5 (by omega) (by omega) (fun h5 => ?_) (fun h5 => ?_)
    · refine slv_aload_n eX3_takeToken_14 rfl ?_
      refine slv_getf eX3_takeToken_15 fX3_31 (by repeat (first | assumption | exact sl_up_eq | refine sl_up_ne (by first | decide | omega) ?_)) rfl ?_
      refine slv_top (w := .int (nI 4)) (by rw [e]) ?_
      refine slv_tableIn (off := 70) (t := 88) eX3_takeToken_18 (by decide) (by decide) (by decide) (by decide) ?_
      refine slv_aload_n eX3_takeToken_88 rfl ?_
      refine slv_rV (As := []) eX3_takeToken_89 lX3_106 rfl rfl (by repeat (first | assumption | exact sl_up_eq | refine sl_up_ne (by first | decide | omega) ?_)) rfl (c_X3_takeItem hS hb a2 a3 a4 a5 (a7 (by omega) (by omega))) (by decide) (Nat.le_of_ble_eq_true rfl) ?_
      refine slv_goto eX3_takeToken_92 ?_
      refine slv_vret eX3_takeToken_106 rfl ?_
      exact ⟨rfl, by rw [gp_take, if_neg h5, e]; rfl⟩
    · refine slv_aload_n eX3_takeToken_8 rfl ?_
      refine slv_iconst (v := nI 1) eX3_takeToken_9 (by decide) ?_
      refine slv_rV (As := [_]) eX3_takeToken_10 lX3_90 rfl rfl (by repeat (first | assumption | exact sl_up_eq | refine sl_up_ne (by first | decide | omega) ?_)) rfl (hF 1) (by decide) (Nat.le_of_ble_eq_true rfl) ?_
      refine slv_vret eX3_takeToken_13 rfl ?_
      exact ⟨rfl, by rw [gp_take, if_pos h5]⟩
  · refine slv_aload_n eX3_takeToken_0 rfl ?_
    refine slv_getf eX3_takeToken_1 fX3_60 (by repeat (first | assumption | exact sl_up_eq | refine sl_up_ne (by first | decide | omega) ?_)) rfl ?_
    refine slv_iconst (v := nI 4) eX3_takeToken_4 (by decide) ?_
    refine slv_icmp_neN eX3_takeToken_5 (by omega) (by omega) (fun h5 => ?_) (fun h5 => ?_)
    · refine slv_aload_n eX3_takeToken_14 rfl ?_
      refine slv_getf eX3_takeToken_15 fX3_31 (by repeat (first | assumption | exact sl_up_eq | refine sl_up_ne (by first | decide | omega) ?_)) rfl ?_
      refine slv_top (w := .int (nI 5)) (by rw [e]) ?_
      refine slv_tableIn (off := 70) (t := 88) eX3_takeToken_18 (by decide) (by decide) (by decide) (by decide) ?_
      refine slv_aload_n eX3_takeToken_88 rfl ?_
      refine slv_rV (As := []) eX3_takeToken_89 lX3_106 rfl rfl (by repeat (first | assumption | exact sl_up_eq | refine sl_up_ne (by first | decide | omega) ?_)) rfl (c_X3_takeItem hS hb a2 a3 a4 a5 (a7 (by omega) (by omega))) (by decide) (Nat.le_of_ble_eq_true rfl) ?_
      refine slv_goto eX3_takeToken_92 ?_
      refine slv_vret eX3_takeToken_106 rfl ?_
      exact ⟨rfl, by rw [gp_take, if_neg h5, e]; rfl⟩
    · refine slv_aload_n eX3_takeToken_8 rfl ?_
      refine slv_iconst (v := nI 1) eX3_takeToken_9 (by decide) ?_
      refine slv_rV (As := [_]) eX3_takeToken_10 lX3_90 rfl rfl (by repeat (first | assumption | exact sl_up_eq | refine sl_up_ne (by first | decide | omega) ?_)) rfl (hF 1) (by decide) (Nat.le_of_ble_eq_true rfl) ?_
      refine slv_vret eX3_takeToken_13 rfl ?_
      exact ⟨rfl, by rw [gp_take, if_pos h5]⟩
  · refine slv_aload_n eX3_takeToken_0 rfl ?_
    refine slv_getf eX3_takeToken_1 fX3_60 (by repeat (first | assumption | exact sl_up_eq | refine sl_up_ne (by first | decide | omega) ?_)) rfl ?_
    refine slv_iconst (v := nI 4) eX3_takeToken_4 (by decide) ?_
    refine slv_icmp_neN eX3_takeToken_5 (by omega) (by omega) (fun h5 => ?_) (fun h5 => ?_)
    · refine slv_aload_n eX3_takeToken_14 rfl ?_
      refine slv_getf eX3_takeToken_15 fX3_31 (by repeat (first | assumption | exact sl_up_eq | refine sl_up_ne (by first | decide | omega) ?_)) rfl ?_
      refine slv_top (w := .int (nI 6)) (by rw [e]) ?_
      refine slv_tableIn (off := 77) (t := 95) eX3_takeToken_18 (by decide) (by decide) (by decide) (by decide) ?_
      refine slv_aload_n eX3_takeToken_95 rfl ?_
      refine slv_rV (As := []) eX3_takeToken_96 lX3_109 rfl rfl (by repeat (first | assumption | exact sl_up_eq | refine sl_up_ne (by first | decide | omega) ?_)) rfl (c_X3_takeDeed hS hb a2 a5 (a7 (by omega) (by omega))) (by decide) (Nat.le_of_ble_eq_true rfl) ?_
      refine slv_goto eX3_takeToken_99 ?_
      refine slv_vret eX3_takeToken_106 rfl ?_
      exact ⟨rfl, by rw [gp_take, if_neg h5, e]; rfl⟩
    · refine slv_aload_n eX3_takeToken_8 rfl ?_
      refine slv_iconst (v := nI 1) eX3_takeToken_9 (by decide) ?_
      refine slv_rV (As := [_]) eX3_takeToken_10 lX3_90 rfl rfl (by repeat (first | assumption | exact sl_up_eq | refine sl_up_ne (by first | decide | omega) ?_)) rfl (hF 1) (by decide) (Nat.le_of_ble_eq_true rfl) ?_
      refine slv_vret eX3_takeToken_13 rfl ?_
      exact ⟨rfl, by rw [gp_take, if_pos h5]⟩
  · refine slv_aload_n eX3_takeToken_0 rfl ?_
    refine slv_getf eX3_takeToken_1 fX3_60 (by repeat (first | assumption | exact sl_up_eq | refine sl_up_ne (by first | decide | omega) ?_)) rfl ?_
    refine slv_iconst (v := nI 4) eX3_takeToken_4 (by decide) ?_
    refine slv_icmp_neN eX3_takeToken_5 (by omega) (by omega) (fun h5 => ?_) (fun h5 => ?_)
    · refine slv_aload_n eX3_takeToken_14 rfl ?_
      refine slv_getf eX3_takeToken_15 fX3_31 (by repeat (first | assumption | exact sl_up_eq | refine sl_up_ne (by first | decide | omega) ?_)) rfl ?_
      refine slv_top (w := .int (nI 7)) (by rw [e]) ?_
      refine slv_tableOut (t := 102) eX3_takeToken_18 (by decide) (by decide) ?_
      refine slv_aload_n eX3_takeToken_102 rfl ?_
      refine slv_rV (As := []) eX3_takeToken_103 lX3_112 rfl rfl (by repeat (first | assumption | exact sl_up_eq | refine sl_up_ne (by first | decide | omega) ?_)) rfl (c_X3_takeParting hb a2 a5) (by decide) (Nat.le_of_ble_eq_true rfl) ?_
      refine slv_vret eX3_takeToken_106 rfl ?_
      exact ⟨rfl, by rw [gp_take, if_neg h5, e]; rfl⟩
    · refine slv_aload_n eX3_takeToken_8 rfl ?_
      refine slv_iconst (v := nI 1) eX3_takeToken_9 (by decide) ?_
      refine slv_rV (As := [_]) eX3_takeToken_10 lX3_90 rfl rfl (by repeat (first | assumption | exact sl_up_eq | refine sl_up_ne (by first | decide | omega) ?_)) rfl (hF 1) (by decide) (Nat.le_of_ble_eq_true rfl) ?_
      refine slv_vret eX3_takeToken_13 rfl ?_
      exact ⟨rfl, by rw [gp_take, if_pos h5]⟩
theorem gp_gs (hb : b = 2 ∨ b = 10) {cc : sl_E} {g g' : sg_T} : gp_G b g' (sl_up (gp_G b g M) 18 cc) = sl_up (gp_G b g' M) 18 cc := by
  funext k
  simp only [sl_up]
  by_cases h : k = 18
  · subst h
    rw [if_neg (by omega), if_neg (by omega), if_neg (by omega), if_neg (by omega), if_neg (by omega), if_neg (by omega), if_neg (by omega), if_neg (by omega), if_pos rfl, if_pos rfl]
  · simp only [if_neg h]
    by_cases h7 : k = b + 7
    · simp only [if_pos h7]
    simp only [if_neg h7]
    by_cases h6 : k = b + 6
    · simp only [if_pos h6]
    simp only [if_neg h6]
    by_cases h5 : k = b + 5
    · simp only [if_pos h5]
    simp only [if_neg h5]
    by_cases h4 : k = b + 4
    · simp only [if_pos h4]
    simp only [if_neg h4]
    by_cases h3 : k = b + 3
    · simp only [if_pos h3]
    simp only [if_neg h3]
    by_cases h2 : k = b + 2
    · simp only [if_pos h2]
    simp only [if_neg h2]
    by_cases h1 : k = b + 1
    · simp only [if_pos h1]
    simp only [if_neg h1]
    by_cases h0 : k = b
    · simp only [if_pos h0]
    simp only [if_neg h0]
theorem gpo_k_0 (h2 : gr_tk R ≤ 4) (h4 : gr_sg R < 256) (h : sg_ok g) : gpo_k ln (gp_R0 R) (gp_g0 g) := by
  obtain ⟨d1, d2, d3, d4, d5, d6, d7, d8⟩ := h
  exact ⟨Nat.zero_le _, h2, Nat.zero_le _, h4, ⟨Nat.zero_le _, Nat.zero_le _, Nat.zero_le _, Nat.zero_le _, d5, fun r hr => ⟨(d6 r hr).1, (d6 r hr).2.1, Nat.zero_le _⟩, d7, fun r (hr : r < 0) => by omega⟩, fun j hj => ⟨rfl, rfl⟩, fun (z : 2 ≤ 0) _ => by omega, fun (z : 5 ≤ 0) _ => by omega⟩
set_option maxRecDepth 100000 in
theorem c_X3_readAll (hS : st_all) (hT : M 1 = .inl (.byte, 900, .inl f)) (hb : b = 2 ∨ b = 10) (hl : ln ≤ 900) (h2 : gr_tk R ≤ 4) (h4 : gr_sg R < 256) (hok : sg_ok g) (hz : sg_z g) {bv mv : Value} {ln0 : Nat} :
    sl_R YX3_readAll 9 [.ref 18, .ref 1, .int (nI ln), .ref b] (gr_set (gr_fa R) (gr_pl R) bv ln0 (gr_a R) mv (gr_st R) (gr_hd R) (gr_en R) (gr_tk R) (gr_tp R) (gr_wd R) (gr_sg R) (gp_G b g M)) none (gp_S b ln (gp_run f ln (ln + 1) (gp_R0 R, gp_g0 g)).1 (gp_run f ln (ln + 1) (gp_R0 R, gp_g0 g)).2 M) := by
  refine sl_T.of_V (lv := [_, _, _, _, _]) (by decide) rfl (Nat.le_of_ble_eq_true rfl) ?_
  have loop : ∀ (n i : Nat) (q : gr_T × sg_T), i + n = ln + 1 → gpo_k ln q.1 q.2 → ∀ Q : Option Value → sl_M → Prop, Q none (gp_S b ln (gp_run f ln n q).1 (gp_run f ln n q).2 M) → sl_V YX3_readAll none 9 0 0 Q 55 [some (.ref 18), some (.ref 1), some (.int (nI ln)), some (.ref b), some (.int (nI i))] [] (gp_S b ln q.1 q.2 M) := by
    intro n
    induction n with
    | zero =>
      intro i q hi hq Q hQ
      refine slv_iload eX3_readAll_55 rfl ?_
      refine slv_iload_n eX3_readAll_57 rfl ?_
      refine slv_icmp_gtN eX3_readAll_58 (by omega) (by omega) (fun h58 => ?_) (fun h58 => absurd h58 (by omega))
      refine slv_vret eX3_readAll_82 rfl ?_
      exact hQ
    | succ n ih =>
      intro i q hi hq Q hQ
      have hn := c_X3_nextToken (R := q.1) (g := q.2) hS hT hb hl hq.1
      have ho := gpo_k_tok f hq
      have ht := c_X3_takeToken (M := M) hS hb ho
      refine slv_iload eX3_readAll_55 rfl ?_
      refine slv_iload_n eX3_readAll_57 rfl ?_
      refine slv_icmp_gtN eX3_readAll_58 (by omega) (by omega) (fun h58 => absurd h58 (by omega)) (fun h58 => ?_)
      refine slv_aload_n eX3_readAll_61 rfl ?_
      refine slv_getf eX3_readAll_62 fX3_38 (by repeat (first | assumption | exact sl_up_eq | refine sl_up_ne (by first | decide | omega) ?_)) rfl ?_
      refine slv_if_neB eX3_readAll_65 (fun h65 => ?_) (fun h65 => ?_)
      · refine slv_vret eX3_readAll_82 rfl ?_
        rw [gp_run, h65] at hQ
        exact hQ
      · refine slv_aload_n eX3_readAll_68 rfl ?_
        refine slv_rV (As := []) eX3_readAll_69 lX3_47 rfl rfl (by repeat (first | assumption | exact sl_up_eq | refine sl_up_ne (by first | decide | omega) ?_)) rfl hn (by decide) (Nat.le_of_ble_eq_true rfl) ?_
        refine slv_aload_n eX3_readAll_72 rfl ?_
        refine slv_rV (As := []) eX3_readAll_73 lX3_50 rfl rfl (by repeat (first | assumption | exact sl_up_eq | refine sl_up_ne (by first | decide | omega) ?_)) rfl ht (by decide) (Nat.le_of_ble_eq_true rfl) ?_
        refine slv_iincN (lv' := [_, _, _, _, _]) eX3_readAll_76 rfl (by decide) rfl ?_
        refine slv_goto eX3_readAll_79 ?_
        rw [gp_run, h65] at hQ
        exact ih (i + 1) _ (by omega) (gpo_k_take ho) Q hQ
  have hC := c_X2_clear (M := gr_set (gr_fa R) (gr_pl R) (.ref 1) ln 0 (.ref b) (gr_st R) (gr_hd R) (gr_en R) (gr_tk R) (gr_tp R) (gr_wd R) (gr_sg R) (gp_G b g M)) (gp_sg (ln := ln) (R := (gr_fa R, gr_pl R, 0, gr_st R, gr_hd R, gr_en R, gr_tk R, gr_tp R, gr_wd R, gr_sg R)) (g := g) (M := M) hb) hz
  rw [show gs_set b 0 0 0 0 (sg_words g) (sg_signs g) (sg_heads g) (sg_deeds g) (fun _ => 0) (sg_items g) (fun _ => false) (gr_set (gr_fa R) (gr_pl R) (.ref 1) ln 0 (.ref b) (gr_st R) (gr_hd R) (gr_en R) (gr_tk R) (gr_tp R) (gr_wd R) (gr_sg R) (gp_G b g M)) = gr_set (gr_fa R) (gr_pl R) (.ref 1) ln 0 (.ref b) (gr_st R) (gr_hd R) (gr_en R) (gr_tk R) (gr_tp R) (gr_wd R) (gr_sg R) (gp_G b (gp_g0 g) M) from gp_gs hb (g' := gp_g0 g)] at hC
  refine slv_aload_n eX3_readAll_0 rfl ?_
  refine slv_aload_n eX3_readAll_1 rfl ?_
  refine slv_putf (fs' := [_, _, _, _, _, _, _, _, _, _, _, _, _]) eX3_readAll_2 fX3_9 (by repeat (first | assumption | exact sl_up_eq | refine sl_up_ne (by first | decide | omega) ?_)) (Nat.le_of_ble_eq_true rfl) rfl rfl rfl ?_
  refine slv_mem (gr_u18 (bv' := .ref 1)) ?_
  refine slv_aload_n eX3_readAll_5 rfl ?_
  refine slv_iload_n eX3_readAll_6 rfl ?_
  refine slv_putf (fs' := [_, _, _, _, _, _, _, _, _, _, _, _, _]) eX3_readAll_7 fX3_15 (by repeat (first | assumption | exact sl_up_eq | refine sl_up_ne (by first | decide | omega) ?_)) (Nat.le_of_ble_eq_true rfl) rfl rfl rfl ?_
  refine slv_mem (gr_u18 (ln' := ln)) ?_
  refine slv_aload_n eX3_readAll_10 rfl ?_
  refine slv_iconst (v := nI 0) eX3_readAll_11 (by decide) ?_
  refine slv_putf (fs' := [_, _, _, _, _, _, _, _, _, _, _, _, _]) eX3_readAll_12 fX3_19 (by repeat (first | assumption | exact sl_up_eq | refine sl_up_ne (by first | decide | omega) ?_)) (Nat.le_of_ble_eq_true rfl) rfl rfl rfl ?_
  refine slv_mem (gr_u18 (a' := 0)) ?_
  refine slv_aload_n eX3_readAll_15 rfl ?_
  refine slv_aload_n eX3_readAll_16 rfl ?_
  refine slv_putf (fs' := [_, _, _, _, _, _, _, _, _, _, _, _, _]) eX3_readAll_17 fX3_22 (by repeat (first | assumption | exact sl_up_eq | refine sl_up_ne (by first | decide | omega) ?_)) (Nat.le_of_ble_eq_true rfl) rfl rfl rfl ?_
  refine slv_mem (gr_u18 (mv' := .ref b)) ?_
  refine slv_aload_n eX3_readAll_20 rfl ?_
  refine slv_getf eX3_readAll_21 fX3_22 (by repeat (first | assumption | exact sl_up_eq | refine sl_up_ne (by first | decide | omega) ?_)) rfl ?_
  refine slv_rV (As := []) eX3_readAll_24 lX3_26 rfl rfl (by repeat (first | assumption | exact sl_up_eq | refine sl_up_ne (by first | decide | omega) ?_)) rfl hC (by decide) (Nat.le_of_ble_eq_true rfl) ?_
  refine slv_aload_n eX3_readAll_27 rfl ?_
  refine slv_iconst (v := nI 0) eX3_readAll_28 (by decide) ?_
  refine slv_putf (fs' := [_, _, _, _, _, _, _, _, _, _, _, _, _]) eX3_readAll_29 fX3_31 (by repeat (first | assumption | exact sl_up_eq | refine sl_up_ne (by first | decide | omega) ?_)) (Nat.le_of_ble_eq_true rfl) rfl rfl rfl ?_
  refine slv_mem (gr_u18 (st' := 0)) ?_
  refine slv_aload_n eX3_readAll_32 rfl ?_
  refine slv_iconst (v := nI 0) eX3_readAll_33 (by decide) ?_
  refine slv_putf (fs' := [_, _, _, _, _, _, _, _, _, _, _, _, _]) eX3_readAll_34 fX3_34 (by repeat (first | assumption | exact sl_up_eq | refine sl_up_ne (by first | decide | omega) ?_)) (Nat.le_of_ble_eq_true rfl) (by first | rfl | assumption) (by first | rfl | assumption) rfl ?_
  refine slv_mem (gr_u18 (hd' := false)) ?_
  refine slv_aload_n eX3_readAll_37 rfl ?_
  refine slv_iconst (v := nI 0) eX3_readAll_38 (by decide) ?_
  refine slv_putf (fs' := [_, _, _, _, _, _, _, _, _, _, _, _, _]) eX3_readAll_39 fX3_38 (by repeat (first | assumption | exact sl_up_eq | refine sl_up_ne (by first | decide | omega) ?_)) (Nat.le_of_ble_eq_true rfl) (by first | rfl | assumption) (by first | rfl | assumption) rfl ?_
  refine slv_mem (gr_u18 (en' := false)) ?_
  refine slv_aload_n eX3_readAll_42 rfl ?_
  refine slv_iconst (v := nI 0) eX3_readAll_43 (by decide) ?_
  refine slv_putf (fs' := [_, _, _, _, _, _, _, _, _, _, _, _, _]) eX3_readAll_44 fX3_41 (by repeat (first | assumption | exact sl_up_eq | refine sl_up_ne (by first | decide | omega) ?_)) (Nat.le_of_ble_eq_true rfl) rfl rfl rfl ?_
  refine slv_mem (gr_u18 (fa' := 0)) ?_
  refine slv_aload_n eX3_readAll_47 rfl ?_
  refine slv_iconst (v := nI 0) eX3_readAll_48 (by decide) ?_
  refine slv_putf (fs' := [_, _, _, _, _, _, _, _, _, _, _, _, _]) eX3_readAll_49 fX3_44 (by repeat (first | assumption | exact sl_up_eq | refine sl_up_ne (by first | decide | omega) ?_)) (Nat.le_of_ble_eq_true rfl) rfl rfl rfl ?_
  refine slv_mem (gr_u18 (pl' := 0)) ?_
  refine slv_iconst (v := nI 0) eX3_readAll_52 (by decide) ?_
  refine slv_istore (lv' := [_, _, _, _, _]) eX3_readAll_53 (by decide) rfl ?_
  exact loop (ln + 1) 0 (gp_R0 R, gp_g0 g) (by omega) (gpo_k_0 h2 h4 hok) _ ⟨rfl, rfl⟩
end GRH

/-! the reference: small methods, what it answers of the grammar -/
theorem sl_b01 (x : Int32) : x &&& nI 1 = nI 0 ∨ x &&& nI 1 = nI 1 := by
  have h : ∀ y : BitVec 32, y &&& 1#32 = 0#32 ∨ y &&& 1#32 = 1#32 := by
    intro y
    rw [BitVec.and_one_eq_setWidth_ofBool_getLsbD]
    cases y.getLsbD 0
    · exact Or.inl rfl
    · exact Or.inr rfl
  rcases h x.toBitVec with e | e
  · left; apply Int32.toBitVec_inj.mp; rw [Int32.toBitVec_and]; exact e
  · right; apply Int32.toBitVec_inj.mp; rw [Int32.toBitVec_and]; exact e
theorem le_nI_sub1 {x : Int32} {n : Nat} (hn : n < 2147483648) : x ≤ nI n - nI 1 ↔ x.toInt < (n : Int) := by
  rcases Nat.eq_zero_or_pos n with e | e
  · subst e
    rw [show nI 0 - nI 1 = -1 from by decide, Int32.le_iff_toInt_le, show (-1 : Int32).toInt = -1 from by decide]
    omega
  · rw [nI_sub e, Int32.le_iff_toInt_le, nI_toInt (by omega)]
    omega
theorem ge_nI0 {x : Int32} : nI 0 ≤ x ↔ 0 ≤ x.toInt := by
  rw [Int32.le_iff_toInt_le, nI_toInt (by omega)]
  exact Iff.rfl
theorem in_vi {x : Int32} {n : Nat} (hn : n < 2147483648) : (decide (nI 0 ≤ x) && decide (x ≤ nI n - nI 1)) = (sl_vi x n).isSome := by
  unfold sl_vi
  by_cases h1 : 0 ≤ x.toInt
  · rw [decide_eq_true (ge_nI0.mpr h1)]
    by_cases h2 : x.toInt < (n : Int)
    · rw [decide_eq_true ((le_nI_sub1 hn).mpr h2), if_pos ⟨h1, h2⟩]; rfl
    · rw [decide_eq_false (fun q => h2 ((le_nI_sub1 hn).mp q)), if_neg (fun q => h2 q.2)]; rfl
  · rw [decide_eq_false (fun q => h1 (ge_nI0.mp q)), if_neg (fun q => h1 q.1)]; rfl
abbrev rf_gd (v : Nat → Int32) (k : Nat) : Nat → Int32 := sl_u (sl_u v 1 (nI k)) 2 (-1)
abbrev rf_an (v : Nat → Int32) (k : Nat) : Nat → Int32 := rf_gd (sl_u v 0 (nI 0)) k
/-- the reference holds grammar g -/
def rf_G (g : sg_T) (v : Nat → Int32) (a : Nat → Nat → Int32) : Prop :=
  v 14 = nI (sg_rules g) ∧ v 15 = nI (sg_names g) ∧ v 16 = nI (sg_terms g) ∧ v 22 = nI (sg_kind g) ∧
  (∀ r, r < sg_rules g → a 3 r = nI (sg_heads g r) ∧ a 5 r = nI (sg_lens g r) ∧ a 6 r = nI (sg_deeds g r) ∧ sl_bt (v 23) r = sg_put g r) ∧
  (∀ r i, r < sg_rules g → i < sg_lens g r → a 4 (5 * r + i) = nI (sg_it g r i)) ∧
  (∀ t, t < sg_terms g → a 7 t = nI (sg_signs g t))
section RSM
variable {v : Nat → Int32} {w : Int64} {a : Nat → Nat → Int32} {nm : Nat → Int64} {M : sl_M} {g : sg_T} {sn : Bool}
set_option maxRecDepth 100000 in
theorem c_X12_in (M : sl_M) (x lo hi : Int32) : sl_R YX12_in 0 [.int x, .int lo, .int hi] M (some (.int (sl_bi (decide (lo ≤ x) && decide (x ≤ hi))))) M := by
  refine sl_T.of_V (lv := [_, _, _]) (by decide) rfl (Nat.le_of_ble_eq_true rfl) ?_
  refine slv_iload_n eX12_in_0 rfl ?_
  refine slv_iload_n eX12_in_1 rfl ?_
  refine slv_icmp_lt eX12_in_2 (fun h2 => ?_) (fun h2 => ?_)
  · refine slv_iconst (v := nI 0) eX12_in_14 (by decide) ?_
    refine slv_zret eX12_in_15 rfl rfl ?_
    refine ⟨?_, rfl⟩
    first | (rw [decide_eq_true (Int32.not_lt.mp h2), decide_eq_true (Int32.not_lt.mp h7)]; rfl) | (rw [decide_eq_true (Int32.not_lt.mp h2), decide_eq_false (fun q => absurd h7 (Int32.not_lt.mpr q))]; rfl) | (rw [decide_eq_false (fun q => absurd h2 (Int32.not_lt.mpr q))]; rfl)
  · refine slv_iload_n eX12_in_5 rfl ?_
    refine slv_iload_n eX12_in_6 rfl ?_
    refine slv_icmp_gt eX12_in_7 (fun h7 => ?_) (fun h7 => ?_)
    · refine slv_iconst (v := nI 0) eX12_in_14 (by decide) ?_
      refine slv_zret eX12_in_15 rfl rfl ?_
      refine ⟨?_, rfl⟩
      first | (rw [decide_eq_true (Int32.not_lt.mp h2), decide_eq_true (Int32.not_lt.mp h7)]; rfl) | (rw [decide_eq_true (Int32.not_lt.mp h2), decide_eq_false (fun q => absurd h7 (Int32.not_lt.mpr q))]; rfl) | (rw [decide_eq_false (fun q => absurd h2 (Int32.not_lt.mpr q))]; rfl)
    · refine slv_iconst (v := nI 1) eX12_in_10 (by decide) ?_
      refine slv_goto eX12_in_11 ?_
      refine slv_zret eX12_in_15 rfl rfl ?_
      refine ⟨?_, rfl⟩
      first | (rw [decide_eq_true (Int32.not_lt.mp h2), decide_eq_true (Int32.not_lt.mp h7)]; rfl) | (rw [decide_eq_true (Int32.not_lt.mp h2), decide_eq_false (fun q => absurd h7 (Int32.not_lt.mpr q))]; rfl) | (rw [decide_eq_false (fun q => absurd h2 (Int32.not_lt.mpr q))]; rfl)
theorem c_X12_in0 (M : sl_M) (x : Int32) {n : Nat} (hn : n < 2147483648) : sl_R YX12_in 0 [.int x, .int (nI 0), .int (nI n - nI 1)] M (some (.int (sl_bi (sl_vi x n).isSome))) M := by
  rw [← in_vi hn]; exact c_X12_in M x _ _
theorem c_X12_in1 (M : sl_M) (x : Int32) {n : Nat} (hn : n + 1 < 2147483648) : sl_R YX12_in 0 [.int x, .int (nI 0), .int (nI n)] M (some (.int (sl_bi (sl_vi x (n + 1)).isSome))) M := by
  rw [← in_vi hn, nI_sub (by omega)]; exact c_X12_in M x _ _
set_option maxRecDepth 100000 in
theorem c_X12_has (M : sl_M) (s : Int32) (k : Nat) : sl_R YX12_has 0 [.int s, .int (nI k)] M (some (.int (sl_bi (sl_bt s k)))) M := by
  refine sl_T.of_V (lv := [_, _]) (by decide) rfl (Nat.le_of_ble_eq_true rfl) ?_
  refine slv_iload_n eX12_has_0 rfl ?_
  refine slv_iload_n eX12_has_1 rfl ?_
  refine slv_ishr eX12_has_2 ?_
  refine slv_iconst (v := nI 1) eX12_has_3 (by decide) ?_
  refine slv_iand eX12_has_4 ?_
  refine slv_iconst (v := nI 1) eX12_has_5 (by decide) ?_
  refine slv_icmp_ne eX12_has_6 (fun h6 => ?_) (fun h6 => ?_)
  · refine slv_iconst (v := nI 0) eX12_has_13 (by decide) ?_
    refine slv_zret eX12_has_14 rfl rfl ?_
    refine ⟨?_, rfl⟩
    first | (rw [sl_bt_t (fun q => absurd (h6.symm.trans q) (by decide))]; rfl) | (rw [sl_bt_f ((sl_b01 _).resolve_right h6)]; rfl)
  · refine slv_iconst (v := nI 1) eX12_has_9 (by decide) ?_
    refine slv_goto eX12_has_10 ?_
    refine slv_zret eX12_has_14 rfl rfl ?_
    refine ⟨?_, rfl⟩
    first | (rw [sl_bt_t (fun q => absurd (h6.symm.trans q) (by decide))]; rfl) | (rw [sl_bt_f ((sl_b01 _).resolve_right h6)]; rfl)
set_option maxRecDepth 100000 in
theorem c_X12_refused (k : Nat) : sl_R YX12_refused 0 [.ref 68, .int (nI k)] (rf_S v w a nm M) (some (.int (-1))) (rf_S (rf_gd v k) w a nm M) := by
  refine sl_T.of_V (lv := [_, _]) (by decide) rfl (Nat.le_of_ble_eq_true rfl) ?_
  refine slv_aload_n eX12_refused_0 rfl ?_
  refine slv_iload_n eX12_refused_1 rfl ?_
  refine slr_pi eX12_refused_2 fX12_152 (Nat.le_of_ble_eq_true rfl) rf_s1 ?_
  refine slv_aload_n eX12_refused_5 rfl ?_
  refine slv_iconst (v := (-1)) eX12_refused_6 (by decide) ?_
  refine slr_pi eX12_refused_7 fX12_9 (Nat.le_of_ble_eq_true rfl) rf_s2 ?_
  refine slv_iconst (v := (-1)) eX12_refused_10 (by decide) ?_
  refine slv_iret eX12_refused_11 rfl ?_
  exact ⟨rfl, rfl⟩
set_option maxRecDepth 100000 in
theorem c_X12_refusedLow (k : Nat) : sl_R YX12_refusedLow 1 [.ref 68, .int (nI k)] (rf_S v w a nm M) (some (.int (-2147483648))) (rf_S (rf_gd v k) w a nm M) := by
  refine sl_T.of_V (lv := [_, _]) (by decide) rfl (Nat.le_of_ble_eq_true rfl) ?_
  refine slv_aload_n eX12_refusedLow_0 rfl ?_
  refine slv_iload_n eX12_refusedLow_1 rfl ?_
  refine slv_rV (As := [_]) eX12_refusedLow_2 lX12_155 rfl rfl rf_68 rfl (c_X12_refused k) (by decide) (Nat.le_of_ble_eq_true rfl) ?_
  refine slv_pop eX12_refusedLow_5 rfl ?_
  refine slv_ldc eX12_refusedLow_6 kX12_161 ?_
  refine slv_iret eX12_refusedLow_8 rfl ?_
  exact ⟨rfl, rfl⟩
set_option maxRecDepth 100000 in
theorem c_X12_good (x : Int32) : sl_R YX12_good 0 [.ref 68, .int x] (rf_S v w a nm M) (some (.int x)) (rf_S (rf_gd v 0) w a nm M) := by
  refine sl_T.of_V (lv := [_, _]) (by decide) rfl (Nat.le_of_ble_eq_true rfl) ?_
  refine slv_aload_n eX12_good_0 rfl ?_
  refine slv_iconst (v := nI 0) eX12_good_1 (by decide) ?_
  refine slr_pi eX12_good_2 fX12_152 (Nat.le_of_ble_eq_true rfl) rf_s1 ?_
  refine slv_aload_n eX12_good_5 rfl ?_
  refine slv_iconst (v := (-1)) eX12_good_6 (by decide) ?_
  refine slr_pi eX12_good_7 fX12_9 (Nat.le_of_ble_eq_true rfl) rf_s2 ?_
  refine slv_iload_n eX12_good_10 rfl ?_
  refine slv_iret eX12_good_11 rfl ?_
  exact ⟨rfl, rfl⟩
set_option maxRecDepth 100000 in
theorem c_X12_thrown : sl_R YX12_thrown 0 [.ref 68] (rf_S v w a nm M) (some (.int (v 0))) (rf_S v w a nm M) := by
  refine sl_T.of_V (lv := [_]) (by decide) rfl (Nat.le_of_ble_eq_true rfl) ?_
  refine slv_aload_n eX12_thrown_0 rfl ?_
  refine slr_gi eX12_thrown_1 fX12_149 rfl (by repeat (first | exact sl_u_eq | assumption | apply rf_ne (by decide) | exact rfl)) ?_
  refine slv_iret eX12_thrown_4 rfl ?_
  exact ⟨rfl, rfl⟩
set_option maxRecDepth 100000 in
theorem c_X12_fault : sl_R YX12_fault 0 [.ref 68] (rf_S v w a nm M) (some (.int (v 34))) (rf_S (sl_u v 0 (nI 0)) w a nm M) := by
  refine sl_T.of_V (lv := [_]) (by decide) rfl (Nat.le_of_ble_eq_true rfl) ?_
  refine slv_aload_n eX12_fault_0 rfl ?_
  refine slv_iconst (v := nI 0) eX12_fault_1 (by decide) ?_
  refine slr_pi eX12_fault_2 fX12_149 (Nat.le_of_ble_eq_true rfl) rf_s0 ?_
  refine slv_aload_n eX12_fault_5 rfl ?_
  refine slr_gi eX12_fault_6 fX12_165 rfl (by repeat (first | exact sl_u_eq | assumption | apply rf_ne (by decide) | exact rfl)) ?_
  refine slv_iret eX12_fault_9 rfl ?_
  exact ⟨rfl, rfl⟩
set_option maxRecDepth 100000 in
theorem c_X12_where : sl_R YX12_where 0 [.ref 68] (rf_S v w a nm M) (some (.int (v 2))) (rf_S (sl_u v 0 (nI 0)) w a nm M) := by
  refine sl_T.of_V (lv := [_]) (by decide) rfl (Nat.le_of_ble_eq_true rfl) ?_
  refine slv_aload_n eX12_where_0 rfl ?_
  refine slv_iconst (v := nI 0) eX12_where_1 (by decide) ?_
  refine slr_pi eX12_where_2 fX12_149 (Nat.le_of_ble_eq_true rfl) rf_s0 ?_
  refine slv_aload_n eX12_where_5 rfl ?_
  refine slr_gi eX12_where_6 fX12_9 rfl (by repeat (first | exact sl_u_eq | assumption | apply rf_ne (by decide) | exact rfl)) ?_
  refine slv_iret eX12_where_9 rfl ?_
  exact ⟨rfl, rfl⟩
set_option maxRecDepth 100000 in
theorem c_X12_trouble : sl_R YX12_trouble 0 [.ref 68] (rf_S v w a nm M) (some (.int (v 1))) (rf_S (sl_u v 0 (nI 0)) w a nm M) := by
  refine sl_T.of_V (lv := [_]) (by decide) rfl (Nat.le_of_ble_eq_true rfl) ?_
  refine slv_aload_n eX12_trouble_0 rfl ?_
  refine slv_iconst (v := nI 0) eX12_trouble_1 (by decide) ?_
  refine slr_pi eX12_trouble_2 fX12_149 (Nat.le_of_ble_eq_true rfl) rf_s0 ?_
  refine slv_aload_n eX12_trouble_5 rfl ?_
  refine slr_gi eX12_trouble_6 fX12_152 rfl (by repeat (first | exact sl_u_eq | assumption | apply rf_ne (by decide) | exact rfl)) ?_
  refine slv_iret eX12_trouble_9 rfl ?_
  exact ⟨rfl, rfl⟩
set_option maxRecDepth 100000 in
theorem c_X12_serves {r : Nat} : sl_R YX12_serves 1 [.ref 68, .int (nI r)] (rf_S v w a nm M) (some (.int (sl_bi (!(sl_bt (v 23) r))))) (rf_S v w a nm M) := by
  refine sl_T.of_V (lv := [_, _]) (by decide) rfl (Nat.le_of_ble_eq_true rfl) ?_
  refine slv_aload_n eX12_serves_0 rfl ?_
  refine slr_gi eX12_serves_1 fX12_330 rfl (by repeat (first | exact sl_u_eq | assumption | apply rf_ne (by decide) | exact rfl)) ?_
  refine slv_iload_n eX12_serves_4 rfl ?_
  refine slv_rS (As := [_, _]) eX12_serves_5 lX12_342 rfl rfl (c_X12_has _ _ _) (by decide) (Nat.le_of_ble_eq_true rfl) ?_
  refine slv_if_neB eX12_serves_8 (fun h8 => ?_) (fun h8 => ?_)
  · refine slv_iconst (v := nI 0) eX12_serves_15 (by decide) ?_
    refine slv_zret eX12_serves_16 rfl rfl ?_
    exact ⟨by rw [h8]; rfl, rfl⟩
  · refine slv_iconst (v := nI 1) eX12_serves_11 (by decide) ?_
    refine slv_goto eX12_serves_12 ?_
    refine slv_zret eX12_serves_16 rfl rfl ?_
    exact ⟨by rw [h8]; rfl, rfl⟩
set_option maxRecDepth 100000 in
theorem c_X12_at {r i : Nat} (h : 5 * r + i < 60) : sl_R YX12_at 0 [.ref 68, .int (nI r), .int (nI i)] (rf_S v w a nm M) (some (.int (a 4 (5 * r + i)))) (rf_S v w a nm M) := by
  refine sl_T.of_V (lv := [_, _, _]) (by decide) rfl (Nat.le_of_ble_eq_true rfl) ?_
  refine slv_aload_n eX12_at_0 rfl ?_
  refine slr_ga (p := 70) eX12_at_1 fX12_17 rfl ?_
  refine slv_iconst (v := nI 5) eX12_at_4 (by decide) ?_
  refine slv_iload_n eX12_at_5 rfl ?_
  refine slv_imulN eX12_at_6 ?_
  refine slv_iload_n eX12_at_7 rfl ?_
  refine slv_iaddN eX12_at_8 ?_
  refine slr_ialdX (k := 4) (p := 70) (len := 60) eX12_at_9 rfl (by repeat (first | exact sl_u_eq | assumption | apply rf_ne (by decide) | exact rfl)) (by omega) (by decide) rfl ?_
  refine slv_iret eX12_at_10 rfl ?_
  exact ⟨rfl, rfl⟩
set_option maxRecDepth 100000 in
theorem c_X12_relationOf {x y : Nat} (h : 12 * x + y < 144) : sl_R YX12_relationOf 0 [.ref 68, .int (nI x), .int (nI y)] (rf_S v w a nm M) (some (.int (a 38 (12 * x + y)))) (rf_S v w a nm M) := by
  refine sl_T.of_V (lv := [_, _, _]) (by decide) rfl (Nat.le_of_ble_eq_true rfl) ?_
  refine slv_aload_n eX12_relationOf_0 rfl ?_
  refine slr_ga (p := 85) eX12_relationOf_1 fX12_64 rfl ?_
  refine slv_bipush (v := nI 12) eX12_relationOf_4 (by decide) ?_
  refine slv_iload_n eX12_relationOf_6 rfl ?_
  refine slv_imulN eX12_relationOf_7 ?_
  refine slv_iload_n eX12_relationOf_8 rfl ?_
  refine slv_iaddN eX12_relationOf_9 ?_
  refine slr_ialdX (k := 38) (p := 85) (len := 144) eX12_relationOf_10 rfl (by repeat (first | exact sl_u_eq | assumption | apply rf_ne (by decide) | exact rfl)) (by omega) (by decide) rfl ?_
  refine slv_iret eX12_relationOf_11 rfl ?_
  exact ⟨rfl, rfl⟩
set_option maxRecDepth 100000 in
theorem c_X12_isRule (h21 : v 21 = sl_bi sn) {n : Nat} (h14 : sn = true → v 14 = nI n) (hn : n < 1000) (x : Int32) : sl_R YX12_isRule 1 [.ref 68, .int x] (rf_S v w a nm M) (some (.int (sl_bi (sl_vr sn x n).isSome))) (rf_S v w a nm M) := by
  refine sl_T.of_V (lv := [_, _]) (by decide) rfl (Nat.le_of_ble_eq_true rfl) ?_
  cases sn with
  | false =>
    refine slv_aload_n eX12_isRule_0 rfl ?_
    refine slr_gi eX12_isRule_1 fX12_317 rfl (by repeat (first | exact sl_u_eq | assumption | apply rf_ne (by decide) | exact rfl)) ?_
    refine slv_if_eqB eX12_isRule_4 (fun h4 => ?_) (fun h4 => absurd h4 (by decide))
    refine slv_iconst (v := nI 0) eX12_isRule_25 (by decide) ?_
    refine slv_zret eX12_isRule_26 rfl rfl ?_
    exact ⟨rfl, rfl⟩
  | true =>
    have h14' := h14 rfl
    refine slv_aload_n eX12_isRule_0 rfl ?_
    refine slr_gi eX12_isRule_1 fX12_317 rfl (by repeat (first | exact sl_u_eq | assumption | apply rf_ne (by decide) | exact rfl)) ?_
    refine slv_if_eqB eX12_isRule_4 (fun h4 => absurd h4 (by decide)) (fun h4 => ?_)
    refine slv_iload_n eX12_isRule_7 rfl ?_
    refine slv_iconst (v := nI 0) eX12_isRule_8 (by decide) ?_
    refine slv_aload_n eX12_isRule_9 rfl ?_
    refine slr_gi eX12_isRule_10 fX12_311 rfl (by repeat (first | exact sl_u_eq | assumption | apply rf_ne (by decide) | exact rfl)) ?_
    refine slv_iconst (v := nI 1) eX12_isRule_13 (by decide) ?_
    refine slv_isub eX12_isRule_14 ?_
    refine slv_rS (As := [_, _, _]) eX12_isRule_15 lX12_180 rfl rfl (c_X12_in0 _ x (by omega)) (by decide) (Nat.le_of_ble_eq_true rfl) ?_
    refine slv_if_eqB eX12_isRule_18 (fun h18 => ?_) (fun h18 => ?_)
    · refine slv_iconst (v := nI 0) eX12_isRule_25 (by decide) ?_
      refine slv_zret eX12_isRule_26 rfl rfl ?_
      exact ⟨by rw [sl_vr, cond_true, h18]; rfl, rfl⟩
    · refine slv_iconst (v := nI 1) eX12_isRule_21 (by decide) ?_
      refine slv_goto eX12_isRule_22 ?_
      refine slv_zret eX12_isRule_26 rfl rfl ?_
      exact ⟨by rw [sl_vr, cond_true, h18]; rfl, rfl⟩
set_option maxRecDepth 100000 in
theorem c_X12_isTerminal (h21 : v 21 = sl_bi sn) {n : Nat} (h16 : sn = true → v 16 = nI n) (hn : n < 1000) (x : Int32) : sl_R YX12_isTerminal 1 [.ref 68, .int x] (rf_S v w a nm M) (some (.int (sl_bi (sl_vr sn x (n + 1)).isSome))) (rf_S v w a nm M) := by
  refine sl_T.of_V (lv := [_, _]) (by decide) rfl (Nat.le_of_ble_eq_true rfl) ?_
  cases sn with
  | false =>
    refine slv_aload_n eX12_isTerminal_0 rfl ?_
    refine slr_gi eX12_isTerminal_1 fX12_317 rfl (by repeat (first | exact sl_u_eq | assumption | apply rf_ne (by decide) | exact rfl)) ?_
    refine slv_if_eqB eX12_isTerminal_4 (fun h4 => ?_) (fun h4 => absurd h4 (by decide))
    refine slv_iconst (v := nI 0) eX12_isTerminal_23 (by decide) ?_
    refine slv_zret eX12_isTerminal_24 rfl rfl ?_
    exact ⟨rfl, rfl⟩
  | true =>
    have h16' := h16 rfl
    refine slv_aload_n eX12_isTerminal_0 rfl ?_
    refine slr_gi eX12_isTerminal_1 fX12_317 rfl (by repeat (first | exact sl_u_eq | assumption | apply rf_ne (by decide) | exact rfl)) ?_
    refine slv_if_eqB eX12_isTerminal_4 (fun h4 => absurd h4 (by decide)) (fun h4 => ?_)
    refine slv_iload_n eX12_isTerminal_7 rfl ?_
    refine slv_iconst (v := nI 0) eX12_isTerminal_8 (by decide) ?_
    refine slv_aload_n eX12_isTerminal_9 rfl ?_
    refine slr_gi eX12_isTerminal_10 fX12_324 rfl (by repeat (first | exact sl_u_eq | assumption | apply rf_ne (by decide) | exact rfl)) ?_
    refine slv_rS (As := [_, _, _]) eX12_isTerminal_13 lX12_180 rfl rfl (c_X12_in1 _ x (by omega)) (by decide) (Nat.le_of_ble_eq_true rfl) ?_
    refine slv_if_eqB eX12_isTerminal_16 (fun h16 => ?_) (fun h16 => ?_)
    · refine slv_iconst (v := nI 0) eX12_isTerminal_23 (by decide) ?_
      refine slv_zret eX12_isTerminal_24 rfl rfl ?_
      exact ⟨by rw [sl_vr, cond_true, h16]; rfl, rfl⟩
    · refine slv_iconst (v := nI 1) eX12_isTerminal_19 (by decide) ?_
      refine slv_goto eX12_isTerminal_20 ?_
      refine slv_zret eX12_isTerminal_24 rfl rfl ?_
      exact ⟨by rw [sl_vr, cond_true, h16]; rfl, rfl⟩
set_option maxRecDepth 100000 in
theorem c_X12_about (h21 : v 21 = sl_bi sn) (hG : sn = true → rf_G g v a) (x : Int32) : sl_R YX12_about 1 [.ref 68, .int x] (rf_S v w a nm M) (some (.int (an_about sn g x).1)) (rf_S (rf_an v (an_about sn g x).2) w a nm M) := by
  refine sl_T.of_V (lv := [_, _]) (by decide) rfl (Nat.le_of_ble_eq_true rfl) ?_
  unfold an_about
  cases sn with
  | false =>
    refine slv_aload_n eX12_about_0 rfl ?_
    refine slv_iconst (v := nI 0) eX12_about_1 (by decide) ?_
    refine slr_pi eX12_about_2 fX12_149 (Nat.le_of_ble_eq_true rfl) rf_s0 ?_
    refine slv_aload_n eX12_about_5 rfl ?_
    refine slr_gi eX12_about_6 fX12_317 rfl (by repeat (first | exact sl_u_eq | assumption | apply rf_ne (by decide) | exact rfl)) ?_
    refine slv_if_neB eX12_about_9 (fun h9 => absurd h9 (by decide)) (fun h9 => ?_)
    refine slv_aload_n eX12_about_12 rfl ?_
    refine slv_iconst (v := nI 1) eX12_about_13 (by decide) ?_
    refine slv_rV (As := [_]) eX12_about_14 lX12_155 rfl rfl rf_68 rfl (c_X12_refused 1) (by decide) (Nat.le_of_ble_eq_true rfl) ?_
    refine slv_iret eX12_about_17 rfl ?_
    exact ⟨rfl, rfl⟩
  | true =>
    obtain ⟨h14, h15, h16, h22, hr, hi, ht⟩ := hG rfl
    cases hv : sl_vi x 4 with
    | none =>
      refine slv_aload_n eX12_about_0 rfl ?_
      refine slv_iconst (v := nI 0) eX12_about_1 (by decide) ?_
      refine slr_pi eX12_about_2 fX12_149 (Nat.le_of_ble_eq_true rfl) rf_s0 ?_
      refine slv_aload_n eX12_about_5 rfl ?_
      refine slr_gi eX12_about_6 fX12_317 rfl (by repeat (first | exact sl_u_eq | assumption | apply rf_ne (by decide) | exact rfl)) ?_
      refine slv_if_neB eX12_about_9 (fun h9 => ?_) (fun h9 => absurd h9 (by decide))
      refine slv_iload_n eX12_about_18 rfl ?_
      refine slv_tableOut (t := 84) eX12_about_19 (by have := vi_none hv; omega) (by decide) ?_
      refine slv_aload_n eX12_about_84 rfl ?_
      refine slv_iconst (v := nI 1) eX12_about_85 (by decide) ?_
      refine slv_rV (As := [_]) eX12_about_86 lX12_155 rfl rfl rf_68 rfl (c_X12_refused 1) (by decide) (Nat.le_of_ble_eq_true rfl) ?_
      refine slv_iret eX12_about_89 rfl ?_
      exact ⟨rfl, rfl⟩
    | some k =>
      obtain ⟨hx, hk⟩ := vi_some hv
      subst hx
      rcases (show k = 0 ∨ k = 1 ∨ k = 2 ∨ k = 3 by omega) with e | e | e | e <;> subst e
      · refine slv_aload_n eX12_about_0 rfl ?_
        refine slv_iconst (v := nI 0) eX12_about_1 (by decide) ?_
        refine slr_pi eX12_about_2 fX12_149 (Nat.le_of_ble_eq_true rfl) rf_s0 ?_
        refine slv_aload_n eX12_about_5 rfl ?_
        refine slr_gi eX12_about_6 fX12_317 rfl (by repeat (first | exact sl_u_eq | assumption | apply rf_ne (by decide) | exact rfl)) ?_
        refine slv_if_neB eX12_about_9 (fun h9 => ?_) (fun h9 => absurd h9 (by decide))
        refine slv_iload_n eX12_about_18 rfl ?_
        refine slv_tableIn (off := 29) (t := 48) eX12_about_19 (by decide) (by decide) (by decide) (by decide) ?_
        refine slv_aload_n eX12_about_48 rfl ?_
        refine slv_aload_n eX12_about_49 rfl ?_
        refine slr_gi eX12_about_50 fX12_327 rfl (by repeat (first | exact sl_u_eq | assumption | apply rf_ne (by decide) | exact rfl)) ?_
        refine slv_rV (As := [_]) eX12_about_53 lX12_314 rfl rfl rf_68 rfl (c_X12_good _) (by decide) (Nat.le_of_ble_eq_true rfl) ?_
        refine slv_iret eX12_about_56 rfl ?_
        exact ⟨rfl, rfl⟩
      · refine slv_aload_n eX12_about_0 rfl ?_
        refine slv_iconst (v := nI 0) eX12_about_1 (by decide) ?_
        refine slr_pi eX12_about_2 fX12_149 (Nat.le_of_ble_eq_true rfl) rf_s0 ?_
        refine slv_aload_n eX12_about_5 rfl ?_
        refine slr_gi eX12_about_6 fX12_317 rfl (by repeat (first | exact sl_u_eq | assumption | apply rf_ne (by decide) | exact rfl)) ?_
        refine slv_if_neB eX12_about_9 (fun h9 => ?_) (fun h9 => absurd h9 (by decide))
        refine slv_iload_n eX12_about_18 rfl ?_
        refine slv_tableIn (off := 38) (t := 57) eX12_about_19 (by decide) (by decide) (by decide) (by decide) ?_
        refine slv_aload_n eX12_about_57 rfl ?_
        refine slv_aload_n eX12_about_58 rfl ?_
        refine slr_gi eX12_about_59 fX12_311 rfl (by repeat (first | exact sl_u_eq | assumption | apply rf_ne (by decide) | exact rfl)) ?_
        refine slv_rV (As := [_]) eX12_about_62 lX12_314 rfl rfl rf_68 rfl (c_X12_good _) (by decide) (Nat.le_of_ble_eq_true rfl) ?_
        refine slv_iret eX12_about_65 rfl ?_
        exact ⟨rfl, rfl⟩
      · refine slv_aload_n eX12_about_0 rfl ?_
        refine slv_iconst (v := nI 0) eX12_about_1 (by decide) ?_
        refine slr_pi eX12_about_2 fX12_149 (Nat.le_of_ble_eq_true rfl) rf_s0 ?_
        refine slv_aload_n eX12_about_5 rfl ?_
        refine slr_gi eX12_about_6 fX12_317 rfl (by repeat (first | exact sl_u_eq | assumption | apply rf_ne (by decide) | exact rfl)) ?_
        refine slv_if_neB eX12_about_9 (fun h9 => ?_) (fun h9 => absurd h9 (by decide))
        refine slv_iload_n eX12_about_18 rfl ?_
        refine slv_tableIn (off := 47) (t := 66) eX12_about_19 (by decide) (by decide) (by decide) (by decide) ?_
        refine slv_aload_n eX12_about_66 rfl ?_
        refine slv_aload_n eX12_about_67 rfl ?_
        refine slr_gi eX12_about_68 fX12_321 rfl (by repeat (first | exact sl_u_eq | assumption | apply rf_ne (by decide) | exact rfl)) ?_
        refine slv_rV (As := [_]) eX12_about_71 lX12_314 rfl rfl rf_68 rfl (c_X12_good _) (by decide) (Nat.le_of_ble_eq_true rfl) ?_
        refine slv_iret eX12_about_74 rfl ?_
        exact ⟨rfl, rfl⟩
      · refine slv_aload_n eX12_about_0 rfl ?_
        refine slv_iconst (v := nI 0) eX12_about_1 (by decide) ?_
        refine slr_pi eX12_about_2 fX12_149 (Nat.le_of_ble_eq_true rfl) rf_s0 ?_
        refine slv_aload_n eX12_about_5 rfl ?_
        refine slr_gi eX12_about_6 fX12_317 rfl (by repeat (first | exact sl_u_eq | assumption | apply rf_ne (by decide) | exact rfl)) ?_
        refine slv_if_neB eX12_about_9 (fun h9 => ?_) (fun h9 => absurd h9 (by decide))
        refine slv_iload_n eX12_about_18 rfl ?_
        refine slv_tableIn (off := 56) (t := 75) eX12_about_19 (by decide) (by decide) (by decide) (by decide) ?_
        refine slv_aload_n eX12_about_75 rfl ?_
        refine slv_aload_n eX12_about_76 rfl ?_
        refine slr_gi eX12_about_77 fX12_324 rfl (by repeat (first | exact sl_u_eq | assumption | apply rf_ne (by decide) | exact rfl)) ?_
        refine slv_rV (As := [_]) eX12_about_80 lX12_314 rfl rfl rf_68 rfl (c_X12_good _) (by decide) (Nat.le_of_ble_eq_true rfl) ?_
        refine slv_iret eX12_about_83 rfl ?_
        exact ⟨rfl, rfl⟩
set_option maxRecDepth 100000 in
theorem c_X12_rule (h21 : v 21 = sl_bi sn) (hok : sg_ok g) (hG : sn = true → rf_G g v a) (x w' : Int32) : sl_R YX12_rule 2 [.ref 68, .int x, .int w'] (rf_S v w a nm M) (some (.int (an_rule sn g x w').1)) (rf_S (rf_an v (an_rule sn g x w').2) w a nm M) := by
  have hr12 : sg_rules g ≤ 12 := hok.2.1
  have hR := c_X12_isRule (v := sl_u v 0 (nI 0)) (w := w) (a := a) (nm := nm) (M := M) (n := sg_rules g) ((sl_u_ne (by decide)).trans h21) (fun q => (sl_u_ne (by decide)).trans (hG q).1) (by omega) x
  refine sl_T.of_V (lv := [_, _, _]) (by decide) rfl (Nat.le_of_ble_eq_true rfl) ?_
  unfold an_rule
  cases hq : sl_vr sn x (sg_rules g) with
  | none =>
    rw [hq] at hR
    refine slv_aload_n eX12_rule_0 rfl ?_
    refine slv_iconst (v := nI 0) eX12_rule_1 (by decide) ?_
    refine slr_pi eX12_rule_2 fX12_149 (Nat.le_of_ble_eq_true rfl) rf_s0 ?_
    refine slv_aload_n eX12_rule_5 rfl ?_
    refine slv_iload_n eX12_rule_6 rfl ?_
    refine slv_rV (As := [_]) eX12_rule_7 lX12_345 rfl rfl rf_68 rfl hR (by decide) (Nat.le_of_ble_eq_true rfl) ?_
    refine slv_if_neB eX12_rule_10 (fun h10 => absurd h10 (by decide)) (fun h10 => ?_)
    refine slv_aload_n eX12_rule_13 rfl ?_
    refine slv_iconst (v := nI 1) eX12_rule_14 (by decide) ?_
    refine slv_rV (As := [_]) eX12_rule_15 lX12_155 rfl rfl rf_68 rfl (c_X12_refused 1) (by decide) (Nat.le_of_ble_eq_true rfl) ?_
    refine slv_iret eX12_rule_18 rfl ?_
    exact ⟨rfl, rfl⟩
  | some k =>
    rw [hq] at hR
    obtain ⟨hs, hx, hk⟩ := vr_some hq
    subst hs hx
    obtain ⟨h14, h15, h16, h22, hr, hi, ht⟩ := hG rfl
    obtain ⟨r1, r2, r3, r4⟩ := hr k hk
    have hS := c_X12_serves (v := sl_u v 0 (nI 0)) (w := w) (a := a) (nm := nm) (M := M) (r := k)
    rw [sl_u_ne (show 23 ≠ 0 by decide), r4] at hS
    simp only
    cases hv : sl_vi w' 4 with
    | none =>
      refine slv_aload_n eX12_rule_0 rfl ?_
      refine slv_iconst (v := nI 0) eX12_rule_1 (by decide) ?_
      refine slr_pi eX12_rule_2 fX12_149 (Nat.le_of_ble_eq_true rfl) rf_s0 ?_
      refine slv_aload_n eX12_rule_5 rfl ?_
      refine slv_iload_n eX12_rule_6 rfl ?_
      refine slv_rV (As := [_]) eX12_rule_7 lX12_345 rfl rfl rf_68 rfl hR (by decide) (Nat.le_of_ble_eq_true rfl) ?_
      refine slv_if_neB eX12_rule_10 (fun h10 => ?_) (fun h10 => absurd h10 sl_tf)
      refine slv_iload_n eX12_rule_19 rfl ?_
      refine slv_tableOut (t := 103) eX12_rule_20 (by have := vi_none hv; omega) (by decide) ?_
      refine slv_aload_n eX12_rule_103 rfl ?_
      refine slv_iconst (v := nI 1) eX12_rule_104 (by decide) ?_
      refine slv_rV (As := [_]) eX12_rule_105 lX12_155 rfl rfl rf_68 rfl (c_X12_refused 1) (by decide) (Nat.le_of_ble_eq_true rfl) ?_
      refine slv_iret eX12_rule_108 rfl ?_
      exact ⟨rfl, rfl⟩
    | some j =>
      obtain ⟨hx, hj⟩ := vi_some hv
      subst hx
      rcases (show j = 0 ∨ j = 1 ∨ j = 2 ∨ j = 3 by omega) with e | e | e | e <;> subst e
      · refine slv_aload_n eX12_rule_0 rfl ?_
        refine slv_iconst (v := nI 0) eX12_rule_1 (by decide) ?_
        refine slr_pi eX12_rule_2 fX12_149 (Nat.le_of_ble_eq_true rfl) rf_s0 ?_
        refine slv_aload_n eX12_rule_5 rfl ?_
        refine slv_iload_n eX12_rule_6 rfl ?_
        refine slv_rV (As := [_]) eX12_rule_7 lX12_345 rfl rfl rf_68 rfl hR (by decide) (Nat.le_of_ble_eq_true rfl) ?_
        refine slv_if_neB eX12_rule_10 (fun h10 => ?_) (fun h10 => absurd h10 sl_tf)
        refine slv_iload_n eX12_rule_19 rfl ?_
        refine slv_tableIn (off := 32) (t := 52) eX12_rule_20 (by decide) (by decide) (by decide) (by decide) ?_
        refine slv_aload_n eX12_rule_52 rfl ?_
        refine slv_aload_n eX12_rule_53 rfl ?_
        refine slr_ga (p := 69) eX12_rule_54 fX12_13 rfl ?_
        refine slv_iload_n eX12_rule_57 rfl ?_
        refine slr_ialdX (k := 3) (p := 69) (len := 12) eX12_rule_58 rfl (by repeat (first | exact sl_u_eq | assumption | apply rf_ne (by decide) | exact rfl)) (by omega) (by decide) r1 ?_
        refine slv_rV (As := [_]) eX12_rule_59 lX12_314 rfl rfl rf_68 rfl (c_X12_good _) (by decide) (Nat.le_of_ble_eq_true rfl) ?_
        refine slv_iret eX12_rule_62 rfl ?_
        exact ⟨rfl, rfl⟩
      · refine slv_aload_n eX12_rule_0 rfl ?_
        refine slv_iconst (v := nI 0) eX12_rule_1 (by decide) ?_
        refine slr_pi eX12_rule_2 fX12_149 (Nat.le_of_ble_eq_true rfl) rf_s0 ?_
        refine slv_aload_n eX12_rule_5 rfl ?_
        refine slv_iload_n eX12_rule_6 rfl ?_
        refine slv_rV (As := [_]) eX12_rule_7 lX12_345 rfl rfl rf_68 rfl hR (by decide) (Nat.le_of_ble_eq_true rfl) ?_
        refine slv_if_neB eX12_rule_10 (fun h10 => ?_) (fun h10 => absurd h10 sl_tf)
        refine slv_iload_n eX12_rule_19 rfl ?_
        refine slv_tableIn (off := 43) (t := 63) eX12_rule_20 (by decide) (by decide) (by decide) (by decide) ?_
        refine slv_aload_n eX12_rule_63 rfl ?_
        refine slv_aload_n eX12_rule_64 rfl ?_
        refine slr_ga (p := 71) eX12_rule_65 fX12_20 rfl ?_
        refine slv_iload_n eX12_rule_68 rfl ?_
        refine slr_ialdX (k := 5) (p := 71) (len := 12) eX12_rule_69 rfl (by repeat (first | exact sl_u_eq | assumption | apply rf_ne (by decide) | exact rfl)) (by omega) (by decide) r2 ?_
        refine slv_rV (As := [_]) eX12_rule_70 lX12_314 rfl rfl rf_68 rfl (c_X12_good _) (by decide) (Nat.le_of_ble_eq_true rfl) ?_
        refine slv_iret eX12_rule_73 rfl ?_
        exact ⟨rfl, rfl⟩
      · refine slv_aload_n eX12_rule_0 rfl ?_
        refine slv_iconst (v := nI 0) eX12_rule_1 (by decide) ?_
        refine slr_pi eX12_rule_2 fX12_149 (Nat.le_of_ble_eq_true rfl) rf_s0 ?_
        refine slv_aload_n eX12_rule_5 rfl ?_
        refine slv_iload_n eX12_rule_6 rfl ?_
        refine slv_rV (As := [_]) eX12_rule_7 lX12_345 rfl rfl rf_68 rfl hR (by decide) (Nat.le_of_ble_eq_true rfl) ?_
        refine slv_if_neB eX12_rule_10 (fun h10 => ?_) (fun h10 => absurd h10 sl_tf)
        refine slv_iload_n eX12_rule_19 rfl ?_
        refine slv_tableIn (off := 54) (t := 74) eX12_rule_20 (by decide) (by decide) (by decide) (by decide) ?_
        refine slv_aload_n eX12_rule_74 rfl ?_
        refine slv_aload_n eX12_rule_75 rfl ?_
        refine slr_ga (p := 72) eX12_rule_76 fX12_23 rfl ?_
        refine slv_iload_n eX12_rule_79 rfl ?_
        refine slr_ialdX (k := 6) (p := 72) (len := 12) eX12_rule_80 rfl (by repeat (first | exact sl_u_eq | assumption | apply rf_ne (by decide) | exact rfl)) (by omega) (by decide) r3 ?_
        refine slv_rV (As := [_]) eX12_rule_81 lX12_314 rfl rfl rf_68 rfl (c_X12_good _) (by decide) (Nat.le_of_ble_eq_true rfl) ?_
        refine slv_iret eX12_rule_84 rfl ?_
        exact ⟨rfl, rfl⟩
      · refine slv_aload_n eX12_rule_0 rfl ?_
        refine slv_iconst (v := nI 0) eX12_rule_1 (by decide) ?_
        refine slr_pi eX12_rule_2 fX12_149 (Nat.le_of_ble_eq_true rfl) rf_s0 ?_
        refine slv_aload_n eX12_rule_5 rfl ?_
        refine slv_iload_n eX12_rule_6 rfl ?_
        refine slv_rV (As := [_]) eX12_rule_7 lX12_345 rfl rfl rf_68 rfl hR (by decide) (Nat.le_of_ble_eq_true rfl) ?_
        refine slv_if_neB eX12_rule_10 (fun h10 => ?_) (fun h10 => absurd h10 sl_tf)
        refine slv_iload_n eX12_rule_19 rfl ?_
        refine slv_tableIn (off := 65) (t := 85) eX12_rule_20 (by decide) (by decide) (by decide) (by decide) ?_
        refine slv_aload_n eX12_rule_85 rfl ?_
        refine slv_aload_n eX12_rule_86 rfl ?_
        refine slv_iload_n eX12_rule_87 rfl ?_
        refine slv_rV (As := [_]) eX12_rule_88 lX12_348 rfl rfl rf_68 rfl hS (by decide) (Nat.le_of_ble_eq_true rfl) ?_
        refine slv_if_eqB eX12_rule_91 (fun h91 => ?_) (fun h91 => ?_)
        · refine slv_iconst (v := nI 1) eX12_rule_98 (by decide) ?_
          refine slv_rV (As := [_]) eX12_rule_99 lX12_314 rfl rfl rf_68 rfl (c_X12_good _) (by decide) (Nat.le_of_ble_eq_true rfl) ?_
          refine slv_iret eX12_rule_102 rfl ?_
          rw [Bool.not_eq_eq_eq_not] at h91
          rw [h91]
          exact ⟨rfl, rfl⟩
        · refine slv_iconst (v := nI 0) eX12_rule_94 (by decide) ?_
          refine slv_goto eX12_rule_95 ?_
          refine slv_rV (As := [_]) eX12_rule_99 lX12_314 rfl rfl rf_68 rfl (c_X12_good _) (by decide) (Nat.le_of_ble_eq_true rfl) ?_
          refine slv_iret eX12_rule_102 rfl ?_
          rw [Bool.not_eq_eq_eq_not] at h91
          rw [h91]
          exact ⟨rfl, rfl⟩
set_option maxRecDepth 100000 in
theorem c_X12_item (h21 : v 21 = sl_bi sn) (hok : sg_ok g) (hG : sn = true → rf_G g v a) (x w' : Int32) : sl_R YX12_item 2 [.ref 68, .int x, .int w'] (rf_S v w a nm M) (some (.int (an_item sn g x w').1)) (rf_S (rf_an v (an_item sn g x w').2) w a nm M) := by
  have hr12 : sg_rules g ≤ 12 := hok.2.1
  have hR := c_X12_isRule (v := sl_u v 0 (nI 0)) (w := w) (a := a) (nm := nm) (M := M) (n := sg_rules g) ((sl_u_ne (by decide)).trans h21) (fun q => (sl_u_ne (by decide)).trans (hG q).1) (by omega) x
  refine sl_T.of_V (lv := [_, _, _]) (by decide) rfl (Nat.le_of_ble_eq_true rfl) ?_
  unfold an_item
  cases hq : sl_vr sn x (sg_rules g) with
  | none =>
    rw [hq] at hR
    refine slv_aload_n eX12_item_0 rfl ?_
    refine slv_iconst (v := nI 0) eX12_item_1 (by decide) ?_
    refine slr_pi eX12_item_2 fX12_149 (Nat.le_of_ble_eq_true rfl) rf_s0 ?_
    refine slv_aload_n eX12_item_5 rfl ?_
    refine slv_iload_n eX12_item_6 rfl ?_
    refine slv_rV (As := [_]) eX12_item_7 lX12_345 rfl rfl rf_68 rfl hR (by decide) (Nat.le_of_ble_eq_true rfl) ?_
    refine slv_if_eqB eX12_item_10 (fun h10 => ?_) (fun h10 => absurd h10 (by decide))
    refine slv_aload_n eX12_item_42 rfl ?_
    refine slv_iconst (v := nI 1) eX12_item_43 (by decide) ?_
    refine slv_rV (As := [_]) eX12_item_44 lX12_155 rfl rfl rf_68 rfl (c_X12_refused 1) (by decide) (Nat.le_of_ble_eq_true rfl) ?_
    refine slv_iret eX12_item_47 rfl ?_
    exact ⟨rfl, rfl⟩
  | some k =>
    rw [hq] at hR
    obtain ⟨hs, hx, hk⟩ := vr_some hq
    subst hs hx
    obtain ⟨h14, h15, h16, h22, hr, hi, ht⟩ := hG rfl
    obtain ⟨r1, r2, r3, r4⟩ := hr k hk
    have hl5 : sg_lens g k ≤ 5 := (hok.2.2.2.2.2.1 k (by omega)).2.2
    simp only
    cases hv : sl_vi w' (sg_lens g k) with
    | none =>
      have hI := c_X12_in0 (rf_S (sl_u v 0 (nI 0)) w a nm M) w' (n := sg_lens g k) (by omega)
      rw [hv] at hI
      refine slv_aload_n eX12_item_0 rfl ?_
      refine slv_iconst (v := nI 0) eX12_item_1 (by decide) ?_
      refine slr_pi eX12_item_2 fX12_149 (Nat.le_of_ble_eq_true rfl) rf_s0 ?_
      refine slv_aload_n eX12_item_5 rfl ?_
      refine slv_iload_n eX12_item_6 rfl ?_
      refine slv_rV (As := [_]) eX12_item_7 lX12_345 rfl rfl rf_68 rfl hR (by decide) (Nat.le_of_ble_eq_true rfl) ?_
      refine slv_if_eqB eX12_item_10 (fun h10 => absurd h10 sl_tf) (fun h10 => ?_)
      refine slv_iload_n eX12_item_13 rfl ?_
      refine slv_iconst (v := nI 0) eX12_item_14 (by decide) ?_
      refine slv_aload_n eX12_item_15 rfl ?_
      refine slr_ga (p := 71) eX12_item_16 fX12_20 rfl ?_
      refine slv_iload_n eX12_item_19 rfl ?_
      refine slr_ialdX (k := 5) (p := 71) (len := 12) eX12_item_20 rfl (by repeat (first | exact sl_u_eq | assumption | apply rf_ne (by decide) | exact rfl)) (by omega) (by decide) r2 ?_
      refine slv_iconst (v := nI 1) eX12_item_21 (by decide) ?_
      refine slv_isub eX12_item_22 ?_
      refine slv_rS (As := [_, _, _]) eX12_item_23 lX12_180 rfl rfl hI (by decide) (Nat.le_of_ble_eq_true rfl) ?_
      refine slv_if_eqB eX12_item_26 (fun h26 => ?_) (fun h26 => absurd h26 (by decide))
      refine slv_aload_n eX12_item_42 rfl ?_
      refine slv_iconst (v := nI 1) eX12_item_43 (by decide) ?_
      refine slv_rV (As := [_]) eX12_item_44 lX12_155 rfl rfl rf_68 rfl (c_X12_refused 1) (by decide) (Nat.le_of_ble_eq_true rfl) ?_
      refine slv_iret eX12_item_47 rfl ?_
      exact ⟨rfl, rfl⟩
    | some j =>
      have hI := c_X12_in0 (rf_S (sl_u v 0 (nI 0)) w a nm M) w' (n := sg_lens g k) (by omega)
      rw [hv] at hI
      obtain ⟨hx, hj⟩ := vi_some hv
      subst hx
      have hA := c_X12_at (v := sl_u v 0 (nI 0)) (w := w) (a := a) (nm := nm) (M := M) (r := k) (i := j) (by omega)
      rw [hi k j hk hj] at hA
      refine slv_aload_n eX12_item_0 rfl ?_
      refine slv_iconst (v := nI 0) eX12_item_1 (by decide) ?_
      refine slr_pi eX12_item_2 fX12_149 (Nat.le_of_ble_eq_true rfl) rf_s0 ?_
      refine slv_aload_n eX12_item_5 rfl ?_
      refine slv_iload_n eX12_item_6 rfl ?_
      refine slv_rV (As := [_]) eX12_item_7 lX12_345 rfl rfl rf_68 rfl hR (by decide) (Nat.le_of_ble_eq_true rfl) ?_
      refine slv_if_eqB eX12_item_10 (fun h10 => absurd h10 sl_tf) (fun h10 => ?_)
      refine slv_iload_n eX12_item_13 rfl ?_
      refine slv_iconst (v := nI 0) eX12_item_14 (by decide) ?_
      refine slv_aload_n eX12_item_15 rfl ?_
      refine slr_ga (p := 71) eX12_item_16 fX12_20 rfl ?_
      refine slv_iload_n eX12_item_19 rfl ?_
      refine slr_ialdX (k := 5) (p := 71) (len := 12) eX12_item_20 rfl (by repeat (first | exact sl_u_eq | assumption | apply rf_ne (by decide) | exact rfl)) (by omega) (by decide) r2 ?_
      refine slv_iconst (v := nI 1) eX12_item_21 (by decide) ?_
      refine slv_isub eX12_item_22 ?_
      refine slv_rS (As := [_, _, _]) eX12_item_23 lX12_180 rfl rfl hI (by decide) (Nat.le_of_ble_eq_true rfl) ?_
      refine slv_if_eqB eX12_item_26 (fun h26 => absurd h26 sl_tf) (fun h26 => ?_)
      refine slv_aload_n eX12_item_29 rfl ?_
      refine slv_aload_n eX12_item_30 rfl ?_
      refine slv_iload_n eX12_item_31 rfl ?_
      refine slv_iload_n eX12_item_32 rfl ?_
      refine slv_rV (As := [_, _]) eX12_item_33 lX12_351 rfl rfl rf_68 rfl hA (by decide) (Nat.le_of_ble_eq_true rfl) ?_
      refine slv_rV (As := [_]) eX12_item_36 lX12_314 rfl rfl rf_68 rfl (c_X12_good _) (by decide) (Nat.le_of_ble_eq_true rfl) ?_
      refine slv_goto eX12_item_39 ?_
      refine slv_iret eX12_item_47 rfl ?_
      exact ⟨rfl, rfl⟩
set_option maxRecDepth 100000 in
theorem c_X12_sign (h21 : v 21 = sl_bi sn) (hok : sg_ok g) (hG : sn = true → rf_G g v a) (x : Int32) : sl_R YX12_sign 2 [.ref 68, .int x] (rf_S v w a nm M) (some (.int (an_sign sn g x).1)) (rf_S (rf_an v (an_sign sn g x).2) w a nm M) := by
  have ht11 : sg_terms g ≤ 11 := hok.2.2.2.1
  have hR := c_X12_isTerminal (v := sl_u v 0 (nI 0)) (w := w) (a := a) (nm := nm) (M := M) (n := sg_terms g) ((sl_u_ne (by decide)).trans h21) (fun q => (sl_u_ne (by decide)).trans (hG q).2.2.1) (by omega) x
  refine sl_T.of_V (lv := [_, _]) (by decide) rfl (Nat.le_of_ble_eq_true rfl) ?_
  unfold an_sign
  cases hq : sl_vr sn x (sg_terms g + 1) with
  | none =>
    rw [hq] at hR
    refine slv_aload_n eX12_sign_0 rfl ?_
    refine slv_iconst (v := nI 0) eX12_sign_1 (by decide) ?_
    refine slr_pi eX12_sign_2 fX12_149 (Nat.le_of_ble_eq_true rfl) rf_s0 ?_
    refine slv_aload_n eX12_sign_5 rfl ?_
    refine slv_iload_n eX12_sign_6 rfl ?_
    refine slv_rV (As := [_]) eX12_sign_7 lX12_354 rfl rfl rf_68 rfl hR (by decide) (Nat.le_of_ble_eq_true rfl) ?_
    refine slv_if_neB eX12_sign_10 (fun h10 => absurd h10 (by decide)) (fun h10 => ?_)
    refine slv_aload_n eX12_sign_13 rfl ?_
    refine slv_iconst (v := nI 1) eX12_sign_14 (by decide) ?_
    refine slv_rV (As := [_]) eX12_sign_15 lX12_155 rfl rfl rf_68 rfl (c_X12_refused 1) (by decide) (Nat.le_of_ble_eq_true rfl) ?_
    refine slv_iret eX12_sign_18 rfl ?_
    exact ⟨rfl, rfl⟩
  | some k =>
    rw [hq] at hR
    obtain ⟨hs, hx, hk⟩ := vr_some hq
    subst hs hx
    obtain ⟨h14, h15, h16, h22, hr, hi, ht⟩ := hG rfl
    simp only
    by_cases he : k = sg_terms g
    · subst he
      rw [if_pos rfl]
      refine slv_aload_n eX12_sign_0 rfl ?_
      refine slv_iconst (v := nI 0) eX12_sign_1 (by decide) ?_
      refine slr_pi eX12_sign_2 fX12_149 (Nat.le_of_ble_eq_true rfl) rf_s0 ?_
      refine slv_aload_n eX12_sign_5 rfl ?_
      refine slv_iload_n eX12_sign_6 rfl ?_
      refine slv_rV (As := [_]) eX12_sign_7 lX12_354 rfl rfl rf_68 rfl hR (by decide) (Nat.le_of_ble_eq_true rfl) ?_
      refine slv_if_neB eX12_sign_10 (fun h10 => ?_) (fun h10 => absurd h10 sl_tf)
      refine slv_aload_n eX12_sign_19 rfl ?_
      refine slv_iload_n eX12_sign_20 rfl ?_
      refine slv_aload_n eX12_sign_21 rfl ?_
      refine slr_gi eX12_sign_22 fX12_324 rfl (by repeat (first | exact sl_u_eq | assumption | apply rf_ne (by decide) | exact rfl)) ?_
      refine slv_icmp_neN eX12_sign_25 (by omega) (by omega) (fun h25 => absurd h25 (fun q => q rfl)) (fun h25 => ?_)
      refine slv_bipush (v := (-2)) eX12_sign_28 (by decide) ?_
      refine slv_goto eX12_sign_30 ?_
      refine slv_rV (As := [_]) eX12_sign_39 lX12_314 rfl rfl rf_68 rfl (c_X12_good _) (by decide) (Nat.le_of_ble_eq_true rfl) ?_
      refine slv_iret eX12_sign_42 rfl ?_
      exact ⟨rfl, rfl⟩
    · rw [if_neg he]
      have hk' : k < sg_terms g := by omega
      refine slv_aload_n eX12_sign_0 rfl ?_
      refine slv_iconst (v := nI 0) eX12_sign_1 (by decide) ?_
      refine slr_pi eX12_sign_2 fX12_149 (Nat.le_of_ble_eq_true rfl) rf_s0 ?_
      refine slv_aload_n eX12_sign_5 rfl ?_
      refine slv_iload_n eX12_sign_6 rfl ?_
      refine slv_rV (As := [_]) eX12_sign_7 lX12_354 rfl rfl rf_68 rfl hR (by decide) (Nat.le_of_ble_eq_true rfl) ?_
      refine slv_if_neB eX12_sign_10 (fun h10 => ?_) (fun h10 => absurd h10 sl_tf)
      refine slv_aload_n eX12_sign_19 rfl ?_
      refine slv_iload_n eX12_sign_20 rfl ?_
      refine slv_aload_n eX12_sign_21 rfl ?_
      refine slr_gi eX12_sign_22 fX12_324 rfl (by repeat (first | exact sl_u_eq | assumption | apply rf_ne (by decide) | exact rfl)) ?_
      refine slv_icmp_neN eX12_sign_25 (by omega) (by omega) (fun h25 => ?_) (fun h25 => absurd h25 (by omega))
      refine slv_aload_n eX12_sign_33 rfl ?_
      refine slr_ga (p := 73) eX12_sign_34 fX12_26 rfl ?_
      refine slv_iload_n eX12_sign_37 rfl ?_
      refine slr_ialdX (k := 7) (p := 73) (len := 11) eX12_sign_38 rfl (by repeat (first | exact sl_u_eq | assumption | apply rf_ne (by decide) | exact rfl)) (by omega) (by decide) (ht k hk') ?_
      refine slv_rV (As := [_]) eX12_sign_39 lX12_314 rfl rfl rf_68 rfl (c_X12_good _) (by decide) (Nat.le_of_ble_eq_true rfl) ?_
      refine slv_iret eX12_sign_42 rfl ?_
      exact ⟨rfl, rfl⟩
end RSM

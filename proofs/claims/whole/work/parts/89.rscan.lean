/-! the reference's scan of a formula -/
section RSC
variable {v : Nat → Int32} {w : Int64} {a : Nat → Nat → Int32} {nm : Nat → Int64} {M : sl_M} {f : Nat → Int32} {ln : Nat} {g : sg_T}
set_option maxRecDepth 100000 in
theorem c_X12_terminalOf (hG : rf_G g v a) (hok : sg_ok g) (x : Nat) : sl_R YX12_terminalOf 0 [.ref 68, .int (nI x)] (rf_S v w a nm M) (some (.int (sl_io (gt_k g x)))) (rf_S v w a nm M) := by
  have ht11 : sg_terms g ≤ 11 := hok.2.2.2.1
  obtain ⟨g1, g2, g3, g4, g5, g6, g7⟩ := hG
  refine sl_T.of_V (lv := [_, _, _]) (by decide) rfl (Nat.le_of_ble_eq_true rfl) ?_
  have loop : ∀ (n i : Nat), i + n = sg_terms g → ∀ Q : Option Value → sl_M → Prop, Q (some (.int (sl_io (sl_fn (fun t => decide (nI (sg_signs g t) = nI x)) n i)))) (rf_S v w a nm M) → sl_V YX12_terminalOf none 0 0 0 Q 2 [some (.ref 68), some (.int (nI x)), some (.int (nI i))] [] (rf_S v w a nm M) := by
    intro n
    induction n with
    | zero =>
      intro i hi Q hQ
      refine slv_iload_n eX12_terminalOf_2 rfl ?_
      refine slv_aload_n eX12_terminalOf_3 rfl ?_
      refine slr_gi eX12_terminalOf_4 fX12_324 rfl (by repeat (first | exact sl_u_eq | assumption | apply rf_ne (by decide) | exact rfl)) ?_
      refine slv_icmp_geN eX12_terminalOf_7 (by omega) (by omega) (fun h7 => ?_) (fun h7 => absurd h7 (by omega))
      refine slv_iconst (v := (-1)) eX12_terminalOf_28 (by decide) ?_
      refine slv_iret eX12_terminalOf_29 rfl ?_
      exact hQ
    | succ n ih =>
      intro i hi Q hQ
      have hgo : sl_fn (fun t => decide (nI (sg_signs g t) = nI x)) (n + 1) i = cond (decide (nI (sg_signs g i) = nI x)) (some i) (sl_fn (fun t => decide (nI (sg_signs g t) = nI x)) n (i + 1)) := rfl
      rw [hgo] at hQ
      refine slv_iload_n eX12_terminalOf_2 rfl ?_
      refine slv_aload_n eX12_terminalOf_3 rfl ?_
      refine slr_gi eX12_terminalOf_4 fX12_324 rfl (by repeat (first | exact sl_u_eq | assumption | apply rf_ne (by decide) | exact rfl)) ?_
      refine slv_icmp_geN eX12_terminalOf_7 (by omega) (by omega) (fun h7 => absurd h7 (by omega)) (fun h7 => ?_)
      refine slv_aload_n eX12_terminalOf_10 rfl ?_
      refine slr_ga (p := 73) eX12_terminalOf_11 fX12_26 rfl ?_
      refine slv_iload_n eX12_terminalOf_14 rfl ?_
      refine slr_ialdX (k := 7) (p := 73) (len := 11) eX12_terminalOf_15 rfl (by repeat (first | exact sl_u_eq | assumption | apply rf_ne (by decide) | exact rfl)) (by omega) (by decide) (g7 i (by omega)) ?_
      refine slv_iload_n eX12_terminalOf_16 rfl ?_
      refine slv_icmp_ne eX12_terminalOf_17 (fun h17 => ?_) (fun h17 => ?_)
      · refine slv_iincN (lv' := [_, _, _]) eX12_terminalOf_22 rfl (by decide) rfl ?_
        refine slv_goto eX12_terminalOf_25 ?_
        rw [decide_eq_false h17, cond_false] at hQ
        exact ih (i + 1) (by omega) Q hQ
      · refine slv_iload_n eX12_terminalOf_20 rfl ?_
        refine slv_iret eX12_terminalOf_21 rfl ?_
        rw [decide_eq_true h17, cond_true] at hQ
        exact hQ
  refine slv_iconst (v := nI 0) eX12_terminalOf_0 (by decide) ?_
  refine slv_istore_n (i := 2) (lv' := [_, _, _]) eX12_terminalOf_1 rfl (by decide) rfl ?_
  exact loop (sg_terms g) 0 (by omega) _ ⟨rfl, rfl⟩
theorem dg_in {k : Nat} : (decide (nI 48 ≤ (if k < ln then nI (by_ f k) else -1)) && decide ((if k < ln then nI (by_ f k) else -1) ≤ nI 57)) = fm_dg f ln k := by
  unfold fm_dg
  by_cases h : k < ln
  · rw [if_pos h, decide_eq_true h, Bool.true_and]
    have hb := by_lt f k
    have : ∀ c, c < 256 → (decide (nI 48 ≤ nI c) && decide (nI c ≤ nI 57)) = (decide (48 ≤ c) && decide (c ≤ 57)) := by decide +kernel
    exact this _ hb
  · rw [if_neg h, decide_eq_false h, Bool.false_and]
    decide
set_option maxRecDepth 100000 in
theorem c_X12_isDigit (h27 : a 27 = f) (h29 : v 29 = nI ln) (hl : ln ≤ 900) {k : Nat} (hk : k ≤ 2000) : sl_R YX12_isDigit 1 [.ref 68, .int (nI k)] (rf_S v w a nm M) (some (.int (sl_bi (fm_dg f ln k)))) (rf_S v w a nm M) := by
  have hB := c_X12_byteAt (w := w) (nm := nm) (M := M) h27 h29 hl hk
  have hI := c_X12_in (rf_S v w a nm M) (if k < ln then nI (by_ f k) else -1) (nI 48) (nI 57)
  rw [dg_in] at hI
  refine sl_T.of_V (lv := [_, _]) (by decide) rfl (Nat.le_of_ble_eq_true rfl) ?_
  refine slv_aload_n eX12_isDigit_0 rfl ?_
  refine slv_iload_n eX12_isDigit_1 rfl ?_
  refine slv_rV (As := [_]) eX12_isDigit_2 lX12_171 rfl rfl rf_68 rfl hB (by decide) (Nat.le_of_ble_eq_true rfl) ?_
  refine slv_bipush (v := nI 48) eX12_isDigit_5 (by decide) ?_
  refine slv_bipush (v := nI 57) eX12_isDigit_7 (by decide) ?_
  refine slv_rS (As := [_, _, _]) eX12_isDigit_9 lX12_180 rfl rfl hI (by decide) (Nat.le_of_ble_eq_true rfl) ?_
  refine slv_zret eX12_isDigit_12 rfl (sl_bi_nar _) ?_
  exact ⟨rfl, rfl⟩
theorem fm_de_ge {i n : Nat} (h : i + n = ln) : i ≤ fm_de f ln n i ∧ fm_de f ln n i ≤ ln := fm_de_le n i h
set_option maxRecDepth 100000 in
theorem sn_L1 (h27 : a 27 = f) (h29 : v 29 = nI ln) (hl : ln ≤ 900) {s : Nat} {z4 z5 : Option Value} : ∀ (n i acc : Nat), i + n = ln → s ≤ i → ∀ Q : Option Value → sl_M → Prop, (∀ acc', (fm_de f ln n i - s ≤ 7 → acc' = fm_db f ln (fm_de f ln n i - i) i acc) → sl_V YX12_scansNumber none 2 0 0 Q 40 [some (.ref 68), some (.int (nI s)), some (.int (nI (fm_de f ln n i))), some (.int (nI acc')), z4, z5] [] (rf_S v w a nm M)) → sl_V YX12_scansNumber none 2 0 0 Q 4 [some (.ref 68), some (.int (nI s)), some (.int (nI i)), some (.int (nI acc)), z4, z5] [] (rf_S v w a nm M) := by
  intro n
  induction n with
  | zero =>
    intro i acc hi hs Q hQ
    have e : i = ln := by omega
    subst e
    have hD := c_X12_isDigit (w := w) (nm := nm) (M := M) h27 h29 hl (k := i) (by omega)
    rw [show fm_dg f i i = false by unfold fm_dg; rw [decide_eq_false (by omega)]; rfl] at hD
    refine slv_aload_n eX12_scansNumber_4 rfl ?_
    refine slv_iload_n eX12_scansNumber_5 rfl ?_
    refine slv_rV (As := [_]) eX12_scansNumber_6 lX12_420 rfl rfl rf_68 rfl hD (by decide) (Nat.le_of_ble_eq_true rfl) ?_
    refine slv_if_eqB eX12_scansNumber_9 (fun h9 => ?_) (fun h9 => absurd h9 (by decide))
    refine hQ acc (fun _ => ?_)
    rw [show fm_de f i 0 i = i from rfl, Nat.sub_self]
    rfl
  | succ n ih =>
    intro i acc hi hs Q hQ
    have hD := c_X12_isDigit (w := w) (nm := nm) (M := M) h27 h29 hl (k := i) (by omega)
    cases hd : fm_dg f ln i with
    | false =>
      rw [hd] at hD
      have e : fm_de f ln (n + 1) i = i := by rw [fm_de, hd]; rfl
      rw [e] at hQ
      refine slv_aload_n eX12_scansNumber_4 rfl ?_
      refine slv_iload_n eX12_scansNumber_5 rfl ?_
      refine slv_rV (As := [_]) eX12_scansNumber_6 lX12_420 rfl rfl rf_68 rfl hD (by decide) (Nat.le_of_ble_eq_true rfl) ?_
      refine slv_if_eqB eX12_scansNumber_9 (fun h9 => ?_) (fun h9 => absurd h9 (by decide))
      exact hQ acc (fun _ => by rw [Nat.sub_self]; rfl)
    | true =>
      rw [hd] at hD
      have e : fm_de f ln (n + 1) i = fm_de f ln n (i + 1) := by rw [fm_de, hd]; rfl
      obtain ⟨d1, d2, d3⟩ := fm_dg_t hd
      have hge := fm_de_ge (f := f) (ln := ln) (i := i + 1) (n := n) (by omega)
      rw [e] at hQ
      have hB := c_X12_byteAt (w := w) (nm := nm) (M := M) h27 h29 hl (k := i) (by omega)
      rw [if_pos d1] at hB
      by_cases h7 : i - s < 7
      · have hI := ih (i + 1) (10 * acc + by_ f i - 48) (by omega) (by omega) Q (fun acc' h => hQ acc' (fun q => by
          rw [h q, show fm_de f ln n (i + 1) - i = (fm_de f ln n (i + 1) - (i + 1)) + 1 by omega, fm_db, hd, cond_true, Nat.mul_comm acc 10]))
        refine slv_aload_n eX12_scansNumber_4 rfl ?_
        refine slv_iload_n eX12_scansNumber_5 rfl ?_
        refine slv_rV (As := [_]) eX12_scansNumber_6 lX12_420 rfl rfl rf_68 rfl hD (by decide) (Nat.le_of_ble_eq_true rfl) ?_
        refine slv_if_eqB eX12_scansNumber_9 (fun h9 => absurd h9 (by decide)) (fun h9 => ?_)
        refine slv_iload_n eX12_scansNumber_12 rfl ?_
        refine slv_iload_n eX12_scansNumber_13 rfl ?_
        refine slv_isubN eX12_scansNumber_14 (by omega) ?_
        refine slv_bipush (v := nI 7) eX12_scansNumber_15 (by decide) ?_
        refine slv_icmp_geN eX12_scansNumber_17 (by omega) (by omega) (fun h17 => absurd h17 (by omega)) (fun h17 => ?_)
        refine slv_bipush (v := nI 10) eX12_scansNumber_20 (by decide) ?_
        refine slv_iload_n eX12_scansNumber_22 rfl ?_
        refine slv_imulN eX12_scansNumber_23 ?_
        refine slv_aload_n eX12_scansNumber_24 rfl ?_
        refine slv_iload_n eX12_scansNumber_25 rfl ?_
        refine slv_rV (As := [_]) eX12_scansNumber_26 lX12_171 rfl rfl rf_68 rfl hB (by decide) (Nat.le_of_ble_eq_true rfl) ?_
        refine slv_iaddN eX12_scansNumber_29 ?_
        refine slv_bipush (v := nI 48) eX12_scansNumber_30 (by decide) ?_
        refine slv_isubN eX12_scansNumber_32 (by omega) ?_
        refine slv_istore_n (i := 3) (lv' := [_, _, _, _, _, _]) eX12_scansNumber_33 rfl (by decide) rfl ?_
        refine slv_iincN (lv' := [_, _, _, _, _, _]) eX12_scansNumber_34 rfl (by decide) rfl ?_
        refine slv_goto eX12_scansNumber_37 ?_
        exact hI
      · have hI := ih (i + 1) acc (by omega) (by omega) Q (fun acc' h => hQ acc' (fun q => by omega))
        refine slv_aload_n eX12_scansNumber_4 rfl ?_
        refine slv_iload_n eX12_scansNumber_5 rfl ?_
        refine slv_rV (As := [_]) eX12_scansNumber_6 lX12_420 rfl rfl rf_68 rfl hD (by decide) (Nat.le_of_ble_eq_true rfl) ?_
        refine slv_if_eqB eX12_scansNumber_9 (fun h9 => absurd h9 (by decide)) (fun h9 => ?_)
        refine slv_iload_n eX12_scansNumber_12 rfl ?_
        refine slv_iload_n eX12_scansNumber_13 rfl ?_
        refine slv_isubN eX12_scansNumber_14 (by omega) ?_
        refine slv_bipush (v := nI 7) eX12_scansNumber_15 (by decide) ?_
        refine slv_icmp_geN eX12_scansNumber_17 (by omega) (by omega) (fun h17 => ?_) (fun h17 => absurd h17 (by omega))
        refine slv_iincN (lv' := [_, _, _, _, _, _]) eX12_scansNumber_34 rfl (by decide) rfl ?_
        refine slv_goto eX12_scansNumber_37 ?_
        exact hI
set_option maxRecDepth 100000 in
theorem sn_L2 (h27 : a 27 = f) (h29 : v 29 = nI ln) (hl : ln ≤ 900) {s p : Nat} {z5 : Option Value} : ∀ (n i acc : Nat), i + n = ln → p < i → ∀ Q : Option Value → sl_M → Prop, (∀ acc', (fm_de f ln n i - p ≤ 4 → acc' = fm_db f ln (fm_de f ln n i - i) i acc) → sl_V YX12_scansNumber none 2 0 0 Q 139 [some (.ref 68), some (.int (nI s)), some (.int (nI (fm_de f ln n i))), some (.int (nI acc')), some (.int (nI p)), z5] [] (rf_S v w a nm M)) → sl_V YX12_scansNumber none 2 0 0 Q 103 [some (.ref 68), some (.int (nI s)), some (.int (nI i)), some (.int (nI acc)), some (.int (nI p)), z5] [] (rf_S v w a nm M) := by
  intro n
  induction n with
  | zero =>
    intro i acc hi hs Q hQ
    have e : i = ln := by omega
    subst e
    have hD := c_X12_isDigit (w := w) (nm := nm) (M := M) h27 h29 hl (k := i) (by omega)
    rw [show fm_dg f i i = false by unfold fm_dg; rw [decide_eq_false (by omega)]; rfl] at hD
    refine slv_aload_n eX12_scansNumber_103 rfl ?_
    refine slv_iload_n eX12_scansNumber_104 rfl ?_
    refine slv_rV (As := [_]) eX12_scansNumber_105 lX12_420 rfl rfl rf_68 rfl hD (by decide) (Nat.le_of_ble_eq_true rfl) ?_
    refine slv_if_eqB eX12_scansNumber_108 (fun h108 => ?_) (fun h108 => absurd h108 (by decide))
    refine hQ acc (fun _ => ?_)
    rw [show fm_de f i 0 i = i from rfl, Nat.sub_self]
    rfl
  | succ n ih =>
    intro i acc hi hs Q hQ
    have hD := c_X12_isDigit (w := w) (nm := nm) (M := M) h27 h29 hl (k := i) (by omega)
    cases hd : fm_dg f ln i with
    | false =>
      rw [hd] at hD
      have e : fm_de f ln (n + 1) i = i := by rw [fm_de, hd]; rfl
      rw [e] at hQ
      refine slv_aload_n eX12_scansNumber_103 rfl ?_
      refine slv_iload_n eX12_scansNumber_104 rfl ?_
      refine slv_rV (As := [_]) eX12_scansNumber_105 lX12_420 rfl rfl rf_68 rfl hD (by decide) (Nat.le_of_ble_eq_true rfl) ?_
      refine slv_if_eqB eX12_scansNumber_108 (fun h108 => ?_) (fun h108 => absurd h108 (by decide))
      exact hQ acc (fun _ => by rw [Nat.sub_self]; rfl)
    | true =>
      rw [hd] at hD
      have e : fm_de f ln (n + 1) i = fm_de f ln n (i + 1) := by rw [fm_de, hd]; rfl
      obtain ⟨d1, d2, d3⟩ := fm_dg_t hd
      have hge := fm_de_ge (f := f) (ln := ln) (i := i + 1) (n := n) (by omega)
      rw [e] at hQ
      have hB := c_X12_byteAt (w := w) (nm := nm) (M := M) h27 h29 hl (k := i) (by omega)
      rw [if_pos d1] at hB
      by_cases h7 : i - p < 4
      · have hI := ih (i + 1) (10 * acc + by_ f i - 48) (by omega) (by omega) Q (fun acc' h => hQ acc' (fun q => by
          rw [h q, show fm_de f ln n (i + 1) - i = (fm_de f ln n (i + 1) - (i + 1)) + 1 by omega, fm_db, hd, cond_true, Nat.mul_comm acc 10]))
        refine slv_aload_n eX12_scansNumber_103 rfl ?_
        refine slv_iload_n eX12_scansNumber_104 rfl ?_
        refine slv_rV (As := [_]) eX12_scansNumber_105 lX12_420 rfl rfl rf_68 rfl hD (by decide) (Nat.le_of_ble_eq_true rfl) ?_
        refine slv_if_eqB eX12_scansNumber_108 (fun h108 => absurd h108 (by decide)) (fun h108 => ?_)
        refine slv_iload_n eX12_scansNumber_111 rfl ?_
        refine slv_iload eX12_scansNumber_112 rfl ?_
        refine slv_isubN eX12_scansNumber_114 (by omega) ?_
        refine slv_iconst (v := nI 4) eX12_scansNumber_115 (by decide) ?_
        refine slv_icmp_geN eX12_scansNumber_116 (by omega) (by omega) (fun h116 => absurd h116 (by omega)) (fun h116 => ?_)
        refine slv_bipush (v := nI 10) eX12_scansNumber_119 (by decide) ?_
        refine slv_iload_n eX12_scansNumber_121 rfl ?_
        refine slv_imulN eX12_scansNumber_122 ?_
        refine slv_aload_n eX12_scansNumber_123 rfl ?_
        refine slv_iload_n eX12_scansNumber_124 rfl ?_
        refine slv_rV (As := [_]) eX12_scansNumber_125 lX12_171 rfl rfl rf_68 rfl hB (by decide) (Nat.le_of_ble_eq_true rfl) ?_
        refine slv_iaddN eX12_scansNumber_128 ?_
        refine slv_bipush (v := nI 48) eX12_scansNumber_129 (by decide) ?_
        refine slv_isubN eX12_scansNumber_131 (by omega) ?_
        refine slv_istore_n (i := 3) (lv' := [_, _, _, _, _, _]) eX12_scansNumber_132 rfl (by decide) rfl ?_
        refine slv_iincN (lv' := [_, _, _, _, _, _]) eX12_scansNumber_133 rfl (by decide) rfl ?_
        refine slv_goto eX12_scansNumber_136 ?_
        exact hI
      · have hI := ih (i + 1) acc (by omega) (by omega) Q (fun acc' h => hQ acc' (fun q => by omega))
        refine slv_aload_n eX12_scansNumber_103 rfl ?_
        refine slv_iload_n eX12_scansNumber_104 rfl ?_
        refine slv_rV (As := [_]) eX12_scansNumber_105 lX12_420 rfl rfl rf_68 rfl hD (by decide) (Nat.le_of_ble_eq_true rfl) ?_
        refine slv_if_eqB eX12_scansNumber_108 (fun h108 => absurd h108 (by decide)) (fun h108 => ?_)
        refine slv_iload_n eX12_scansNumber_111 rfl ?_
        refine slv_iload eX12_scansNumber_112 rfl ?_
        refine slv_isubN eX12_scansNumber_114 (by omega) ?_
        refine slv_iconst (v := nI 4) eX12_scansNumber_115 (by decide) ?_
        refine slv_icmp_geN eX12_scansNumber_116 (by omega) (by omega) (fun h116 => ?_) (fun h116 => absurd h116 (by omega))
        refine slv_iincN (lv' := [_, _, _, _, _, _]) eX12_scansNumber_133 rfl (by decide) rfl ?_
        refine slv_goto eX12_scansNumber_136 ?_
        exact hI
end RSC

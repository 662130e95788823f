abbrev fs_T : Type := Option Nat × Nat × Nat × (Nat → Nat) × (Nat → Nat) × (Nat → Bool) × (Nat → Int32)
abbrev fm_mem (ln : Nat) (q : fs_T) (M : sl_M) : sl_M := fm_set ln q.1 q.2.1 q.2.2.1 q.2.2.2.1 q.2.2.2.2.1 q.2.2.2.2.2.1 q.2.2.2.2.2.2 M
section FRM
variable {f : Nat → Int32} {ln cn at_ : Nat} {bd : Option Nat} {sg pl : Nat → Nat} {rl : Nat → Bool} {bt : Nat → Int32} {M : sl_M}
set_option maxRecDepth 100000 in
theorem c_X1_tokenCount (h : fm_at ln bd cn at_ sg pl rl bt M) (hb : ∀ k, bd = some k → k < 2147483648) : sl_R YX1_tokenCount 0 [.ref 33] M (some (.int (nI (if bd = none then cn else 0)))) M := by
  obtain ⟨a0, a1, a2, a3, a4⟩ := h
  have hio := sl_io_ne hb
  refine sl_T.of_V (lv := [_]) (by decide) rfl (Nat.le_of_ble_eq_true rfl) ?_
  refine slv_aload_n eX1_tokenCount_0 rfl ?_
  refine slv_getf eX1_tokenCount_1 fX1_33 (by repeat (first | assumption | exact sl_up_eq | refine sl_up_ne (by first | decide | omega) ?_)) rfl ?_
  refine slv_iconst (v := (-1)) eX1_tokenCount_4 (by decide) ?_
  refine slv_icmp_ne eX1_tokenCount_5 (fun h5 => ?_) (fun h5 => ?_)
  · refine slv_iconst (v := nI 0) eX1_tokenCount_15 (by decide) ?_
    refine slv_iret eX1_tokenCount_16 rfl ?_
    rw [hio] at h5
    exact ⟨by first | rw [if_pos h5] | rw [if_neg h5], rfl⟩
  · refine slv_aload_n eX1_tokenCount_8 rfl ?_
    refine slv_getf eX1_tokenCount_9 fX1_36 (by repeat (first | assumption | exact sl_up_eq | refine sl_up_ne (by first | decide | omega) ?_)) rfl ?_
    refine slv_goto eX1_tokenCount_12 ?_
    refine slv_iret eX1_tokenCount_16 rfl ?_
    rw [hio] at h5
    exact ⟨by first | rw [if_pos h5] | rw [if_neg h5], rfl⟩
set_option maxRecDepth 100000 in
theorem c_X1_byteAt (hT : M 1 = .inl (.byte, 900, .inl f)) (h : fm_at ln bd cn at_ sg pl rl bt M) {i : Nat} (hi : i < 900) : sl_R YX1_byteAt 0 [.ref 33, .int (nI i)] M (some (.int (nI (by_ f i)))) M := by
  obtain ⟨a0, a1, a2, a3, a4⟩ := h
  refine sl_T.of_V (lv := [_, _]) (by decide) rfl (Nat.le_of_ble_eq_true rfl) ?_
  refine slv_aload_n eX1_byteAt_0 rfl ?_
  refine slv_getf eX1_byteAt_1 fX1_25 (by repeat (first | assumption | exact sl_up_eq | refine sl_up_ne (by first | decide | omega) ?_)) rfl ?_
  refine slv_iload_n eX1_byteAt_4 rfl ?_
  refine slv_baldN eX1_byteAt_5 (by repeat (first | assumption | exact sl_up_eq | refine sl_up_ne (by first | decide | omega) ?_)) (by omega) (by decide) ?_
  refine slv_sipush (v := nI 255) eX1_byteAt_6 (by decide) ?_
  refine slv_iand eX1_byteAt_9 ?_
  refine slv_iret eX1_byteAt_10 rfl ?_
  exact ⟨by rw [by_eq], rfl⟩
/-- a digit at i, before the end -/
def fm_dg (f : Nat → Int32) (ln i : Nat) : Bool := decide (i < ln) && (decide (48 ≤ by_ f i) && decide (by_ f i ≤ 57))
theorem fm_dg_t {f : Nat → Int32} {ln i : Nat} (h : fm_dg f ln i = true) : i < ln ∧ 48 ≤ by_ f i ∧ by_ f i ≤ 57 := by
  simp only [fm_dg, Bool.and_eq_true, decide_eq_true_eq] at h
  exact h
set_option maxRecDepth 100000 in
theorem c_X1_isDigit (hT : M 1 = .inl (.byte, 900, .inl f)) (hl : ln ≤ 900) (h : fm_at ln bd cn at_ sg pl rl bt M) {i : Nat} (hi : i < 2147483648) : sl_R YX1_isDigit 1 [.ref 33, .int (nI i)] M (some (.int (sl_bi (fm_dg f ln i)))) M := by
  have h' := h
  obtain ⟨a0, a1, a2, a3, a4⟩ := h
  have hb := by_lt f i
  refine sl_T.of_V (lv := [_, _]) (by decide) rfl (Nat.le_of_ble_eq_true rfl) ?_
  refine slv_iload_n eX1_isDigit_0 rfl ?_
  refine slv_aload_n eX1_isDigit_1 rfl ?_
  refine slv_getf eX1_isDigit_2 fX1_29 (by repeat (first | assumption | exact sl_up_eq | refine sl_up_ne (by first | decide | omega) ?_)) rfl ?_
  refine slv_icmp_geN eX1_isDigit_5 (by omega) (by omega) (fun h5 => ?_) (fun h5 => ?_)
  · refine slv_iconst (v := nI 0) eX1_isDigit_32 (by decide) ?_
    refine slv_zret eX1_isDigit_33 rfl rfl ?_
    refine ⟨?_, rfl⟩
    first | (rw [fm_dg, decide_eq_false (show ¬ i < ln by omega)]; rfl) | (rw [fm_dg, decide_eq_true (show i < ln by omega), decide_eq_false (show ¬ 48 ≤ by_ f i by omega)]; rfl) | (rw [fm_dg, decide_eq_true (show i < ln by omega), decide_eq_true (show 48 ≤ by_ f i by omega), decide_eq_false (show ¬ by_ f i ≤ 57 by omega)]; rfl) | (rw [fm_dg, decide_eq_true (show i < ln by omega), decide_eq_true (show 48 ≤ by_ f i by omega), decide_eq_true (show by_ f i ≤ 57 by omega)]; rfl)
  · refine slv_aload_n eX1_isDigit_8 rfl ?_
    refine slv_iload_n eX1_isDigit_9 rfl ?_
    refine slv_rV (As := [_]) eX1_isDigit_10 lX1_45 rfl rfl (by repeat (first | assumption | exact sl_up_eq | refine sl_up_ne (by first | decide | omega) ?_)) rfl (c_X1_byteAt hT h' (by omega)) (by decide) (Nat.le_of_ble_eq_true rfl) ?_
    refine slv_bipush (v := nI 48) eX1_isDigit_13 (by decide) ?_
    refine slv_icmp_ltN eX1_isDigit_15 (by omega) (by omega) (fun h15 => ?_) (fun h15 => ?_)
    · refine slv_iconst (v := nI 0) eX1_isDigit_32 (by decide) ?_
      refine slv_zret eX1_isDigit_33 rfl rfl ?_
      refine ⟨?_, rfl⟩
      first | (rw [fm_dg, decide_eq_false (show ¬ i < ln by omega)]; rfl) | (rw [fm_dg, decide_eq_true (show i < ln by omega), decide_eq_false (show ¬ 48 ≤ by_ f i by omega)]; rfl) | (rw [fm_dg, decide_eq_true (show i < ln by omega), decide_eq_true (show 48 ≤ by_ f i by omega), decide_eq_false (show ¬ by_ f i ≤ 57 by omega)]; rfl) | (rw [fm_dg, decide_eq_true (show i < ln by omega), decide_eq_true (show 48 ≤ by_ f i by omega), decide_eq_true (show by_ f i ≤ 57 by omega)]; rfl)
    · refine slv_aload_n eX1_isDigit_18 rfl ?_
      refine slv_iload_n eX1_isDigit_19 rfl ?_
      refine slv_rV (As := [_]) eX1_isDigit_20 lX1_45 rfl rfl (by repeat (first | assumption | exact sl_up_eq | refine sl_up_ne (by first | decide | omega) ?_)) rfl (c_X1_byteAt hT h' (by omega)) (by decide) (Nat.le_of_ble_eq_true rfl) ?_
      refine slv_bipush (v := nI 57) eX1_isDigit_23 (by decide) ?_
      refine slv_icmp_gtN eX1_isDigit_25 (by omega) (by omega) (fun h25 => ?_) (fun h25 => ?_)
      · refine slv_iconst (v := nI 0) eX1_isDigit_32 (by decide) ?_
        refine slv_zret eX1_isDigit_33 rfl rfl ?_
        refine ⟨?_, rfl⟩
        first | (rw [fm_dg, decide_eq_false (show ¬ i < ln by omega)]; rfl) | (rw [fm_dg, decide_eq_true (show i < ln by omega), decide_eq_false (show ¬ 48 ≤ by_ f i by omega)]; rfl) | (rw [fm_dg, decide_eq_true (show i < ln by omega), decide_eq_true (show 48 ≤ by_ f i by omega), decide_eq_false (show ¬ by_ f i ≤ 57 by omega)]; rfl) | (rw [fm_dg, decide_eq_true (show i < ln by omega), decide_eq_true (show 48 ≤ by_ f i by omega), decide_eq_true (show by_ f i ≤ 57 by omega)]; rfl)
      · refine slv_iconst (v := nI 1) eX1_isDigit_28 (by decide) ?_
        refine slv_goto eX1_isDigit_29 ?_
        refine slv_zret eX1_isDigit_33 rfl rfl ?_
        refine ⟨?_, rfl⟩
        first | (rw [fm_dg, decide_eq_false (show ¬ i < ln by omega)]; rfl) | (rw [fm_dg, decide_eq_true (show i < ln by omega), decide_eq_false (show ¬ 48 ≤ by_ f i by omega)]; rfl) | (rw [fm_dg, decide_eq_true (show i < ln by omega), decide_eq_true (show 48 ≤ by_ f i by omega), decide_eq_false (show ¬ by_ f i ≤ 57 by omega)]; rfl) | (rw [fm_dg, decide_eq_true (show i < ln by omega), decide_eq_true (show 48 ≤ by_ f i by omega), decide_eq_true (show by_ f i ≤ 57 by omega)]; rfl)
/-- where the digits from i on end -/
def fm_de (f : Nat → Int32) (ln : Nat) : Nat → Nat → Nat
  | 0, _ => ln
  | n + 1, i => cond (fm_dg f ln i) (fm_de f ln n (i + 1)) i
theorem fm_de_le {f : Nat → Int32} {ln : Nat} (n : Nat) : ∀ i, i + n = ln → i ≤ fm_de f ln n i ∧ fm_de f ln n i ≤ ln := by
  induction n with
  | zero => intro i h; exact ⟨by show i ≤ ln; omega, Nat.le_refl ln⟩
  | succ n ih =>
    intro i h
    rw [fm_de]
    cases fm_dg f ln i
    · exact ⟨Nat.le_refl i, by show i ≤ ln; omega⟩
    · have := ih (i + 1) (by omega)
      exact ⟨by show i ≤ fm_de f ln n (i + 1); omega, this.2⟩
set_option maxRecDepth 100000 in
theorem c_X1_digitsEnd (hT : M 1 = .inl (.byte, 900, .inl f)) (hl : ln ≤ 900) (h : fm_at ln bd cn at_ sg pl rl bt M) {j : Nat} (hj : j ≤ ln) : sl_R YX1_digitsEnd 2 [.ref 33, .int (nI j)] M (some (.int (nI (fm_de f ln (ln - j) j)))) M := by
  have h' := h
  obtain ⟨a0, a1, a2, a3, a4⟩ := h
  refine sl_T.of_V (lv := [_, _, _]) (by decide) rfl (Nat.le_of_ble_eq_true rfl) ?_
  have loop : ∀ n i : Nat, i + n = ln → ∀ Q : Option Value → sl_M → Prop, Q (some (.int (nI (fm_de f ln n i)))) M → sl_V YX1_digitsEnd none 2 0 0 Q 2 [some (.ref 33), some (.int (nI j)), some (.int (nI i))] [] M := by
    intro n
    induction n with
    | zero =>
      intro i hi Q hQ
      refine slv_iload_n eX1_digitsEnd_2 rfl ?_
      refine slv_aload_n eX1_digitsEnd_3 rfl ?_
      refine slv_getf eX1_digitsEnd_4 fX1_29 (by repeat (first | assumption | exact sl_up_eq | refine sl_up_ne (by first | decide | omega) ?_)) rfl ?_
      refine slv_icmp_geN eX1_digitsEnd_7 (by omega) (by omega) (fun h7 => ?_) (fun h7 => absurd h7 (by omega))
      refine slv_aload_n eX1_digitsEnd_26 rfl ?_
      refine slv_getf eX1_digitsEnd_27 fX1_29 (by repeat (first | assumption | exact sl_up_eq | refine sl_up_ne (by first | decide | omega) ?_)) rfl ?_
      refine slv_iret eX1_digitsEnd_30 rfl ?_
      exact hQ
    | succ n ih =>
      intro i hi Q hQ
      refine slv_iload_n eX1_digitsEnd_2 rfl ?_
      refine slv_aload_n eX1_digitsEnd_3 rfl ?_
      refine slv_getf eX1_digitsEnd_4 fX1_29 (by repeat (first | assumption | exact sl_up_eq | refine sl_up_ne (by first | decide | omega) ?_)) rfl ?_
      refine slv_icmp_geN eX1_digitsEnd_7 (by omega) (by omega) (fun h7 => absurd h7 (by omega)) (fun h7 => ?_)
      refine slv_aload_n eX1_digitsEnd_10 rfl ?_
      refine slv_iload_n eX1_digitsEnd_11 rfl ?_
      refine slv_rV (As := [_]) eX1_digitsEnd_12 lX1_49 rfl rfl (by repeat (first | assumption | exact sl_up_eq | refine sl_up_ne (by first | decide | omega) ?_)) rfl (c_X1_isDigit hT hl h' (by omega)) (by decide) (Nat.le_of_ble_eq_true rfl) ?_
      refine slv_if_neB eX1_digitsEnd_15 (fun h15 => ?_) (fun h15 => ?_)
      · refine slv_iincN (lv' := [_, _, _]) eX1_digitsEnd_20 rfl (by decide) rfl ?_
        refine slv_goto eX1_digitsEnd_23 ?_
        simp only [fm_de, h15, cond_true] at hQ
        exact ih (i + 1) (by omega) Q hQ
      · refine slv_iload_n eX1_digitsEnd_18 rfl ?_
        refine slv_iret eX1_digitsEnd_19 rfl ?_
        simp only [fm_de, h15, cond_false] at hQ
        exact hQ
  refine slv_iload_n eX1_digitsEnd_0 rfl ?_
  refine slv_istore_n (i := 2) (lv' := [_, _, _]) eX1_digitsEnd_1 rfl (by decide) rfl ?_
  exact loop (ln - j) j (by omega) _ ⟨rfl, rfl⟩
/-- the number that the digits make -/
def fm_db (f : Nat → Int32) (ln : Nat) : Nat → Nat → Nat → Nat
  | 0, _, a => a
  | n + 1, i, a => fm_db f ln n (i + 1) (cond (fm_dg f ln i) (a * 10 + by_ f i - 48) a)
theorem fm_db_lt {f : Nat → Int32} {ln : Nat} (n : Nat) : ∀ i a, a + 1 ≤ 10 ^ (8 - n) → n ≤ 8 → fm_db f ln n i a + 1 ≤ 10 ^ 8 := by
  induction n with
  | zero => intro i a h _; exact h
  | succ n ih =>
    intro i a h hn
    refine ih (i + 1) _ ?_ (by omega)
    have e : 10 ^ (8 - n) = 10 * 10 ^ (8 - (n + 1)) := by
      rw [show 8 - n = (8 - (n + 1)) + 1 by omega, Nat.pow_succ, Nat.mul_comm]
    rw [e]
    cases hd : fm_dg f ln i
    · show a + 1 ≤ _; omega
    · have := fm_dg_t hd
      show a * 10 + by_ f i - 48 + 1 ≤ _
      omega
set_option maxRecDepth 100000 in
theorem c_X1_digitsBetween (hT : M 1 = .inl (.byte, 900, .inl f)) (hl : ln ≤ 900) (h : fm_at ln bd cn at_ sg pl rl bt M) {j k : Nat} (hj : j ≤ k) (hk : k ≤ ln) (h8 : k - j ≤ 8) : sl_R YX1_digitsBetween 2 [.ref 33, .int (nI j), .int (nI k)] M (some (.int (nI (fm_db f ln (k - j) j 0)))) M := by
  have h' := h
  obtain ⟨a0, a1, a2, a3, a4⟩ := h
  refine sl_T.of_V (lv := [_, _, _, _, _]) (by decide) rfl (Nat.le_of_ble_eq_true rfl) ?_
  have loop : ∀ n i a : Nat, i + n = k → ∀ Q : Option Value → sl_M → Prop, Q (some (.int (nI (fm_db f ln n i a)))) M → sl_V YX1_digitsBetween none 2 0 0 Q 5 [some (.ref 33), some (.int (nI j)), some (.int (nI k)), some (.int (nI a)), some (.int (nI i))] [] M := by
    intro n
    induction n with
    | zero =>
      intro i a hi Q hQ
      refine slv_iload eX1_digitsBetween_5 rfl ?_
      refine slv_iload_n eX1_digitsBetween_7 rfl ?_
      refine slv_icmp_geN eX1_digitsBetween_8 (by omega) (by omega) (fun h8 => ?_) (fun h8 => absurd h8 (by omega))
      refine slv_iload_n eX1_digitsBetween_41 rfl ?_
      refine slv_iret eX1_digitsBetween_42 rfl ?_
      exact hQ
    | succ n ih =>
      intro i a hi Q hQ
      refine slv_iload eX1_digitsBetween_5 rfl ?_
      refine slv_iload_n eX1_digitsBetween_7 rfl ?_
      refine slv_icmp_geN eX1_digitsBetween_8 (by omega) (by omega) (fun h8 => absurd h8 (by omega)) (fun h8 => ?_)
      refine slv_aload_n eX1_digitsBetween_11 rfl ?_
      refine slv_iload eX1_digitsBetween_12 rfl ?_
      refine slv_rV (As := [_]) eX1_digitsBetween_14 lX1_49 rfl rfl (by repeat (first | assumption | exact sl_up_eq | refine sl_up_ne (by first | decide | omega) ?_)) rfl (c_X1_isDigit hT hl h' (by omega)) (by decide) (Nat.le_of_ble_eq_true rfl) ?_
      refine slv_if_eqB eX1_digitsBetween_17 (fun h17 => ?_) (fun h17 => ?_)
      · refine slv_iincN (lv' := [_, _, _, _, _]) eX1_digitsBetween_35 rfl (by decide) rfl ?_
        refine slv_goto eX1_digitsBetween_38 ?_
        refine ih (i + 1) _ (by omega) Q ?_
        simp only [fm_db, h17, cond_true, cond_false] at hQ
        exact hQ
      · refine slv_iload_n eX1_digitsBetween_20 rfl ?_
        refine slv_bipush (v := nI 10) eX1_digitsBetween_21 (by decide) ?_
        refine slv_imulN eX1_digitsBetween_23 ?_
        refine slv_aload_n eX1_digitsBetween_24 rfl ?_
        refine slv_iload eX1_digitsBetween_25 rfl ?_
        refine slv_rV (As := [_]) eX1_digitsBetween_27 lX1_45 rfl rfl (by repeat (first | assumption | exact sl_up_eq | refine sl_up_ne (by first | decide | omega) ?_)) rfl (c_X1_byteAt hT h' (by omega)) (by decide) (Nat.le_of_ble_eq_true rfl) ?_
        refine slv_iaddN eX1_digitsBetween_30 ?_
        refine slv_bipush (v := nI 48) eX1_digitsBetween_31 (by decide) ?_
        have gd := fm_dg_t h17
        refine slv_isubN eX1_digitsBetween_33 (by omega) ?_
        refine slv_istore_n (i := 3) (lv' := [_, _, _, _, _]) eX1_digitsBetween_34 rfl (by decide) rfl ?_
        refine slv_iincN (lv' := [_, _, _, _, _]) eX1_digitsBetween_35 rfl (by decide) rfl ?_
        refine slv_goto eX1_digitsBetween_38 ?_
        refine ih (i + 1) _ (by omega) Q ?_
        simp only [fm_db, h17, cond_true, cond_false] at hQ
        exact hQ
  refine slv_iconst (v := nI 0) eX1_digitsBetween_0 (by decide) ?_
  refine slv_istore_n (i := 3) (lv' := [_, _, _, _, _]) eX1_digitsBetween_1 rfl (by decide) rfl ?_
  refine slv_iload_n eX1_digitsBetween_2 rfl ?_
  refine slv_istore (lv' := [_, _, _, _, _]) eX1_digitsBetween_3 (by decide) rfl ?_
  exact loop (k - j) j 0 (by omega) _ ⟨rfl, rfl⟩
/-- a token more, or the place where there are too many -/
def fs_add (x : Nat) (r : Bool) (o : Int32) (be : Nat) (bd : Option Nat) (cn at_ : Nat) (sg pl : Nat → Nat) (rl : Nat → Bool) (bt : Nat → Int32) : fs_T := if 60 ≤ cn then (some at_, cn, at_, sg, pl, rl, bt) else (bd, cn + 1, be, sl_u sg cn x, sl_u pl cn at_, sl_u rl cn r, sl_u bt cn o)
set_option maxRecDepth 100000 in
theorem c_X1_addToken (h : fm_at ln bd cn at_ sg pl rl bt M) (hc : cn ≤ 60) (x : Nat) (r : Bool) (o : Int32) (be : Nat) : sl_R YX1_addToken 0 [.ref 33, .int (nI x), .int (sl_bi r), .int o, .int (nI be)] M none (fm_mem ln (fs_add x r o be bd cn at_ sg pl rl bt) M) := by
  refine sl_T.of_V (lv := [_, _, _, _, _]) (by decide) rfl (Nat.le_of_ble_eq_true rfl) ?_
  refine slv_mem (fm_self h).symm ?_
  refine slv_aload_n eX1_addToken_0 rfl ?_
  refine slv_getf eX1_addToken_1 fX1_36 (by repeat (first | assumption | exact sl_up_eq | refine sl_up_ne (by first | decide | omega) ?_)) rfl ?_
  refine slv_bipush (v := nI 60) eX1_addToken_4 (by decide) ?_
  refine slv_icmp_ltN eX1_addToken_6 (by omega) (by omega) (fun h6 => ?_) (fun h6 => ?_)
  · refine slv_aload_n eX1_addToken_18 rfl ?_
    refine slv_getf eX1_addToken_19 fX1_9 (by repeat (first | assumption | exact sl_up_eq | refine sl_up_ne (by first | decide | omega) ?_)) rfl ?_
    refine slv_aload_n eX1_addToken_22 rfl ?_
    refine slv_getf eX1_addToken_23 fX1_36 (by repeat (first | assumption | exact sl_up_eq | refine sl_up_ne (by first | decide | omega) ?_)) rfl ?_
    refine slv_iload_n eX1_addToken_26 rfl ?_
    refine slv_iastN (x := x) eX1_addToken_27 (by repeat (first | assumption | exact sl_up_eq | refine sl_up_ne (by first | decide | omega) ?_)) (by omega) (by decide) ?_
    refine slv_mem fm_u34 ?_
    refine slv_aload_n eX1_addToken_28 rfl ?_
    refine slv_getf eX1_addToken_29 fX1_15 (by repeat (first | assumption | exact sl_up_eq | refine sl_up_ne (by first | decide | omega) ?_)) rfl ?_
    refine slv_aload_n eX1_addToken_32 rfl ?_
    refine slv_getf eX1_addToken_33 fX1_36 (by repeat (first | assumption | exact sl_up_eq | refine sl_up_ne (by first | decide | omega) ?_)) rfl ?_
    refine slv_aload_n eX1_addToken_36 rfl ?_
    refine slv_getf eX1_addToken_37 fX1_39 (by repeat (first | assumption | exact sl_up_eq | refine sl_up_ne (by first | decide | omega) ?_)) rfl ?_
    refine slv_iastN (x := at_) eX1_addToken_40 (by repeat (first | assumption | exact sl_up_eq | refine sl_up_ne (by first | decide | omega) ?_)) (by omega) (by decide) ?_
    refine slv_mem fm_u35 ?_
    refine slv_aload_n eX1_addToken_41 rfl ?_
    refine slv_getf eX1_addToken_42 fX1_18 (by repeat (first | assumption | exact sl_up_eq | refine sl_up_ne (by first | decide | omega) ?_)) rfl ?_
    refine slv_aload_n eX1_addToken_45 rfl ?_
    refine slv_getf eX1_addToken_46 fX1_36 (by repeat (first | assumption | exact sl_up_eq | refine sl_up_ne (by first | decide | omega) ?_)) rfl ?_
    refine slv_iload_n eX1_addToken_49 rfl ?_
    refine slv_zastB (x := r) eX1_addToken_50 (by repeat (first | assumption | exact sl_up_eq | refine sl_up_ne (by first | decide | omega) ?_)) (by omega) (by decide) ?_
    refine slv_mem fm_u36 ?_
    refine slv_aload_n eX1_addToken_51 rfl ?_
    refine slv_getf eX1_addToken_52 fX1_22 (by repeat (first | assumption | exact sl_up_eq | refine sl_up_ne (by first | decide | omega) ?_)) rfl ?_
    refine slv_aload_n eX1_addToken_55 rfl ?_
    refine slv_getf eX1_addToken_56 fX1_36 (by repeat (first | assumption | exact sl_up_eq | refine sl_up_ne (by first | decide | omega) ?_)) rfl ?_
    refine slv_iload_n eX1_addToken_59 rfl ?_
    refine slv_iastI eX1_addToken_60 (by repeat (first | assumption | exact sl_up_eq | refine sl_up_ne (by first | decide | omega) ?_)) (by omega) (by decide) ?_
    refine slv_mem fm_u37 ?_
    refine slv_aload_n eX1_addToken_61 rfl ?_
    refine slv_dup eX1_addToken_62 rfl ?_
    refine slv_getf eX1_addToken_63 fX1_36 (by repeat (first | assumption | exact sl_up_eq | refine sl_up_ne (by first | decide | omega) ?_)) rfl ?_
    refine slv_iconst (v := nI 1) eX1_addToken_66 (by decide) ?_
    refine slv_iaddN eX1_addToken_67 ?_
    refine slv_putf (fs' := [_, _, _, _, _, _, _, _, _]) eX1_addToken_68 fX1_36 (by repeat (first | assumption | exact sl_up_eq | refine sl_up_ne (by first | decide | omega) ?_)) (Nat.le_of_ble_eq_true rfl) rfl rfl rfl ?_
    refine slv_mem (fm_u33 (ln' := ln) (bd' := bd) (cn' := cn + 1) (at_' := at_)) ?_
    refine slv_aload_n eX1_addToken_71 rfl ?_
    refine slv_iload eX1_addToken_72 rfl ?_
    refine slv_putf (fs' := [_, _, _, _, _, _, _, _, _]) eX1_addToken_74 fX1_39 (by repeat (first | assumption | exact sl_up_eq | refine sl_up_ne (by first | decide | omega) ?_)) (Nat.le_of_ble_eq_true rfl) rfl rfl rfl ?_
    refine slv_mem (fm_u33 (ln' := ln) (bd' := bd) (cn' := cn + 1) (at_' := be)) ?_
    refine slv_vret eX1_addToken_77 rfl ?_
    exact ⟨rfl, by rw [fs_add, if_neg (Nat.not_le.mpr h6)]⟩
  · refine slv_aload_n eX1_addToken_9 rfl ?_
    refine slv_aload_n eX1_addToken_10 rfl ?_
    refine slv_getf eX1_addToken_11 fX1_39 (by repeat (first | assumption | exact sl_up_eq | refine sl_up_ne (by first | decide | omega) ?_)) rfl ?_
    refine slv_putf (fs' := [_, _, _, _, _, _, _, _, _]) eX1_addToken_14 fX1_33 (by repeat (first | assumption | exact sl_up_eq | refine sl_up_ne (by first | decide | omega) ?_)) (Nat.le_of_ble_eq_true rfl) rfl rfl rfl ?_
    refine slv_mem (fm_u33 (ln' := ln) (bd' := some at_) (cn' := cn) (at_' := at_)) ?_
    refine slv_vret eX1_addToken_17 rfl ?_
    exact ⟨rfl, by rw [fs_add, if_pos h6]⟩
/-- an operand from at_ on -/
def fo_p (f : Nat → Int32) (ln a : Nat) : Nat := fm_de f ln (ln - a) a
def fo_r (f : Nat → Int32) (ln a : Nat) : Bool := decide (fo_p f ln a < ln) && decide (by_ f (fo_p f ln a) = 46)
def fo_b (f : Nat → Int32) (ln a : Nat) : Nat := cond (fo_r f ln a) (fm_de f ln (ln - (fo_p f ln a + 1)) (fo_p f ln a + 1)) (fo_p f ln a)
def fo_n (f : Nat → Int32) (ln a : Nat) : Nat := cond (fo_r f ln a) (fo_b f ln a - fo_p f ln a - 1) 0
def fo_bad (f : Nat → Int32) (ln a : Nat) : Bool := decide (4 < fo_p f ln a - a) || (decide (3 < fo_n f ln a) || (fo_r f ln a && decide (fo_n f ln a = 0)))
def fo_v (f : Nat → Int32) (ln a : Nat) : Int32 := cond (fo_r f ln a) (FP.fdiv (FP.i2f (nI (fm_db f ln (fo_b f ln a - a) a 0))) (rr_ten (fo_n f ln a))).toInt32 (nI (fm_db f ln (fo_b f ln a - a) a 0))
def fs_op (f : Nat → Int32) (ln : Nat) (bd : Option Nat) (cn at_ : Nat) (sg pl : Nat → Nat) (rl : Nat → Bool) (bt : Nat → Int32) : fs_T := cond (fo_bad f ln at_) (some at_, cn, at_, sg, pl, rl, bt) (fs_add 0 (fo_r f ln at_) (fo_v f ln at_) (fo_b f ln at_) bd cn at_ sg pl rl bt)
theorem fm_db_dig {f : Nat → Int32} {ln : Nat} (n m : Nat) : ∀ i a c, a + 1 ≤ 10 ^ c → n ≤ m → (∀ k, i + m ≤ k → k < i + n → fm_dg f ln k = false) → fm_db f ln n i a + 1 ≤ 10 ^ (c + n) := by
  induction n generalizing m with
  | zero => intro i a c h _ _; exact h
  | succ n ih =>
    intro i a c h hm hk
    have e : 10 ^ (c + (n + 1)) = 10 ^ (c + 1 + n) := by congr 1; omega
    rw [e]
    cases m with
    | zero => omega
    | succ m =>
      refine ih m (i + 1) _ (c + 1) ?_ (by omega) (fun k h1 h2 => hk k (by omega) (by omega))
      have e2 : 10 ^ (c + 1) = 10 * 10 ^ c := by rw [Nat.pow_succ, Nat.mul_comm]
      rw [e2]
      cases hd : fm_dg f ln i
      · show a + 1 ≤ _; omega
      · have := fm_dg_t hd
        show a * 10 + by_ f i - 48 + 1 ≤ _
        omega
theorem fm_db_app {f : Nat → Int32} {ln : Nat} (n m : Nat) : ∀ i a, fm_db f ln (n + m) i a = fm_db f ln m (i + n) (fm_db f ln n i a) := by
  induction n with
  | zero => intro i a; simp [fm_db]
  | succ n ih =>
    intro i a
    rw [show n + 1 + m = (n + m) + 1 by omega]
    show fm_db f ln (n + m) (i + 1) _ = fm_db f ln m (i + (n + 1)) (fm_db f ln n (i + 1) _)
    rw [ih, show i + 1 + n = i + (n + 1) by omega]
theorem fo_lt {f : Nat → Int32} {ln a : Nat} (ha : a ≤ ln) (hb : fo_bad f ln a = false) (hr : fo_r f ln a = true) : fm_db f ln (fo_b f ln a - a) a 0 < 10000000 := by
  have hp := fm_de_le (f := f) (ln := ln) (ln - a) a (by omega)
  have hr2 := hr
  simp only [fo_r, Bool.and_eq_true, decide_eq_true_eq] at hr2
  simp only [fo_bad, Bool.or_eq_false_iff, decide_eq_false_iff_not] at hb
  have hp' : a ≤ fo_p f ln a ∧ fo_p f ln a ≤ ln := hp
  have hbe := fm_de_le (f := f) (ln := ln) (ln - (fo_p f ln a + 1)) (fo_p f ln a + 1) (by omega)
  have eb : fo_b f ln a = fm_de f ln (ln - (fo_p f ln a + 1)) (fo_p f ln a + 1) := by rw [fo_b, hr]; rfl
  have en : fo_n f ln a = fo_b f ln a - fo_p f ln a - 1 := by rw [fo_n, hr]; rfl
  rw [← eb] at hbe
  have es : fo_b f ln a - a = (fo_p f ln a - a) + (1 + fo_n f ln a) := by omega
  rw [es, fm_db_app, show a + (fo_p f ln a - a) = fo_p f ln a by omega]
  generalize hA : fm_db f ln (fo_p f ln a - a) a 0 = A
  have hA1 : A + 1 ≤ 10 ^ (0 + (fo_p f ln a - a)) := by rw [← hA]; exact fm_db_dig _ _ a 0 0 (by omega) (Nat.le_refl _) (fun k h1 h2 => by omega)
  have hA2 : A + 1 ≤ 10 ^ 4 := Nat.le_trans hA1 (Nat.pow_le_pow_right (by omega) (by omega))
  rw [fm_db_app 1 (fo_n f ln a) (fo_p f ln a) A]
  have hdot : fm_dg f ln (fo_p f ln a) = false := by
    rw [fm_dg, hr2.2]; simp
  have e1 : fm_db f ln 1 (fo_p f ln a) A = A := by show cond (fm_dg f ln (fo_p f ln a)) _ A = A; rw [hdot]; rfl
  rw [e1]
  have h3 := fm_db_dig (f := f) (ln := ln) (fo_n f ln a) (fo_n f ln a) (fo_p f ln a + 1) A 4 hA2 (Nat.le_refl _) (fun k h1 h2 => by omega)
  have h4 : 10 ^ (4 + fo_n f ln a) ≤ 10 ^ 7 := Nat.pow_le_pow_right (by omega) (by omega)
  have h5 : (10 : Nat) ^ 7 = 10000000 := by decide
  omega
set_option maxRecDepth 100000 in
set_option maxHeartbeats 4000000 in
theorem c_X1_scanOperand (hR : rr_all) (hT : M 1 = .inl (.byte, 900, .inl f)) (hl : ln ≤ 900) (h : fm_at ln bd cn at_ sg pl rl bt M) (hc : cn ≤ 60) (ha : at_ ≤ ln) : sl_R YX1_scanOperand 3 [.ref 33] M none (fm_mem ln (fs_op f ln bd cn at_ sg pl rl bt) M) := by
  obtain ⟨r1, r2, r3, r4, r5, r6, r7, r8, r9⟩ := hR
  have h' := h
  have hp := fm_de_le (f := f) (ln := ln) (ln - at_) at_ (by omega)
  have hp' : at_ ≤ fo_p f ln at_ ∧ fo_p f ln at_ ≤ ln := hp
  have hby := by_lt f (fo_p f ln at_)
  have c1 : sl_R YX1_digitsEnd 2 [.ref 33, .int (nI at_)] M (some (.int (nI (fo_p f ln at_)))) M := c_X1_digitsEnd hT hl h' ha
  have hbe : fo_p f ln at_ ≤ fo_b f ln at_ ∧ fo_b f ln at_ ≤ ln ∧ (fo_r f ln at_ = true → fo_p f ln at_ + 1 ≤ fo_b f ln at_) := by
    rw [fo_b]
    cases hr : fo_r f ln at_
    · exact ⟨Nat.le_refl _, hp'.2, fun z => by cases z⟩
    · have hr2 := hr
      simp only [fo_r, Bool.and_eq_true, decide_eq_true_eq] at hr2
      have g := fm_de_le (f := f) (ln := ln) (ln - (fo_p f ln at_ + 1)) (fo_p f ln at_ + 1) (by omega)
      exact ⟨by show _ ≤ fm_de f ln (ln - (fo_p f ln at_ + 1)) (fo_p f ln at_ + 1); omega, g.2, fun _ => g.1⟩
  have hno : fo_n f ln at_ ≤ 900 := by
    rw [fo_n]
    cases fo_r f ln at_
    · exact Nat.zero_le _
    · show fo_b f ln at_ - fo_p f ln at_ - 1 ≤ 900; omega
  have ab0 : ∀ (x : sl_M) , True := fun _ => trivial
  obtain ⟨a0, a1, a2, a3, a4⟩ := id h
  refine sl_T.of_V (lv := [_, _, _, _, _, _]) (by decide) rfl (Nat.le_of_ble_eq_true rfl) ?_
  refine slv_mem (fm_self h').symm ?_
  have c1' : sl_R YX1_digitsEnd 2 [.ref 33, .int (nI at_)] (fm_set ln bd cn at_ sg pl rl bt M) (some (.int (nI (fo_p f ln at_)))) (fm_set ln bd cn at_ sg pl rl bt M) := by rw [fm_self h']; exact c1
  have hF := fm_self h'
  -- from 64 on: real or not, the parts told
  have tail : ∀ Q : Option Value → sl_M → Prop, Q none (fm_mem ln (fs_op f ln bd cn at_ sg pl rl bt) M) → ∀ v5 : Option Value, sl_V YX1_scanOperand none 3 0 0 Q 64 [some (.ref 33), some (.int (nI (fo_p f ln at_))), some (.int (sl_bi (fo_r f ln at_))), some (.int (nI (fo_b f ln at_))), some (.int (nI (fo_n f ln at_))), v5] [] M := by
    intro Q hQ v5
    have bad : fo_bad f ln at_ = true → sl_V YX1_scanOperand none 3 0 0 Q 89 [some (.ref 33), some (.int (nI (fo_p f ln at_))), some (.int (sl_bi (fo_r f ln at_))), some (.int (nI (fo_b f ln at_))), some (.int (nI (fo_n f ln at_))), v5] [] M := by
      intro hb
      rw [fs_op, hb] at hQ
      refine slv_mem hF.symm ?_
      refine slv_aload_n eX1_scanOperand_89 rfl ?_
      refine slv_aload_n eX1_scanOperand_90 rfl ?_
      refine slv_getf eX1_scanOperand_91 fX1_39 (by repeat (first | assumption | exact sl_up_eq | refine sl_up_ne (by first | decide | omega) ?_)) rfl ?_
      refine slv_putf (fs' := [_, _, _, _, _, _, _, _, _]) eX1_scanOperand_94 fX1_33 (by repeat (first | assumption | exact sl_up_eq | refine sl_up_ne (by first | decide | omega) ?_)) (Nat.le_of_ble_eq_true rfl) rfl rfl rfl ?_
      refine slv_mem (fm_u33 (ln' := ln) (bd' := some at_) (cn' := cn) (at_' := at_)) ?_
      refine slv_vret eX1_scanOperand_97 rfl ?_
      exact hQ
    have good : fo_bad f ln at_ = false → sl_V YX1_scanOperand none 3 0 0 Q 98 [some (.ref 33), some (.int (nI (fo_p f ln at_))), some (.int (sl_bi (fo_r f ln at_))), some (.int (nI (fo_b f ln at_))), some (.int (nI (fo_n f ln at_))), v5] [] M := by
      intro hb
      rw [fs_op, hb] at hQ
      have hb2 := hb
      simp only [fo_bad, Bool.or_eq_false_iff, decide_eq_false_iff_not] at hb2
      have h8 : fo_b f ln at_ - at_ ≤ 8 := by
        cases hr : fo_r f ln at_
        · have : fo_b f ln at_ = fo_p f ln at_ := by rw [fo_b, hr]; rfl
          omega
        · have : fo_n f ln at_ = fo_b f ln at_ - fo_p f ln at_ - 1 := by rw [fo_n, hr]; rfl
          omega
      have cd := c_X1_digitsBetween hT hl h' (j := at_) (k := fo_b f ln at_) (by omega) hbe.2.1 h8
      have ca := c_X1_addToken h' hc 0 (fo_r f ln at_) (fo_v f ln at_) (fo_b f ln at_)
      refine slv_aload_n eX1_scanOperand_98 rfl ?_
      refine slv_aload_n eX1_scanOperand_99 rfl ?_
      refine slv_getf eX1_scanOperand_100 fX1_39 (by repeat (first | assumption | exact sl_up_eq | refine sl_up_ne (by first | decide | omega) ?_)) rfl ?_
      refine slv_iload_n eX1_scanOperand_103 rfl ?_
      refine slv_rV (As := [_, _]) eX1_scanOperand_104 lX1_70 rfl rfl (by repeat (first | assumption | exact sl_up_eq | refine sl_up_ne (by first | decide | omega) ?_)) rfl cd (by decide) (Nat.le_of_ble_eq_true rfl) ?_
      refine slv_istore (lv' := [_, _, _, _, _, _]) eX1_scanOperand_107 (by decide) rfl ?_
      refine slv_aload_n eX1_scanOperand_109 rfl ?_
      refine slv_iconst (v := nI 0) eX1_scanOperand_110 (by decide) ?_
      refine slv_iload_n eX1_scanOperand_111 rfl ?_
      refine slv_iload_n eX1_scanOperand_112 rfl ?_
      refine slv_if_eqB eX1_scanOperand_113 (fun h113 => ?_) (fun h113 => ?_)
      · refine slv_iload eX1_scanOperand_126 rfl ?_
        refine slv_top (w := .int (fo_v f ln at_)) (by rw [fo_v, h113]; rfl) ?_
        refine slv_iload_n eX1_scanOperand_128 rfl ?_
        refine slv_rV (As := [_, _, _, _]) eX1_scanOperand_129 lX1_63 rfl rfl (by repeat (first | assumption | exact sl_up_eq | refine sl_up_ne (by first | decide | omega) ?_)) rfl ca (by decide) (Nat.le_of_ble_eq_true rfl) ?_
        refine slv_vret eX1_scanOperand_132 rfl ?_
        exact hQ
      · refine slv_iload eX1_scanOperand_116 rfl ?_
        refine slv_iload eX1_scanOperand_118 rfl ?_
        refine slv_rS (As := [_, _]) eX1_scanOperand_120 lX1_74 rfl rfl (r7 M _ _ (fo_lt ha hb h113) (by rw [h113] at hb2; have := hb2.2.2; simp at this; omega) (by omega)) (by decide) (Nat.le_of_ble_eq_true rfl) ?_
        refine slv_goto eX1_scanOperand_123 ?_
        refine slv_top (w := .int (fo_v f ln at_)) (by rw [fo_v, h113]; rfl) ?_
        refine slv_iload_n eX1_scanOperand_128 rfl ?_
        refine slv_rV (As := [_, _, _, _]) eX1_scanOperand_129 lX1_63 rfl rfl (by repeat (first | assumption | exact sl_up_eq | refine sl_up_ne (by first | decide | omega) ?_)) rfl ca (by decide) (Nat.le_of_ble_eq_true rfl) ?_
        refine slv_vret eX1_scanOperand_132 rfl ?_
        exact hQ
    refine slv_iload_n eX1_scanOperand_64 rfl ?_
    refine slv_aload_n eX1_scanOperand_65 rfl ?_
    refine slv_getf eX1_scanOperand_66 fX1_39 (by repeat (first | assumption | exact sl_up_eq | refine sl_up_ne (by first | decide | omega) ?_)) rfl ?_
    refine slv_isubN eX1_scanOperand_69 (by omega) ?_
    refine slv_iconst (v := nI 4) eX1_scanOperand_70 (by decide) ?_
    refine slv_icmp_gtN eX1_scanOperand_71 (by omega) (by omega) (fun h71 => ?_) (fun h71 => ?_)
    · refine bad ?_
      first | (rw [fo_bad, decide_eq_true h71]; rfl) | (rw [fo_bad, decide_eq_true h77, Bool.true_or, Bool.or_true]) | (rw [fo_bad, h81, decide_eq_true h86, Bool.and_self, Bool.or_true, Bool.or_true])
    · refine slv_iload eX1_scanOperand_74 rfl ?_
      refine slv_iconst (v := nI 3) eX1_scanOperand_76 (by decide) ?_
      refine slv_icmp_gtN eX1_scanOperand_77 (by omega) (by omega) (fun h77 => ?_) (fun h77 => ?_)
      · refine bad ?_
        first | (rw [fo_bad, decide_eq_true h71]; rfl) | (rw [fo_bad, decide_eq_true h77, Bool.true_or, Bool.or_true]) | (rw [fo_bad, h81, decide_eq_true h86, Bool.and_self, Bool.or_true, Bool.or_true])
      · refine slv_iload_n eX1_scanOperand_80 rfl ?_
        refine slv_if_eqB eX1_scanOperand_81 (fun h81 => ?_) (fun h81 => ?_)
        · refine good ?_
          first | (rw [fo_bad, decide_eq_false (Nat.not_lt.mpr h71), decide_eq_false (Nat.not_lt.mpr h77), h81]; rfl) | (rw [fo_bad, decide_eq_false (Nat.not_lt.mpr h71), decide_eq_false (Nat.not_lt.mpr h77), decide_eq_false h86, Bool.and_false]; rfl)
        · refine slv_iload eX1_scanOperand_84 rfl ?_
          refine slv_if_neN eX1_scanOperand_86 (by omega) (fun h86 => ?_) (fun h86 => ?_)
          · refine good ?_
            first | (rw [fo_bad, decide_eq_false (Nat.not_lt.mpr h71), decide_eq_false (Nat.not_lt.mpr h77), h81]; rfl) | (rw [fo_bad, decide_eq_false (Nat.not_lt.mpr h71), decide_eq_false (Nat.not_lt.mpr h77), decide_eq_false h86, Bool.and_false]; rfl)
          · refine bad ?_
            first | (rw [fo_bad, decide_eq_true h71]; rfl) | (rw [fo_bad, decide_eq_true h77, Bool.true_or, Bool.or_true]) | (rw [fo_bad, h81, decide_eq_true h86, Bool.and_self, Bool.or_true, Bool.or_true])
  refine slv_mem hF ?_
  have mid : ∀ v3 v4 v5 : Option Value, sl_V YX1_scanOperand none 3 0 0 (fun r1 M1 => r1 = none ∧ M1 = fm_mem ln (fs_op f ln bd cn at_ sg pl rl bt) M) 33 [some (.ref 33), some (.int (nI (fo_p f ln at_))), some (.int (sl_bi (fo_r f ln at_))), v3, v4, v5] [] M := by
    intro v3 v4 v5
    have T := tail (fun r1 M1 => r1 = none ∧ M1 = fm_mem ln (fs_op f ln bd cn at_ sg pl rl bt) M) ⟨rfl, rfl⟩ v5
    cases hr : fo_r f ln at_
    · have e1 : fo_b f ln at_ = fo_p f ln at_ := by rw [fo_b, hr]; rfl
      have e2 : fo_n f ln at_ = 0 := by rw [fo_n, hr]; rfl
      rw [hr, e1, e2] at T
      refine slv_iload_n eX1_scanOperand_33 rfl ?_
      refine slv_if_eqB eX1_scanOperand_34 (fun h34 => ?_) (fun h34 => absurd h34 (fun z => by cases z))
      refine slv_iload_n eX1_scanOperand_47 rfl ?_
      refine slv_istore_n (i := 3) (lv' := [_, _, _, _, _, _]) eX1_scanOperand_48 rfl (by decide) rfl ?_
      refine slv_iload_n eX1_scanOperand_49 rfl ?_
      refine slv_if_eqB eX1_scanOperand_50 (fun h50 => ?_) (fun h50 => absurd h50 (fun z => by cases z))
      refine slv_iconst (v := nI 0) eX1_scanOperand_61 (by decide) ?_
      refine slv_istore (lv' := [_, _, _, _, _, _]) eX1_scanOperand_62 (by decide) rfl ?_
      exact T
    · have hr2 := hr
      simp only [fo_r, Bool.and_eq_true, decide_eq_true_eq] at hr2
      have e2 : fo_n f ln at_ = fo_b f ln at_ - fo_p f ln at_ - 1 := by rw [fo_n, hr]; rfl
      have c2 : sl_R YX1_digitsEnd 2 [.ref 33, .int (nI (fo_p f ln at_ + 1))] M (some (.int (nI (fo_b f ln at_)))) M := by
        have g := c_X1_digitsEnd hT hl h' (j := fo_p f ln at_ + 1) (by omega)
        rw [show fo_b f ln at_ = fm_de f ln (ln - (fo_p f ln at_ + 1)) (fo_p f ln at_ + 1) by rw [fo_b, hr]; rfl]
        exact g
      have hb1 := hbe.2.2 hr
      rw [hr, e2] at T
      refine slv_iload_n eX1_scanOperand_33 rfl ?_
      refine slv_if_eqB eX1_scanOperand_34 (fun h34 => absurd h34 (fun z => by cases z)) (fun h34 => ?_)
      refine slv_aload_n eX1_scanOperand_37 rfl ?_
      refine slv_iload_n eX1_scanOperand_38 rfl ?_
      refine slv_iconst (v := nI 1) eX1_scanOperand_39 (by decide) ?_
      refine slv_iaddN eX1_scanOperand_40 ?_
      refine slv_rV (As := [_]) eX1_scanOperand_41 lX1_67 rfl rfl (by repeat (first | assumption | exact sl_up_eq | refine sl_up_ne (by first | decide | omega) ?_)) rfl c2 (by decide) (Nat.le_of_ble_eq_true rfl) ?_
      refine slv_goto eX1_scanOperand_44 ?_
      refine slv_istore_n (i := 3) (lv' := [_, _, _, _, _, _]) eX1_scanOperand_48 rfl (by decide) rfl ?_
      refine slv_iload_n eX1_scanOperand_49 rfl ?_
      refine slv_if_eqB eX1_scanOperand_50 (fun h50 => absurd h50 (fun z => by cases z)) (fun h50 => ?_)
      refine slv_iload_n eX1_scanOperand_53 rfl ?_
      refine slv_iload_n eX1_scanOperand_54 rfl ?_
      refine slv_isubN eX1_scanOperand_55 (by omega) ?_
      refine slv_iconst (v := nI 1) eX1_scanOperand_56 (by decide) ?_
      refine slv_isubN eX1_scanOperand_57 (by omega) ?_
      refine slv_goto eX1_scanOperand_58 ?_
      refine slv_istore (lv' := [_, _, _, _, _, _]) eX1_scanOperand_62 (by decide) rfl ?_
      exact T
  refine slv_aload_n eX1_scanOperand_0 rfl ?_
  refine slv_aload_n eX1_scanOperand_1 rfl ?_
  refine slv_getf eX1_scanOperand_2 fX1_39 (by repeat (first | assumption | exact sl_up_eq | refine sl_up_ne (by first | decide | omega) ?_)) rfl ?_
  refine slv_rV (As := [_]) eX1_scanOperand_5 lX1_67 rfl rfl (by repeat (first | assumption | exact sl_up_eq | refine sl_up_ne (by first | decide | omega) ?_)) rfl c1 (by decide) (Nat.le_of_ble_eq_true rfl) ?_
  refine slv_istore_n (i := 1) (lv' := [_, _, _, _, _, _]) eX1_scanOperand_8 rfl (by decide) rfl ?_
  refine slv_iload_n eX1_scanOperand_9 rfl ?_
  refine slv_aload_n eX1_scanOperand_10 rfl ?_
  refine slv_getf eX1_scanOperand_11 fX1_29 (by repeat (first | assumption | exact sl_up_eq | refine sl_up_ne (by first | decide | omega) ?_)) rfl ?_
  refine slv_icmp_geN eX1_scanOperand_14 (by omega) (by omega) (fun h14 => ?_) (fun h14 => ?_)
  · refine slv_iconst (v := nI 0) eX1_scanOperand_31 (by decide) ?_
    refine slv_top (w := .int (sl_bi (fo_r f ln at_))) (by first | (rw [fo_r, decide_eq_false (Nat.not_lt.mpr h14)]; rfl) | (rw [fo_r, decide_eq_true h14, decide_eq_false h24]; rfl) | (rw [fo_r, decide_eq_true h14, decide_eq_true h24]; rfl)) ?_
    refine slv_istore_n (i := 2) (lv' := [_, _, _, _, _, _]) eX1_scanOperand_32 rfl (by decide) rfl ?_
    exact mid _ _ _
  · refine slv_aload_n eX1_scanOperand_17 rfl ?_
    refine slv_iload_n eX1_scanOperand_18 rfl ?_
    refine slv_rV (As := [_]) eX1_scanOperand_19 lX1_45 rfl rfl (by repeat (first | assumption | exact sl_up_eq | refine sl_up_ne (by first | decide | omega) ?_)) rfl (c_X1_byteAt hT h' (by omega)) (by decide) (Nat.le_of_ble_eq_true rfl) ?_
    refine slv_bipush (v := nI 46) eX1_scanOperand_22 (by decide) ?_
    refine slv_icmp_neN eX1_scanOperand_24 (by omega) (by omega) (fun h24 => ?_) (fun h24 => ?_)
    · refine slv_iconst (v := nI 0) eX1_scanOperand_31 (by decide) ?_
      refine slv_top (w := .int (sl_bi (fo_r f ln at_))) (by first | (rw [fo_r, decide_eq_false (Nat.not_lt.mpr h14)]; rfl) | (rw [fo_r, decide_eq_true h14, decide_eq_false h24]; rfl) | (rw [fo_r, decide_eq_true h14, decide_eq_true h24]; rfl)) ?_
      refine slv_istore_n (i := 2) (lv' := [_, _, _, _, _, _]) eX1_scanOperand_32 rfl (by decide) rfl ?_
      exact mid _ _ _
    · refine slv_iconst (v := nI 1) eX1_scanOperand_27 (by decide) ?_
      refine slv_goto eX1_scanOperand_28 ?_
      refine slv_top (w := .int (sl_bi (fo_r f ln at_))) (by first | (rw [fo_r, decide_eq_false (Nat.not_lt.mpr h14)]; rfl) | (rw [fo_r, decide_eq_true h14, decide_eq_false h24]; rfl) | (rw [fo_r, decide_eq_true h14, decide_eq_true h24]; rfl)) ?_
      refine slv_istore_n (i := 2) (lv' := [_, _, _, _, _, _]) eX1_scanOperand_32 rfl (by decide) rfl ?_
      exact mid _ _ _
end FRM

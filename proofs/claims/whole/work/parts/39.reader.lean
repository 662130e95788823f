/-! GrammarReader: tokens -/
def gr_lt (c : Nat) : Bool := decide (97 ≤ c) && decide (c ≤ 122)
def gr_sk (f : Nat → Int32) (ln : Nat) : Nat → Nat → Nat
  | 0, a => a
  | n + 1, a => cond (decide (a < ln) && decide (by_ f a = 32)) (gr_sk f ln n (a + 1)) a
/-- where a word ends -/
def gr_we (f : Nat → Int32) (ln : Nat) : Nat → Nat → Nat
  | 0, a => a
  | n + 1, a => cond (decide (a < ln) && gr_lt (by_ f a)) (gr_we f ln n (a + 1)) a
/-- a word, packed -/
def gr_wp (f : Nat → Int32) (ln : Nat) : Nat → Nat → Int32 → Int32
  | 0, _, p => p
  | n + 1, a, p => cond (decide (a < ln) && gr_lt (by_ f a)) (gr_wp f ln n (a + 1) (p * nI 32 + nI (by_ f a) - nI 97 + nI 1)) p
theorem gr_sk_le (f : Nat → Int32) (ln : Nat) : ∀ n a, a ≤ ln → a ≤ gr_sk f ln n a ∧ gr_sk f ln n a ≤ ln := by
  intro n
  induction n with
  | zero => intro a h; exact ⟨Nat.le_refl a, h⟩
  | succ n ih =>
    intro a h
    rw [gr_sk]
    cases hc : (decide (a < ln) && decide (by_ f a = 32)) with
    | true =>
      have h1 := of_decide_eq_true (Bool.and_eq_true _ _ ▸ hc).1
      have := ih (a + 1) h1
      exact ⟨by show a ≤ gr_sk f ln n (a + 1); omega, this.2⟩
    | false => exact ⟨Nat.le_refl a, h⟩
theorem gr_we_le (f : Nat → Int32) (ln : Nat) : ∀ n a, a ≤ ln → a ≤ gr_we f ln n a ∧ gr_we f ln n a ≤ ln := by
  intro n
  induction n with
  | zero => intro a h; exact ⟨Nat.le_refl a, h⟩
  | succ n ih =>
    intro a h
    rw [gr_we]
    cases hc : (decide (a < ln) && gr_lt (by_ f a)) with
    | true =>
      have h1 := of_decide_eq_true (Bool.and_eq_true _ _ ▸ hc).1
      have := ih (a + 1) h1
      exact ⟨by show a ≤ gr_we f ln n (a + 1); omega, this.2⟩
    | false => exact ⟨Nat.le_refl a, h⟩
/-- a text, packed: from place i on, n signs -/
def st_pk (j : Nat) : Nat → Nat → Int32 → Int32
  | 0, _, p => p
  | n + 1, i, p => st_pk j n (i + 1) (p * nI 32 + st_ch j i - nI 97 + nI 1)
def gr_is (R : gr_T) (j : Nat) : Bool := decide (gr_tk R = 1) && decide (st_pk j (st_len j) 0 (nI 0) = gr_wd R)
def gr_fl (k : Nat) (R : gr_T) : gr_T := (k, gr_tp R, gr_a R, gr_st R, gr_hd R, true, gr_tk R, gr_tp R, gr_wd R, gr_sg R)
def gr_w (f : Nat → Int32) (ln : Nat) (R : gr_T) : gr_T := (gr_fa R, gr_pl R, gr_we f ln (ln - gr_a R) (gr_a R), gr_st R, gr_hd R, gr_en R, if gr_we f ln (ln - gr_a R) (gr_a R) - gr_tp R ≤ 6 then 1 else 4, gr_tp R, gr_wp f ln (ln - gr_a R) (gr_a R) (nI 0), gr_sg R)
/-- the token at place a, where no blank stands -/
def gr_t1 (f : Nat → Int32) (ln a : Nat) (R : gr_T) : gr_T := if ln ≤ a then (gr_fa R, gr_pl R, a, gr_st R, gr_hd R, gr_en R, 0, a, gr_wd R, gr_sg R) else
  cond (gr_lt (by_ f a)) (gr_w f ln (gr_fa R, gr_pl R, a, gr_st R, gr_hd R, gr_en R, gr_tk R, a, gr_wd R, gr_sg R)) (
  if by_ f a = 59 then (gr_fa R, gr_pl R, a + 1, gr_st R, gr_hd R, gr_en R, 3, a, gr_wd R, gr_sg R) else
  cond (st_sg (by_ f a)) (gr_fa R, gr_pl R, a + 1, gr_st R, gr_hd R, gr_en R, 2, a, gr_wd R, by_ f a) (gr_fa R, gr_pl R, a + 1, gr_st R, gr_hd R, gr_en R, 4, a, gr_wd R, gr_sg R))
def gr_tok (f : Nat → Int32) (ln : Nat) (R : gr_T) : gr_T := gr_t1 f ln (gr_sk f ln (ln - gr_a R) (gr_a R)) R
set_option maxRecDepth 100000 in
theorem c_X3_isLetter (M : sl_M) {c : Nat} (hc : c < 1000) : sl_R YX3_isLetter 0 [.int (nI c)] M (some (.int (sl_bi (gr_lt c)))) M := by
  refine sl_T.of_V (lv := [_]) (by decide) rfl (Nat.le_of_ble_eq_true rfl) ?_
  refine slv_iload_n eX3_isLetter_0 rfl ?_
  refine slv_bipush (v := nI 97) eX3_isLetter_1 (by decide) ?_
  refine slv_icmp_ltN eX3_isLetter_3 (by omega) (by omega) (fun h3 => ?_) (fun h3 => ?_)
  · refine slv_iconst (v := nI 0) eX3_isLetter_16 (by decide) ?_
    refine slv_zret eX3_isLetter_17 rfl rfl ?_
    refine ⟨?_, rfl⟩
    unfold gr_lt
    first | (rw [decide_eq_false (Nat.not_le.mpr h3)]; rfl) | (rw [decide_eq_true h3, decide_eq_false (Nat.not_le.mpr h9)]; rfl) | (rw [decide_eq_true h3, decide_eq_true h9]; rfl)
  · refine slv_iload_n eX3_isLetter_6 rfl ?_
    refine slv_bipush (v := nI 122) eX3_isLetter_7 (by decide) ?_
    refine slv_icmp_gtN eX3_isLetter_9 (by omega) (by omega) (fun h9 => ?_) (fun h9 => ?_)
    · refine slv_iconst (v := nI 0) eX3_isLetter_16 (by decide) ?_
      refine slv_zret eX3_isLetter_17 rfl rfl ?_
      refine ⟨?_, rfl⟩
      unfold gr_lt
      first | (rw [decide_eq_false (Nat.not_le.mpr h3)]; rfl) | (rw [decide_eq_true h3, decide_eq_false (Nat.not_le.mpr h9)]; rfl) | (rw [decide_eq_true h3, decide_eq_true h9]; rfl)
    · refine slv_iconst (v := nI 1) eX3_isLetter_12 (by decide) ?_
      refine slv_goto eX3_isLetter_13 ?_
      refine slv_zret eX3_isLetter_17 rfl rfl ?_
      refine ⟨?_, rfl⟩
      unfold gr_lt
      first | (rw [decide_eq_false (Nat.not_le.mpr h3)]; rfl) | (rw [decide_eq_true h3, decide_eq_false (Nat.not_le.mpr h9)]; rfl) | (rw [decide_eq_true h3, decide_eq_true h9]; rfl)
section GRD
variable {b ln : Nat} {R : gr_T} {g : sg_T} {M : sl_M} {f : Nat → Int32}
set_option maxRecDepth 100000 in
theorem c_X3_byteAt (hT : M 1 = .inl (.byte, 900, .inl f)) (hb : b = 2 ∨ b = 10) {i : Nat} (hi : i < 900) : sl_R YX3_byteAt 0 [.ref 18, .int (nI i)] (gp_S b ln R g M) (some (.int (nI (by_ f i)))) (gp_S b ln R g M) := by
  refine sl_T.of_V (lv := [_, _]) (by decide) rfl (Nat.le_of_ble_eq_true rfl) ?_
  refine slv_aload_n eX3_byteAt_0 rfl ?_
  refine slv_getf eX3_byteAt_1 fX3_9 (by repeat (first | assumption | exact sl_up_eq | refine sl_up_ne (by first | decide | omega) ?_)) rfl ?_
  refine slv_iload_n eX3_byteAt_4 rfl ?_
  refine slv_baldN eX3_byteAt_5 (by repeat (first | assumption | exact sl_up_eq | refine sl_up_ne (by first | decide | omega) ?_)) (by omega) (by decide) ?_
  refine slv_sipush (v := nI 255) eX3_byteAt_6 (by decide) ?_
  refine slv_iand eX3_byteAt_9 ?_
  refine slv_iret eX3_byteAt_10 rfl ?_
  exact ⟨by rw [by_eq], rfl⟩
set_option maxRecDepth 100000 in
theorem c_X3_failWith (k : Nat) : sl_R YX3_failWith 0 [.ref 18, .int (nI k)] (gp_S b ln R g M) none (gp_S b ln (gr_fl k R) g M) := by
  refine sl_T.of_V (lv := [_, _]) (by decide) rfl (Nat.le_of_ble_eq_true rfl) ?_
  refine slv_aload_n eX3_failWith_0 rfl ?_
  refine slv_iload_n eX3_failWith_1 rfl ?_
  refine slv_putf (fs' := [_, _, _, _, _, _, _, _, _, _, _, _, _]) eX3_failWith_2 fX3_41 (by repeat (first | assumption | exact sl_up_eq | refine sl_up_ne (by first | decide | omega) ?_)) (Nat.le_of_ble_eq_true rfl) rfl rfl rfl ?_
  refine slv_mem (gr_u18 (fa' := k)) ?_
  refine slv_aload_n eX3_failWith_5 rfl ?_
  refine slv_aload_n eX3_failWith_6 rfl ?_
  refine slv_getf eX3_failWith_7 fX3_57 (by repeat (first | assumption | exact sl_up_eq | refine sl_up_ne (by first | decide | omega) ?_)) rfl ?_
  refine slv_putf (fs' := [_, _, _, _, _, _, _, _, _, _, _, _, _]) eX3_failWith_10 fX3_44 (by repeat (first | assumption | exact sl_up_eq | refine sl_up_ne (by first | decide | omega) ?_)) (Nat.le_of_ble_eq_true rfl) rfl rfl rfl ?_
  refine slv_mem (gr_u18 (pl' := gr_tp R)) ?_
  refine slv_aload_n eX3_failWith_13 rfl ?_
  refine slv_iconst (v := nI 1) eX3_failWith_14 (by decide) ?_
  refine slv_putf (fs' := [_, _, _, _, _, _, _, _, _, _, _, _, _]) eX3_failWith_15 fX3_38 (by repeat (first | assumption | exact sl_up_eq | refine sl_up_ne (by first | decide | omega) ?_)) (Nat.le_of_ble_eq_true rfl) (by first | rfl | assumption) (by first | rfl | assumption) rfl ?_
  refine slv_mem (gr_u18 (en' := true)) ?_
  refine slv_vret eX3_failWith_18 rfl ?_
  exact ⟨rfl, rfl⟩
set_option maxRecDepth 100000 in
theorem c_X3_isWord (hS : st_all) {j : Nat} (hj : j < sl_sN) (ht : gr_tk R < 100) (hl : st_len j < 100) : sl_R YX3_isWord 5 [.ref 18, .ref (sl_X + 2 * j)] (gp_S b ln R g M) (some (.int (sl_bi (gr_is R j)))) (gp_S b ln R g M) := by
  obtain ⟨s1, s2, s3⟩ := hS
  refine sl_T.of_V (lv := [_, _, _, _]) (by decide) rfl (Nat.le_of_ble_eq_true rfl) ?_
  have loop : ∀ (n i : Nat) (p : Int32), i + n = st_len j → ∀ Q : Option Value → sl_M → Prop, Q (some (.int (sl_bi (decide (st_pk j n i p = gr_wd R))))) (gp_S b ln R g M) → sl_V YX3_isWord none 5 0 0 Q 14 [some (.ref 18), some (.ref (sl_X + 2 * j)), some (.int p), some (.int (nI i))] [] (gp_S b ln R g M) := by
    intro n
    induction n with
    | zero =>
      intro i p hi Q hQ
      refine slv_iload_n eX3_isWord_14 rfl ?_
      refine slv_aload_n eX3_isWord_15 rfl ?_
      refine slv_rVs (As := []) eX3_isWord_16 lX3_83 rfl rfl (by first | decide | assumption) rfl (s1 _ j hj) (by decide) (Nat.le_of_ble_eq_true rfl) ?_
      refine slv_icmp_geN eX3_isWord_19 (by omega) (by omega) (fun h19 => ?_) (fun h19 => absurd h19 (by omega))
      refine slv_iload_n eX3_isWord_44 rfl ?_
      refine slv_aload_n eX3_isWord_45 rfl ?_
      refine slv_getf eX3_isWord_46 fX3_80 (by repeat (first | assumption | exact sl_up_eq | refine sl_up_ne (by first | decide | omega) ?_)) rfl ?_
      refine slv_icmp_ne eX3_isWord_49 (fun h49 => ?_) (fun h49 => ?_)
      · refine slv_iconst (v := nI 0) eX3_isWord_56 (by decide) ?_
        refine slv_zret eX3_isWord_57 rfl rfl ?_
        first | (rw [st_pk, decide_eq_true h49] at hQ; exact hQ) | (rw [st_pk, decide_eq_false h49] at hQ; exact hQ)
      · refine slv_iconst (v := nI 1) eX3_isWord_52 (by decide) ?_
        refine slv_goto eX3_isWord_53 ?_
        refine slv_zret eX3_isWord_57 rfl rfl ?_
        first | (rw [st_pk, decide_eq_true h49] at hQ; exact hQ) | (rw [st_pk, decide_eq_false h49] at hQ; exact hQ)
    | succ n ih =>
      intro i p hi Q hQ
      refine slv_iload_n eX3_isWord_14 rfl ?_
      refine slv_aload_n eX3_isWord_15 rfl ?_
      refine slv_rVs (As := []) eX3_isWord_16 lX3_83 rfl rfl (by first | decide | assumption) rfl (s1 _ j hj) (by decide) (Nat.le_of_ble_eq_true rfl) ?_
      refine slv_icmp_geN eX3_isWord_19 (by omega) (by omega) (fun h19 => absurd h19 (by omega)) (fun h19 => ?_)
      refine slv_iload_n eX3_isWord_22 rfl ?_
      refine slv_bipush (v := nI 32) eX3_isWord_23 (by decide) ?_
      refine slv_imul eX3_isWord_25 ?_
      refine slv_aload_n eX3_isWord_26 rfl ?_
      refine slv_iload_n eX3_isWord_27 rfl ?_
      refine slv_rVs (As := [_]) eX3_isWord_28 lX3_86 rfl rfl (by first | decide | assumption) rfl (s2 _ j i hj (by omega)) (by decide) (Nat.le_of_ble_eq_true rfl) ?_
      refine slv_iadd eX3_isWord_31 ?_
      refine slv_bipush (v := nI 97) eX3_isWord_32 (by decide) ?_
      refine slv_isub eX3_isWord_34 ?_
      refine slv_iconst (v := nI 1) eX3_isWord_35 (by decide) ?_
      refine slv_iadd eX3_isWord_36 ?_
      refine slv_istore_n (i := 2) (lv' := [_, _, _, _]) eX3_isWord_37 rfl (by decide) rfl ?_
      refine slv_iincN (lv' := [_, _, _, _]) eX3_isWord_38 rfl (by decide) rfl ?_
      refine slv_goto eX3_isWord_41 ?_
      exact ih (i + 1) _ (by omega) Q hQ
  refine slv_aload_n eX3_isWord_0 rfl ?_
  refine slv_getf eX3_isWord_1 fX3_60 (by repeat (first | assumption | exact sl_up_eq | refine sl_up_ne (by first | decide | omega) ?_)) rfl ?_
  refine slv_iconst (v := nI 1) eX3_isWord_4 (by decide) ?_
  refine slv_icmp_eqN eX3_isWord_5 (by omega) (by omega) (fun h5 => ?_) (fun h5 => ?_)
  · refine slv_iconst (v := nI 0) eX3_isWord_10 (by decide) ?_
    refine slv_istore_n (i := 2) (lv' := [_, _, _, _]) eX3_isWord_11 rfl (by decide) rfl ?_
    refine slv_iconst (v := nI 0) eX3_isWord_12 (by decide) ?_
    refine slv_istore_n (i := 3) (lv' := [_, _, _, _]) eX3_isWord_13 rfl (by decide) rfl ?_
    refine loop (st_len j) 0 (nI 0) (by omega) _ ⟨?_, rfl⟩
    rw [gr_is, decide_eq_true h5, Bool.true_and]
  · refine slv_iconst (v := nI 0) eX3_isWord_8 (by decide) ?_
    refine slv_zret eX3_isWord_9 rfl rfl ?_
    exact ⟨by rw [gr_is, decide_eq_false h5]; rfl, rfl⟩
set_option maxRecDepth 100000 in
theorem c_X3_nextWord (hT : M 1 = .inl (.byte, 900, .inl f)) (hb : b = 2 ∨ b = 10) (hl : ln ≤ 900) (ha : gr_a R ≤ ln) (htp : gr_tp R ≤ gr_a R) : sl_R YX3_nextWord 1 [.ref 18] (gp_S b ln R g M) none (gp_S b ln (gr_w f ln R) g M) := by
  refine sl_T.of_V (lv := [_, _]) (by decide) rfl (Nat.le_of_ble_eq_true rfl) ?_
  have fin : ∀ (p : Int32) (R : gr_T), gr_a R ≤ ln → gr_tp R ≤ gr_a R → ∀ Q : Option Value → sl_M → Prop, Q none (gp_S b ln (gr_fa R, gr_pl R, gr_a R, gr_st R, gr_hd R, gr_en R, if gr_a R - gr_tp R ≤ 6 then 1 else 4, gr_tp R, p, gr_sg R) g M) → sl_V YX3_nextWord none 1 0 0 Q 59 [some (.ref 18), some (.int p)] [] (gp_S b ln R g M) := by
    intro p R hRa hRt Q hQ
    refine slv_aload_n eX3_nextWord_59 rfl ?_
    refine slv_iload_n eX3_nextWord_60 rfl ?_
    refine slv_putf (fs' := [_, _, _, _, _, _, _, _, _, _, _, _, _]) eX3_nextWord_61 fX3_80 (by repeat (first | assumption | exact sl_up_eq | refine sl_up_ne (by first | decide | omega) ?_)) (Nat.le_of_ble_eq_true rfl) rfl rfl rfl ?_
    refine slv_mem (gr_u18 (wd' := p)) ?_
    refine slv_aload_n eX3_nextWord_64 rfl ?_
    refine slv_aload_n eX3_nextWord_65 rfl ?_
    refine slv_getf eX3_nextWord_66 fX3_19 (by repeat (first | assumption | exact sl_up_eq | refine sl_up_ne (by first | decide | omega) ?_)) rfl ?_
    refine slv_aload_n eX3_nextWord_69 rfl ?_
    refine slv_getf eX3_nextWord_70 fX3_57 (by repeat (first | assumption | exact sl_up_eq | refine sl_up_ne (by first | decide | omega) ?_)) rfl ?_
    refine slv_isubN eX3_nextWord_73 (by omega) ?_
    refine slv_bipush (v := nI 6) eX3_nextWord_74 (by decide) ?_
    refine slv_icmp_gtN eX3_nextWord_76 (by omega) (by omega) (fun h76 => ?_) (fun h76 => ?_)
    · refine slv_iconst (v := nI 4) eX3_nextWord_83 (by decide) ?_
      refine slv_putf (fs' := [_, _, _, _, _, _, _, _, _, _, _, _, _]) eX3_nextWord_84 fX3_60 (by repeat (first | assumption | exact sl_up_eq | refine sl_up_ne (by first | decide | omega) ?_)) (Nat.le_of_ble_eq_true rfl) rfl rfl rfl ?_
      refine slv_mem gr_u18 ?_
      refine slv_vret eX3_nextWord_87 rfl ?_
      first | (rw [if_pos h76] at hQ; exact hQ) | (rw [if_neg (Nat.not_le.mpr h76)] at hQ; exact hQ)
    · refine slv_iconst (v := nI 1) eX3_nextWord_79 (by decide) ?_
      refine slv_goto eX3_nextWord_80 ?_
      refine slv_putf (fs' := [_, _, _, _, _, _, _, _, _, _, _, _, _]) eX3_nextWord_84 fX3_60 (by repeat (first | assumption | exact sl_up_eq | refine sl_up_ne (by first | decide | omega) ?_)) (Nat.le_of_ble_eq_true rfl) rfl rfl rfl ?_
      refine slv_mem gr_u18 ?_
      refine slv_vret eX3_nextWord_87 rfl ?_
      first | (rw [if_pos h76] at hQ; exact hQ) | (rw [if_neg (Nat.not_le.mpr h76)] at hQ; exact hQ)
  have loop : ∀ (n : Nat) (p : Int32) (R : gr_T), gr_a R + n = ln → gr_tp R ≤ gr_a R → ∀ Q : Option Value → sl_M → Prop, Q none (gp_S b ln (gr_fa R, gr_pl R, gr_we f ln n (gr_a R), gr_st R, gr_hd R, gr_en R, if gr_we f ln n (gr_a R) - gr_tp R ≤ 6 then 1 else 4, gr_tp R, gr_wp f ln n (gr_a R) p, gr_sg R) g M) → sl_V YX3_nextWord none 1 0 0 Q 2 [some (.ref 18), some (.int p)] [] (gp_S b ln R g M) := by
    intro n
    induction n with
    | zero =>
      intro p R hn hRt Q hQ
      refine slv_aload_n eX3_nextWord_2 rfl ?_
      refine slv_getf eX3_nextWord_3 fX3_19 (by repeat (first | assumption | exact sl_up_eq | refine sl_up_ne (by first | decide | omega) ?_)) rfl ?_
      refine slv_aload_n eX3_nextWord_6 rfl ?_
      refine slv_getf eX3_nextWord_7 fX3_15 (by repeat (first | assumption | exact sl_up_eq | refine sl_up_ne (by first | decide | omega) ?_)) rfl ?_
      refine slv_icmp_geN eX3_nextWord_10 (by omega) (by omega) (fun h10 => ?_) (fun h10 => absurd h10 (by omega))
      exact fin p R (by omega) hRt Q hQ
    | succ n ih =>
      intro p R hn hRt Q hQ
      have h900 : gr_a R < 900 := by omega
      have hby := by_lt f (gr_a R)
      have hlt : decide (gr_a R < ln) = true := decide_eq_true (by omega)
      refine slv_aload_n eX3_nextWord_2 rfl ?_
      refine slv_getf eX3_nextWord_3 fX3_19 (by repeat (first | assumption | exact sl_up_eq | refine sl_up_ne (by first | decide | omega) ?_)) rfl ?_
      refine slv_aload_n eX3_nextWord_6 rfl ?_
      refine slv_getf eX3_nextWord_7 fX3_15 (by repeat (first | assumption | exact sl_up_eq | refine sl_up_ne (by first | decide | omega) ?_)) rfl ?_
      refine slv_icmp_geN eX3_nextWord_10 (by omega) (by omega) (fun h10 => absurd h10 (by omega)) (fun h10 => ?_)
      refine slv_aload_n eX3_nextWord_13 rfl ?_
      refine slv_aload_n eX3_nextWord_14 rfl ?_
      refine slv_getf eX3_nextWord_15 fX3_19 (by repeat (first | assumption | exact sl_up_eq | refine sl_up_ne (by first | decide | omega) ?_)) rfl ?_
      refine slv_rV (As := [_]) eX3_nextWord_18 lX3_53 rfl rfl (by repeat (first | assumption | exact sl_up_eq | refine sl_up_ne (by first | decide | omega) ?_)) rfl (c_X3_byteAt hT hb h900) (by decide) (Nat.le_of_ble_eq_true rfl) ?_
      refine slv_rS (As := [_]) eX3_nextWord_21 lX3_63 rfl rfl (c_X3_isLetter _ (by omega)) (by decide) (Nat.le_of_ble_eq_true rfl) ?_
      refine slv_if_eqB eX3_nextWord_24 (fun h24 => ?_) (fun h24 => ?_)
      · refine fin p R (by omega) hRt Q ?_
        rw [gr_we, gr_wp, hlt, h24] at hQ
        exact hQ
      · refine slv_iload_n eX3_nextWord_27 rfl ?_
        refine slv_bipush (v := nI 32) eX3_nextWord_28 (by decide) ?_
        refine slv_imul eX3_nextWord_30 ?_
        refine slv_aload_n eX3_nextWord_31 rfl ?_
        refine slv_aload_n eX3_nextWord_32 rfl ?_
        refine slv_getf eX3_nextWord_33 fX3_19 (by repeat (first | assumption | exact sl_up_eq | refine sl_up_ne (by first | decide | omega) ?_)) rfl ?_
        refine slv_rV (As := [_]) eX3_nextWord_36 lX3_53 rfl rfl (by repeat (first | assumption | exact sl_up_eq | refine sl_up_ne (by first | decide | omega) ?_)) rfl (c_X3_byteAt hT hb h900) (by decide) (Nat.le_of_ble_eq_true rfl) ?_
        refine slv_iadd eX3_nextWord_39 ?_
        refine slv_bipush (v := nI 97) eX3_nextWord_40 (by decide) ?_
        refine slv_isub eX3_nextWord_42 ?_
        refine slv_iconst (v := nI 1) eX3_nextWord_43 (by decide) ?_
        refine slv_iadd eX3_nextWord_44 ?_
        refine slv_istore_n (i := 1) (lv' := [_, _]) eX3_nextWord_45 rfl (by decide) rfl ?_
        refine slv_aload_n eX3_nextWord_46 rfl ?_
        refine slv_dup eX3_nextWord_47 rfl ?_
        refine slv_getf eX3_nextWord_48 fX3_19 (by repeat (first | assumption | exact sl_up_eq | refine sl_up_ne (by first | decide | omega) ?_)) rfl ?_
        refine slv_iconst (v := nI 1) eX3_nextWord_51 (by decide) ?_
        refine slv_iaddN eX3_nextWord_52 ?_
        refine slv_putf (fs' := [_, _, _, _, _, _, _, _, _, _, _, _, _]) eX3_nextWord_53 fX3_19 (by repeat (first | assumption | exact sl_up_eq | refine sl_up_ne (by first | decide | omega) ?_)) (Nat.le_of_ble_eq_true rfl) rfl rfl rfl ?_
        refine slv_mem gr_u18 ?_
        refine slv_goto eX3_nextWord_56 ?_
        refine ih _ (gr_fa R, gr_pl R, gr_a R + 1, gr_st R, gr_hd R, gr_en R, gr_tk R, gr_tp R, gr_wd R, gr_sg R) (show gr_a R + 1 + n = ln by omega) (show gr_tp R ≤ gr_a R + 1 by omega) Q ?_
        rw [gr_we, gr_wp, hlt, h24] at hQ
        exact hQ
  refine slv_iconst (v := nI 0) eX3_nextWord_0 (by decide) ?_
  refine slv_istore_n (i := 1) (lv' := [_, _]) eX3_nextWord_1 rfl (by decide) rfl ?_
  exact loop (ln - gr_a R) (nI 0) R (by omega) htp _ ⟨rfl, rfl⟩
set_option maxRecDepth 100000 in
theorem c_X3_nextToken (hS : st_all) (hT : M 1 = .inl (.byte, 900, .inl f)) (hb : b = 2 ∨ b = 10) (hl : ln ≤ 900) (ha : gr_a R ≤ ln) : sl_R YX3_nextToken 6 [.ref 18] (gp_S b ln R g M) none (gp_S b ln (gr_tok f ln R) g M) := by
  obtain ⟨s1, s2, s3⟩ := hS
  refine sl_T.of_V (lv := [_, _]) (by decide) rfl (Nat.le_of_ble_eq_true rfl) ?_
  have fin : ∀ (R : gr_T), gr_a R ≤ ln → ∀ Q : Option Value → sl_M → Prop, Q none (gp_S b ln (gr_t1 f ln (gr_a R) R) g M) → sl_V YX3_nextToken none 6 0 0 Q 37 [some (.ref 18), none] [] (gp_S b ln R g M) := by
    intro R hRa Q hQ
    have hby := by_lt f (gr_a R)
    have h900 : gr_a R < ln → gr_a R < 900 := fun h => by omega
    have hW := fun h : gr_a R < ln => c_X3_nextWord (b := b) (ln := ln) (R := (gr_fa R, gr_pl R, gr_a R, gr_st R, gr_hd R, gr_en R, gr_tk R, gr_a R, gr_wd R, gr_sg R)) (g := g) hT hb hl (show gr_a R ≤ ln by omega) (Nat.le_refl _)
    refine slv_aload_n eX3_nextToken_37 rfl ?_
    refine slv_aload_n eX3_nextToken_38 rfl ?_
    refine slv_getf eX3_nextToken_39 fX3_19 (by repeat (first | assumption | exact sl_up_eq | refine sl_up_ne (by first | decide | omega) ?_)) rfl ?_
    refine slv_putf (fs' := [_, _, _, _, _, _, _, _, _, _, _, _, _]) eX3_nextToken_42 fX3_57 (by repeat (first | assumption | exact sl_up_eq | refine sl_up_ne (by first | decide | omega) ?_)) (Nat.le_of_ble_eq_true rfl) rfl rfl rfl ?_
    refine slv_mem (gr_u18 (tp' := gr_a R)) ?_
    refine slv_aload_n eX3_nextToken_45 rfl ?_
    refine slv_getf eX3_nextToken_46 fX3_19 (by repeat (first | assumption | exact sl_up_eq | refine sl_up_ne (by first | decide | omega) ?_)) rfl ?_
    refine slv_aload_n eX3_nextToken_49 rfl ?_
    refine slv_getf eX3_nextToken_50 fX3_15 (by repeat (first | assumption | exact sl_up_eq | refine sl_up_ne (by first | decide | omega) ?_)) rfl ?_
    refine slv_icmp_ltN eX3_nextToken_53 (by omega) (by omega) (fun h53 => ?_) (fun h53 => ?_)
    · refine slv_aload_n eX3_nextToken_62 rfl ?_
      refine slv_aload_n eX3_nextToken_63 rfl ?_
      refine slv_getf eX3_nextToken_64 fX3_19 (by repeat (first | assumption | exact sl_up_eq | refine sl_up_ne (by first | decide | omega) ?_)) rfl ?_
      refine slv_rV (As := [_]) eX3_nextToken_67 lX3_53 rfl rfl (by repeat (first | assumption | exact sl_up_eq | refine sl_up_ne (by first | decide | omega) ?_)) rfl (c_X3_byteAt (R := (gr_fa R, gr_pl R, gr_a R, gr_st R, gr_hd R, gr_en R, gr_tk R, gr_a R, gr_wd R, gr_sg R)) hT hb (h900 h53)) (by decide) (Nat.le_of_ble_eq_true rfl) ?_
      refine slv_istore_n (i := 1) (lv' := [_, _]) eX3_nextToken_70 rfl (by decide) rfl ?_
      refine slv_iload_n eX3_nextToken_71 rfl ?_
      refine slv_rS (As := [_]) eX3_nextToken_72 lX3_63 rfl rfl (c_X3_isLetter _ (by omega)) (by decide) (Nat.le_of_ble_eq_true rfl) ?_
      refine slv_if_eqB eX3_nextToken_75 (fun h75 => ?_) (fun h75 => ?_)
      · refine slv_aload_n eX3_nextToken_83 rfl ?_
        refine slv_dup eX3_nextToken_84 rfl ?_
        refine slv_getf eX3_nextToken_85 fX3_19 (by repeat (first | assumption | exact sl_up_eq | refine sl_up_ne (by first | decide | omega) ?_)) rfl ?_
        refine slv_iconst (v := nI 1) eX3_nextToken_88 (by decide) ?_
        refine slv_iaddN eX3_nextToken_89 ?_
        refine slv_putf (fs' := [_, _, _, _, _, _, _, _, _, _, _, _, _]) eX3_nextToken_90 fX3_19 (by repeat (first | assumption | exact sl_up_eq | refine sl_up_ne (by first | decide | omega) ?_)) (Nat.le_of_ble_eq_true rfl) rfl rfl rfl ?_
        refine slv_mem gr_u18 ?_
        refine slv_iload_n eX3_nextToken_93 rfl ?_
        refine slv_bipush (v := nI 59) eX3_nextToken_94 (by decide) ?_
        refine slv_icmp_neN eX3_nextToken_96 (by omega) (by omega) (fun h96 => ?_) (fun h96 => ?_)
        · refine slv_ldcS (tx := "+-*/^()[]!~=&|") 0 eX3_nextToken_107 (by decide +kernel) ?_
          refine slv_iload_n eX3_nextToken_109 rfl ?_
          refine slv_i2c eX3_nextToken_110 rfl ?_
          refine slv_top (w := .int (nI (by_ f (gr_a R)))) (by rw [i2c_id _ hby]) ?_
          refine slv_rVs (As := [_]) eX3_nextToken_111 lX3_72 rfl rfl (by first | decide | assumption) rfl (s3 _ _ hby) (by decide) (Nat.le_of_ble_eq_true rfl) ?_
          refine slv_if_lt eX3_nextToken_114 (fun h114 => ?_) (fun h114 => ?_)
          · refine slv_aload_n eX3_nextToken_130 rfl ?_
            refine slv_iconst (v := nI 4) eX3_nextToken_131 (by decide) ?_
            refine slv_putf (fs' := [_, _, _, _, _, _, _, _, _, _, _, _, _]) eX3_nextToken_132 fX3_60 (by repeat (first | assumption | exact sl_up_eq | refine sl_up_ne (by first | decide | omega) ?_)) (Nat.le_of_ble_eq_true rfl) rfl rfl rfl ?_
            try refine slv_mem gr_u18 ?_
            refine slv_vret eX3_nextToken_135 rfl ?_
            first | (rw [gr_t1, if_neg (Nat.not_le.mpr h53), h75, cond_false, if_pos h96] at hQ; exact hQ) | (have z : st_ix (by_ f (gr_a R)) < 0 := h114; rw [gr_t1, if_neg (Nat.not_le.mpr h53), h75, cond_false, if_neg h96, st_sg, decide_eq_true z] at hQ; exact hQ) | (have z : ¬ st_ix (by_ f (gr_a R)) < 0 := h114; rw [gr_t1, if_neg (Nat.not_le.mpr h53), h75, cond_false, if_neg h96, st_sg, decide_eq_false z] at hQ; exact hQ)
          · refine slv_aload_n eX3_nextToken_117 rfl ?_
            refine slv_iconst (v := nI 2) eX3_nextToken_118 (by decide) ?_
            refine slv_putf (fs' := [_, _, _, _, _, _, _, _, _, _, _, _, _]) eX3_nextToken_119 fX3_60 (by repeat (first | assumption | exact sl_up_eq | refine sl_up_ne (by first | decide | omega) ?_)) (Nat.le_of_ble_eq_true rfl) rfl rfl rfl ?_
            refine slv_mem gr_u18 ?_
            refine slv_aload_n eX3_nextToken_122 rfl ?_
            refine slv_iload_n eX3_nextToken_123 rfl ?_
            refine slv_putf (fs' := [_, _, _, _, _, _, _, _, _, _, _, _, _]) eX3_nextToken_124 fX3_77 (by repeat (first | assumption | exact sl_up_eq | refine sl_up_ne (by first | decide | omega) ?_)) (Nat.le_of_ble_eq_true rfl) rfl rfl rfl ?_
            refine slv_mem gr_u18 ?_
            refine slv_goto eX3_nextToken_127 ?_
            try refine slv_mem gr_u18 ?_
            refine slv_vret eX3_nextToken_135 rfl ?_
            first | (rw [gr_t1, if_neg (Nat.not_le.mpr h53), h75, cond_false, if_pos h96] at hQ; exact hQ) | (have z : st_ix (by_ f (gr_a R)) < 0 := h114; rw [gr_t1, if_neg (Nat.not_le.mpr h53), h75, cond_false, if_neg h96, st_sg, decide_eq_true z] at hQ; exact hQ) | (have z : ¬ st_ix (by_ f (gr_a R)) < 0 := h114; rw [gr_t1, if_neg (Nat.not_le.mpr h53), h75, cond_false, if_neg h96, st_sg, decide_eq_false z] at hQ; exact hQ)
        · refine slv_aload_n eX3_nextToken_99 rfl ?_
          refine slv_iconst (v := nI 3) eX3_nextToken_100 (by decide) ?_
          refine slv_putf (fs' := [_, _, _, _, _, _, _, _, _, _, _, _, _]) eX3_nextToken_101 fX3_60 (by repeat (first | assumption | exact sl_up_eq | refine sl_up_ne (by first | decide | omega) ?_)) (Nat.le_of_ble_eq_true rfl) rfl rfl rfl ?_
          refine slv_mem gr_u18 ?_
          refine slv_goto eX3_nextToken_104 ?_
          try refine slv_mem gr_u18 ?_
          refine slv_vret eX3_nextToken_135 rfl ?_
          first | (rw [gr_t1, if_neg (Nat.not_le.mpr h53), h75, cond_false, if_pos h96] at hQ; exact hQ) | (have z : st_ix (by_ f (gr_a R)) < 0 := h114; rw [gr_t1, if_neg (Nat.not_le.mpr h53), h75, cond_false, if_neg h96, st_sg, decide_eq_true z] at hQ; exact hQ) | (have z : ¬ st_ix (by_ f (gr_a R)) < 0 := h114; rw [gr_t1, if_neg (Nat.not_le.mpr h53), h75, cond_false, if_neg h96, st_sg, decide_eq_false z] at hQ; exact hQ)
      · refine slv_aload_n eX3_nextToken_78 rfl ?_
        refine slv_rV (As := []) eX3_nextToken_79 lX3_67 rfl rfl (by repeat (first | assumption | exact sl_up_eq | refine sl_up_ne (by first | decide | omega) ?_)) rfl (hW h53) (by decide) (Nat.le_of_ble_eq_true rfl) ?_
        refine slv_vret eX3_nextToken_82 rfl ?_
        rw [gr_t1, if_neg (Nat.not_le.mpr h53), h75] at hQ
        exact hQ
    · refine slv_aload_n eX3_nextToken_56 rfl ?_
      refine slv_iconst (v := nI 0) eX3_nextToken_57 (by decide) ?_
      refine slv_putf (fs' := [_, _, _, _, _, _, _, _, _, _, _, _, _]) eX3_nextToken_58 fX3_60 (by repeat (first | assumption | exact sl_up_eq | refine sl_up_ne (by first | decide | omega) ?_)) (Nat.le_of_ble_eq_true rfl) rfl rfl rfl ?_
      refine slv_mem gr_u18 ?_
      refine slv_vret eX3_nextToken_61 rfl ?_
      rw [gr_t1, if_pos h53] at hQ
      exact hQ
  have loop : ∀ (n : Nat) (R : gr_T), gr_a R + n = ln → ∀ Q : Option Value → sl_M → Prop, Q none (gp_S b ln (gr_t1 f ln (gr_sk f ln n (gr_a R)) R) g M) → sl_V YX3_nextToken none 6 0 0 Q 0 [some (.ref 18), none] [] (gp_S b ln R g M) := by
    intro n
    induction n with
    | zero =>
      intro R hn Q hQ
      refine slv_aload_n eX3_nextToken_0 rfl ?_
      refine slv_getf eX3_nextToken_1 fX3_19 (by repeat (first | assumption | exact sl_up_eq | refine sl_up_ne (by first | decide | omega) ?_)) rfl ?_
      refine slv_aload_n eX3_nextToken_4 rfl ?_
      refine slv_getf eX3_nextToken_5 fX3_15 (by repeat (first | assumption | exact sl_up_eq | refine sl_up_ne (by first | decide | omega) ?_)) rfl ?_
      refine slv_icmp_geN eX3_nextToken_8 (by omega) (by omega) (fun h8 => ?_) (fun h8 => absurd h8 (by omega))
      exact fin R (by omega) Q hQ
    | succ n ih =>
      intro R hn Q hQ
      have h900 : gr_a R < 900 := by omega
      have hby := by_lt f (gr_a R)
      have hlt : decide (gr_a R < ln) = true := decide_eq_true (by omega)
      refine slv_aload_n eX3_nextToken_0 rfl ?_
      refine slv_getf eX3_nextToken_1 fX3_19 (by repeat (first | assumption | exact sl_up_eq | refine sl_up_ne (by first | decide | omega) ?_)) rfl ?_
      refine slv_aload_n eX3_nextToken_4 rfl ?_
      refine slv_getf eX3_nextToken_5 fX3_15 (by repeat (first | assumption | exact sl_up_eq | refine sl_up_ne (by first | decide | omega) ?_)) rfl ?_
      refine slv_icmp_geN eX3_nextToken_8 (by omega) (by omega) (fun h8 => absurd h8 (by omega)) (fun h8 => ?_)
      refine slv_aload_n eX3_nextToken_11 rfl ?_
      refine slv_aload_n eX3_nextToken_12 rfl ?_
      refine slv_getf eX3_nextToken_13 fX3_19 (by repeat (first | assumption | exact sl_up_eq | refine sl_up_ne (by first | decide | omega) ?_)) rfl ?_
      refine slv_rV (As := [_]) eX3_nextToken_16 lX3_53 rfl rfl (by repeat (first | assumption | exact sl_up_eq | refine sl_up_ne (by first | decide | omega) ?_)) rfl (c_X3_byteAt hT hb h900) (by decide) (Nat.le_of_ble_eq_true rfl) ?_
      refine slv_bipush (v := nI 32) eX3_nextToken_19 (by decide) ?_
      refine slv_icmp_neN eX3_nextToken_21 (by omega) (by omega) (fun h21 => ?_) (fun h21 => ?_)
      · refine fin R (by omega) Q ?_
        rw [gr_sk, hlt, decide_eq_false h21] at hQ
        exact hQ
      · refine slv_aload_n eX3_nextToken_24 rfl ?_
        refine slv_dup eX3_nextToken_25 rfl ?_
        refine slv_getf eX3_nextToken_26 fX3_19 (by repeat (first | assumption | exact sl_up_eq | refine sl_up_ne (by first | decide | omega) ?_)) rfl ?_
        refine slv_iconst (v := nI 1) eX3_nextToken_29 (by decide) ?_
        refine slv_iaddN eX3_nextToken_30 ?_
        refine slv_putf (fs' := [_, _, _, _, _, _, _, _, _, _, _, _, _]) eX3_nextToken_31 fX3_19 (by repeat (first | assumption | exact sl_up_eq | refine sl_up_ne (by first | decide | omega) ?_)) (Nat.le_of_ble_eq_true rfl) rfl rfl rfl ?_
        refine slv_mem gr_u18 ?_
        refine slv_goto eX3_nextToken_34 ?_
        refine ih (gr_fa R, gr_pl R, gr_a R + 1, gr_st R, gr_hd R, gr_en R, gr_tk R, gr_tp R, gr_wd R, gr_sg R) (show gr_a R + 1 + n = ln by omega) Q ?_
        rw [gr_sk, hlt, decide_eq_true h21] at hQ
        exact hQ
  exact loop (ln - gr_a R) R (by omega) _ ⟨rfl, rfl⟩
end GRD

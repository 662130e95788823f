theorem i2c_id : ∀ k, k < 256 → ((nI k).toUInt32 % 65536).toInt32 = nI k := by decide +kernel
/-- whether c is one of the signs -/
def st_sg (c : Nat) : Bool := !(decide (st_ix c < 0))
/-- the step that one byte makes -/
def fs_nx (f : Nat → Int32) (ln : Nat) (bd : Option Nat) (cn at_ : Nat) (sg pl : Nat → Nat) (rl : Nat → Bool) (bt : Nat → Int32) : fs_T :=
  if by_ f at_ = 32 then (bd, cn, at_ + 1, sg, pl, rl, bt)
  else cond (fm_dg f ln at_) (fs_op f ln bd cn at_ sg pl rl bt) (cond (st_sg (by_ f at_)) (fs_add (by_ f at_) false (nI 0) (at_ + 1) bd cn at_ sg pl rl bt) (some at_, cn, at_, sg, pl, rl, bt))
section FRM
variable {f : Nat → Int32} {ln cn at_ : Nat} {bd : Option Nat} {sg pl : Nat → Nat} {rl : Nat → Bool} {bt : Nat → Int32} {M : sl_M}
set_option maxRecDepth 100000 in
theorem c_X1_scanNext (hR : rr_all) (hS : st_all) (hT : M 1 = .inl (.byte, 900, .inl f)) (hl : ln ≤ 900) (h : fm_at ln bd cn at_ sg pl rl bt M) (hc : cn ≤ 60) (ha : at_ < ln) : sl_R YX1_scanNext 6 [.ref 33] M none (fm_mem ln (fs_nx f ln bd cn at_ sg pl rl bt) M) := by
  obtain ⟨s1, s2, s3⟩ := hS
  have h' := h
  have hb := by_lt f at_
  obtain ⟨a0, a1, a2, a3, a4⟩ := id h
  have ca : sl_R YX1_addToken 0 [.ref 33, .int (nI (by_ f at_)), .int (nI 0), .int (nI 0), .int (nI (at_ + 1))] M none (fm_mem ln (fs_add (by_ f at_) false (nI 0) (at_ + 1) bd cn at_ sg pl rl bt) M) := c_X1_addToken h' hc (by_ f at_) false (nI 0) (at_ + 1)
  refine sl_T.of_V (lv := [_, _]) (by decide) rfl (Nat.le_of_ble_eq_true rfl) ?_
  refine slv_aload_n eX1_scanNext_0 rfl ?_
  refine slv_aload_n eX1_scanNext_1 rfl ?_
  refine slv_getf eX1_scanNext_2 fX1_39 (by repeat (first | assumption | exact sl_up_eq | refine sl_up_ne (by first | decide | omega) ?_)) rfl ?_
  refine slv_rV (As := [_]) eX1_scanNext_5 lX1_45 rfl rfl (by repeat (first | assumption | exact sl_up_eq | refine sl_up_ne (by first | decide | omega) ?_)) rfl (c_X1_byteAt hT h' (by omega)) (by decide) (Nat.le_of_ble_eq_true rfl) ?_
  refine slv_istore_n (i := 1) (lv' := [_, _]) eX1_scanNext_8 rfl (by decide) rfl ?_
  refine slv_iload_n eX1_scanNext_9 rfl ?_
  refine slv_bipush (v := nI 32) eX1_scanNext_10 (by decide) ?_
  refine slv_icmp_neN eX1_scanNext_12 (by omega) (by omega) (fun h12 => ?_) (fun h12 => ?_)
  · refine slv_aload_n eX1_scanNext_28 rfl ?_
    refine slv_aload_n eX1_scanNext_29 rfl ?_
    refine slv_getf eX1_scanNext_30 fX1_39 (by repeat (first | assumption | exact sl_up_eq | refine sl_up_ne (by first | decide | omega) ?_)) rfl ?_
    refine slv_rV (As := [_]) eX1_scanNext_33 lX1_49 rfl rfl (by repeat (first | assumption | exact sl_up_eq | refine sl_up_ne (by first | decide | omega) ?_)) rfl (c_X1_isDigit hT hl h' (by omega)) (by decide) (Nat.le_of_ble_eq_true rfl) ?_
    refine slv_if_eqB eX1_scanNext_36 (fun h36 => ?_) (fun h36 => ?_)
    · refine slv_ldcS (tx := "+-*/^()[]!~=&|") 0 eX1_scanNext_46 (by decide +kernel) ?_
      refine slv_iload_n eX1_scanNext_48 rfl ?_
      refine slv_i2c eX1_scanNext_49 rfl ?_
      refine slv_top (w := .int (nI (by_ f at_))) (by rw [i2c_id _ hb]) ?_
      refine slv_rVs (As := [_]) eX1_scanNext_50 lX1_58 rfl rfl (by first | decide | assumption) rfl (s3 M _ hb) (by decide) (Nat.le_of_ble_eq_true rfl) ?_
      refine slv_if_lt eX1_scanNext_53 (fun h53 => ?_) (fun h53 => ?_)
      · refine slv_aload_n eX1_scanNext_72 rfl ?_
        refine slv_aload_n eX1_scanNext_73 rfl ?_
        refine slv_getf eX1_scanNext_74 fX1_39 (by repeat (first | assumption | exact sl_up_eq | refine sl_up_ne (by first | decide | omega) ?_)) rfl ?_
        refine slv_mem (fm_self h').symm ?_
        refine slv_putf (fs' := [_, _, _, _, _, _, _, _, _]) eX1_scanNext_77 fX1_33 (by repeat (first | assumption | exact sl_up_eq | refine sl_up_ne (by first | decide | omega) ?_)) (Nat.le_of_ble_eq_true rfl) rfl rfl rfl ?_
        try refine slv_mem (fm_u33 (ln' := ln) (bd' := some at_) (cn' := cn) (at_' := at_)) ?_
        refine slv_vret eX1_scanNext_80 rfl ?_
        refine ⟨rfl, ?_⟩
        first | (have z : by_ f at_ = 32 := h12; rw [fs_nx, if_pos z]) | (have z : fm_dg f ln at_ = true := h36; rw [fs_nx, if_neg h12, z]; rfl) | (have z : st_ix (by_ f at_) < 0 := h53; rw [fs_nx, if_neg h12, h36, st_sg, decide_eq_true z]; rfl) | (have z : ¬ st_ix (by_ f at_) < 0 := h53; rw [fs_nx, if_neg h12, h36, st_sg, decide_eq_false z]; rfl)
      · refine slv_aload_n eX1_scanNext_56 rfl ?_
        refine slv_iload_n eX1_scanNext_57 rfl ?_
        refine slv_iconst (v := nI 0) eX1_scanNext_58 (by decide) ?_
        refine slv_iconst (v := nI 0) eX1_scanNext_59 (by decide) ?_
        refine slv_aload_n eX1_scanNext_60 rfl ?_
        refine slv_getf eX1_scanNext_61 fX1_39 (by repeat (first | assumption | exact sl_up_eq | refine sl_up_ne (by first | decide | omega) ?_)) rfl ?_
        refine slv_iconst (v := nI 1) eX1_scanNext_64 (by decide) ?_
        refine slv_iaddN eX1_scanNext_65 ?_
        refine slv_rV (As := [_, _, _, _]) eX1_scanNext_66 lX1_63 rfl rfl (by repeat (first | assumption | exact sl_up_eq | refine sl_up_ne (by first | decide | omega) ?_)) rfl ca (by decide) (Nat.le_of_ble_eq_true rfl) ?_
        refine slv_goto eX1_scanNext_69 ?_
        try refine slv_mem (fm_u33 (ln' := ln) (bd' := some at_) (cn' := cn) (at_' := at_)) ?_
        refine slv_vret eX1_scanNext_80 rfl ?_
        refine ⟨rfl, ?_⟩
        first | (have z : by_ f at_ = 32 := h12; rw [fs_nx, if_pos z]) | (have z : fm_dg f ln at_ = true := h36; rw [fs_nx, if_neg h12, z]; rfl) | (have z : st_ix (by_ f at_) < 0 := h53; rw [fs_nx, if_neg h12, h36, st_sg, decide_eq_true z]; rfl) | (have z : ¬ st_ix (by_ f at_) < 0 := h53; rw [fs_nx, if_neg h12, h36, st_sg, decide_eq_false z]; rfl)
    · refine slv_aload_n eX1_scanNext_39 rfl ?_
      refine slv_rV (As := []) eX1_scanNext_40 lX1_53 rfl rfl (by repeat (first | assumption | exact sl_up_eq | refine sl_up_ne (by first | decide | omega) ?_)) rfl (c_X1_scanOperand hR hT hl h' hc (by omega)) (by decide) (Nat.le_of_ble_eq_true rfl) ?_
      refine slv_goto eX1_scanNext_43 ?_
      try refine slv_mem (fm_u33 (ln' := ln) (bd' := some at_) (cn' := cn) (at_' := at_)) ?_
      refine slv_vret eX1_scanNext_80 rfl ?_
      refine ⟨rfl, ?_⟩
      first | (have z : by_ f at_ = 32 := h12; rw [fs_nx, if_pos z]) | (have z : fm_dg f ln at_ = true := h36; rw [fs_nx, if_neg h12, z]; rfl) | (have z : st_ix (by_ f at_) < 0 := h53; rw [fs_nx, if_neg h12, h36, st_sg, decide_eq_true z]; rfl) | (have z : ¬ st_ix (by_ f at_) < 0 := h53; rw [fs_nx, if_neg h12, h36, st_sg, decide_eq_false z]; rfl)
  · refine slv_aload_n eX1_scanNext_15 rfl ?_
    refine slv_dup eX1_scanNext_16 rfl ?_
    refine slv_getf eX1_scanNext_17 fX1_39 (by repeat (first | assumption | exact sl_up_eq | refine sl_up_ne (by first | decide | omega) ?_)) rfl ?_
    refine slv_iconst (v := nI 1) eX1_scanNext_20 (by decide) ?_
    refine slv_iaddN eX1_scanNext_21 ?_
    refine slv_mem (fm_self h').symm ?_
    refine slv_putf (fs' := [_, _, _, _, _, _, _, _, _]) eX1_scanNext_22 fX1_39 (by repeat (first | assumption | exact sl_up_eq | refine sl_up_ne (by first | decide | omega) ?_)) (Nat.le_of_ble_eq_true rfl) rfl rfl rfl ?_
    refine slv_mem (fm_u33 (ln' := ln) (bd' := bd) (cn' := cn) (at_' := at_ + 1)) ?_
    refine slv_goto eX1_scanNext_25 ?_
    try refine slv_mem (fm_u33 (ln' := ln) (bd' := some at_) (cn' := cn) (at_' := at_)) ?_
    refine slv_vret eX1_scanNext_80 rfl ?_
    refine ⟨rfl, ?_⟩
    first | (have z : by_ f at_ = 32 := h12; rw [fs_nx, if_pos z]) | (have z : fm_dg f ln at_ = true := h36; rw [fs_nx, if_neg h12, z]; rfl) | (have z : st_ix (by_ f at_) < 0 := h53; rw [fs_nx, if_neg h12, h36, st_sg, decide_eq_true z]; rfl) | (have z : ¬ st_ix (by_ f at_) < 0 := h53; rw [fs_nx, if_neg h12, h36, st_sg, decide_eq_false z]; rfl)
/-- all tokens, n bytes at most -/
def fs_all (f : Nat → Int32) (ln : Nat) : Nat → fs_T → fs_T
  | 0, q => q
  | n + 1, q => cond (decide (q.2.2.1 < ln) && q.1.isNone) (fs_all f ln n (fs_nx f ln q.1 q.2.1 q.2.2.1 q.2.2.2.1 q.2.2.2.2.1 q.2.2.2.2.2.1 q.2.2.2.2.2.2)) q
theorem fs_add_cn {x : Nat} {r : Bool} {o : Int32} {be : Nat} {bd : Option Nat} {cn at_ : Nat} {sg pl : Nat → Nat} {rl : Nat → Bool} {bt : Nat → Int32} (h : cn ≤ 60) (hb : be ≤ 900) (ha : at_ ≤ 900) (hd : ∀ k, bd = some k → k < 900) (ha2 : at_ < 900) : (fs_add x r o be bd cn at_ sg pl rl bt).2.1 ≤ 60 ∧ (fs_add x r o be bd cn at_ sg pl rl bt).2.2.1 ≤ 900 ∧ ∀ k, (fs_add x r o be bd cn at_ sg pl rl bt).1 = some k → k < 900 := by
  rw [fs_add]
  split
  · exact ⟨h, ha, fun k hk => by cases hk; exact ha2⟩
  · exact ⟨by show cn + 1 ≤ 60; omega, hb, hd⟩
theorem fs_nx_ok {f : Nat → Int32} {ln : Nat} (hl : ln ≤ 900) {bd : Option Nat} {cn at_ : Nat} {sg pl : Nat → Nat} {rl : Nat → Bool} {bt : Nat → Int32} (h : cn ≤ 60) (ha : at_ < ln) (hd : ∀ k, bd = some k → k < 900) : (fs_nx f ln bd cn at_ sg pl rl bt).2.1 ≤ 60 ∧ (fs_nx f ln bd cn at_ sg pl rl bt).2.2.1 ≤ 900 ∧ ∀ k, (fs_nx f ln bd cn at_ sg pl rl bt).1 = some k → k < 900 := by
  rw [fs_nx]
  split
  · exact ⟨h, by show at_ + 1 ≤ 900; omega, hd⟩
  · cases fm_dg f ln at_
    · cases st_sg (by_ f at_)
      · exact ⟨h, by show at_ ≤ 900; omega, fun k hk => by cases hk; omega⟩
      · exact fs_add_cn h (by omega) (by omega) hd (by omega)
    · show (fs_op f ln bd cn at_ sg pl rl bt).2.1 ≤ 60 ∧ (fs_op f ln bd cn at_ sg pl rl bt).2.2.1 ≤ 900 ∧ ∀ k, (fs_op f ln bd cn at_ sg pl rl bt).1 = some k → k < 900
      rw [fs_op]
      cases fo_bad f ln at_
      · refine fs_add_cn h ?_ (by omega) hd (by omega)
        have hp : fo_p f ln at_ ≤ ln := (fm_de_le (f := f) (ln := ln) (ln - at_) at_ (by omega)).2
        rw [fo_b]
        cases hr : fo_r f ln at_
        · show fo_p f ln at_ ≤ 900; omega
        · simp only [fo_r, Bool.and_eq_true, decide_eq_true_eq] at hr
          have := (fm_de_le (f := f) (ln := ln) (ln - (fo_p f ln at_ + 1)) (fo_p f ln at_ + 1) (by omega)).2
          show fm_de f ln (ln - (fo_p f ln at_ + 1)) (fo_p f ln at_ + 1) ≤ 900
          omega
      · exact ⟨h, by show at_ ≤ 900; omega, fun k hk => by cases hk; omega⟩
set_option maxRecDepth 100000 in
set_option maxHeartbeats 4000000 in
theorem c_X1_scan (hR : rr_all) (hS : st_all) (hT : M 1 = .inl (.byte, 900, .inl f)) {n : Nat} (hn : n ≤ 900) {x0 x1 x6 x7 x8 : Value} (h33 : M 33 = .inr (1, [x0, x1, .ref 34, .ref 35, .ref 36, .ref 37, x6, x7, x8])) (h34 : M 34 = .inl (.int, 60, .inl fun i => nI (sg i))) (h35 : M 35 = .inl (.int, 60, .inl fun i => nI (pl i))) (h36 : M 36 = .inl (.boolean, 60, .inl fun i => sl_bi (rl i))) (h37 : M 37 = .inl (.int, 60, .inl bt)) : sl_R YX1_scan 7 [.ref 33, .ref 1, .int (nI n)] M none (fm_mem n (fs_all f n n (none, 0, 0, sg, pl, rl, bt)) M) := by
  refine sl_T.of_V (lv := [_, _, _, _]) (by decide) rfl (Nat.le_of_ble_eq_true rfl) ?_
  have hT' : ∀ (bd : Option Nat) (cn at_ : Nat) (sg pl : Nat → Nat) (rl : Nat → Bool) (bt : Nat → Int32), fm_set n bd cn at_ sg pl rl bt M 1 = .inl (.byte, 900, .inl f) := fun _ _ _ _ _ _ _ => (fm_out (by decide)).trans hT
  have loop : ∀ (m i : Nat) (bd : Option Nat) (cn at_ : Nat) (sg pl : Nat → Nat) (rl : Nat → Bool) (bt : Nat → Int32), i + m = n → cn ≤ 60 → at_ ≤ 900 → (∀ k, bd = some k → k < 900) → ∀ Q : Option Value → sl_M → Prop, Q none (fm_mem n (fs_all f n m (bd, cn, at_, sg, pl, rl, bt)) M) → sl_V YX1_scan none 7 0 0 Q 27 [some (.ref 33), some (.ref 1), some (.int (nI n)), some (.int (nI i))] [] (fm_set n bd cn at_ sg pl rl bt M) := by
    intro m
    induction m with
    | zero =>
      intro i bd cn at_ sg pl rl bt hi hc ha hd Q hQ
      refine slv_iload_n eX1_scan_27 rfl ?_
      refine slv_iload_n eX1_scan_28 rfl ?_
      refine slv_icmp_geN eX1_scan_29 (by omega) (by omega) (fun h29 => ?_) (fun h29 => absurd h29 (by omega))
      refine slv_vret eX1_scan_58 rfl ?_
      exact hQ
    | succ m ih =>
      intro i bd cn at_ sg pl rl bt hi hc ha hd Q hQ
      have hio : sl_io bd = -1 ↔ bd = none := sl_io_ne (fun k hk => by have := hd k hk; omega)
      have hi2 : i + 1 + m = n := by omega
      refine slv_iload_n eX1_scan_27 rfl ?_
      refine slv_iload_n eX1_scan_28 rfl ?_
      refine slv_icmp_geN eX1_scan_29 (by omega) (by omega) (fun h29 => absurd h29 (by omega)) (fun h29 => ?_)
      refine slv_aload_n eX1_scan_32 rfl ?_
      refine slv_getf eX1_scan_33 fX1_39 (by repeat (first | assumption | exact sl_up_eq | refine sl_up_ne (by first | decide | omega) ?_)) rfl ?_
      refine slv_iload_n eX1_scan_36 rfl ?_
      refine slv_icmp_geN eX1_scan_37 (by omega) (by omega) (fun h37 => ?_) (fun h37 => ?_)
      · refine slv_vret eX1_scan_58 rfl ?_
        first | (have z : n ≤ at_ := h37; simp only [fs_all, decide_eq_false (Nat.not_lt.mpr z), Bool.false_and, cond_false] at hQ; exact hQ) | (rw [hio] at h45; have z : bd.isNone = false := (by cases bd with | none => exact absurd rfl h45 | some k => rfl); simp only [fs_all, z, Bool.and_false, cond_false] at hQ; exact hQ)
      · refine slv_aload_n eX1_scan_40 rfl ?_
        refine slv_getf eX1_scan_41 fX1_33 (by repeat (first | assumption | exact sl_up_eq | refine sl_up_ne (by first | decide | omega) ?_)) rfl ?_
        refine slv_iconst (v := (-1)) eX1_scan_44 (by decide) ?_
        refine slv_icmp_ne eX1_scan_45 (fun h45 => ?_) (fun h45 => ?_)
        · refine slv_vret eX1_scan_58 rfl ?_
          first | (have z : n ≤ at_ := h37; simp only [fs_all, decide_eq_false (Nat.not_lt.mpr z), Bool.false_and, cond_false] at hQ; exact hQ) | (rw [hio] at h45; have z : bd.isNone = false := (by cases bd with | none => exact absurd rfl h45 | some k => rfl); simp only [fs_all, z, Bool.and_false, cond_false] at hQ; exact hQ)
        · refine slv_aload_n eX1_scan_48 rfl ?_
          refine slv_rV (As := []) eX1_scan_49 lX1_42 rfl rfl (by repeat (first | assumption | exact sl_up_eq | refine sl_up_ne (by first | decide | omega) ?_)) rfl (c_X1_scanNext hR hS (hT' _ _ _ _ _ _ _) hn fm_of hc h37) (by decide) (Nat.le_of_ble_eq_true rfl) ?_
          refine slv_mem fm_ss ?_
          refine slv_iincN (lv' := [_, _, _, _]) eX1_scan_52 rfl (by decide) rfl ?_
          refine slv_goto eX1_scan_55 ?_
          rw [hio] at h45
          subst h45
          simp only [fs_all, decide_eq_true h37, Option.isNone_none, Bool.and_self, cond_true] at hQ
          obtain ⟨k1, k2, k3⟩ := fs_nx_ok (f := f) hn (bd := none) (sg := sg) (pl := pl) (rl := rl) (bt := bt) hc h37 hd
          generalize fs_nx f n none cn at_ sg pl rl bt = q at hQ k1 k2 k3 ⊢
          obtain ⟨q1, q2, q3, q4, q5, q6, q7⟩ := q
          exact ih (i + 1) q1 q2 q3 q4 q5 q6 q7 hi2 k1 k2 k3 Q hQ
  have e0 : ∀ (M' : sl_M), M' 33 = .inr (1, [.int (nI n), .int (-1), .ref 34, .ref 35, .ref 36, .ref 37, .ref 1, .int (nI 0), .int (nI 0)]) → (∀ k, k ≠ 33 → M' k = M k) → M' = fm_set n none 0 0 sg pl rl bt M := by
    intro M' g1 g2
    funext k
    by_cases z37 : k = 37
    · subst z37; rw [g2 37 (by decide), h37]; simp [sl_up]
    by_cases z36 : k = 36
    · subst z36; rw [g2 36 (by decide), h36]; simp [sl_up]
    by_cases z35 : k = 35
    · subst z35; rw [g2 35 (by decide), h35]; simp [sl_up]
    by_cases z34 : k = 34
    · subst z34; rw [g2 34 (by decide), h34]; simp [sl_up]
    by_cases z33 : k = 33
    · subst z33; rw [g1]; simp [sl_up]; rfl
    · rw [g2 k z33, fm_out ⟨z33, z34, z35, z36, z37⟩]
  refine slv_aload_n eX1_scan_0 rfl ?_
  refine slv_aload_n eX1_scan_1 rfl ?_
  refine slv_putf (fs' := [_, _, _, _, _, _, _, _, _]) eX1_scan_2 fX1_25 (by repeat (first | assumption | exact sl_up_eq | refine sl_up_ne (by first | decide | omega) ?_)) (Nat.le_of_ble_eq_true rfl) rfl rfl rfl ?_
  refine slv_mem rfl ?_
  refine slv_aload_n eX1_scan_5 rfl ?_
  refine slv_iload_n eX1_scan_6 rfl ?_
  refine slv_putf (fs' := [_, _, _, _, _, _, _, _, _]) eX1_scan_7 fX1_29 (by repeat (first | assumption | exact sl_up_eq | refine sl_up_ne (by first | decide | omega) ?_)) (Nat.le_of_ble_eq_true rfl) rfl rfl rfl ?_
  refine slv_aload_n eX1_scan_10 rfl ?_
  refine slv_iconst (v := (-1)) eX1_scan_11 (by decide) ?_
  refine slv_putf (fs' := [_, _, _, _, _, _, _, _, _]) eX1_scan_12 fX1_33 (by repeat (first | assumption | exact sl_up_eq | refine sl_up_ne (by first | decide | omega) ?_)) (Nat.le_of_ble_eq_true rfl) rfl rfl rfl ?_
  refine slv_aload_n eX1_scan_15 rfl ?_
  refine slv_iconst (v := nI 0) eX1_scan_16 (by decide) ?_
  refine slv_putf (fs' := [_, _, _, _, _, _, _, _, _]) eX1_scan_17 fX1_36 (by repeat (first | assumption | exact sl_up_eq | refine sl_up_ne (by first | decide | omega) ?_)) (Nat.le_of_ble_eq_true rfl) rfl rfl rfl ?_
  refine slv_aload_n eX1_scan_20 rfl ?_
  refine slv_iconst (v := nI 0) eX1_scan_21 (by decide) ?_
  refine slv_putf (fs' := [_, _, _, _, _, _, _, _, _]) eX1_scan_22 fX1_39 (by repeat (first | assumption | exact sl_up_eq | refine sl_up_ne (by first | decide | omega) ?_)) (Nat.le_of_ble_eq_true rfl) rfl rfl rfl ?_
  refine slv_iconst (v := nI 0) eX1_scan_25 (by decide) ?_
  refine slv_istore_n (i := 3) (lv' := [_, _, _, _]) eX1_scan_26 rfl (by decide) rfl ?_
  refine slv_mem (e0 _ (by simp [sl_up]) (fun k hk => by simp [sl_up, hk])) ?_
  exact loop n 0 none 0 0 sg pl rl bt (by omega) (by omega) (by omega) (fun k hk => by cases hk) _ ⟨rfl, rfl⟩
end FRM

def rd_fin (E : rx_T) (S : rd_T) : rd_T := cond (decide (rd_beh S 0 = none)) (rd_fh E 4 ((S.1.1, S.1.2.1, S.1.2.2.1, S.1.2.2.2.1, S.1.2.2.2.2.1, true, S.1.2.2.2.2.2.2), S.2)) ((S.1.1, S.1.2.1, S.1.2.2.1, S.1.2.2.2.1, S.1.2.2.2.2.1, true, S.1.2.2.2.2.2.2), S.2)
def rd_push (E : rx_T) (y : Nat) (S : rd_T) : rd_T := if rd_tp S < 15 then ((rd_fa S, rd_pl S, rd_sp S + 1, max (rd_mo S) (rd_tp S + 1), rd_nx S + 1, rd_en S, rd_tp S + 1), (sl_u (rd_stk S) (rd_tp S + 1) y, sl_u (rd_tok S) (rd_tp S + 1) (rd_nx S), sl_u (rd_beh S) (rd_tp S + 1) none), S.2.2) else rd_fh E 7 S
/-- where the handle begins -/
def rd_hd (o : Nat → Nat → Int32) (stk : Nat → Nat) : Nat → Nat
  | 0 => 0
  | n + 1 => cond (decide (1 < n + 1) && decide (o (stk n) (stk (n + 1)) = nI 2)) (rd_hd o stk n) (n + 1)
theorem rd_hd_le (o : Nat → Nat → Int32) (stk : Nat → Nat) : ∀ n, rd_hd o stk n ≤ n ∧ (1 ≤ n → 1 ≤ rd_hd o stk n) := by
  intro n
  induction n with
  | zero => exact ⟨Nat.le_refl 0, fun h => h⟩
  | succ n ih =>
    rw [rd_hd]
    cases hc : (decide (1 < n + 1) && decide (o (stk n) (stk (n + 1)) = nI 2)) with
    | true =>
      have h1 : decide (1 < n + 1) = true := (Bool.and_eq_true _ _ ▸ hc).1
      have h2 := of_decide_eq_true h1
      exact ⟨Nat.le_succ_of_le ih.1, fun _ => ih.2 (by omega)⟩
    | false => exact ⟨Nat.le_refl _, fun _ => Nat.succ_le_succ (Nat.zero_le n)⟩
def rd_rb (rl : Nat → Bool) (bi : Nat → Int32) (a : Nat) : Int32 := cond (rl a) (bi a) (FP.i2f (bi a)).toInt32
/-- a value of the right kind, or 5 -/
def rd_vk (k : Nat) (q : Bool × Int32) : Nat × Bool × Int32 := (if k = cond q.1 1 2 then 5 else 0, q)
/-- two values joined: what fails, the value -/
def rd_v2 (k d : Nat) (rl : Nat → Bool) (bi : Nat → Int32) (a c : Nat) (r : Bool × Int32) : Nat × Bool × Int32 := cond (rl a || rl c) (rd_vk k (true, rr_r d (rd_rb rl bi a) (rd_rb rl bi c))) (cond (decide (d = 3) && decide (bi c = nI 0)) (6, r) (rd_vk k (false, rr_w d (bi a) (bi c))))
def rd_mv (k d : Nat) (tv : Bool × Int32) (rl : Nat → Bool) (bi : Nat → Int32) (f s : Option Nat) (r : Bool × Int32) : Nat × Bool × Int32 := if d = 8 then rd_vk k tv else match f with
  | none => (4, r)
  | some a => if 3 < d then rd_vk k (rr_ob d (rl a), rr_o1 d (rl a) (bi a)) else match s with
    | none => (4, r)
    | some c => rd_v2 k d rl bi a c r
section RDH
variable {b ho gb : Nat} {E : rx_T} {S : rd_T} {M : sl_M} {bd : Option Nat} {cn at_ : Nat}
set_option maxRecDepth 100000 in
theorem c_X7_finish (h : rx_at b gb E bd cn at_ M) (hn : rd_nx S ≤ 60) (hk : ∀ k, rd_beh S 0 = some k → k < 60) : sl_R YX7_finish 2 [.ref b] (rg_S b ho gb S M) none (rg_S b ho gb (rd_fin E S) M) := by
  have h1 : ∀ S : rd_T, rd_nx S ≤ 60 → sl_R YX7_failHere 1 [.ref b, .int (nI 4)] (rg_S b ho gb S M) none (rg_S b ho gb (rd_fh E 4 S) M) := fun S hn => rx_fh h hn 4
  have h2 := h1 ((S.1.1, S.1.2.1, S.1.2.2.1, S.1.2.2.2.1, S.1.2.2.2.2.1, true, S.1.2.2.2.2.2.2), S.2) hn
  refine sl_T.of_V (lv := [_]) (by decide) rfl (Nat.le_of_ble_eq_true rfl) ?_
  have e0 := sl_nd_eq (o := rd_beh S 0) (fun k hh => Nat.lt_trans (hk k hh) (by decide))
  refine slv_aload_n eX7_finish_0 rfl ?_
  refine slv_iconst (v := nI 1) eX7_finish_1 (by decide) ?_
  refine slv_putf (fs' := [_, _, _, _, _, _, _, _, _, _, _, _, _, _, _, _, _, _]) eX7_finish_2 fX7_80 (by repeat (first | assumption | exact sl_up_eq | refine sl_up_ne (by first | decide | omega) ?_)) (Nat.le_of_ble_eq_true rfl) (by first | rfl | assumption) (by first | rfl | assumption) rfl ?_
  refine slv_mem (rg_u0 (en' := true)) ?_
  refine slv_aload_n eX7_finish_5 rfl ?_
  refine slv_getf eX7_finish_6 fX7_25 (by repeat (first | assumption | exact sl_up_eq | refine sl_up_ne (by first | decide | omega) ?_)) rfl ?_
  refine slv_iconst (v := nI 0) eX7_finish_9 (by decide) ?_
  refine slv_ialdN eX7_finish_10 (by repeat (first | assumption | exact sl_up_eq | refine sl_up_ne (by first | decide | omega) ?_)) (by omega) (by decide) ?_
  refine slv_bipush (v := (-2)) eX7_finish_11 (by decide) ?_
  refine slv_icmp_ne eX7_finish_13 (fun h13 => ?_) (fun h13 => ?_)
  · refine slv_vret eX7_finish_21 rfl ?_
    refine ⟨rfl, ?_⟩
    first | (rw [rd_fin, decide_eq_true (e0.mp h13)]; rfl) | (rw [rd_fin, decide_eq_false (fun hh => h13 (e0.mpr hh))]; rfl)
  · refine slv_aload_n eX7_finish_16 rfl ?_
    refine slv_iconst (v := nI 4) eX7_finish_17 (by decide) ?_
    refine slv_rV (As := [_]) eX7_finish_18 lX7_124 rfl rfl (by repeat (first | assumption | exact sl_up_eq | refine sl_up_ne (by first | decide | omega) ?_)) rfl h2 (by decide) (Nat.le_of_ble_eq_true rfl) ?_
    refine slv_vret eX7_finish_21 rfl ?_
    refine ⟨rfl, ?_⟩
    first | (rw [rd_fin, decide_eq_true (e0.mp h13)]; rfl) | (rw [rd_fin, decide_eq_false (fun hh => h13 (e0.mpr hh))]; rfl)
set_option maxRecDepth 100000 in
theorem c_X7_stackNext (h : rx_at b gb E bd cn at_ M) (hn : rd_nx S ≤ 60) (ht : rd_tp S ≤ 15) (hm : rd_mo S ≤ 15) (y : Nat) : sl_R YX7_stackNext 2 [.ref b, .int (nI y)] (rg_S b ho gb S M) none (rg_S b ho gb (rd_push E y S) M) := by
  refine sl_T.of_V (lv := [_, _]) (by decide) rfl (Nat.le_of_ble_eq_true rfl) ?_
  refine slv_aload_n eX7_stackNext_0 rfl ?_
  refine slv_getf eX7_stackNext_1 fX7_84 (by repeat (first | assumption | exact sl_up_eq | refine sl_up_ne (by first | decide | omega) ?_)) rfl ?_
  refine slv_bipush (v := nI 15) eX7_stackNext_4 (by decide) ?_
  refine slv_icmp_ltN eX7_stackNext_6 (by omega) (by omega) (fun h6 => ?_) (fun h6 => ?_)
  · refine slv_aload_n eX7_stackNext_16 rfl ?_
    refine slv_dup eX7_stackNext_17 rfl ?_
    refine slv_getf eX7_stackNext_18 fX7_84 (by repeat (first | assumption | exact sl_up_eq | refine sl_up_ne (by first | decide | omega) ?_)) rfl ?_
    refine slv_iconst (v := nI 1) eX7_stackNext_21 (by decide) ?_
    refine slv_iaddN eX7_stackNext_22 ?_
    refine slv_putf (fs' := [_, _, _, _, _, _, _, _, _, _, _, _, _, _, _, _, _, _]) eX7_stackNext_23 fX7_84 (by repeat (first | assumption | exact sl_up_eq | refine sl_up_ne (by first | decide | omega) ?_)) (Nat.le_of_ble_eq_true rfl) rfl rfl rfl ?_
    refine slv_mem (rg_u0 (tp' := rd_tp S + 1)) ?_
    refine slv_aload_n eX7_stackNext_26 rfl ?_
    refine slv_getf eX7_stackNext_27 fX7_18 (by repeat (first | assumption | exact sl_up_eq | refine sl_up_ne (by first | decide | omega) ?_)) rfl ?_
    refine slv_aload_n eX7_stackNext_30 rfl ?_
    refine slv_getf eX7_stackNext_31 fX7_84 (by repeat (first | assumption | exact sl_up_eq | refine sl_up_ne (by first | decide | omega) ?_)) rfl ?_
    refine slv_iload_n eX7_stackNext_34 rfl ?_
    refine slv_iastN (x := y) eX7_stackNext_35 (by repeat (first | assumption | exact sl_up_eq | refine sl_up_ne (by first | decide | omega) ?_)) (by omega) (by decide) ?_
    refine slv_mem rg_uS ?_
    refine slv_aload_n eX7_stackNext_36 rfl ?_
    refine slv_getf eX7_stackNext_37 fX7_22 (by repeat (first | assumption | exact sl_up_eq | refine sl_up_ne (by first | decide | omega) ?_)) rfl ?_
    refine slv_aload_n eX7_stackNext_40 rfl ?_
    refine slv_getf eX7_stackNext_41 fX7_84 (by repeat (first | assumption | exact sl_up_eq | refine sl_up_ne (by first | decide | omega) ?_)) rfl ?_
    refine slv_aload_n eX7_stackNext_44 rfl ?_
    refine slv_getf eX7_stackNext_45 fX7_77 (by repeat (first | assumption | exact sl_up_eq | refine sl_up_ne (by first | decide | omega) ?_)) rfl ?_
    refine slv_iastN eX7_stackNext_48 (by repeat (first | assumption | exact sl_up_eq | refine sl_up_ne (by first | decide | omega) ?_)) (by omega) (by decide) ?_
    refine slv_mem rg_uT ?_
    refine slv_aload_n eX7_stackNext_49 rfl ?_
    refine slv_getf eX7_stackNext_50 fX7_25 (by repeat (first | assumption | exact sl_up_eq | refine sl_up_ne (by first | decide | omega) ?_)) rfl ?_
    refine slv_aload_n eX7_stackNext_53 rfl ?_
    refine slv_getf eX7_stackNext_54 fX7_84 (by repeat (first | assumption | exact sl_up_eq | refine sl_up_ne (by first | decide | omega) ?_)) rfl ?_
    refine slv_bipush (v := (-2)) eX7_stackNext_57 (by decide) ?_
    refine slv_iastO (x := none) eX7_stackNext_59 (by repeat (first | assumption | exact sl_up_eq | refine sl_up_ne (by first | decide | omega) ?_)) (by omega) (by decide) ?_
    refine slv_mem rg_uB ?_
    refine slv_aload_n eX7_stackNext_60 rfl ?_
    refine slv_dup eX7_stackNext_61 rfl ?_
    refine slv_getf eX7_stackNext_62 fX7_77 (by repeat (first | assumption | exact sl_up_eq | refine sl_up_ne (by first | decide | omega) ?_)) rfl ?_
    refine slv_iconst (v := nI 1) eX7_stackNext_65 (by decide) ?_
    refine slv_iaddN eX7_stackNext_66 ?_
    refine slv_putf (fs' := [_, _, _, _, _, _, _, _, _, _, _, _, _, _, _, _, _, _]) eX7_stackNext_67 fX7_77 (by repeat (first | assumption | exact sl_up_eq | refine sl_up_ne (by first | decide | omega) ?_)) (Nat.le_of_ble_eq_true rfl) rfl rfl rfl ?_
    refine slv_mem (rg_u0 (nx' := rd_nx S + 1)) ?_
    refine slv_aload_n eX7_stackNext_70 rfl ?_
    refine slv_dup eX7_stackNext_71 rfl ?_
    refine slv_getf eX7_stackNext_72 fX7_68 (by repeat (first | assumption | exact sl_up_eq | refine sl_up_ne (by first | decide | omega) ?_)) rfl ?_
    refine slv_iconst (v := nI 1) eX7_stackNext_75 (by decide) ?_
    refine slv_iaddN eX7_stackNext_76 ?_
    refine slv_putf (fs' := [_, _, _, _, _, _, _, _, _, _, _, _, _, _, _, _, _, _]) eX7_stackNext_77 fX7_68 (by repeat (first | assumption | exact sl_up_eq | refine sl_up_ne (by first | decide | omega) ?_)) (Nat.le_of_ble_eq_true rfl) rfl rfl rfl ?_
    refine slv_mem (rg_u0 (sp' := rd_sp S + 1)) ?_
    refine slv_aload_n eX7_stackNext_80 rfl ?_
    refine slv_aload_n eX7_stackNext_81 rfl ?_
    refine slv_getf eX7_stackNext_82 fX7_71 (by repeat (first | assumption | exact sl_up_eq | refine sl_up_ne (by first | decide | omega) ?_)) rfl ?_
    refine slv_aload_n eX7_stackNext_85 rfl ?_
    refine slv_getf eX7_stackNext_86 fX7_84 (by repeat (first | assumption | exact sl_up_eq | refine sl_up_ne (by first | decide | omega) ?_)) rfl ?_
    refine slv_maxN eX7_stackNext_89 lX7_151 (by omega) (by omega) (by decide) (Nat.le_of_ble_eq_true rfl) ?_
    refine slv_putf (fs' := [_, _, _, _, _, _, _, _, _, _, _, _, _, _, _, _, _, _]) eX7_stackNext_92 fX7_71 (by repeat (first | assumption | exact sl_up_eq | refine sl_up_ne (by first | decide | omega) ?_)) (Nat.le_of_ble_eq_true rfl) rfl rfl rfl ?_
    refine slv_mem (rg_u0 (mo' := max (rd_mo S) (rd_tp S + 1))) ?_
    refine slv_vret eX7_stackNext_95 rfl ?_
    exact ⟨rfl, by rw [rd_push, if_pos h6]⟩
  · refine slv_aload_n eX7_stackNext_9 rfl ?_
    refine slv_bipush (v := nI 7) eX7_stackNext_10 (by decide) ?_
    refine slv_rV (As := [_]) eX7_stackNext_12 lX7_124 rfl rfl (by repeat (first | assumption | exact sl_up_eq | refine sl_up_ne (by first | decide | omega) ?_)) rfl (rx_fh h hn 7) (by decide) (Nat.le_of_ble_eq_true rfl) ?_
    refine slv_vret eX7_stackNext_15 rfl ?_
    exact ⟨rfl, by rw [rd_push, if_neg (Nat.not_lt.mpr h6)]⟩
set_option maxRecDepth 100000 in
theorem c_X7_handleFrom {o : Nat → Nat → Int32} (hO : ro_ok b ho gb o M) (ht : rd_tp S ≤ 15) (hs : ∀ i, i < 16 → rd_stk S i < 12) : sl_R YX7_handleFrom 3 [.ref b] (rg_S b ho gb S M) (some (.int (nI (rd_hd o (rd_stk S) (rd_tp S))))) (rg_S b ho gb S M) := by
  refine sl_T.of_V (lv := [_, _]) (by decide) rfl (Nat.le_of_ble_eq_true rfl) ?_
  have loop : ∀ n, n ≤ 15 → ∀ Q : Option Value → sl_M → Prop, Q (some (.int (nI (rd_hd o (rd_stk S) n)))) (rg_S b ho gb S M) → sl_V YX7_handleFrom none 3 0 0 Q 5 [some (.ref b), some (.int (nI n))] [] (rg_S b ho gb S M) := by
    intro n
    induction n with
    | zero =>
      intro hn Q hQ
      refine slv_iload_n eX7_handleFrom_5 rfl ?_
      refine slv_iconst (v := nI 1) eX7_handleFrom_6 (by decide) ?_
      refine slv_icmp_leN eX7_handleFrom_7 (by omega) (by omega) (fun h7 => ?_) (fun h7 => absurd h7 (by omega))
      refine slv_iload_n eX7_handleFrom_38 rfl ?_
      refine slv_iret eX7_handleFrom_39 rfl ?_
      exact hQ
    | succ n ih =>
      intro hn Q hQ
      refine slv_iload_n eX7_handleFrom_5 rfl ?_
      refine slv_iconst (v := nI 1) eX7_handleFrom_6 (by decide) ?_
      refine slv_icmp_leN eX7_handleFrom_7 (by omega) (by omega) (fun h7 => ?_) (fun h7 => ?_)
      · refine slv_iload_n eX7_handleFrom_38 rfl ?_
        refine slv_iret eX7_handleFrom_39 rfl ?_
        first | (rw [Nat.add_sub_cancel] at h29; rw [rd_hd, decide_eq_false h29, Bool.and_false] at hQ; exact hQ) | (rw [rd_hd, decide_eq_false (Nat.not_lt.mpr h7)] at hQ; exact hQ)
      · refine slv_aload_n eX7_handleFrom_10 rfl ?_
        refine slv_aload_n eX7_handleFrom_11 rfl ?_
        refine slv_getf eX7_handleFrom_12 fX7_18 (by repeat (first | assumption | exact sl_up_eq | refine sl_up_ne (by first | decide | omega) ?_)) rfl ?_
        refine slv_iload_n eX7_handleFrom_15 rfl ?_
        refine slv_iconst (v := nI 1) eX7_handleFrom_16 (by decide) ?_
        refine slv_isubN eX7_handleFrom_17 (by omega) ?_
        refine slv_ialdN eX7_handleFrom_18 (by repeat (first | assumption | exact sl_up_eq | refine sl_up_ne (by first | decide | omega) ?_)) (by omega) (by decide) ?_
        refine slv_aload_n eX7_handleFrom_19 rfl ?_
        refine slv_getf eX7_handleFrom_20 fX7_18 (by repeat (first | assumption | exact sl_up_eq | refine sl_up_ne (by first | decide | omega) ?_)) rfl ?_
        refine slv_iload_n eX7_handleFrom_23 rfl ?_
        refine slv_ialdN eX7_handleFrom_24 (by repeat (first | assumption | exact sl_up_eq | refine sl_up_ne (by first | decide | omega) ?_)) (by omega) (by decide) ?_
        refine slv_rV (As := [_, _]) eX7_handleFrom_25 lX7_131 rfl rfl (by repeat (first | assumption | exact sl_up_eq | refine sl_up_ne (by first | decide | omega) ?_)) rfl (hO S _ _ (hs _ (by omega)) (hs _ (by omega))) (by decide) (Nat.le_of_ble_eq_true rfl) ?_
        refine slv_iconst (v := nI 2) eX7_handleFrom_28 (by decide) ?_
        refine slv_icmp_ne eX7_handleFrom_29 (fun h29 => ?_) (fun h29 => ?_)
        · refine slv_iload_n eX7_handleFrom_38 rfl ?_
          refine slv_iret eX7_handleFrom_39 rfl ?_
          first | (rw [Nat.add_sub_cancel] at h29; rw [rd_hd, decide_eq_false h29, Bool.and_false] at hQ; exact hQ) | (rw [rd_hd, decide_eq_false (Nat.not_lt.mpr h7)] at hQ; exact hQ)
        · refine slv_idecN (lv' := [_, _]) eX7_handleFrom_32 rfl (by decide) (by omega) rfl ?_
          refine slv_goto eX7_handleFrom_35 ?_
          refine ih (by omega) Q ?_
          rw [Nat.add_sub_cancel] at h29
          rw [rd_hd, decide_eq_true h7, decide_eq_true h29] at hQ
          exact hQ
  refine slv_aload_n eX7_handleFrom_0 rfl ?_
  refine slv_getf eX7_handleFrom_1 fX7_84 (by repeat (first | assumption | exact sl_up_eq | refine sl_up_ne (by first | decide | omega) ?_)) rfl ?_
  refine slv_istore_n (i := 1) (lv' := [_, _]) eX7_handleFrom_4 rfl (by decide) rfl ?_
  exact loop _ ht _ ⟨rfl, rfl⟩
set_option maxRecDepth 100000 in
theorem c_X7_realBits (hR : rr_all) {k : Nat} (hk : k < 60) : sl_R YX7_realBits 2 [.ref b, .int (nI k)] (rg_S b ho gb S M) (some (.int (rd_rb (nd_rl (rd_nd S)) (nd_bi (rd_nd S)) k))) (rg_S b ho gb S M) := by
  obtain ⟨r1, r2, r3, r4, r5, r6, r7, r8, r9⟩ := hR
  refine sl_T.of_V (lv := [_, _]) (by decide) rfl (Nat.le_of_ble_eq_true rfl) ?_
  refine slv_aload_n eX7_realBits_0 rfl ?_
  refine slv_getf eX7_realBits_1 fX7_12 (by repeat (first | assumption | exact sl_up_eq | refine sl_up_ne (by first | decide | omega) ?_)) rfl ?_
  refine slv_getf eX7_realBits_4 fX7_203 (by repeat (first | assumption | exact sl_up_eq | refine sl_up_ne (by first | decide | omega) ?_)) rfl ?_
  refine slv_iload_n eX7_realBits_7 rfl ?_
  refine slv_zaldN eX7_realBits_8 (by repeat (first | assumption | exact sl_up_eq | refine sl_up_ne (by first | decide | omega) ?_)) (by omega) (by decide) ?_
  refine slv_if_eqB eX7_realBits_9 (fun h9 => ?_) (fun h9 => ?_)
  · refine slv_aload_n eX7_realBits_24 rfl ?_
    refine slv_getf eX7_realBits_25 fX7_12 (by repeat (first | assumption | exact sl_up_eq | refine sl_up_ne (by first | decide | omega) ?_)) rfl ?_
    refine slv_getf eX7_realBits_28 fX7_204 (by repeat (first | assumption | exact sl_up_eq | refine sl_up_ne (by first | decide | omega) ?_)) rfl ?_
    refine slv_iload_n eX7_realBits_31 rfl ?_
    refine slv_ialdN eX7_realBits_32 (by repeat (first | assumption | exact sl_up_eq | refine sl_up_ne (by first | decide | omega) ?_)) (by omega) (by decide) ?_
    refine slv_rS (As := [_]) eX7_realBits_33 lX7_222 rfl rfl (r6 _ _) (by decide) (Nat.le_of_ble_eq_true rfl) ?_
    refine slv_iret eX7_realBits_36 rfl ?_
    exact ⟨by rw [rd_rb, h9]; rfl, rfl⟩
  · refine slv_aload_n eX7_realBits_12 rfl ?_
    refine slv_getf eX7_realBits_13 fX7_12 (by repeat (first | assumption | exact sl_up_eq | refine sl_up_ne (by first | decide | omega) ?_)) rfl ?_
    refine slv_getf eX7_realBits_16 fX7_204 (by repeat (first | assumption | exact sl_up_eq | refine sl_up_ne (by first | decide | omega) ?_)) rfl ?_
    refine slv_iload_n eX7_realBits_19 rfl ?_
    refine slv_ialdN eX7_realBits_20 (by repeat (first | assumption | exact sl_up_eq | refine sl_up_ne (by first | decide | omega) ?_)) (by omega) (by decide) ?_
    refine slv_goto eX7_realBits_21 ?_
    refine slv_iret eX7_realBits_36 rfl ?_
    exact ⟨by rw [rd_rb, h9]; rfl, rfl⟩
end RDH

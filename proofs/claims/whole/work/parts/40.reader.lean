/-! GrammarReader: what a token does -/
def gr_to (k : Nat) (R : gr_T) : gr_T := (gr_fa R, gr_pl R, gr_a R, k, gr_hd R, gr_en R, gr_tk R, gr_tp R, gr_wd R, gr_sg R)
def gp_line (R : gr_T) (g : sg_T) : gr_T := cond (gr_is R 1) (cond (gr_hd R) (gr_fl 6 R) (gr_fa R, gr_pl R, gr_a R, 1, true, gr_en R, gr_tk R, gr_tp R, gr_wd R, gr_sg R)) (cond (gr_is R 2) (if sg_rules g < 12 then cond (gr_hd R) (gr_to 2 R) (gr_fl 5 R) else gr_fl 4 R) (gr_fl 1 R))
def gp_kind (R : gr_T) (g : sg_T) : gr_T × sg_T := cond (gr_is R 3) (gr_to 7 R, (0, g.2)) (cond (gr_is R 4) (gr_to 7 R, (1, g.2)) (cond (gr_is R 5) (gr_to 7 R, (2, g.2)) (gr_fl 1 R, g)))
def gr_nw (R : gr_T) : Bool := decide (gr_tk R = 1) && (!(gr_is R 1) && (!(gr_is R 2) && (!(gr_is R 6) && (!(gr_is R 7) && !(gr_is R 8)))))
def gm_k (g : sg_T) (w : Int32) : Option Nat := sl_fn (fun t => decide (sg_words g t = w)) (sg_names g) 0
def gm_n (g : sg_T) (w : Int32) : sg_T := (sg_kind g, sg_rules g, sg_names g + 1, sg_terms g, sl_u (sg_words g) (sg_names g) w, g.2.2.2.2.2)
def gm_o (R : gr_T) (g : sg_T) : Option Nat := match gm_k g (gr_wd R) with
  | some k => some k
  | none => if sg_names g < 6 then some (sg_names g) else none
def gm_s (R : gr_T) (g : sg_T) : gr_T × sg_T := match gm_k g (gr_wd R) with
  | some _ => (R, g)
  | none => if sg_names g < 6 then (R, gm_n g (gr_wd R)) else (gr_fl 4 R, g)
def gt_k (g : sg_T) (x : Nat) : Option Nat := sl_fn (fun t => decide (nI (sg_signs g t) = nI x)) (sg_terms g) 0
def gt_n (g : sg_T) (x : Nat) : sg_T := (sg_kind g, sg_rules g, sg_names g, sg_terms g + 1, sg_words g, sl_u (sg_signs g) (sg_terms g) x, g.2.2.2.2.2.2)
def gt_o (g : sg_T) (x : Nat) : Option Nat := match gt_k g x with
  | some k => some k
  | none => if sg_terms g < 11 then some (sg_terms g) else none
def gt_s (R : gr_T) (g : sg_T) (x : Nat) : gr_T × sg_T := match gt_k g x with
  | some _ => (R, g)
  | none => if sg_terms g < 11 then (R, gt_n g x) else (gr_fl 4 R, g)
def gp_hl (g : sg_T) (k : Nat) : sg_T := (sg_kind g, sg_rules g, sg_names g, sg_terms g, sg_words g, sg_signs g, sl_u (sg_heads g) (sg_rules g) k, sg_deeds g, sl_u (sg_lens g) (sg_rules g) 0, sg_items g, sg_put g)
def gp_head (R : gr_T) (g : sg_T) : gr_T × sg_T := cond (gr_nw R) (match gm_o R g with
  | none => gm_s R g
  | some k => (gr_to 3 (gm_s R g).1, gp_hl (gm_s R g).2 k)) (gr_fl 1 R, g)
def gp_is (R : gr_T) : gr_T := cond (gr_is R 6) (gr_to 4 R) (gr_fl 1 R)
def gp_ai (g : sg_T) (x : Nat) : sg_T := (sg_kind g, sg_rules g, sg_names g, sg_terms g, sg_words g, sg_signs g, sg_heads g, sg_deeds g, sl_u (sg_lens g) (sg_rules g) (sg_lens g (sg_rules g) + 1), sl_u (sg_items g) (sg_rules g * 5 + sg_lens g (sg_rules g)) x, sg_put g)
/-- an item, if there is one, joined -/
def gp_jo (o : Option Nat) (q : gr_T × sg_T) (z : Nat) : gr_T × sg_T := match o with
  | none => q
  | some k => (gr_to 5 q.1, gp_ai q.2 (z + k))
def gp_ni (R : gr_T) (g : sg_T) : gr_T × sg_T := cond (decide (0 < sg_lens g (sg_rules g)) && sg_nm (sg_it g (sg_rules g) (sg_lens g (sg_rules g) - 1))) (gr_fl 3 R, g) (if sg_lens g (sg_rules g) < 5 then gp_jo (gm_o R g) (gm_s R g) 100 else (gr_fl 4 R, g))
def gp_ti (R : gr_T) (g : sg_T) (x : Nat) : gr_T × sg_T := if sg_lens g (sg_rules g) < 5 then gp_jo (gt_o g x) (gt_s R g x) 0 else (gr_fl 4 R, g)
def gp_item (R : gr_T) (g : sg_T) : gr_T × sg_T := cond (decide (gr_st R = 5) && gr_is R 7) (gr_to 6 R, g) (cond (gr_nw R) (gp_ni R g) (if gr_tk R = 2 then gp_ti R g (gr_sg R) else cond (gr_is R 8) (gp_ti R g 0) (gr_fl 1 R, g)))
/-- the text of a deed -/
def gp_dt (d : Nat) : Nat := [9, 10, 11, 12, 13, 14, 4, 5, 8].getD d 8
def gp_dw (R : gr_T) : Option Nat := sl_fn (fun d => gr_is R (gp_dt d)) 9 0
def gp_goes (g : sg_T) (d : Nat) : Bool := if d = 8 then decide (sg_lens g (sg_rules g) = 1) && decide (nI (sg_it g (sg_rules g) 0) = sl_io (gt_k g 0)) else decide (sl_ct (fun i => sg_nm (sg_it g (sg_rules g) i)) (sg_lens g (sg_rules g)) 0 = if d ≤ 3 then 2 else 1)
def gp_de (g : sg_T) (d : Nat) : sg_T := (sg_kind g, sg_rules g + 1, sg_names g, sg_terms g, sg_words g, sg_signs g, sg_heads g, sl_u (sg_deeds g) (sg_rules g) d, g.2.2.2.2.2.2.2.2)
def gp_deed (R : gr_T) (g : sg_T) : gr_T × sg_T := match gp_dw R with
  | none => (gr_fl 1 R, g)
  | some d => cond (gp_goes g d) (gr_to 7 R, gp_de g d) (gr_fl 2 R, g)
def gp_lk (R : gr_T) (g : sg_T) : Bool := !(gr_hd R) || (decide (sg_rules g = 0) || sl_ex (fun n => !(sl_ex (fun t => decide (sg_heads g t = n)) (sg_rules g) 0)) (sg_names g) 0)
def gp_part (R : gr_T) (g : sg_T) : gr_T := if gr_tk R = 3 then gr_to 0 R else if gr_tk R = 0 then cond (gp_lk R g) (gr_fl 5 R) (gr_fa R, gr_pl R, gr_a R, gr_st R, gr_hd R, true, gr_tk R, gr_tp R, gr_wd R, gr_sg R) else gr_fl 1 R
def gp_take (R : gr_T) (g : sg_T) : gr_T × sg_T := if gr_tk R = 4 then (gr_fl 1 R, g) else match gr_st R with
  | 0 => (gp_line R g, g)
  | 1 => gp_kind R g
  | 2 => gp_head R g
  | 3 => (gp_is R, g)
  | 4 => gp_item R g
  | 5 => gp_item R g
  | 6 => gp_deed R g
  | _ => (gp_part R g, g)
theorem st_l15 : ∀ j, j < 15 → st_len j < 100 ∧ j < sl_sN := by decide +kernel
section GRE
variable {b ln : Nat} {R : gr_T} {g : sg_T} {M : sl_M}
theorem gr_isW (hS : st_all) (ht : gr_tk R ≤ 4) (j : Nat) (hj : j < 15) : sl_R YX3_isWord 5 [.ref 18, .ref (sl_X + 2 * j)] (gp_S b ln R g M) (some (.int (sl_bi (gr_is R j)))) (gp_S b ln R g M) := c_X3_isWord hS (st_l15 j hj).2 (by omega) (st_l15 j hj).1
set_option maxRecDepth 100000 in
theorem c_X3_takeLine (hS : st_all) (hb : b = 2 ∨ b = 10) (ht : gr_tk R ≤ 4) (hr : sg_rules g ≤ 12) : sl_R YX3_takeLine 6 [.ref 18] (gp_S b ln R g M) none (gp_S b ln (gp_line R g) g M) := by
  have hw := fun j hj => gr_isW (b := b) (ln := ln) (R := R) (g := g) (M := M) hS ht j hj
  refine sl_T.of_V (lv := [_]) (by decide) rfl (Nat.le_of_ble_eq_true rfl) ?_
  refine slv_aload_n eX3_takeLine_0 rfl ?_
  refine slv_ldcS (tx := "desk") 1 eX3_takeLine_1 (by decide +kernel) ?_
  refine slv_rV (As := [_]) eX3_takeLine_3 lX3_117 rfl rfl (by repeat (first | assumption | exact sl_up_eq | refine sl_up_ne (by first | decide | omega) ?_)) rfl (hw 1 (by decide)) (by decide) (Nat.le_of_ble_eq_true rfl) ?_
  refine slv_if_eqB eX3_takeLine_6 (fun h6 => ?_) (fun h6 => ?_)
  · refine slv_aload_n eX3_takeLine_36 rfl ?_
    refine slv_ldcS (tx := "rule") 2 eX3_takeLine_37 (by decide +kernel) ?_
    refine slv_rV (As := [_]) eX3_takeLine_39 lX3_117 rfl rfl (by repeat (first | assumption | exact sl_up_eq | refine sl_up_ne (by first | decide | omega) ?_)) rfl (hw 2 (by decide)) (by decide) (Nat.le_of_ble_eq_true rfl) ?_
    refine slv_if_eqB eX3_takeLine_42 (fun h42 => ?_) (fun h42 => ?_)
    · refine slv_aload_n eX3_takeLine_88 rfl ?_
      refine slv_iconst (v := nI 1) eX3_takeLine_89 (by decide) ?_
      refine slv_rV (As := [_]) eX3_takeLine_90 lX3_90 rfl rfl (by repeat (first | assumption | exact sl_up_eq | refine sl_up_ne (by first | decide | omega) ?_)) rfl (c_X3_failWith 1) (by decide) (Nat.le_of_ble_eq_true rfl) ?_
      refine slv_vret eX3_takeLine_93 rfl ?_
      refine ⟨rfl, ?_⟩
      first | (have e : gp_line R g = gr_to 2 R := (by unfold gp_line; rw [h6, h42, if_pos h54, h69]; rfl); rw [e]; rfl) | (unfold gp_line; rw [h6, h13]; rfl) | (unfold gp_line; rw [h6, h42, if_neg (Nat.not_lt.mpr h54)]; rfl) | (unfold gp_line; rw [h6, h42, if_pos h54, h69]; rfl) | (unfold gp_line; rw [h6, h42]; rfl)
    · refine slv_aload_n eX3_takeLine_45 rfl ?_
      refine slv_getf eX3_takeLine_46 fX3_22 (by repeat (first | assumption | exact sl_up_eq | refine sl_up_ne (by first | decide | omega) ?_)) rfl ?_
      refine slv_getf eX3_takeLine_49 fX3_123 (by repeat (first | assumption | exact sl_up_eq | refine sl_up_ne (by first | decide | omega) ?_)) rfl ?_
      refine slv_bipush (v := nI 12) eX3_takeLine_52 (by decide) ?_
      refine slv_icmp_ltN eX3_takeLine_54 (by omega) (by omega) (fun h54 => ?_) (fun h54 => ?_)
      · refine slv_aload_n eX3_takeLine_65 rfl ?_
        refine slv_getf eX3_takeLine_66 fX3_34 (by repeat (first | assumption | exact sl_up_eq | refine sl_up_ne (by first | decide | omega) ?_)) rfl ?_
        refine slv_if_neB eX3_takeLine_69 (fun h69 => ?_) (fun h69 => ?_)
        · refine slv_aload_n eX3_takeLine_80 rfl ?_
          refine slv_iconst (v := nI 2) eX3_takeLine_81 (by decide) ?_
          refine slv_putf (fs' := [_, _, _, _, _, _, _, _, _, _, _, _, _]) eX3_takeLine_82 fX3_31 (by repeat (first | assumption | exact sl_up_eq | refine sl_up_ne (by first | decide | omega) ?_)) (Nat.le_of_ble_eq_true rfl) rfl rfl rfl ?_
          refine slv_mem gr_u18 ?_
          refine slv_goto eX3_takeLine_85 ?_
          refine slv_vret eX3_takeLine_93 rfl ?_
          refine ⟨rfl, ?_⟩
          first | (have e : gp_line R g = gr_to 2 R := (by unfold gp_line; rw [h6, h42, if_pos h54, h69]; rfl); rw [e]; rfl) | (unfold gp_line; rw [h6, h13]; rfl) | (unfold gp_line; rw [h6, h42, if_neg (Nat.not_lt.mpr h54)]; rfl) | (unfold gp_line; rw [h6, h42, if_pos h54, h69]; rfl) | (unfold gp_line; rw [h6, h42]; rfl)
        · refine slv_aload_n eX3_takeLine_72 rfl ?_
          refine slv_iconst (v := nI 5) eX3_takeLine_73 (by decide) ?_
          refine slv_rV (As := [_]) eX3_takeLine_74 lX3_90 rfl rfl (by repeat (first | assumption | exact sl_up_eq | refine sl_up_ne (by first | decide | omega) ?_)) rfl (c_X3_failWith 5) (by decide) (Nat.le_of_ble_eq_true rfl) ?_
          refine slv_goto eX3_takeLine_77 ?_
          refine slv_vret eX3_takeLine_93 rfl ?_
          refine ⟨rfl, ?_⟩
          first | (have e : gp_line R g = gr_to 2 R := (by unfold gp_line; rw [h6, h42, if_pos h54, h69]; rfl); rw [e]; rfl) | (unfold gp_line; rw [h6, h13]; rfl) | (unfold gp_line; rw [h6, h42, if_neg (Nat.not_lt.mpr h54)]; rfl) | (unfold gp_line; rw [h6, h42, if_pos h54, h69]; rfl) | (unfold gp_line; rw [h6, h42]; rfl)
      · refine slv_aload_n eX3_takeLine_57 rfl ?_
        refine slv_iconst (v := nI 4) eX3_takeLine_58 (by decide) ?_
        refine slv_rV (As := [_]) eX3_takeLine_59 lX3_90 rfl rfl (by repeat (first | assumption | exact sl_up_eq | refine sl_up_ne (by first | decide | omega) ?_)) rfl (c_X3_failWith 4) (by decide) (Nat.le_of_ble_eq_true rfl) ?_
        refine slv_goto eX3_takeLine_62 ?_
        refine slv_vret eX3_takeLine_93 rfl ?_
        refine ⟨rfl, ?_⟩
        first | (have e : gp_line R g = gr_to 2 R := (by unfold gp_line; rw [h6, h42, if_pos h54, h69]; rfl); rw [e]; rfl) | (unfold gp_line; rw [h6, h13]; rfl) | (unfold gp_line; rw [h6, h42, if_neg (Nat.not_lt.mpr h54)]; rfl) | (unfold gp_line; rw [h6, h42, if_pos h54, h69]; rfl) | (unfold gp_line; rw [h6, h42]; rfl)
  · refine slv_aload_n eX3_takeLine_9 rfl ?_
    refine slv_getf eX3_takeLine_10 fX3_34 (by repeat (first | assumption | exact sl_up_eq | refine sl_up_ne (by first | decide | omega) ?_)) rfl ?_
    refine slv_if_eqB eX3_takeLine_13 (fun h13 => ?_) (fun h13 => ?_)
    · refine slv_aload_n eX3_takeLine_23 rfl ?_
      refine slv_iconst (v := nI 1) eX3_takeLine_24 (by decide) ?_
      refine slv_putf (fs' := [_, _, _, _, _, _, _, _, _, _, _, _, _]) eX3_takeLine_25 fX3_34 (by repeat (first | assumption | exact sl_up_eq | refine sl_up_ne (by first | decide | omega) ?_)) (Nat.le_of_ble_eq_true rfl) (by first | rfl | assumption) (by first | rfl | assumption) rfl ?_
      refine slv_mem (gr_u18 (hd' := true)) ?_
      refine slv_aload_n eX3_takeLine_28 rfl ?_
      refine slv_iconst (v := nI 1) eX3_takeLine_29 (by decide) ?_
      refine slv_putf (fs' := [_, _, _, _, _, _, _, _, _, _, _, _, _]) eX3_takeLine_30 fX3_31 (by repeat (first | assumption | exact sl_up_eq | refine sl_up_ne (by first | decide | omega) ?_)) (Nat.le_of_ble_eq_true rfl) rfl rfl rfl ?_
      refine slv_mem gr_u18 ?_
      refine slv_goto eX3_takeLine_33 ?_
      refine slv_vret eX3_takeLine_93 rfl ?_
      refine ⟨rfl, ?_⟩
      first | (have e : gp_line R g = gr_to 2 R := (by unfold gp_line; rw [h6, h42, if_pos h54, h69]; rfl); rw [e]; rfl) | (unfold gp_line; rw [h6, h13]; rfl) | (unfold gp_line; rw [h6, h42, if_neg (Nat.not_lt.mpr h54)]; rfl) | (unfold gp_line; rw [h6, h42, if_pos h54, h69]; rfl) | (unfold gp_line; rw [h6, h42]; rfl)
    · refine slv_aload_n eX3_takeLine_16 rfl ?_
      refine slv_bipush (v := nI 6) eX3_takeLine_17 (by decide) ?_
      refine slv_rV (As := [_]) eX3_takeLine_19 lX3_90 rfl rfl (by repeat (first | assumption | exact sl_up_eq | refine sl_up_ne (by first | decide | omega) ?_)) rfl (c_X3_failWith 6) (by decide) (Nat.le_of_ble_eq_true rfl) ?_
      refine slv_vret eX3_takeLine_22 rfl ?_
      refine ⟨rfl, ?_⟩
      first | (have e : gp_line R g = gr_to 2 R := (by unfold gp_line; rw [h6, h42, if_pos h54, h69]; rfl); rw [e]; rfl) | (unfold gp_line; rw [h6, h13]; rfl) | (unfold gp_line; rw [h6, h42, if_neg (Nat.not_lt.mpr h54)]; rfl) | (unfold gp_line; rw [h6, h42, if_pos h54, h69]; rfl) | (unfold gp_line; rw [h6, h42]; rfl)
set_option maxRecDepth 100000 in
theorem c_X3_takeKind (hS : st_all) (hb : b = 2 ∨ b = 10) (ht : gr_tk R ≤ 4) : sl_R YX3_takeKind 6 [.ref 18] (gp_S b ln R g M) none (gp_S b ln (gp_kind R g).1 (gp_kind R g).2 M) := by
  have hw := fun j hj => gr_isW (b := b) (ln := ln) (R := R) (g := g) (M := M) hS ht j hj
  refine sl_T.of_V (lv := [_]) (by decide) rfl (Nat.le_of_ble_eq_true rfl) ?_
  refine slv_aload_n eX3_takeKind_0 rfl ?_
  refine slv_ldcS (tx := "mixed") 3 eX3_takeKind_1 (by decide +kernel) ?_
  refine slv_rV (As := [_]) eX3_takeKind_3 lX3_117 rfl rfl (by repeat (first | assumption | exact sl_up_eq | refine sl_up_ne (by first | decide | omega) ?_)) rfl (hw 3 (by decide)) (by decide) (Nat.le_of_ble_eq_true rfl) ?_
  refine slv_if_eqB eX3_takeKind_6 (fun h6 => ?_) (fun h6 => ?_)
  · refine slv_aload_n eX3_takeKind_20 rfl ?_
    refine slv_ldcS (tx := "whole") 4 eX3_takeKind_21 (by decide +kernel) ?_
    refine slv_rV (As := [_]) eX3_takeKind_23 lX3_117 rfl rfl (by repeat (first | assumption | exact sl_up_eq | refine sl_up_ne (by first | decide | omega) ?_)) rfl (hw 4 (by decide)) (by decide) (Nat.le_of_ble_eq_true rfl) ?_
    refine slv_if_eqB eX3_takeKind_26 (fun h26 => ?_) (fun h26 => ?_)
    · refine slv_aload_n eX3_takeKind_40 rfl ?_
      refine slv_ldcS (tx := "real") 5 eX3_takeKind_41 (by decide +kernel) ?_
      refine slv_rV (As := [_]) eX3_takeKind_43 lX3_117 rfl rfl (by repeat (first | assumption | exact sl_up_eq | refine sl_up_ne (by first | decide | omega) ?_)) rfl (hw 5 (by decide)) (by decide) (Nat.le_of_ble_eq_true rfl) ?_
      refine slv_if_eqB eX3_takeKind_46 (fun h46 => ?_) (fun h46 => ?_)
      · refine slv_aload_n eX3_takeKind_60 rfl ?_
        refine slv_iconst (v := nI 1) eX3_takeKind_61 (by decide) ?_
        refine slv_rV (As := [_]) eX3_takeKind_62 lX3_90 rfl rfl (by repeat (first | assumption | exact sl_up_eq | refine sl_up_ne (by first | decide | omega) ?_)) rfl (c_X3_failWith 1) (by decide) (Nat.le_of_ble_eq_true rfl) ?_
        refine slv_vret eX3_takeKind_65 rfl ?_
        refine ⟨rfl, ?_⟩
        unfold gp_kind
        first | (rw [h6, h26, h46]; rfl) | (rw [h6, h26]; rfl) | (rw [h6]; rfl)
      · refine slv_aload_n eX3_takeKind_49 rfl ?_
        refine slv_getf eX3_takeKind_50 fX3_22 (by repeat (first | assumption | exact sl_up_eq | refine sl_up_ne (by first | decide | omega) ?_)) rfl ?_
        refine slv_iconst (v := nI 2) eX3_takeKind_53 (by decide) ?_
        refine slv_putf (fs' := [_, _, _, _, _, _, _, _, _, _, _]) eX3_takeKind_54 fX3_128 (by repeat (first | assumption | exact sl_up_eq | refine sl_up_ne (by first | decide | omega) ?_)) (Nat.le_of_ble_eq_true rfl) rfl rfl rfl ?_
        refine slv_mem (gp_u0 hb) ?_
        refine slv_goto eX3_takeKind_57 ?_
        refine slv_aload_n eX3_takeKind_66 rfl ?_
        refine slv_bipush (v := nI 7) eX3_takeKind_67 (by decide) ?_
        refine slv_putf (fs' := [_, _, _, _, _, _, _, _, _, _, _, _, _]) eX3_takeKind_69 fX3_31 (by repeat (first | assumption | exact sl_up_eq | refine sl_up_ne (by first | decide | omega) ?_)) (Nat.le_of_ble_eq_true rfl) rfl rfl rfl ?_
        refine slv_mem gr_u18 ?_
        refine slv_vret eX3_takeKind_72 rfl ?_
        refine ⟨rfl, ?_⟩
        unfold gp_kind
        first | (rw [h6, h26, h46]; rfl) | (rw [h6, h26]; rfl) | (rw [h6]; rfl)
    · refine slv_aload_n eX3_takeKind_29 rfl ?_
      refine slv_getf eX3_takeKind_30 fX3_22 (by repeat (first | assumption | exact sl_up_eq | refine sl_up_ne (by first | decide | omega) ?_)) rfl ?_
      refine slv_iconst (v := nI 1) eX3_takeKind_33 (by decide) ?_
      refine slv_putf (fs' := [_, _, _, _, _, _, _, _, _, _, _]) eX3_takeKind_34 fX3_128 (by repeat (first | assumption | exact sl_up_eq | refine sl_up_ne (by first | decide | omega) ?_)) (Nat.le_of_ble_eq_true rfl) rfl rfl rfl ?_
      refine slv_mem (gp_u0 hb) ?_
      refine slv_goto eX3_takeKind_37 ?_
      refine slv_aload_n eX3_takeKind_66 rfl ?_
      refine slv_bipush (v := nI 7) eX3_takeKind_67 (by decide) ?_
      refine slv_putf (fs' := [_, _, _, _, _, _, _, _, _, _, _, _, _]) eX3_takeKind_69 fX3_31 (by repeat (first | assumption | exact sl_up_eq | refine sl_up_ne (by first | decide | omega) ?_)) (Nat.le_of_ble_eq_true rfl) rfl rfl rfl ?_
      refine slv_mem gr_u18 ?_
      refine slv_vret eX3_takeKind_72 rfl ?_
      refine ⟨rfl, ?_⟩
      unfold gp_kind
      first | (rw [h6, h26, h46]; rfl) | (rw [h6, h26]; rfl) | (rw [h6]; rfl)
  · refine slv_aload_n eX3_takeKind_9 rfl ?_
    refine slv_getf eX3_takeKind_10 fX3_22 (by repeat (first | assumption | exact sl_up_eq | refine sl_up_ne (by first | decide | omega) ?_)) rfl ?_
    refine slv_iconst (v := nI 0) eX3_takeKind_13 (by decide) ?_
    refine slv_putf (fs' := [_, _, _, _, _, _, _, _, _, _, _]) eX3_takeKind_14 fX3_128 (by repeat (first | assumption | exact sl_up_eq | refine sl_up_ne (by first | decide | omega) ?_)) (Nat.le_of_ble_eq_true rfl) rfl rfl rfl ?_
    refine slv_mem (gp_u0 hb) ?_
    refine slv_goto eX3_takeKind_17 ?_
    refine slv_aload_n eX3_takeKind_66 rfl ?_
    refine slv_bipush (v := nI 7) eX3_takeKind_67 (by decide) ?_
    refine slv_putf (fs' := [_, _, _, _, _, _, _, _, _, _, _, _, _]) eX3_takeKind_69 fX3_31 (by repeat (first | assumption | exact sl_up_eq | refine sl_up_ne (by first | decide | omega) ?_)) (Nat.le_of_ble_eq_true rfl) rfl rfl rfl ?_
    refine slv_mem gr_u18 ?_
    refine slv_vret eX3_takeKind_72 rfl ?_
    refine ⟨rfl, ?_⟩
    unfold gp_kind
    first | (rw [h6, h26, h46]; rfl) | (rw [h6, h26]; rfl) | (rw [h6]; rfl)
set_option maxRecDepth 100000 in
theorem c_X3_isNameWord (hS : st_all) (ht : gr_tk R ≤ 4) : sl_R YX3_isNameWord 6 [.ref 18] (gp_S b ln R g M) (some (.int (sl_bi (gr_nw R)))) (gp_S b ln R g M) := by
  have hw := fun j hj => gr_isW (b := b) (ln := ln) (R := R) (g := g) (M := M) hS ht j hj
  refine sl_T.of_V (lv := [_]) (by decide) rfl (Nat.le_of_ble_eq_true rfl) ?_
  refine slv_aload_n eX3_isNameWord_0 rfl ?_
  refine slv_getf eX3_isNameWord_1 fX3_60 (by repeat (first | assumption | exact sl_up_eq | refine sl_up_ne (by first | decide | omega) ?_)) rfl ?_
  refine slv_iconst (v := nI 1) eX3_isNameWord_4 (by decide) ?_
  refine slv_icmp_neN eX3_isNameWord_5 (by omega) (by omega) (fun h5 => ?_) (fun h5 => ?_)
  · refine slv_iconst (v := nI 0) eX3_isNameWord_57 (by decide) ?_
    refine slv_zret eX3_isNameWord_58 rfl rfl ?_
    refine ⟨?_, rfl⟩
    unfold gr_nw
    first | (rw [decide_eq_false h5]; rfl) | (rw [decide_eq_true h5, h14, h23, h32, h41, h50]; rfl) | (rw [decide_eq_true h5, h14, h23, h32, h41]; rfl) | (rw [decide_eq_true h5, h14, h23, h32]; rfl) | (rw [decide_eq_true h5, h14, h23]; rfl) | (rw [decide_eq_true h5, h14]; rfl)
  · refine slv_aload_n eX3_isNameWord_8 rfl ?_
    refine slv_ldcS (tx := "desk") 1 eX3_isNameWord_9 (by decide +kernel) ?_
    refine slv_rV (As := [_]) eX3_isNameWord_11 lX3_117 rfl rfl (by repeat (first | assumption | exact sl_up_eq | refine sl_up_ne (by first | decide | omega) ?_)) rfl (hw 1 (by decide)) (by decide) (Nat.le_of_ble_eq_true rfl) ?_
    refine slv_if_neB eX3_isNameWord_14 (fun h14 => ?_) (fun h14 => ?_)
    · refine slv_iconst (v := nI 0) eX3_isNameWord_57 (by decide) ?_
      refine slv_zret eX3_isNameWord_58 rfl rfl ?_
      refine ⟨?_, rfl⟩
      unfold gr_nw
      first | (rw [decide_eq_false h5]; rfl) | (rw [decide_eq_true h5, h14, h23, h32, h41, h50]; rfl) | (rw [decide_eq_true h5, h14, h23, h32, h41]; rfl) | (rw [decide_eq_true h5, h14, h23, h32]; rfl) | (rw [decide_eq_true h5, h14, h23]; rfl) | (rw [decide_eq_true h5, h14]; rfl)
    · refine slv_aload_n eX3_isNameWord_17 rfl ?_
      refine slv_ldcS (tx := "rule") 2 eX3_isNameWord_18 (by decide +kernel) ?_
      refine slv_rV (As := [_]) eX3_isNameWord_20 lX3_117 rfl rfl (by repeat (first | assumption | exact sl_up_eq | refine sl_up_ne (by first | decide | omega) ?_)) rfl (hw 2 (by decide)) (by decide) (Nat.le_of_ble_eq_true rfl) ?_
      refine slv_if_neB eX3_isNameWord_23 (fun h23 => ?_) (fun h23 => ?_)
      · refine slv_iconst (v := nI 0) eX3_isNameWord_57 (by decide) ?_
        refine slv_zret eX3_isNameWord_58 rfl rfl ?_
        refine ⟨?_, rfl⟩
        unfold gr_nw
        first | (rw [decide_eq_false h5]; rfl) | (rw [decide_eq_true h5, h14, h23, h32, h41, h50]; rfl) | (rw [decide_eq_true h5, h14, h23, h32, h41]; rfl) | (rw [decide_eq_true h5, h14, h23, h32]; rfl) | (rw [decide_eq_true h5, h14, h23]; rfl) | (rw [decide_eq_true h5, h14]; rfl)
      · refine slv_aload_n eX3_isNameWord_26 rfl ?_
        refine slv_ldcS (tx := "is") 6 eX3_isNameWord_27 (by decide +kernel) ?_
        refine slv_rV (As := [_]) eX3_isNameWord_29 lX3_117 rfl rfl (by repeat (first | assumption | exact sl_up_eq | refine sl_up_ne (by first | decide | omega) ?_)) rfl (hw 6 (by decide)) (by decide) (Nat.le_of_ble_eq_true rfl) ?_
        refine slv_if_neB eX3_isNameWord_32 (fun h32 => ?_) (fun h32 => ?_)
        · refine slv_iconst (v := nI 0) eX3_isNameWord_57 (by decide) ?_
          refine slv_zret eX3_isNameWord_58 rfl rfl ?_
          refine ⟨?_, rfl⟩
          unfold gr_nw
          first | (rw [decide_eq_false h5]; rfl) | (rw [decide_eq_true h5, h14, h23, h32, h41, h50]; rfl) | (rw [decide_eq_true h5, h14, h23, h32, h41]; rfl) | (rw [decide_eq_true h5, h14, h23, h32]; rfl) | (rw [decide_eq_true h5, h14, h23]; rfl) | (rw [decide_eq_true h5, h14]; rfl)
        · refine slv_aload_n eX3_isNameWord_35 rfl ?_
          refine slv_ldcS (tx := "does") 7 eX3_isNameWord_36 (by decide +kernel) ?_
          refine slv_rV (As := [_]) eX3_isNameWord_38 lX3_117 rfl rfl (by repeat (first | assumption | exact sl_up_eq | refine sl_up_ne (by first | decide | omega) ?_)) rfl (hw 7 (by decide)) (by decide) (Nat.le_of_ble_eq_true rfl) ?_
          refine slv_if_neB eX3_isNameWord_41 (fun h41 => ?_) (fun h41 => ?_)
          · refine slv_iconst (v := nI 0) eX3_isNameWord_57 (by decide) ?_
            refine slv_zret eX3_isNameWord_58 rfl rfl ?_
            refine ⟨?_, rfl⟩
            unfold gr_nw
            first | (rw [decide_eq_false h5]; rfl) | (rw [decide_eq_true h5, h14, h23, h32, h41, h50]; rfl) | (rw [decide_eq_true h5, h14, h23, h32, h41]; rfl) | (rw [decide_eq_true h5, h14, h23, h32]; rfl) | (rw [decide_eq_true h5, h14, h23]; rfl) | (rw [decide_eq_true h5, h14]; rfl)
          · refine slv_aload_n eX3_isNameWord_44 rfl ?_
            refine slv_ldcS (tx := "value") 8 eX3_isNameWord_45 (by decide +kernel) ?_
            refine slv_rV (As := [_]) eX3_isNameWord_47 lX3_117 rfl rfl (by repeat (first | assumption | exact sl_up_eq | refine sl_up_ne (by first | decide | omega) ?_)) rfl (hw 8 (by decide)) (by decide) (Nat.le_of_ble_eq_true rfl) ?_
            refine slv_if_neB eX3_isNameWord_50 (fun h50 => ?_) (fun h50 => ?_)
            · refine slv_iconst (v := nI 0) eX3_isNameWord_57 (by decide) ?_
              refine slv_zret eX3_isNameWord_58 rfl rfl ?_
              refine ⟨?_, rfl⟩
              unfold gr_nw
              first | (rw [decide_eq_false h5]; rfl) | (rw [decide_eq_true h5, h14, h23, h32, h41, h50]; rfl) | (rw [decide_eq_true h5, h14, h23, h32, h41]; rfl) | (rw [decide_eq_true h5, h14, h23, h32]; rfl) | (rw [decide_eq_true h5, h14, h23]; rfl) | (rw [decide_eq_true h5, h14]; rfl)
            · refine slv_iconst (v := nI 1) eX3_isNameWord_53 (by decide) ?_
              refine slv_goto eX3_isNameWord_54 ?_
              refine slv_zret eX3_isNameWord_58 rfl rfl ?_
              refine ⟨?_, rfl⟩
              unfold gr_nw
              first | (rw [decide_eq_false h5]; rfl) | (rw [decide_eq_true h5, h14, h23, h32, h41, h50]; rfl) | (rw [decide_eq_true h5, h14, h23, h32, h41]; rfl) | (rw [decide_eq_true h5, h14, h23, h32]; rfl) | (rw [decide_eq_true h5, h14, h23]; rfl) | (rw [decide_eq_true h5, h14]; rfl)
set_option maxRecDepth 100000 in
theorem c_X3_meetName (hb : b = 2 ∨ b = 10) (hok : sg_ok g) : sl_R YX3_meetName 1 [.ref 18] (gp_S b ln R g M) (some (.int (sl_io (gm_o R g)))) (gp_S b ln (gm_s R g).1 (gm_s R g).2 M) := by
  have hn6 : sg_names g ≤ 6 := hok.2.2.1
  have hN := c_X2_nameNumber (gp_sg (ln := ln) (R := R) (g := g) (M := M) hb) hok (gr_wd R)
  rw [sl_ff_io] at hN
  have hk : ∀ k, gm_k g (gr_wd R) = some k → k < 6 := fun k hk => by have := sl_fn_lt _ _ _ hk; omega
  change sl_R YX2_nameNumber 0 _ _ (some (.int (sl_io (gm_k g (gr_wd R))))) _ at hN
  unfold gm_o gm_s
  generalize gm_k g (gr_wd R) = o at hN hk
  refine sl_T.of_V (lv := [_, _]) (by decide) rfl (Nat.le_of_ble_eq_true rfl) ?_
  cases o with
  | some k =>
    have hk6 := hk k rfl
    change sl_R YX2_nameNumber 0 _ _ (some (.int (nI k))) _ at hN
    refine slv_aload_n eX3_meetName_0 rfl ?_
    refine slv_getf eX3_meetName_1 fX3_22 (by repeat (first | assumption | exact sl_up_eq | refine sl_up_ne (by first | decide | omega) ?_)) rfl ?_
    refine slv_aload_n eX3_meetName_4 rfl ?_
    refine slv_getf eX3_meetName_5 fX3_80 (by repeat (first | assumption | exact sl_up_eq | refine sl_up_ne (by first | decide | omega) ?_)) rfl ?_
    refine slv_rV (As := [_]) eX3_meetName_8 lX3_141 rfl rfl (by repeat (first | assumption | exact sl_up_eq | refine sl_up_ne (by first | decide | omega) ?_)) rfl hN (by decide) (Nat.le_of_ble_eq_true rfl) ?_
    refine slv_istore_n (i := 1) (lv' := [_, _]) eX3_meetName_11 rfl (by decide) rfl ?_
    refine slv_iload_n eX3_meetName_12 rfl ?_
    refine slv_iconst (v := (-1)) eX3_meetName_13 (by decide) ?_
    refine slv_icmp_eq eX3_meetName_14 (fun h14 => absurd h14 (nI_neg1 (by omega))) (fun h14 => ?_)
    refine slv_iload_n eX3_meetName_17 rfl ?_
    refine slv_iret eX3_meetName_18 rfl ?_
    exact ⟨rfl, rfl⟩
  | none =>
    change sl_R YX2_nameNumber 0 _ _ (some (.int (-1))) _ at hN
    refine slv_aload_n eX3_meetName_0 rfl ?_
    refine slv_getf eX3_meetName_1 fX3_22 (by repeat (first | assumption | exact sl_up_eq | refine sl_up_ne (by first | decide | omega) ?_)) rfl ?_
    refine slv_aload_n eX3_meetName_4 rfl ?_
    refine slv_getf eX3_meetName_5 fX3_80 (by repeat (first | assumption | exact sl_up_eq | refine sl_up_ne (by first | decide | omega) ?_)) rfl ?_
    refine slv_rV (As := [_]) eX3_meetName_8 lX3_141 rfl rfl (by repeat (first | assumption | exact sl_up_eq | refine sl_up_ne (by first | decide | omega) ?_)) rfl hN (by decide) (Nat.le_of_ble_eq_true rfl) ?_
    refine slv_istore_n (i := 1) (lv' := [_, _]) eX3_meetName_11 rfl (by decide) rfl ?_
    refine slv_iload_n eX3_meetName_12 rfl ?_
    refine slv_iconst (v := (-1)) eX3_meetName_13 (by decide) ?_
    refine slv_icmp_eq eX3_meetName_14 (fun h14 => ?_) (fun h14 => absurd rfl h14)
    refine slv_aload_n eX3_meetName_19 rfl ?_
    refine slv_getf eX3_meetName_20 fX3_22 (by repeat (first | assumption | exact sl_up_eq | refine sl_up_ne (by first | decide | omega) ?_)) rfl ?_
    refine slv_getf eX3_meetName_23 fX3_144 (by repeat (first | assumption | exact sl_up_eq | refine sl_up_ne (by first | decide | omega) ?_)) rfl ?_
    refine slv_bipush (v := nI 6) eX3_meetName_26 (by decide) ?_
    refine slv_icmp_ltN eX3_meetName_28 (by omega) (by omega) (fun h28 => ?_) (fun h28 => ?_)
    · refine slv_aload_n eX3_meetName_38 rfl ?_
      refine slv_getf eX3_meetName_39 fX3_22 (by repeat (first | assumption | exact sl_up_eq | refine sl_up_ne (by first | decide | omega) ?_)) rfl ?_
      refine slv_getf eX3_meetName_42 fX3_147 (by repeat (first | assumption | exact sl_up_eq | refine sl_up_ne (by first | decide | omega) ?_)) rfl ?_
      refine slv_aload_n eX3_meetName_45 rfl ?_
      refine slv_getf eX3_meetName_46 fX3_22 (by repeat (first | assumption | exact sl_up_eq | refine sl_up_ne (by first | decide | omega) ?_)) rfl ?_
      refine slv_getf eX3_meetName_49 fX3_144 (by repeat (first | assumption | exact sl_up_eq | refine sl_up_ne (by first | decide | omega) ?_)) rfl ?_
      refine slv_aload_n eX3_meetName_52 rfl ?_
      refine slv_getf eX3_meetName_53 fX3_80 (by repeat (first | assumption | exact sl_up_eq | refine sl_up_ne (by first | decide | omega) ?_)) rfl ?_
      refine slv_iastI eX3_meetName_56 (by repeat (first | assumption | exact sl_up_eq | refine sl_up_ne (by first | decide | omega) ?_)) (by omega) (by decide) ?_
      refine slv_mem (gp_u1 hb) ?_
      refine slv_aload_n eX3_meetName_57 rfl ?_
      refine slv_getf eX3_meetName_58 fX3_22 (by repeat (first | assumption | exact sl_up_eq | refine sl_up_ne (by first | decide | omega) ?_)) rfl ?_
      refine slv_dup eX3_meetName_61 rfl ?_
      refine slv_getf eX3_meetName_62 fX3_144 (by repeat (first | assumption | exact sl_up_eq | refine sl_up_ne (by first | decide | omega) ?_)) rfl ?_
      refine slv_iconst (v := nI 1) eX3_meetName_65 (by decide) ?_
      refine slv_iaddN eX3_meetName_66 ?_
      refine slv_putf (fs' := [_, _, _, _, _, _, _, _, _, _, _]) eX3_meetName_67 fX3_144 (by repeat (first | assumption | exact sl_up_eq | refine sl_up_ne (by first | decide | omega) ?_)) (Nat.le_of_ble_eq_true rfl) rfl rfl rfl ?_
      refine slv_mem (gp_u0 hb) ?_
      refine slv_aload_n eX3_meetName_70 rfl ?_
      refine slv_getf eX3_meetName_71 fX3_22 (by repeat (first | assumption | exact sl_up_eq | refine sl_up_ne (by first | decide | omega) ?_)) rfl ?_
      refine slv_getf eX3_meetName_74 fX3_144 (by repeat (first | assumption | exact sl_up_eq | refine sl_up_ne (by first | decide | omega) ?_)) rfl ?_
      refine slv_iconst (v := nI 1) eX3_meetName_77 (by decide) ?_
      refine slv_isubN eX3_meetName_78 (by omega) ?_
      refine slv_iret eX3_meetName_79 rfl ?_
      refine ⟨?_, ?_⟩ <;> simp only [if_pos h28] <;> rfl
    · refine slv_aload_n eX3_meetName_31 rfl ?_
      refine slv_iconst (v := nI 4) eX3_meetName_32 (by decide) ?_
      refine slv_rV (As := [_]) eX3_meetName_33 lX3_90 rfl rfl (by repeat (first | assumption | exact sl_up_eq | refine sl_up_ne (by first | decide | omega) ?_)) rfl (c_X3_failWith 4) (by decide) (Nat.le_of_ble_eq_true rfl) ?_
      refine slv_iconst (v := (-1)) eX3_meetName_36 (by decide) ?_
      refine slv_iret eX3_meetName_37 rfl ?_
      refine ⟨?_, ?_⟩ <;> simp only [if_neg (Nat.not_lt.mpr h28)] <;> rfl
set_option maxRecDepth 100000 in
theorem c_X3_meetTerminal (hb : b = 2 ∨ b = 10) (hok : sg_ok g) (x : Nat) : sl_R YX3_meetTerminal 1 [.ref 18, .int (nI x)] (gp_S b ln R g M) (some (.int (sl_io (gt_o g x)))) (gp_S b ln (gt_s R g x).1 (gt_s R g x).2 M) := by
  have hn6 : sg_terms g ≤ 11 := hok.2.2.2.1
  have hN := c_X2_terminalNumber (gp_sg (ln := ln) (R := R) (g := g) (M := M) hb) hok (nI x)
  rw [sl_ff_io] at hN
  have hk : ∀ k, gt_k g x = some k → k < 11 := fun k hk => by have := sl_fn_lt _ _ _ hk; omega
  change sl_R YX2_terminalNumber 0 _ _ (some (.int (sl_io (gt_k g x)))) _ at hN
  unfold gt_o gt_s
  generalize gt_k g x = o at hN hk
  refine sl_T.of_V (lv := [_, _, _]) (by decide) rfl (Nat.le_of_ble_eq_true rfl) ?_
  cases o with
  | some k =>
    have hk6 := hk k rfl
    change sl_R YX2_terminalNumber 0 _ _ (some (.int (nI k))) _ at hN
    refine slv_aload_n eX3_meetTerminal_0 rfl ?_
    refine slv_getf eX3_meetTerminal_1 fX3_22 (by repeat (first | assumption | exact sl_up_eq | refine sl_up_ne (by first | decide | omega) ?_)) rfl ?_
    refine slv_iload_n eX3_meetTerminal_4 rfl ?_
    refine slv_rV (As := [_]) eX3_meetTerminal_5 lX3_151 rfl rfl (by repeat (first | assumption | exact sl_up_eq | refine sl_up_ne (by first | decide | omega) ?_)) rfl hN (by decide) (Nat.le_of_ble_eq_true rfl) ?_
    refine slv_istore_n (i := 2) (lv' := [_, _, _]) eX3_meetTerminal_8 rfl (by decide) rfl ?_
    refine slv_iload_n eX3_meetTerminal_9 rfl ?_
    refine slv_iconst (v := (-1)) eX3_meetTerminal_10 (by decide) ?_
    refine slv_icmp_eq eX3_meetTerminal_11 (fun h11 => absurd h11 (nI_neg1 (by omega))) (fun h11 => ?_)
    refine slv_iload_n eX3_meetTerminal_14 rfl ?_
    refine slv_iret eX3_meetTerminal_15 rfl ?_
    exact ⟨rfl, rfl⟩
  | none =>
    change sl_R YX2_terminalNumber 0 _ _ (some (.int (-1))) _ at hN
    refine slv_aload_n eX3_meetTerminal_0 rfl ?_
    refine slv_getf eX3_meetTerminal_1 fX3_22 (by repeat (first | assumption | exact sl_up_eq | refine sl_up_ne (by first | decide | omega) ?_)) rfl ?_
    refine slv_iload_n eX3_meetTerminal_4 rfl ?_
    refine slv_rV (As := [_]) eX3_meetTerminal_5 lX3_151 rfl rfl (by repeat (first | assumption | exact sl_up_eq | refine sl_up_ne (by first | decide | omega) ?_)) rfl hN (by decide) (Nat.le_of_ble_eq_true rfl) ?_
    refine slv_istore_n (i := 2) (lv' := [_, _, _]) eX3_meetTerminal_8 rfl (by decide) rfl ?_
    refine slv_iload_n eX3_meetTerminal_9 rfl ?_
    refine slv_iconst (v := (-1)) eX3_meetTerminal_10 (by decide) ?_
    refine slv_icmp_eq eX3_meetTerminal_11 (fun h11 => ?_) (fun h11 => absurd rfl h11)
    refine slv_aload_n eX3_meetTerminal_16 rfl ?_
    refine slv_getf eX3_meetTerminal_17 fX3_22 (by repeat (first | assumption | exact sl_up_eq | refine sl_up_ne (by first | decide | omega) ?_)) rfl ?_
    refine slv_getf eX3_meetTerminal_20 fX3_154 (by repeat (first | assumption | exact sl_up_eq | refine sl_up_ne (by first | decide | omega) ?_)) rfl ?_
    refine slv_bipush (v := nI 11) eX3_meetTerminal_23 (by decide) ?_
    refine slv_icmp_ltN eX3_meetTerminal_25 (by omega) (by omega) (fun h25 => ?_) (fun h25 => ?_)
    · refine slv_aload_n eX3_meetTerminal_35 rfl ?_
      refine slv_getf eX3_meetTerminal_36 fX3_22 (by repeat (first | assumption | exact sl_up_eq | refine sl_up_ne (by first | decide | omega) ?_)) rfl ?_
      refine slv_getf eX3_meetTerminal_39 fX3_157 (by repeat (first | assumption | exact sl_up_eq | refine sl_up_ne (by first | decide | omega) ?_)) rfl ?_
      refine slv_aload_n eX3_meetTerminal_42 rfl ?_
      refine slv_getf eX3_meetTerminal_43 fX3_22 (by repeat (first | assumption | exact sl_up_eq | refine sl_up_ne (by first | decide | omega) ?_)) rfl ?_
      refine slv_getf eX3_meetTerminal_46 fX3_154 (by repeat (first | assumption | exact sl_up_eq | refine sl_up_ne (by first | decide | omega) ?_)) rfl ?_
      refine slv_iload_n eX3_meetTerminal_49 rfl ?_
      refine slv_iastN (x := x) eX3_meetTerminal_50 (by repeat (first | assumption | exact sl_up_eq | refine sl_up_ne (by first | decide | omega) ?_)) (by omega) (by decide) ?_
      refine slv_mem (gp_u2 hb) ?_
      refine slv_aload_n eX3_meetTerminal_51 rfl ?_
      refine slv_getf eX3_meetTerminal_52 fX3_22 (by repeat (first | assumption | exact sl_up_eq | refine sl_up_ne (by first | decide | omega) ?_)) rfl ?_
      refine slv_dup eX3_meetTerminal_55 rfl ?_
      refine slv_getf eX3_meetTerminal_56 fX3_154 (by repeat (first | assumption | exact sl_up_eq | refine sl_up_ne (by first | decide | omega) ?_)) rfl ?_
      refine slv_iconst (v := nI 1) eX3_meetTerminal_59 (by decide) ?_
      refine slv_iaddN eX3_meetTerminal_60 ?_
      refine slv_putf (fs' := [_, _, _, _, _, _, _, _, _, _, _]) eX3_meetTerminal_61 fX3_154 (by repeat (first | assumption | exact sl_up_eq | refine sl_up_ne (by first | decide | omega) ?_)) (Nat.le_of_ble_eq_true rfl) rfl rfl rfl ?_
      refine slv_mem (gp_u0 hb) ?_
      refine slv_aload_n eX3_meetTerminal_64 rfl ?_
      refine slv_getf eX3_meetTerminal_65 fX3_22 (by repeat (first | assumption | exact sl_up_eq | refine sl_up_ne (by first | decide | omega) ?_)) rfl ?_
      refine slv_getf eX3_meetTerminal_68 fX3_154 (by repeat (first | assumption | exact sl_up_eq | refine sl_up_ne (by first | decide | omega) ?_)) rfl ?_
      refine slv_iconst (v := nI 1) eX3_meetTerminal_71 (by decide) ?_
      refine slv_isubN eX3_meetTerminal_72 (by omega) ?_
      refine slv_iret eX3_meetTerminal_73 rfl ?_
      refine ⟨?_, ?_⟩ <;> simp only [if_pos h25] <;> rfl
    · refine slv_aload_n eX3_meetTerminal_28 rfl ?_
      refine slv_iconst (v := nI 4) eX3_meetTerminal_29 (by decide) ?_
      refine slv_rV (As := [_]) eX3_meetTerminal_30 lX3_90 rfl rfl (by repeat (first | assumption | exact sl_up_eq | refine sl_up_ne (by first | decide | omega) ?_)) rfl (c_X3_failWith 4) (by decide) (Nat.le_of_ble_eq_true rfl) ?_
      refine slv_iconst (v := (-1)) eX3_meetTerminal_33 (by decide) ?_
      refine slv_iret eX3_meetTerminal_34 rfl ?_
      refine ⟨?_, ?_⟩ <;> simp only [if_neg (Nat.not_lt.mpr h25)] <;> rfl
end GRE

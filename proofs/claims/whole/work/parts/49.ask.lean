/-- a reading that lies at b, whatever it last read by -/
def rg_A (b ho : Nat) (gv rv lv fv : Value) (S : rd_T) (M : sl_M) : Prop := rg_at b ho (rd_fa S) (rd_pl S) (rd_sp S) (rd_mo S) gv rv lv fv (rd_nx S) (rd_en S) (rd_tp S) (rd_stk S) (rd_tok S) (rd_beh S) (nd_c (rd_nd S)) (nd_ru (rd_nd S)) (nd_fi (rd_nd S)) (nd_se (rd_nd S)) (nd_de (rd_nd S)) (nd_si (rd_nd S)) (nd_rl (rd_nd S)) (nd_bi (rd_nd S)) (rd_hn S).1 (rd_hn S).2.1 (rd_hn S).2.2.1 (rd_hn S).2.2.2 (rd_rc S).1 (rd_rc S).2 M
def an_low : an_T := (-2147483648, 1)
def an_read (tl : Bool) (S : rd_T) (tc : Nat) (x : Int32) : an_T := cond tl (match sl_vi x 5 with
  | some 0 => an_ok (nI (rd_fa S))
  | some 1 => an_ok (nI tc)
  | some 2 => an_ok (nI (rd_sp S))
  | some 3 => an_ok (nI (nd_c (rd_nd S)))
  | some 4 => an_ok (nI (rd_mo S))
  | _ => an_no 1) (an_no 1)
def an_reduced (tl : Bool) (D : nd_T) (x : Int32) : an_T := match sl_vr tl x (nd_c D) with
  | none => an_no 1
  | some k => an_ok (nI (nd_ru D k))
def an_node (tl : Bool) (D : nd_T) (x w : Int32) : an_T := match sl_vr tl x (nd_c D) with
  | none => an_low
  | some k => match sl_vi w 5 with
    | some 0 => an_ok (sl_nd (nd_fi D k))
    | some 1 => an_ok (sl_nd (nd_se D k))
    | some 2 => an_ok (nI (nd_de D k))
    | some 3 => an_ok (sl_bi (nd_rl D k))
    | some 4 => an_ok (nd_bi D k)
    | _ => an_low
def an_under (tl : Bool) (D : nd_T) (x w : Int32) : an_T := match sl_vr tl x (nd_c D) with
  | none => an_no 1
  | some k => match sl_vi w (nd_si D k) with
    | none => an_no 1
    | some l => an_ok (sl_nd (no_bl (nd_fi D) (nd_se D) (nd_si D) 60 (some k) l))
def an_root (tl : Bool) (S : rd_T) : Option Nat := cond (tl && decide (rd_fa S = 0)) (rd_beh S 0) none
def an_value (tl : Bool) (S : rd_T) (w : Int32) : an_T := match an_root tl S with
  | none => an_low
  | some k => match sl_vi w 3 with
    | some 0 => an_ok (sl_bi (nd_rl (rd_nd S) k))
    | some 1 => an_ok (nd_bi (rd_nd S) k)
    | some 2 => an_ok (cond (nd_rl (rd_nd S) k) (FP.f2i (nd_bi (rd_nd S) k).toUInt32) (nd_bi (rd_nd S) k))
    | _ => an_low
def an_third (tl : Bool) (S : rd_T) : Int64 × Nat := match an_root tl S with
  | none => (-9223372036854775808, 1)
  | some k => (cond (nd_rl (rd_nd S) k) (FP.ddiv (FP.f2d (nd_bi (rd_nd S) k).toUInt32) 4613937818241073152).toInt64 (FP.ddiv (FP.i2d (nd_bi (rd_nd S) k)) 4613937818241073152).toInt64, 0)
section ASN
variable {fd db sb lf lt : Nat} {sn tl : Bool} {lp : Int32} {M : sl_M} {ho : Nat} {gv rv lv fv : Value} {S : rd_T}
set_option maxRecDepth 100000 in
theorem c_X11_hasNode (hA : rg_A 38 ho gv rv lv fv S M) (hc : nd_c (rd_nd S) ≤ 60) (x : Int32) : sl_R YX11_hasNode 0 [.ref 0, .int x] (ob_set fd db sb sn tl lf lt lp M) (some (.int (sl_bi (sl_vr tl x (nd_c (rd_nd S))).isSome))) (ob_set fd db sb sn tl lf lt lp M) := by
  obtain ⟨k0, k1, k2, k3, k4, k5, k6, k7, k8, k9, k10, k11, k12, k13, k14⟩ := hA
  refine sl_T.of_V (lv := [_, _]) (by decide) rfl (Nat.le_of_ble_eq_true rfl) ?_
  cases hv : sl_vr tl x (nd_c (rd_nd S)) with
  | none =>
    refine slv_aload_n eX11_hasNode_0 rfl ?_
    refine slv_getf eX11_hasNode_1 fX11_212 (by repeat (first | assumption | exact sl_up_eq | refine sl_up_ne (by first | decide | omega) ?_)) rfl ?_
    refine slv_if_eqB eX11_hasNode_4 (fun h4 => ?_) (fun h4 => ?_)
    · refine slv_iconst (v := nI 0) eX11_hasNode_29 (by decide) ?_
      refine slv_zret eX11_hasNode_30 rfl rfl ?_
      exact ⟨rfl, rfl⟩
    · refine slv_iload_n eX11_hasNode_7 rfl ?_
      refine slv_if_lt eX11_hasNode_8 (fun h8 => ?_) (fun h8 => ?_)
      · refine slv_iconst (v := nI 0) eX11_hasNode_29 (by decide) ?_
        refine slv_zret eX11_hasNode_30 rfl rfl ?_
        exact ⟨rfl, rfl⟩
      · refine slv_iload_n eX11_hasNode_11 rfl ?_
        refine slv_aload_n eX11_hasNode_12 rfl ?_
        refine slv_getf eX11_hasNode_13 fX11_61 (by repeat (first | assumption | exact sl_up_eq | refine sl_up_ne (by first | decide | omega) ?_)) rfl ?_
        refine slv_getf eX11_hasNode_16 fX11_232 (by repeat (first | assumption | exact sl_up_eq | refine sl_up_ne (by first | decide | omega) ?_)) rfl ?_
        refine slv_getf eX11_hasNode_19 fX11_236 (by repeat (first | assumption | exact sl_up_eq | refine sl_up_ne (by first | decide | omega) ?_)) rfl ?_
        refine slv_icmp_ge eX11_hasNode_22 (fun h22 => ?_) (fun h22 => ?_)
        · refine slv_iconst (v := nI 0) eX11_hasNode_29 (by decide) ?_
          refine slv_zret eX11_hasNode_30 rfl rfl ?_
          exact ⟨rfl, rfl⟩
        · exfalso
          rcases vr_none (by omega) hv with e | e | e
          · rw [h4] at e; cases e
          · exact h8 e
          · exact h22 (Int32.not_lt.mp e)
  | some k =>
    obtain ⟨hs, hx, hk⟩ := vr_some hv
    subst hs hx
    refine slv_aload_n eX11_hasNode_0 rfl ?_
    refine slv_getf eX11_hasNode_1 fX11_212 (by repeat (first | assumption | exact sl_up_eq | refine sl_up_ne (by first | decide | omega) ?_)) rfl ?_
    refine slv_if_eqB eX11_hasNode_4 (fun h4 => absurd h4 (by decide)) (fun h4 => ?_)
    refine slv_iload_n eX11_hasNode_7 rfl ?_
    refine slv_if_ltN eX11_hasNode_8 (by omega) ?_
    refine slv_iload_n eX11_hasNode_11 rfl ?_
    refine slv_aload_n eX11_hasNode_12 rfl ?_
    refine slv_getf eX11_hasNode_13 fX11_61 (by repeat (first | assumption | exact sl_up_eq | refine sl_up_ne (by first | decide | omega) ?_)) rfl ?_
    refine slv_getf eX11_hasNode_16 fX11_232 (by repeat (first | assumption | exact sl_up_eq | refine sl_up_ne (by first | decide | omega) ?_)) rfl ?_
    refine slv_getf eX11_hasNode_19 fX11_236 (by repeat (first | assumption | exact sl_up_eq | refine sl_up_ne (by first | decide | omega) ?_)) rfl ?_
    refine slv_icmp_geN eX11_hasNode_22 (by omega) (by omega) (fun h22 => absurd h22 (by omega)) (fun h22 => ?_)
    refine slv_iconst (v := nI 1) eX11_hasNode_25 (by decide) ?_
    refine slv_goto eX11_hasNode_26 ?_
    refine slv_zret eX11_hasNode_30 rfl rfl ?_
    exact ⟨rfl, rfl⟩
set_option maxRecDepth 100000 in
theorem c_X7_rootA {b : Nat} (hA : rg_A b ho gv rv lv fv S M) : sl_R YX7_root 0 [.ref b] M (some (.int (sl_nd (rd_beh S 0)))) M := by
  obtain ⟨k0, k1, k2, k3, k4, k5, k6, k7, k8, k9, k10, k11, k12, k13, k14⟩ := hA
  refine sl_T.of_V (lv := [_]) (by decide) rfl (Nat.le_of_ble_eq_true rfl) ?_
  refine slv_aload_n eX7_root_0 rfl ?_
  refine slv_getf eX7_root_1 fX7_25 (by repeat (first | assumption | exact sl_up_eq | refine sl_up_ne (by first | decide | omega) ?_)) rfl ?_
  refine slv_iconst (v := nI 0) eX7_root_4 (by decide) ?_
  refine slv_ialdN eX7_root_5 (by repeat (first | assumption | exact sl_up_eq | refine sl_up_ne (by first | decide | omega) ?_)) (by omega) (by decide) ?_
  refine slv_iret eX7_root_6 rfl ?_
  exact ⟨rfl, rfl⟩
theorem ob_rg {b : Nat} (hb : 0 < b) (hA : rg_A b ho gv rv lv fv S M) : rg_A b ho gv rv lv fv S (ob_set fd db sb sn tl lf lt lp M) := by
  obtain ⟨k0, k1, k2, k3, k4, k5, k6, k7, k8, k9, k10, k11, k12, k13, k14⟩ := hA
  exact ⟨(ob_out (by omega)).trans k0, (ob_out (by omega)).trans k1, (ob_out (by omega)).trans k2, (ob_out (by omega)).trans k3, (ob_out (by omega)).trans k4, (ob_out (by omega)).trans k5, (ob_out (by omega)).trans k6, (ob_out (by omega)).trans k7, (ob_out (by omega)).trans k8, (ob_out (by omega)).trans k9, (ob_out (by omega)).trans k10, (ob_out (by omega)).trans k11, (ob_out (by omega)).trans k12, (ob_out (by omega)).trans k13, (ob_out (by omega)).trans k14⟩
set_option maxRecDepth 100000 in
theorem c_X11_hasValue (hA : rg_A 38 ho gv rv lv fv S M) (hc : nd_c (rd_nd S) ≤ 60) (hfa : rd_fa S < 100) (hr : ∀ k, rd_beh S 0 = some k → k < nd_c (rd_nd S)) : sl_R YX11_hasValue 1 [.ref 0] (ob_set fd db sb sn tl lf lt lp M) (some (.int (sl_bi (an_root tl S).isSome))) (ob_set fd db sb sn tl lf lt lp M) := by
  have hN := fun x => c_X11_hasNode (fd := fd) (db := db) (sb := sb) (sn := sn) (tl := tl) (lf := lf) (lt := lt) (lp := lp) hA hc x
  have hR := c_X7_rootA (ob_rg (fd := fd) (db := db) (sb := sb) (sn := sn) (tl := tl) (lf := lf) (lt := lt) (lp := lp) (by decide) hA)
  have k0 := hA.1
  refine sl_T.of_V (lv := [_]) (by decide) rfl (Nat.le_of_ble_eq_true rfl) ?_
  unfold an_root
  cases tl with
  | false =>
    refine slv_aload_n eX11_hasValue_0 rfl ?_
    refine slv_getf eX11_hasValue_1 fX11_212 (by repeat (first | assumption | exact sl_up_eq | refine sl_up_ne (by first | decide | omega) ?_)) rfl ?_
    refine slv_if_eqB eX11_hasValue_4 (fun h4 => ?_) (fun h4 => absurd h4 (by decide))
    refine slv_iconst (v := nI 0) eX11_hasValue_35 (by decide) ?_
    refine slv_zret eX11_hasValue_36 rfl rfl ?_
    exact ⟨rfl, rfl⟩
  | true =>
    cases hbe : rd_beh S 0 with
    | none =>
      rw [hbe] at hR
      have hN2 := hN (sl_nd none)
      rw [show sl_vr true (sl_nd none) (nd_c (rd_nd S)) = none from rfl] at hN2
      refine slv_aload_n eX11_hasValue_0 rfl ?_
      refine slv_getf eX11_hasValue_1 fX11_212 (by repeat (first | assumption | exact sl_up_eq | refine sl_up_ne (by first | decide | omega) ?_)) rfl ?_
      refine slv_if_eqB eX11_hasValue_4 (fun h4 => absurd h4 (by decide)) (fun h4 => ?_)
      refine slv_aload_n eX11_hasValue_7 rfl ?_
      refine slv_getf eX11_hasValue_8 fX11_61 (by repeat (first | assumption | exact sl_up_eq | refine sl_up_ne (by first | decide | omega) ?_)) rfl ?_
      refine slv_getf eX11_hasValue_11 fX11_223 (by repeat (first | assumption | exact sl_up_eq | refine sl_up_ne (by first | decide | omega) ?_)) rfl ?_
      refine slv_if_neN eX11_hasValue_14 (by omega) (fun h14 => ?_) (fun h14 => ?_)
      · refine slv_iconst (v := nI 0) eX11_hasValue_35 (by decide) ?_
        refine slv_zret eX11_hasValue_36 rfl rfl ?_
        refine ⟨?_, rfl⟩
        cases decide (rd_fa S = 0) <;> rfl
      · refine slv_aload_n eX11_hasValue_17 rfl ?_
        refine slv_aload_n eX11_hasValue_18 rfl ?_
        refine slv_getf eX11_hasValue_19 fX11_61 (by repeat (first | assumption | exact sl_up_eq | refine sl_up_ne (by first | decide | omega) ?_)) rfl ?_
        refine slv_rV (As := []) eX11_hasValue_22 lX11_276 rfl rfl (by repeat (first | assumption | exact sl_up_eq | refine sl_up_ne (by first | decide | omega) ?_)) rfl hR (by decide) (Nat.le_of_ble_eq_true rfl) ?_
        refine slv_rV (As := [_]) eX11_hasValue_25 lX11_244 rfl rfl (by repeat (first | assumption | exact sl_up_eq | refine sl_up_ne (by first | decide | omega) ?_)) rfl hN2 (by decide) (Nat.le_of_ble_eq_true rfl) ?_
        refine slv_if_eqB eX11_hasValue_28 (fun h28 => ?_) (fun h28 => absurd h28 (by decide))
        refine slv_iconst (v := nI 0) eX11_hasValue_35 (by decide) ?_
        refine slv_zret eX11_hasValue_36 rfl rfl ?_
        refine ⟨?_, rfl⟩
        cases decide (rd_fa S = 0) <;> rfl
    | some k =>
      rw [hbe] at hR
      have hk := hr k hbe
      have hN2 := hN (sl_nd (some k))
      rw [show sl_vr true (sl_nd (some k)) (nd_c (rd_nd S)) = some k from vi_nI hk (by omega)] at hN2
      refine slv_aload_n eX11_hasValue_0 rfl ?_
      refine slv_getf eX11_hasValue_1 fX11_212 (by repeat (first | assumption | exact sl_up_eq | refine sl_up_ne (by first | decide | omega) ?_)) rfl ?_
      refine slv_if_eqB eX11_hasValue_4 (fun h4 => absurd h4 (by decide)) (fun h4 => ?_)
      refine slv_aload_n eX11_hasValue_7 rfl ?_
      refine slv_getf eX11_hasValue_8 fX11_61 (by repeat (first | assumption | exact sl_up_eq | refine sl_up_ne (by first | decide | omega) ?_)) rfl ?_
      refine slv_getf eX11_hasValue_11 fX11_223 (by repeat (first | assumption | exact sl_up_eq | refine sl_up_ne (by first | decide | omega) ?_)) rfl ?_
      refine slv_if_neN eX11_hasValue_14 (by omega) (fun h14 => ?_) (fun h14 => ?_)
      · refine slv_iconst (v := nI 0) eX11_hasValue_35 (by decide) ?_
        refine slv_zret eX11_hasValue_36 rfl rfl ?_
        refine ⟨?_, rfl⟩
        first | (rw [decide_eq_true h14]; rfl) | (rw [decide_eq_false h14]; rfl) | (rw [decide_eq_false (Nat.pos_iff_ne_zero.mp h14)]; rfl)
      · refine slv_aload_n eX11_hasValue_17 rfl ?_
        refine slv_aload_n eX11_hasValue_18 rfl ?_
        refine slv_getf eX11_hasValue_19 fX11_61 (by repeat (first | assumption | exact sl_up_eq | refine sl_up_ne (by first | decide | omega) ?_)) rfl ?_
        refine slv_rV (As := []) eX11_hasValue_22 lX11_276 rfl rfl (by repeat (first | assumption | exact sl_up_eq | refine sl_up_ne (by first | decide | omega) ?_)) rfl hR (by decide) (Nat.le_of_ble_eq_true rfl) ?_
        refine slv_rV (As := [_]) eX11_hasValue_25 lX11_244 rfl rfl (by repeat (first | assumption | exact sl_up_eq | refine sl_up_ne (by first | decide | omega) ?_)) rfl hN2 (by decide) (Nat.le_of_ble_eq_true rfl) ?_
        refine slv_if_eqB eX11_hasValue_28 (fun h28 => absurd h28 sl_tf) (fun h28 => ?_)
        refine slv_iconst (v := nI 1) eX11_hasValue_31 (by decide) ?_
        refine slv_goto eX11_hasValue_32 ?_
        refine slv_zret eX11_hasValue_36 rfl rfl ?_
        refine ⟨?_, rfl⟩
        first | (rw [decide_eq_true h14]; rfl) | (rw [decide_eq_false h14]; rfl) | (rw [decide_eq_false (Nat.pos_iff_ne_zero.mp h14)]; rfl)
theorem ob_fm {ln cn at_ : Nat} {bd : Option Nat} {sg pl : Nat → Nat} {rl : Nat → Bool} {bt : Nat → Int32} (h : fm_at ln bd cn at_ sg pl rl bt M) : fm_at ln bd cn at_ sg pl rl bt (ob_set fd db sb sn tl lf lt lp M) := by
  obtain ⟨a0, a1, a2, a3, a4⟩ := h
  exact ⟨(ob_out (by omega)).trans a0, (ob_out (by omega)).trans a1, (ob_out (by omega)).trans a2, (ob_out (by omega)).trans a3, (ob_out (by omega)).trans a4⟩
set_option maxRecDepth 100000 in
theorem c_X11_read (hA : rg_A 38 ho gv rv lv fv S M) {ln cn at_ : Nat} {bd : Option Nat} {sg pl : Nat → Nat} {rl : Nat → Bool} {bt : Nat → Int32} (hf : tl = true → fm_at ln bd cn at_ sg pl rl bt M) (hbd : ∀ k, bd = some k → k < 2147483648) (x : Int32) : sl_R YX11_read 1 [.ref 0, .int x] (ob_set fd db sb sn tl lf lt lp M) (some (.int (an_read tl S (if bd = none then cn else 0) x).1)) (ob_set fd db sb sn tl lf (an_read tl S (if bd = none then cn else 0) x).2 lp M) := by
  obtain ⟨k0, k1, k2, k3, k4, k5, k6, k7, k8, k9, k10, k11, k12, k13, k14⟩ := hA
  refine sl_T.of_V (lv := [_, _]) (by decide) rfl (Nat.le_of_ble_eq_true rfl) ?_
  unfold an_read
  cases tl with
  | false =>
    refine slv_aload_n eX11_read_0 rfl ?_
    refine slv_getf eX11_read_1 fX11_212 (by repeat (first | assumption | exact sl_up_eq | refine sl_up_ne (by first | decide | omega) ?_)) rfl ?_
    refine slv_if_neB eX11_read_4 (fun h4 => absurd h4 (by decide)) (fun h4 => ?_)
    refine slv_aload_n eX11_read_7 rfl ?_
    refine slv_iconst (v := nI 1) eX11_read_8 (by decide) ?_
    refine slv_rV (As := [_]) eX11_read_9 lX11_76 rfl rfl (by repeat (first | assumption | exact sl_up_eq | refine sl_up_ne (by first | decide | omega) ?_)) rfl (c_X11_refuse 1) (by decide) (Nat.le_of_ble_eq_true rfl) ?_
    refine slv_iret eX11_read_12 rfl ?_
    exact ⟨rfl, rfl⟩
  | true =>
    have hf' := hf rfl
    have hT := c_X1_tokenCount (ob_fm (fd := fd) (db := db) (sb := sb) (sn := sn) (tl := true) (lf := lf) (lt := lt) (lp := lp) hf') hbd
    have f0 := hf'.1
    cases hv : sl_vi x 5 with
    | none =>
      refine slv_aload_n eX11_read_0 rfl ?_
      refine slv_getf eX11_read_1 fX11_212 (by repeat (first | assumption | exact sl_up_eq | refine sl_up_ne (by first | decide | omega) ?_)) rfl ?_
      refine slv_if_neB eX11_read_4 (fun h4 => ?_) (fun h4 => absurd h4 (by decide))
      refine slv_iload_n eX11_read_13 rfl ?_
      refine slv_tableOut (t := 111) eX11_read_14 (by have := vi_none hv; omega) (by decide) ?_
      refine slv_aload_n eX11_read_111 rfl ?_
      refine slv_iconst (v := nI 1) eX11_read_112 (by decide) ?_
      refine slv_rV (As := [_]) eX11_read_113 lX11_76 rfl rfl (by repeat (first | assumption | exact sl_up_eq | refine sl_up_ne (by first | decide | omega) ?_)) rfl (c_X11_refuse 1) (by decide) (Nat.le_of_ble_eq_true rfl) ?_
      refine slv_iret eX11_read_116 rfl ?_
      exact ⟨rfl, rfl⟩
    | some k =>
      obtain ⟨hx, hk⟩ := vi_some hv
      subst hx
      rcases (show k = 0 ∨ k = 1 ∨ k = 2 ∨ k = 3 ∨ k = 4 by omega) with e | e | e | e | e <;> subst e
      · refine slv_aload_n eX11_read_0 rfl ?_
        refine slv_getf eX11_read_1 fX11_212 (by repeat (first | assumption | exact sl_up_eq | refine sl_up_ne (by first | decide | omega) ?_)) rfl ?_
        refine slv_if_neB eX11_read_4 (fun h4 => ?_) (fun h4 => absurd h4 (by decide))
        refine slv_iload_n eX11_read_13 rfl ?_
        refine slv_tableIn (off := 34) (t := 48) eX11_read_14 (by decide) (by decide) (by decide) (by decide) ?_
        refine slv_aload_n eX11_read_48 rfl ?_
        refine slv_aload_n eX11_read_49 rfl ?_
        refine slv_getf eX11_read_50 fX11_61 (by repeat (first | assumption | exact sl_up_eq | refine sl_up_ne (by first | decide | omega) ?_)) rfl ?_
        refine slv_getf eX11_read_53 fX11_223 (by repeat (first | assumption | exact sl_up_eq | refine sl_up_ne (by first | decide | omega) ?_)) rfl ?_
        refine slv_rV (As := [_]) eX11_read_56 lX11_110 rfl rfl (by repeat (first | assumption | exact sl_up_eq | refine sl_up_ne (by first | decide | omega) ?_)) rfl (c_X11_grant _) (by decide) (Nat.le_of_ble_eq_true rfl) ?_
        refine slv_iret eX11_read_59 rfl ?_
        exact ⟨rfl, rfl⟩
      · refine slv_aload_n eX11_read_0 rfl ?_
        refine slv_getf eX11_read_1 fX11_212 (by repeat (first | assumption | exact sl_up_eq | refine sl_up_ne (by first | decide | omega) ?_)) rfl ?_
        refine slv_if_neB eX11_read_4 (fun h4 => ?_) (fun h4 => absurd h4 (by decide))
        refine slv_iload_n eX11_read_13 rfl ?_
        refine slv_tableIn (off := 46) (t := 60) eX11_read_14 (by decide) (by decide) (by decide) (by decide) ?_
        refine slv_aload_n eX11_read_60 rfl ?_
        refine slv_aload_n eX11_read_61 rfl ?_
        refine slv_getf eX11_read_62 fX11_54 (by repeat (first | assumption | exact sl_up_eq | refine sl_up_ne (by first | decide | omega) ?_)) rfl ?_
        refine slv_rV (As := []) eX11_read_65 lX11_226 rfl rfl (by repeat (first | assumption | exact sl_up_eq | refine sl_up_ne (by first | decide | omega) ?_)) rfl hT (by decide) (Nat.le_of_ble_eq_true rfl) ?_
        refine slv_rV (As := [_]) eX11_read_68 lX11_110 rfl rfl (by repeat (first | assumption | exact sl_up_eq | refine sl_up_ne (by first | decide | omega) ?_)) rfl (c_X11_grant _) (by decide) (Nat.le_of_ble_eq_true rfl) ?_
        refine slv_iret eX11_read_71 rfl ?_
        exact ⟨rfl, rfl⟩
      · refine slv_aload_n eX11_read_0 rfl ?_
        refine slv_getf eX11_read_1 fX11_212 (by repeat (first | assumption | exact sl_up_eq | refine sl_up_ne (by first | decide | omega) ?_)) rfl ?_
        refine slv_if_neB eX11_read_4 (fun h4 => ?_) (fun h4 => absurd h4 (by decide))
        refine slv_iload_n eX11_read_13 rfl ?_
        refine slv_tableIn (off := 58) (t := 72) eX11_read_14 (by decide) (by decide) (by decide) (by decide) ?_
        refine slv_aload_n eX11_read_72 rfl ?_
        refine slv_aload_n eX11_read_73 rfl ?_
        refine slv_getf eX11_read_74 fX11_61 (by repeat (first | assumption | exact sl_up_eq | refine sl_up_ne (by first | decide | omega) ?_)) rfl ?_
        refine slv_getf eX11_read_77 fX11_229 (by repeat (first | assumption | exact sl_up_eq | refine sl_up_ne (by first | decide | omega) ?_)) rfl ?_
        refine slv_rV (As := [_]) eX11_read_80 lX11_110 rfl rfl (by repeat (first | assumption | exact sl_up_eq | refine sl_up_ne (by first | decide | omega) ?_)) rfl (c_X11_grant _) (by decide) (Nat.le_of_ble_eq_true rfl) ?_
        refine slv_iret eX11_read_83 rfl ?_
        exact ⟨rfl, rfl⟩
      · refine slv_aload_n eX11_read_0 rfl ?_
        refine slv_getf eX11_read_1 fX11_212 (by repeat (first | assumption | exact sl_up_eq | refine sl_up_ne (by first | decide | omega) ?_)) rfl ?_
        refine slv_if_neB eX11_read_4 (fun h4 => ?_) (fun h4 => absurd h4 (by decide))
        refine slv_iload_n eX11_read_13 rfl ?_
        refine slv_tableIn (off := 70) (t := 84) eX11_read_14 (by decide) (by decide) (by decide) (by decide) ?_
        refine slv_aload_n eX11_read_84 rfl ?_
        refine slv_aload_n eX11_read_85 rfl ?_
        refine slv_getf eX11_read_86 fX11_61 (by repeat (first | assumption | exact sl_up_eq | refine sl_up_ne (by first | decide | omega) ?_)) rfl ?_
        refine slv_getf eX11_read_89 fX11_232 (by repeat (first | assumption | exact sl_up_eq | refine sl_up_ne (by first | decide | omega) ?_)) rfl ?_
        refine slv_getf eX11_read_92 fX11_236 (by repeat (first | assumption | exact sl_up_eq | refine sl_up_ne (by first | decide | omega) ?_)) rfl ?_
        refine slv_rV (As := [_]) eX11_read_95 lX11_110 rfl rfl (by repeat (first | assumption | exact sl_up_eq | refine sl_up_ne (by first | decide | omega) ?_)) rfl (c_X11_grant _) (by decide) (Nat.le_of_ble_eq_true rfl) ?_
        refine slv_iret eX11_read_98 rfl ?_
        exact ⟨rfl, rfl⟩
      · refine slv_aload_n eX11_read_0 rfl ?_
        refine slv_getf eX11_read_1 fX11_212 (by repeat (first | assumption | exact sl_up_eq | refine sl_up_ne (by first | decide | omega) ?_)) rfl ?_
        refine slv_if_neB eX11_read_4 (fun h4 => ?_) (fun h4 => absurd h4 (by decide))
        refine slv_iload_n eX11_read_13 rfl ?_
        refine slv_tableIn (off := 85) (t := 99) eX11_read_14 (by decide) (by decide) (by decide) (by decide) ?_
        refine slv_aload_n eX11_read_99 rfl ?_
        refine slv_aload_n eX11_read_100 rfl ?_
        refine slv_getf eX11_read_101 fX11_61 (by repeat (first | assumption | exact sl_up_eq | refine sl_up_ne (by first | decide | omega) ?_)) rfl ?_
        refine slv_getf eX11_read_104 fX11_241 (by repeat (first | assumption | exact sl_up_eq | refine sl_up_ne (by first | decide | omega) ?_)) rfl ?_
        refine slv_rV (As := [_]) eX11_read_107 lX11_110 rfl rfl (by repeat (first | assumption | exact sl_up_eq | refine sl_up_ne (by first | decide | omega) ?_)) rfl (c_X11_grant _) (by decide) (Nat.le_of_ble_eq_true rfl) ?_
        refine slv_iret eX11_read_110 rfl ?_
        exact ⟨rfl, rfl⟩
set_option maxRecDepth 100000 in
theorem c_X11_reduced (hA : rg_A 38 ho gv rv lv fv S M) (hc : nd_c (rd_nd S) ≤ 60) (x : Int32) : sl_R YX11_reduced 1 [.ref 0, .int x] (ob_set fd db sb sn tl lf lt lp M) (some (.int (an_reduced tl (rd_nd S) x).1)) (ob_set fd db sb sn tl lf (an_reduced tl (rd_nd S) x).2 lp M) := by
  have hN := c_X11_hasNode (fd := fd) (db := db) (sb := sb) (sn := sn) (tl := tl) (lf := lf) (lt := lt) (lp := lp) hA hc x
  obtain ⟨k0, k1, k2, k3, k4, k5, k6, k7, k8, k9, k10, k11, k12, k13, k14⟩ := hA
  refine sl_T.of_V (lv := [_, _]) (by decide) rfl (Nat.le_of_ble_eq_true rfl) ?_
  unfold an_reduced
  cases hv : sl_vr tl x (nd_c (rd_nd S)) with
  | none =>
    rw [hv] at hN
    refine slv_aload_n eX11_reduced_0 rfl ?_
    refine slv_iload_n eX11_reduced_1 rfl ?_
    refine slv_rV (As := [_]) eX11_reduced_2 lX11_244 rfl rfl (by repeat (first | assumption | exact sl_up_eq | refine sl_up_ne (by first | decide | omega) ?_)) rfl hN (by decide) (Nat.le_of_ble_eq_true rfl) ?_
    refine slv_if_eqB eX11_reduced_5 (fun h5 => ?_) (fun h5 => absurd h5 (by decide))
    refine slv_aload_n eX11_reduced_27 rfl ?_
    refine slv_iconst (v := nI 1) eX11_reduced_28 (by decide) ?_
    refine slv_rV (As := [_]) eX11_reduced_29 lX11_76 rfl rfl (by repeat (first | assumption | exact sl_up_eq | refine sl_up_ne (by first | decide | omega) ?_)) rfl (c_X11_refuse 1) (by decide) (Nat.le_of_ble_eq_true rfl) ?_
    refine slv_iret eX11_reduced_32 rfl ?_
    exact ⟨rfl, rfl⟩
  | some k =>
    rw [hv] at hN
    obtain ⟨-, hx, hk⟩ := vr_some hv
    subst hx
    refine slv_aload_n eX11_reduced_0 rfl ?_
    refine slv_iload_n eX11_reduced_1 rfl ?_
    refine slv_rV (As := [_]) eX11_reduced_2 lX11_244 rfl rfl (by repeat (first | assumption | exact sl_up_eq | refine sl_up_ne (by first | decide | omega) ?_)) rfl hN (by decide) (Nat.le_of_ble_eq_true rfl) ?_
    refine slv_if_eqB eX11_reduced_5 (fun h5 => absurd h5 sl_tf) (fun h5 => ?_)
    refine slv_aload_n eX11_reduced_8 rfl ?_
    refine slv_aload_n eX11_reduced_9 rfl ?_
    refine slv_getf eX11_reduced_10 fX11_61 (by repeat (first | assumption | exact sl_up_eq | refine sl_up_ne (by first | decide | omega) ?_)) rfl ?_
    refine slv_getf eX11_reduced_13 fX11_232 (by repeat (first | assumption | exact sl_up_eq | refine sl_up_ne (by first | decide | omega) ?_)) rfl ?_
    refine slv_getf eX11_reduced_16 fX11_247 (by repeat (first | assumption | exact sl_up_eq | refine sl_up_ne (by first | decide | omega) ?_)) rfl ?_
    refine slv_iload_n eX11_reduced_19 rfl ?_
    refine slv_ialdN eX11_reduced_20 (by repeat (first | assumption | exact sl_up_eq | refine sl_up_ne (by first | decide | omega) ?_)) (by omega) (by decide) ?_
    refine slv_rV (As := [_]) eX11_reduced_21 lX11_110 rfl rfl (by repeat (first | assumption | exact sl_up_eq | refine sl_up_ne (by first | decide | omega) ?_)) rfl (c_X11_grant _) (by decide) (Nat.le_of_ble_eq_true rfl) ?_
    refine slv_goto eX11_reduced_24 ?_
    refine slv_iret eX11_reduced_32 rfl ?_
    exact ⟨rfl, rfl⟩
set_option maxRecDepth 100000 in
theorem c_X11_node (hA : rg_A 38 ho gv rv lv fv S M) (hc : nd_c (rd_nd S) ≤ 60) (x w : Int32) : sl_R YX11_node 1 [.ref 0, .int x, .int w] (ob_set fd db sb sn tl lf lt lp M) (some (.int (an_node tl (rd_nd S) x w).1)) (ob_set fd db sb sn tl lf (an_node tl (rd_nd S) x w).2 lp M) := by
  have hN := c_X11_hasNode (fd := fd) (db := db) (sb := sb) (sn := sn) (tl := tl) (lf := lf) (lt := lt) (lp := lp) hA hc x
  obtain ⟨k0, k1, k2, k3, k4, k5, k6, k7, k8, k9, k10, k11, k12, k13, k14⟩ := hA
  refine sl_T.of_V (lv := [_, _, _, _]) (by decide) rfl (Nat.le_of_ble_eq_true rfl) ?_
  unfold an_node
  cases hv : sl_vr tl x (nd_c (rd_nd S)) with
  | none =>
    rw [hv] at hN
    refine slv_aload_n eX11_node_0 rfl ?_
    refine slv_iload_n eX11_node_1 rfl ?_
    refine slv_rV (As := [_]) eX11_node_2 lX11_244 rfl rfl (by repeat (first | assumption | exact sl_up_eq | refine sl_up_ne (by first | decide | omega) ?_)) rfl hN (by decide) (Nat.le_of_ble_eq_true rfl) ?_
    refine slv_if_eqB eX11_node_5 (fun h5 => ?_) (fun h5 => absurd h5 (by decide))
    refine slv_aload_n eX11_node_17 rfl ?_
    refine slv_iconst (v := nI 1) eX11_node_18 (by decide) ?_
    refine slv_rV (As := [_]) eX11_node_19 lX11_76 rfl rfl (by repeat (first | assumption | exact sl_up_eq | refine sl_up_ne (by first | decide | omega) ?_)) rfl (c_X11_refuse 1) (by decide) (Nat.le_of_ble_eq_true rfl) ?_
    refine slv_pop eX11_node_22 rfl ?_
    refine slv_ldc eX11_node_23 kX11_251 ?_
    refine slv_iret eX11_node_25 rfl ?_
    exact ⟨rfl, rfl⟩
  | some k =>
    rw [hv] at hN
    obtain ⟨-, hx, hk⟩ := vr_some hv
    subst hx
    simp only
    cases hw : sl_vi w 5 with
    | none =>
      have hvv := vi_lt (by omega) hw
      refine slv_aload_n eX11_node_0 rfl ?_
      refine slv_iload_n eX11_node_1 rfl ?_
      refine slv_rV (As := [_]) eX11_node_2 lX11_244 rfl rfl (by repeat (first | assumption | exact sl_up_eq | refine sl_up_ne (by first | decide | omega) ?_)) rfl hN (by decide) (Nat.le_of_ble_eq_true rfl) ?_
      refine slv_if_eqB eX11_node_5 (fun h5 => absurd h5 sl_tf) (fun h5 => ?_)
      refine slv_iload_n eX11_node_8 rfl ?_
      refine slv_if_lt eX11_node_9 (fun h9 => ?_) (fun h9 => ?_)
      · refine slv_aload_n eX11_node_17 rfl ?_
        refine slv_iconst (v := nI 1) eX11_node_18 (by decide) ?_
        refine slv_rV (As := [_]) eX11_node_19 lX11_76 rfl rfl (by repeat (first | assumption | exact sl_up_eq | refine sl_up_ne (by first | decide | omega) ?_)) rfl (c_X11_refuse 1) (by decide) (Nat.le_of_ble_eq_true rfl) ?_
        refine slv_pop eX11_node_22 rfl ?_
        refine slv_ldc eX11_node_23 kX11_251 ?_
        refine slv_iret eX11_node_25 rfl ?_
        exact ⟨rfl, rfl⟩
      · refine slv_iload_n eX11_node_12 rfl ?_
        refine slv_iconst (v := nI 4) eX11_node_13 (by decide) ?_
        refine slv_icmp_le eX11_node_14 (fun h14 => ?_) (fun h14 => ?_)
        · exact absurd hvv (fun q => q.elim h9 (fun q => q (vi_le1 (n := 4) (by omega) h14)))
        · refine slv_aload_n eX11_node_17 rfl ?_
          refine slv_iconst (v := nI 1) eX11_node_18 (by decide) ?_
          refine slv_rV (As := [_]) eX11_node_19 lX11_76 rfl rfl (by repeat (first | assumption | exact sl_up_eq | refine sl_up_ne (by first | decide | omega) ?_)) rfl (c_X11_refuse 1) (by decide) (Nat.le_of_ble_eq_true rfl) ?_
          refine slv_pop eX11_node_22 rfl ?_
          refine slv_ldc eX11_node_23 kX11_251 ?_
          refine slv_iret eX11_node_25 rfl ?_
          exact ⟨rfl, rfl⟩
    | some j =>
      obtain ⟨hx, hj⟩ := vi_some hw
      subst hx
      rcases (show j = 0 ∨ j = 1 ∨ j = 2 ∨ j = 3 ∨ j = 4 by omega) with e | e | e | e | e <;> subst e
      · refine slv_aload_n eX11_node_0 rfl ?_
        refine slv_iload_n eX11_node_1 rfl ?_
        refine slv_rV (As := [_]) eX11_node_2 lX11_244 rfl rfl (by repeat (first | assumption | exact sl_up_eq | refine sl_up_ne (by first | decide | omega) ?_)) rfl hN (by decide) (Nat.le_of_ble_eq_true rfl) ?_
        refine slv_if_eqB eX11_node_5 (fun h5 => absurd h5 sl_tf) (fun h5 => ?_)
        refine slv_iload_n eX11_node_8 rfl ?_
        refine slv_if_ltN eX11_node_9 (by omega) ?_
        refine slv_iload_n eX11_node_12 rfl ?_
        refine slv_iconst (v := nI 4) eX11_node_13 (by decide) ?_
        refine slv_icmp_le eX11_node_14 (fun h14 => ?_) (fun h14 => absurd (by decide) h14)
        refine slv_aload_n eX11_node_26 rfl ?_
        refine slv_getf eX11_node_27 fX11_61 (by repeat (first | assumption | exact sl_up_eq | refine sl_up_ne (by first | decide | omega) ?_)) rfl ?_
        refine slv_getf eX11_node_30 fX11_232 (by repeat (first | assumption | exact sl_up_eq | refine sl_up_ne (by first | decide | omega) ?_)) rfl ?_
        refine slv_astore_n (i := 3) (lv' := [_, _, _, _]) eX11_node_33 rfl (by decide) rfl ?_
        refine slv_iload_n eX11_node_34 rfl ?_
        refine slv_tableIn (off := 29) (t := 64) eX11_node_35 (by decide) (by decide) (by decide) (by decide) ?_
        refine slv_aload_n eX11_node_64 rfl ?_
        refine slv_aload_n eX11_node_65 rfl ?_
        refine slv_getf eX11_node_66 fX11_252 (by repeat (first | assumption | exact sl_up_eq | refine sl_up_ne (by first | decide | omega) ?_)) rfl ?_
        refine slv_iload_n eX11_node_69 rfl ?_
        refine slv_ialdN eX11_node_70 (by repeat (first | assumption | exact sl_up_eq | refine sl_up_ne (by first | decide | omega) ?_)) (by omega) (by decide) ?_
        refine slv_rV (As := [_]) eX11_node_71 lX11_110 rfl rfl (by repeat (first | assumption | exact sl_up_eq | refine sl_up_ne (by first | decide | omega) ?_)) rfl (c_X11_grant _) (by decide) (Nat.le_of_ble_eq_true rfl) ?_
        refine slv_iret eX11_node_74 rfl ?_
        exact ⟨rfl, rfl⟩
      · refine slv_aload_n eX11_node_0 rfl ?_
        refine slv_iload_n eX11_node_1 rfl ?_
        refine slv_rV (As := [_]) eX11_node_2 lX11_244 rfl rfl (by repeat (first | assumption | exact sl_up_eq | refine sl_up_ne (by first | decide | omega) ?_)) rfl hN (by decide) (Nat.le_of_ble_eq_true rfl) ?_
        refine slv_if_eqB eX11_node_5 (fun h5 => absurd h5 sl_tf) (fun h5 => ?_)
        refine slv_iload_n eX11_node_8 rfl ?_
        refine slv_if_ltN eX11_node_9 (by omega) ?_
        refine slv_iload_n eX11_node_12 rfl ?_
        refine slv_iconst (v := nI 4) eX11_node_13 (by decide) ?_
        refine slv_icmp_le eX11_node_14 (fun h14 => ?_) (fun h14 => absurd (by decide) h14)
        refine slv_aload_n eX11_node_26 rfl ?_
        refine slv_getf eX11_node_27 fX11_61 (by repeat (first | assumption | exact sl_up_eq | refine sl_up_ne (by first | decide | omega) ?_)) rfl ?_
        refine slv_getf eX11_node_30 fX11_232 (by repeat (first | assumption | exact sl_up_eq | refine sl_up_ne (by first | decide | omega) ?_)) rfl ?_
        refine slv_astore_n (i := 3) (lv' := [_, _, _, _]) eX11_node_33 rfl (by decide) rfl ?_
        refine slv_iload_n eX11_node_34 rfl ?_
        refine slv_tableIn (off := 40) (t := 75) eX11_node_35 (by decide) (by decide) (by decide) (by decide) ?_
        refine slv_aload_n eX11_node_75 rfl ?_
        refine slv_aload_n eX11_node_76 rfl ?_
        refine slv_getf eX11_node_77 fX11_255 (by repeat (first | assumption | exact sl_up_eq | refine sl_up_ne (by first | decide | omega) ?_)) rfl ?_
        refine slv_iload_n eX11_node_80 rfl ?_
        refine slv_ialdN eX11_node_81 (by repeat (first | assumption | exact sl_up_eq | refine sl_up_ne (by first | decide | omega) ?_)) (by omega) (by decide) ?_
        refine slv_rV (As := [_]) eX11_node_82 lX11_110 rfl rfl (by repeat (first | assumption | exact sl_up_eq | refine sl_up_ne (by first | decide | omega) ?_)) rfl (c_X11_grant _) (by decide) (Nat.le_of_ble_eq_true rfl) ?_
        refine slv_iret eX11_node_85 rfl ?_
        exact ⟨rfl, rfl⟩
      · refine slv_aload_n eX11_node_0 rfl ?_
        refine slv_iload_n eX11_node_1 rfl ?_
        refine slv_rV (As := [_]) eX11_node_2 lX11_244 rfl rfl (by repeat (first | assumption | exact sl_up_eq | refine sl_up_ne (by first | decide | omega) ?_)) rfl hN (by decide) (Nat.le_of_ble_eq_true rfl) ?_
        refine slv_if_eqB eX11_node_5 (fun h5 => absurd h5 sl_tf) (fun h5 => ?_)
        refine slv_iload_n eX11_node_8 rfl ?_
        refine slv_if_ltN eX11_node_9 (by omega) ?_
        refine slv_iload_n eX11_node_12 rfl ?_
        refine slv_iconst (v := nI 4) eX11_node_13 (by decide) ?_
        refine slv_icmp_le eX11_node_14 (fun h14 => ?_) (fun h14 => absurd (by decide) h14)
        refine slv_aload_n eX11_node_26 rfl ?_
        refine slv_getf eX11_node_27 fX11_61 (by repeat (first | assumption | exact sl_up_eq | refine sl_up_ne (by first | decide | omega) ?_)) rfl ?_
        refine slv_getf eX11_node_30 fX11_232 (by repeat (first | assumption | exact sl_up_eq | refine sl_up_ne (by first | decide | omega) ?_)) rfl ?_
        refine slv_astore_n (i := 3) (lv' := [_, _, _, _]) eX11_node_33 rfl (by decide) rfl ?_
        refine slv_iload_n eX11_node_34 rfl ?_
        refine slv_tableIn (off := 51) (t := 86) eX11_node_35 (by decide) (by decide) (by decide) (by decide) ?_
        refine slv_aload_n eX11_node_86 rfl ?_
        refine slv_aload_n eX11_node_87 rfl ?_
        refine slv_getf eX11_node_88 fX11_258 (by repeat (first | assumption | exact sl_up_eq | refine sl_up_ne (by first | decide | omega) ?_)) rfl ?_
        refine slv_iload_n eX11_node_91 rfl ?_
        refine slv_ialdN eX11_node_92 (by repeat (first | assumption | exact sl_up_eq | refine sl_up_ne (by first | decide | omega) ?_)) (by omega) (by decide) ?_
        refine slv_rV (As := [_]) eX11_node_93 lX11_110 rfl rfl (by repeat (first | assumption | exact sl_up_eq | refine sl_up_ne (by first | decide | omega) ?_)) rfl (c_X11_grant _) (by decide) (Nat.le_of_ble_eq_true rfl) ?_
        refine slv_iret eX11_node_96 rfl ?_
        exact ⟨rfl, rfl⟩
      · refine slv_aload_n eX11_node_0 rfl ?_
        refine slv_iload_n eX11_node_1 rfl ?_
        refine slv_rV (As := [_]) eX11_node_2 lX11_244 rfl rfl (by repeat (first | assumption | exact sl_up_eq | refine sl_up_ne (by first | decide | omega) ?_)) rfl hN (by decide) (Nat.le_of_ble_eq_true rfl) ?_
        refine slv_if_eqB eX11_node_5 (fun h5 => absurd h5 sl_tf) (fun h5 => ?_)
        refine slv_iload_n eX11_node_8 rfl ?_
        refine slv_if_ltN eX11_node_9 (by omega) ?_
        refine slv_iload_n eX11_node_12 rfl ?_
        refine slv_iconst (v := nI 4) eX11_node_13 (by decide) ?_
        refine slv_icmp_le eX11_node_14 (fun h14 => ?_) (fun h14 => absurd (by decide) h14)
        refine slv_aload_n eX11_node_26 rfl ?_
        refine slv_getf eX11_node_27 fX11_61 (by repeat (first | assumption | exact sl_up_eq | refine sl_up_ne (by first | decide | omega) ?_)) rfl ?_
        refine slv_getf eX11_node_30 fX11_232 (by repeat (first | assumption | exact sl_up_eq | refine sl_up_ne (by first | decide | omega) ?_)) rfl ?_
        refine slv_astore_n (i := 3) (lv' := [_, _, _, _]) eX11_node_33 rfl (by decide) rfl ?_
        refine slv_iload_n eX11_node_34 rfl ?_
        refine slv_tableIn (off := 62) (t := 97) eX11_node_35 (by decide) (by decide) (by decide) (by decide) ?_
        refine slv_aload_n eX11_node_97 rfl ?_
        refine slv_aload_n eX11_node_98 rfl ?_
        refine slv_getf eX11_node_99 fX11_261 (by repeat (first | assumption | exact sl_up_eq | refine sl_up_ne (by first | decide | omega) ?_)) rfl ?_
        refine slv_iload_n eX11_node_102 rfl ?_
        refine slv_zaldN eX11_node_103 (by repeat (first | assumption | exact sl_up_eq | refine sl_up_ne (by first | decide | omega) ?_)) (by omega) (by decide) ?_
        refine slv_if_eqB eX11_node_104 (fun h104 => ?_) (fun h104 => ?_)
        · refine slv_iconst (v := nI 0) eX11_node_111 (by decide) ?_
          refine slv_rV (As := [_]) eX11_node_112 lX11_110 rfl rfl (by repeat (first | assumption | exact sl_up_eq | refine sl_up_ne (by first | decide | omega) ?_)) rfl (c_X11_grant _) (by decide) (Nat.le_of_ble_eq_true rfl) ?_
          refine slv_iret eX11_node_115 rfl ?_
          exact ⟨by rw [h104]; rfl, rfl⟩
        · refine slv_iconst (v := nI 1) eX11_node_107 (by decide) ?_
          refine slv_goto eX11_node_108 ?_
          refine slv_rV (As := [_]) eX11_node_112 lX11_110 rfl rfl (by repeat (first | assumption | exact sl_up_eq | refine sl_up_ne (by first | decide | omega) ?_)) rfl (c_X11_grant _) (by decide) (Nat.le_of_ble_eq_true rfl) ?_
          refine slv_iret eX11_node_115 rfl ?_
          exact ⟨by rw [h104]; rfl, rfl⟩
      · refine slv_aload_n eX11_node_0 rfl ?_
        refine slv_iload_n eX11_node_1 rfl ?_
        refine slv_rV (As := [_]) eX11_node_2 lX11_244 rfl rfl (by repeat (first | assumption | exact sl_up_eq | refine sl_up_ne (by first | decide | omega) ?_)) rfl hN (by decide) (Nat.le_of_ble_eq_true rfl) ?_
        refine slv_if_eqB eX11_node_5 (fun h5 => absurd h5 sl_tf) (fun h5 => ?_)
        refine slv_iload_n eX11_node_8 rfl ?_
        refine slv_if_ltN eX11_node_9 (by omega) ?_
        refine slv_iload_n eX11_node_12 rfl ?_
        refine slv_iconst (v := nI 4) eX11_node_13 (by decide) ?_
        refine slv_icmp_le eX11_node_14 (fun h14 => ?_) (fun h14 => absurd (by decide) h14)
        refine slv_aload_n eX11_node_26 rfl ?_
        refine slv_getf eX11_node_27 fX11_61 (by repeat (first | assumption | exact sl_up_eq | refine sl_up_ne (by first | decide | omega) ?_)) rfl ?_
        refine slv_getf eX11_node_30 fX11_232 (by repeat (first | assumption | exact sl_up_eq | refine sl_up_ne (by first | decide | omega) ?_)) rfl ?_
        refine slv_astore_n (i := 3) (lv' := [_, _, _, _]) eX11_node_33 rfl (by decide) rfl ?_
        refine slv_iload_n eX11_node_34 rfl ?_
        refine slv_tableOut (t := 116) eX11_node_35 (by decide) (by decide) ?_
        refine slv_aload_n eX11_node_116 rfl ?_
        refine slv_aload_n eX11_node_117 rfl ?_
        refine slv_getf eX11_node_118 fX11_264 (by repeat (first | assumption | exact sl_up_eq | refine sl_up_ne (by first | decide | omega) ?_)) rfl ?_
        refine slv_iload_n eX11_node_121 rfl ?_
        refine slv_ialdN eX11_node_122 (by repeat (first | assumption | exact sl_up_eq | refine sl_up_ne (by first | decide | omega) ?_)) (by omega) (by decide) ?_
        refine slv_rV (As := [_]) eX11_node_123 lX11_110 rfl rfl (by repeat (first | assumption | exact sl_up_eq | refine sl_up_ne (by first | decide | omega) ?_)) rfl (c_X11_grant _) (by decide) (Nat.le_of_ble_eq_true rfl) ?_
        refine slv_iret eX11_node_126 rfl ?_
        exact ⟨rfl, rfl⟩
set_option maxRecDepth 100000 in
theorem c_X11_under (hA : rg_A 38 ho gv rv lv fv S M) (hc : nd_c (rd_nd S) ≤ 60) (hsi : ∀ k, k < 60 → nd_si (rd_nd S) k < 1000) (hfi : ∀ k j, k < 60 → nd_fi (rd_nd S) k = some j → j < 60) (hse : ∀ k j, k < 60 → nd_se (rd_nd S) k = some j → j < 60) (x w : Int32) : sl_R YX11_under 2 [.ref 0, .int x, .int w] (ob_set fd db sb sn tl lf lt lp M) (some (.int (an_under tl (rd_nd S) x w).1)) (ob_set fd db sb sn tl lf (an_under tl (rd_nd S) x w).2 lp M) := by
  have hN := c_X11_hasNode (fd := fd) (db := db) (sb := sb) (sn := sn) (tl := tl) (lf := lf) (lt := lt) (lp := lp) hA hc x
  have hA' := ob_rg (fd := fd) (db := db) (sb := sb) (sn := sn) (tl := tl) (lf := lf) (lt := lt) (lp := lp) (by decide) hA
  obtain ⟨k0, k1, k2, k3, k4, k5, k6, k7, k8, k9, k10, k11, k12, k13, k14⟩ := hA
  refine sl_T.of_V (lv := [_, _, _]) (by decide) rfl (Nat.le_of_ble_eq_true rfl) ?_
  unfold an_under
  cases hv : sl_vr tl x (nd_c (rd_nd S)) with
  | none =>
    rw [hv] at hN
    refine slv_aload_n eX11_under_0 rfl ?_
    refine slv_iload_n eX11_under_1 rfl ?_
    refine slv_rV (As := [_]) eX11_under_2 lX11_244 rfl rfl (by repeat (first | assumption | exact sl_up_eq | refine sl_up_ne (by first | decide | omega) ?_)) rfl hN (by decide) (Nat.le_of_ble_eq_true rfl) ?_
    refine slv_if_eqB eX11_under_5 (fun h5 => ?_) (fun h5 => absurd h5 (by decide))
    refine slv_aload_n eX11_under_28 rfl ?_
    refine slv_iconst (v := nI 1) eX11_under_29 (by decide) ?_
    refine slv_rV (As := [_]) eX11_under_30 lX11_76 rfl rfl (by repeat (first | assumption | exact sl_up_eq | refine sl_up_ne (by first | decide | omega) ?_)) rfl (c_X11_refuse 1) (by decide) (Nat.le_of_ble_eq_true rfl) ?_
    refine slv_iret eX11_under_33 rfl ?_
    exact ⟨rfl, rfl⟩
  | some k =>
    rw [hv] at hN
    obtain ⟨-, hx, hk⟩ := vr_some hv
    subst hx
    have hs1 := hsi k (by omega)
    simp only
    cases hw : sl_vi w (nd_si (rd_nd S) k) with
    | none =>
      have hvv := vi_lt (by omega) hw
      refine slv_aload_n eX11_under_0 rfl ?_
      refine slv_iload_n eX11_under_1 rfl ?_
      refine slv_rV (As := [_]) eX11_under_2 lX11_244 rfl rfl (by repeat (first | assumption | exact sl_up_eq | refine sl_up_ne (by first | decide | omega) ?_)) rfl hN (by decide) (Nat.le_of_ble_eq_true rfl) ?_
      refine slv_if_eqB eX11_under_5 (fun h5 => absurd h5 sl_tf) (fun h5 => ?_)
      refine slv_iload_n eX11_under_8 rfl ?_
      refine slv_if_lt eX11_under_9 (fun h9 => ?_) (fun h9 => ?_)
      · refine slv_aload_n eX11_under_28 rfl ?_
        refine slv_iconst (v := nI 1) eX11_under_29 (by decide) ?_
        refine slv_rV (As := [_]) eX11_under_30 lX11_76 rfl rfl (by repeat (first | assumption | exact sl_up_eq | refine sl_up_ne (by first | decide | omega) ?_)) rfl (c_X11_refuse 1) (by decide) (Nat.le_of_ble_eq_true rfl) ?_
        refine slv_iret eX11_under_33 rfl ?_
        exact ⟨rfl, rfl⟩
      · refine slv_iload_n eX11_under_12 rfl ?_
        refine slv_aload_n eX11_under_13 rfl ?_
        refine slv_getf eX11_under_14 fX11_61 (by repeat (first | assumption | exact sl_up_eq | refine sl_up_ne (by first | decide | omega) ?_)) rfl ?_
        refine slv_getf eX11_under_17 fX11_232 (by repeat (first | assumption | exact sl_up_eq | refine sl_up_ne (by first | decide | omega) ?_)) rfl ?_
        refine slv_getf eX11_under_20 fX11_267 (by repeat (first | assumption | exact sl_up_eq | refine sl_up_ne (by first | decide | omega) ?_)) rfl ?_
        refine slv_iload_n eX11_under_23 rfl ?_
        refine slv_ialdN eX11_under_24 (by repeat (first | assumption | exact sl_up_eq | refine sl_up_ne (by first | decide | omega) ?_)) (by omega) (by decide) ?_
        refine slv_icmp_lt eX11_under_25 (fun h25 => ?_) (fun h25 => ?_)
        · exact absurd hvv (fun q => q.elim h9 (fun q => q h25))
        · refine slv_aload_n eX11_under_28 rfl ?_
          refine slv_iconst (v := nI 1) eX11_under_29 (by decide) ?_
          refine slv_rV (As := [_]) eX11_under_30 lX11_76 rfl rfl (by repeat (first | assumption | exact sl_up_eq | refine sl_up_ne (by first | decide | omega) ?_)) rfl (c_X11_refuse 1) (by decide) (Nat.le_of_ble_eq_true rfl) ?_
          refine slv_iret eX11_under_33 rfl ?_
          exact ⟨rfl, rfl⟩
    | some j =>
      obtain ⟨hx, hj⟩ := vi_some hw
      subst hx
      have hB := c_X6_below (b := 38 + 1) ⟨hA'.2.2.2.2.1, hA'.2.2.2.2.2.1, hA'.2.2.2.2.2.2.1, hA'.2.2.2.2.2.2.2.1, hA'.2.2.2.2.2.2.2.2.1, hA'.2.2.2.2.2.2.2.2.2.1, hA'.2.2.2.2.2.2.2.2.2.2.1, hA'.2.2.2.2.2.2.2.2.2.2.2.1⟩ hsi hfi hse (show k < 60 by omega) (show j < 1000 by omega)
      simp only
      generalize no_bl (nd_fi (rd_nd S)) (nd_se (rd_nd S)) (nd_si (rd_nd S)) 60 (some k) j = bl at hB
      refine slv_aload_n eX11_under_0 rfl ?_
      refine slv_iload_n eX11_under_1 rfl ?_
      refine slv_rV (As := [_]) eX11_under_2 lX11_244 rfl rfl (by repeat (first | assumption | exact sl_up_eq | refine sl_up_ne (by first | decide | omega) ?_)) rfl hN (by decide) (Nat.le_of_ble_eq_true rfl) ?_
      refine slv_if_eqB eX11_under_5 (fun h5 => absurd h5 sl_tf) (fun h5 => ?_)
      refine slv_iload_n eX11_under_8 rfl ?_
      refine slv_if_ltN eX11_under_9 (by omega) ?_
      refine slv_iload_n eX11_under_12 rfl ?_
      refine slv_aload_n eX11_under_13 rfl ?_
      refine slv_getf eX11_under_14 fX11_61 (by repeat (first | assumption | exact sl_up_eq | refine sl_up_ne (by first | decide | omega) ?_)) rfl ?_
      refine slv_getf eX11_under_17 fX11_232 (by repeat (first | assumption | exact sl_up_eq | refine sl_up_ne (by first | decide | omega) ?_)) rfl ?_
      refine slv_getf eX11_under_20 fX11_267 (by repeat (first | assumption | exact sl_up_eq | refine sl_up_ne (by first | decide | omega) ?_)) rfl ?_
      refine slv_iload_n eX11_under_23 rfl ?_
      refine slv_ialdN eX11_under_24 (by repeat (first | assumption | exact sl_up_eq | refine sl_up_ne (by first | decide | omega) ?_)) (by omega) (by decide) ?_
      refine slv_icmp_ltN eX11_under_25 (by omega) (by omega) (fun h25 => ?_) (fun h25 => absurd h25 (by omega))
      refine slv_aload_n eX11_under_34 rfl ?_
      refine slv_aload_n eX11_under_35 rfl ?_
      refine slv_getf eX11_under_36 fX11_61 (by repeat (first | assumption | exact sl_up_eq | refine sl_up_ne (by first | decide | omega) ?_)) rfl ?_
      refine slv_getf eX11_under_39 fX11_232 (by repeat (first | assumption | exact sl_up_eq | refine sl_up_ne (by first | decide | omega) ?_)) rfl ?_
      refine slv_iload_n eX11_under_42 rfl ?_
      refine slv_iload_n eX11_under_43 rfl ?_
      refine slv_rV (As := [_, _]) eX11_under_44 lX11_270 rfl rfl (by repeat (first | assumption | exact sl_up_eq | refine sl_up_ne (by first | decide | omega) ?_)) rfl hB (by decide) (Nat.le_of_ble_eq_true rfl) ?_
      refine slv_rV (As := [_]) eX11_under_47 lX11_110 rfl rfl (by repeat (first | assumption | exact sl_up_eq | refine sl_up_ne (by first | decide | omega) ?_)) rfl (c_X11_grant _) (by decide) (Nat.le_of_ble_eq_true rfl) ?_
      refine slv_iret eX11_under_50 rfl ?_
      exact ⟨rfl, rfl⟩
set_option maxRecDepth 100000 in
theorem c_X11_value (hR : rr_all) (hA : rg_A 38 ho gv rv lv fv S M) (hc : nd_c (rd_nd S) ≤ 60) (hfa : rd_fa S < 100) (hr : ∀ k, rd_beh S 0 = some k → k < nd_c (rd_nd S)) (w : Int32) : sl_R YX11_value 2 [.ref 0, .int w] (ob_set fd db sb sn tl lf lt lp M) (some (.int (an_value tl S w).1)) (ob_set fd db sb sn tl lf (an_value tl S w).2 lp M) := by
  obtain ⟨r1, r2, r3, r4, r5, r6, r7, r8, r9⟩ := hR
  have hV := c_X11_hasValue (fd := fd) (db := db) (sb := sb) (sn := sn) (tl := tl) (lf := lf) (lt := lt) (lp := lp) hA hc hfa hr
  have hO := c_X7_rootA (ob_rg (fd := fd) (db := db) (sb := sb) (sn := sn) (tl := tl) (lf := lf) (lt := lt) (lp := lp) (by decide) hA)
  obtain ⟨k0, k1, k2, k3, k4, k5, k6, k7, k8, k9, k10, k11, k12, k13, k14⟩ := hA
  refine sl_T.of_V (lv := [_, _, _, _]) (by decide) rfl (Nat.le_of_ble_eq_true rfl) ?_
  unfold an_value
  cases hv : an_root tl S with
  | none =>
    rw [hv] at hV
    refine slv_aload_n eX11_value_0 rfl ?_
    refine slv_rV (As := []) eX11_value_1 lX11_273 rfl rfl (by repeat (first | assumption | exact sl_up_eq | refine sl_up_ne (by first | decide | omega) ?_)) rfl hV (by decide) (Nat.le_of_ble_eq_true rfl) ?_
    refine slv_if_eqB eX11_value_4 (fun h4 => ?_) (fun h4 => absurd h4 (by decide))
    refine slv_aload_n eX11_value_16 rfl ?_
    refine slv_iconst (v := nI 1) eX11_value_17 (by decide) ?_
    refine slv_rV (As := [_]) eX11_value_18 lX11_76 rfl rfl (by repeat (first | assumption | exact sl_up_eq | refine sl_up_ne (by first | decide | omega) ?_)) rfl (c_X11_refuse 1) (by decide) (Nat.le_of_ble_eq_true rfl) ?_
    refine slv_pop eX11_value_21 rfl ?_
    refine slv_ldc eX11_value_22 kX11_251 ?_
    refine slv_iret eX11_value_24 rfl ?_
    exact ⟨rfl, rfl⟩
  | some k =>
    rw [hv] at hV
    have hbe : rd_beh S 0 = some k := by
      unfold an_root at hv
      cases hc1 : (tl && decide (rd_fa S = 0)) with
      | true => rw [hc1] at hv; exact hv
      | false => rw [hc1] at hv; cases hv
    have hk := hr k hbe
    rw [hbe] at hO
    change sl_R YX7_root 0 _ _ (some (.int (nI k))) _ at hO
    simp only
    cases hw : sl_vi w 3 with
    | none =>
      have hvv := vi_lt (by omega) hw
      refine slv_aload_n eX11_value_0 rfl ?_
      refine slv_rV (As := []) eX11_value_1 lX11_273 rfl rfl (by repeat (first | assumption | exact sl_up_eq | refine sl_up_ne (by first | decide | omega) ?_)) rfl hV (by decide) (Nat.le_of_ble_eq_true rfl) ?_
      refine slv_if_eqB eX11_value_4 (fun h4 => absurd h4 sl_tf) (fun h4 => ?_)
      refine slv_iload_n eX11_value_7 rfl ?_
      refine slv_if_lt eX11_value_8 (fun h8 => ?_) (fun h8 => ?_)
      · refine slv_aload_n eX11_value_16 rfl ?_
        refine slv_iconst (v := nI 1) eX11_value_17 (by decide) ?_
        refine slv_rV (As := [_]) eX11_value_18 lX11_76 rfl rfl (by repeat (first | assumption | exact sl_up_eq | refine sl_up_ne (by first | decide | omega) ?_)) rfl (c_X11_refuse 1) (by decide) (Nat.le_of_ble_eq_true rfl) ?_
        refine slv_pop eX11_value_21 rfl ?_
        refine slv_ldc eX11_value_22 kX11_251 ?_
        refine slv_iret eX11_value_24 rfl ?_
        exact ⟨rfl, rfl⟩
      · refine slv_iload_n eX11_value_11 rfl ?_
        refine slv_iconst (v := nI 2) eX11_value_12 (by decide) ?_
        refine slv_icmp_le eX11_value_13 (fun h13 => ?_) (fun h13 => ?_)
        · exact absurd hvv (fun q => q.elim h8 (fun q => q (vi_le1 (n := 2) (by omega) h13)))
        · refine slv_aload_n eX11_value_16 rfl ?_
          refine slv_iconst (v := nI 1) eX11_value_17 (by decide) ?_
          refine slv_rV (As := [_]) eX11_value_18 lX11_76 rfl rfl (by repeat (first | assumption | exact sl_up_eq | refine sl_up_ne (by first | decide | omega) ?_)) rfl (c_X11_refuse 1) (by decide) (Nat.le_of_ble_eq_true rfl) ?_
          refine slv_pop eX11_value_21 rfl ?_
          refine slv_ldc eX11_value_22 kX11_251 ?_
          refine slv_iret eX11_value_24 rfl ?_
          exact ⟨rfl, rfl⟩
    | some j =>
      obtain ⟨hx, hj⟩ := vi_some hw
      subst hx
      rcases (show j = 0 ∨ j = 1 ∨ j = 2 by omega) with e | e | e <;> subst e
      · refine slv_aload_n eX11_value_0 rfl ?_
        refine slv_rV (As := []) eX11_value_1 lX11_273 rfl rfl (by repeat (first | assumption | exact sl_up_eq | refine sl_up_ne (by first | decide | omega) ?_)) rfl hV (by decide) (Nat.le_of_ble_eq_true rfl) ?_
        refine slv_if_eqB eX11_value_4 (fun h4 => absurd h4 sl_tf) (fun h4 => ?_)
        refine slv_iload_n eX11_value_7 rfl ?_
        refine slv_if_ltN eX11_value_8 (by omega) ?_
        refine slv_iload_n eX11_value_11 rfl ?_
        refine slv_iconst (v := nI 2) eX11_value_12 (by decide) ?_
        refine slv_icmp_le eX11_value_13 (fun h13 => ?_) (fun h13 => absurd (by decide) h13)
        refine slv_aload_n eX11_value_25 rfl ?_
        refine slv_getf eX11_value_26 fX11_61 (by repeat (first | assumption | exact sl_up_eq | refine sl_up_ne (by first | decide | omega) ?_)) rfl ?_
        refine slv_getf eX11_value_29 fX11_232 (by repeat (first | assumption | exact sl_up_eq | refine sl_up_ne (by first | decide | omega) ?_)) rfl ?_
        refine slv_getf eX11_value_32 fX11_261 (by repeat (first | assumption | exact sl_up_eq | refine sl_up_ne (by first | decide | omega) ?_)) rfl ?_
        refine slv_aload_n eX11_value_35 rfl ?_
        refine slv_getf eX11_value_36 fX11_61 (by repeat (first | assumption | exact sl_up_eq | refine sl_up_ne (by first | decide | omega) ?_)) rfl ?_
        refine slv_rV (As := []) eX11_value_39 lX11_276 rfl rfl (by repeat (first | assumption | exact sl_up_eq | refine sl_up_ne (by first | decide | omega) ?_)) rfl hO (by decide) (Nat.le_of_ble_eq_true rfl) ?_
        refine slv_zaldN eX11_value_42 (by repeat (first | assumption | exact sl_up_eq | refine sl_up_ne (by first | decide | omega) ?_)) (by omega) (by decide) ?_
        refine slv_istore_n (i := 2) (lv' := [_, _, _, _]) eX11_value_43 rfl (by decide) rfl ?_
        refine slv_aload_n eX11_value_44 rfl ?_
        refine slv_getf eX11_value_45 fX11_61 (by repeat (first | assumption | exact sl_up_eq | refine sl_up_ne (by first | decide | omega) ?_)) rfl ?_
        refine slv_getf eX11_value_48 fX11_232 (by repeat (first | assumption | exact sl_up_eq | refine sl_up_ne (by first | decide | omega) ?_)) rfl ?_
        refine slv_getf eX11_value_51 fX11_264 (by repeat (first | assumption | exact sl_up_eq | refine sl_up_ne (by first | decide | omega) ?_)) rfl ?_
        refine slv_aload_n eX11_value_54 rfl ?_
        refine slv_getf eX11_value_55 fX11_61 (by repeat (first | assumption | exact sl_up_eq | refine sl_up_ne (by first | decide | omega) ?_)) rfl ?_
        refine slv_rV (As := []) eX11_value_58 lX11_276 rfl rfl (by repeat (first | assumption | exact sl_up_eq | refine sl_up_ne (by first | decide | omega) ?_)) rfl hO (by decide) (Nat.le_of_ble_eq_true rfl) ?_
        refine slv_ialdN eX11_value_61 (by repeat (first | assumption | exact sl_up_eq | refine sl_up_ne (by first | decide | omega) ?_)) (by omega) (by decide) ?_
        refine slv_istore_n (i := 3) (lv' := [_, _, _, _]) eX11_value_62 rfl (by decide) rfl ?_
        refine slv_iload_n eX11_value_63 rfl ?_
        refine slv_lookup (off := 28) (t := 92) eX11_value_64 (by decide) (by decide) (by decide) ?_
        refine slv_aload_n eX11_value_92 rfl ?_
        refine slv_iload_n eX11_value_93 rfl ?_
        refine slv_if_eqB eX11_value_94 (fun h94 => ?_) (fun h94 => ?_)
        · refine slv_iconst (v := nI 0) eX11_value_101 (by decide) ?_
          refine slv_rV (As := [_]) eX11_value_102 lX11_110 rfl rfl (by repeat (first | assumption | exact sl_up_eq | refine sl_up_ne (by first | decide | omega) ?_)) rfl (c_X11_grant _) (by decide) (Nat.le_of_ble_eq_true rfl) ?_
          refine slv_iret eX11_value_105 rfl ?_
          exact ⟨by rw [h94]; rfl, rfl⟩
        · refine slv_iconst (v := nI 1) eX11_value_97 (by decide) ?_
          refine slv_goto eX11_value_98 ?_
          refine slv_rV (As := [_]) eX11_value_102 lX11_110 rfl rfl (by repeat (first | assumption | exact sl_up_eq | refine sl_up_ne (by first | decide | omega) ?_)) rfl (c_X11_grant _) (by decide) (Nat.le_of_ble_eq_true rfl) ?_
          refine slv_iret eX11_value_105 rfl ?_
          exact ⟨by rw [h94]; rfl, rfl⟩
      · refine slv_aload_n eX11_value_0 rfl ?_
        refine slv_rV (As := []) eX11_value_1 lX11_273 rfl rfl (by repeat (first | assumption | exact sl_up_eq | refine sl_up_ne (by first | decide | omega) ?_)) rfl hV (by decide) (Nat.le_of_ble_eq_true rfl) ?_
        refine slv_if_eqB eX11_value_4 (fun h4 => absurd h4 sl_tf) (fun h4 => ?_)
        refine slv_iload_n eX11_value_7 rfl ?_
        refine slv_if_ltN eX11_value_8 (by omega) ?_
        refine slv_iload_n eX11_value_11 rfl ?_
        refine slv_iconst (v := nI 2) eX11_value_12 (by decide) ?_
        refine slv_icmp_le eX11_value_13 (fun h13 => ?_) (fun h13 => absurd (by decide) h13)
        refine slv_aload_n eX11_value_25 rfl ?_
        refine slv_getf eX11_value_26 fX11_61 (by repeat (first | assumption | exact sl_up_eq | refine sl_up_ne (by first | decide | omega) ?_)) rfl ?_
        refine slv_getf eX11_value_29 fX11_232 (by repeat (first | assumption | exact sl_up_eq | refine sl_up_ne (by first | decide | omega) ?_)) rfl ?_
        refine slv_getf eX11_value_32 fX11_261 (by repeat (first | assumption | exact sl_up_eq | refine sl_up_ne (by first | decide | omega) ?_)) rfl ?_
        refine slv_aload_n eX11_value_35 rfl ?_
        refine slv_getf eX11_value_36 fX11_61 (by repeat (first | assumption | exact sl_up_eq | refine sl_up_ne (by first | decide | omega) ?_)) rfl ?_
        refine slv_rV (As := []) eX11_value_39 lX11_276 rfl rfl (by repeat (first | assumption | exact sl_up_eq | refine sl_up_ne (by first | decide | omega) ?_)) rfl hO (by decide) (Nat.le_of_ble_eq_true rfl) ?_
        refine slv_zaldN eX11_value_42 (by repeat (first | assumption | exact sl_up_eq | refine sl_up_ne (by first | decide | omega) ?_)) (by omega) (by decide) ?_
        refine slv_istore_n (i := 2) (lv' := [_, _, _, _]) eX11_value_43 rfl (by decide) rfl ?_
        refine slv_aload_n eX11_value_44 rfl ?_
        refine slv_getf eX11_value_45 fX11_61 (by repeat (first | assumption | exact sl_up_eq | refine sl_up_ne (by first | decide | omega) ?_)) rfl ?_
        refine slv_getf eX11_value_48 fX11_232 (by repeat (first | assumption | exact sl_up_eq | refine sl_up_ne (by first | decide | omega) ?_)) rfl ?_
        refine slv_getf eX11_value_51 fX11_264 (by repeat (first | assumption | exact sl_up_eq | refine sl_up_ne (by first | decide | omega) ?_)) rfl ?_
        refine slv_aload_n eX11_value_54 rfl ?_
        refine slv_getf eX11_value_55 fX11_61 (by repeat (first | assumption | exact sl_up_eq | refine sl_up_ne (by first | decide | omega) ?_)) rfl ?_
        refine slv_rV (As := []) eX11_value_58 lX11_276 rfl rfl (by repeat (first | assumption | exact sl_up_eq | refine sl_up_ne (by first | decide | omega) ?_)) rfl hO (by decide) (Nat.le_of_ble_eq_true rfl) ?_
        refine slv_ialdN eX11_value_61 (by repeat (first | assumption | exact sl_up_eq | refine sl_up_ne (by first | decide | omega) ?_)) (by omega) (by decide) ?_
        refine slv_istore_n (i := 3) (lv' := [_, _, _, _]) eX11_value_62 rfl (by decide) rfl ?_
        refine slv_iload_n eX11_value_63 rfl ?_
        refine slv_lookup (off := 42) (t := 106) eX11_value_64 (by decide) (by decide) (by decide) ?_
        refine slv_aload_n eX11_value_106 rfl ?_
        refine slv_iload_n eX11_value_107 rfl ?_
        refine slv_rV (As := [_]) eX11_value_108 lX11_110 rfl rfl (by repeat (first | assumption | exact sl_up_eq | refine sl_up_ne (by first | decide | omega) ?_)) rfl (c_X11_grant _) (by decide) (Nat.le_of_ble_eq_true rfl) ?_
        refine slv_iret eX11_value_111 rfl ?_
        exact ⟨rfl, rfl⟩
      · refine slv_aload_n eX11_value_0 rfl ?_
        refine slv_rV (As := []) eX11_value_1 lX11_273 rfl rfl (by repeat (first | assumption | exact sl_up_eq | refine sl_up_ne (by first | decide | omega) ?_)) rfl hV (by decide) (Nat.le_of_ble_eq_true rfl) ?_
        refine slv_if_eqB eX11_value_4 (fun h4 => absurd h4 sl_tf) (fun h4 => ?_)
        refine slv_iload_n eX11_value_7 rfl ?_
        refine slv_if_ltN eX11_value_8 (by omega) ?_
        refine slv_iload_n eX11_value_11 rfl ?_
        refine slv_iconst (v := nI 2) eX11_value_12 (by decide) ?_
        refine slv_icmp_le eX11_value_13 (fun h13 => ?_) (fun h13 => absurd (by decide) h13)
        refine slv_aload_n eX11_value_25 rfl ?_
        refine slv_getf eX11_value_26 fX11_61 (by repeat (first | assumption | exact sl_up_eq | refine sl_up_ne (by first | decide | omega) ?_)) rfl ?_
        refine slv_getf eX11_value_29 fX11_232 (by repeat (first | assumption | exact sl_up_eq | refine sl_up_ne (by first | decide | omega) ?_)) rfl ?_
        refine slv_getf eX11_value_32 fX11_261 (by repeat (first | assumption | exact sl_up_eq | refine sl_up_ne (by first | decide | omega) ?_)) rfl ?_
        refine slv_aload_n eX11_value_35 rfl ?_
        refine slv_getf eX11_value_36 fX11_61 (by repeat (first | assumption | exact sl_up_eq | refine sl_up_ne (by first | decide | omega) ?_)) rfl ?_
        refine slv_rV (As := []) eX11_value_39 lX11_276 rfl rfl (by repeat (first | assumption | exact sl_up_eq | refine sl_up_ne (by first | decide | omega) ?_)) rfl hO (by decide) (Nat.le_of_ble_eq_true rfl) ?_
        refine slv_zaldN eX11_value_42 (by repeat (first | assumption | exact sl_up_eq | refine sl_up_ne (by first | decide | omega) ?_)) (by omega) (by decide) ?_
        refine slv_istore_n (i := 2) (lv' := [_, _, _, _]) eX11_value_43 rfl (by decide) rfl ?_
        refine slv_aload_n eX11_value_44 rfl ?_
        refine slv_getf eX11_value_45 fX11_61 (by repeat (first | assumption | exact sl_up_eq | refine sl_up_ne (by first | decide | omega) ?_)) rfl ?_
        refine slv_getf eX11_value_48 fX11_232 (by repeat (first | assumption | exact sl_up_eq | refine sl_up_ne (by first | decide | omega) ?_)) rfl ?_
        refine slv_getf eX11_value_51 fX11_264 (by repeat (first | assumption | exact sl_up_eq | refine sl_up_ne (by first | decide | omega) ?_)) rfl ?_
        refine slv_aload_n eX11_value_54 rfl ?_
        refine slv_getf eX11_value_55 fX11_61 (by repeat (first | assumption | exact sl_up_eq | refine sl_up_ne (by first | decide | omega) ?_)) rfl ?_
        refine slv_rV (As := []) eX11_value_58 lX11_276 rfl rfl (by repeat (first | assumption | exact sl_up_eq | refine sl_up_ne (by first | decide | omega) ?_)) rfl hO (by decide) (Nat.le_of_ble_eq_true rfl) ?_
        refine slv_ialdN eX11_value_61 (by repeat (first | assumption | exact sl_up_eq | refine sl_up_ne (by first | decide | omega) ?_)) (by omega) (by decide) ?_
        refine slv_istore_n (i := 3) (lv' := [_, _, _, _]) eX11_value_62 rfl (by decide) rfl ?_
        refine slv_iload_n eX11_value_63 rfl ?_
        refine slv_lookup (off := 48) (t := 112) eX11_value_64 (by decide) (by decide) (by decide) ?_
        refine slv_aload_n eX11_value_112 rfl ?_
        refine slv_iload_n eX11_value_113 rfl ?_
        refine slv_if_eqB eX11_value_114 (fun h114 => ?_) (fun h114 => ?_)
        · refine slv_iload_n eX11_value_124 rfl ?_
          refine slv_rV (As := [_]) eX11_value_125 lX11_110 rfl rfl (by repeat (first | assumption | exact sl_up_eq | refine sl_up_ne (by first | decide | omega) ?_)) rfl (c_X11_grant _) (by decide) (Nat.le_of_ble_eq_true rfl) ?_
          refine slv_iret eX11_value_128 rfl ?_
          exact ⟨by rw [h114]; rfl, rfl⟩
        · refine slv_iload_n eX11_value_117 rfl ?_
          refine slv_rS (As := [_]) eX11_value_118 lX11_279 rfl rfl (r5 _ _) (by decide) (Nat.le_of_ble_eq_true rfl) ?_
          refine slv_goto eX11_value_121 ?_
          refine slv_rV (As := [_]) eX11_value_125 lX11_110 rfl rfl (by repeat (first | assumption | exact sl_up_eq | refine sl_up_ne (by first | decide | omega) ?_)) rfl (c_X11_grant _) (by decide) (Nat.le_of_ble_eq_true rfl) ?_
          refine slv_iret eX11_value_128 rfl ?_
          exact ⟨by rw [h114]; rfl, rfl⟩
set_option maxRecDepth 100000 in
theorem c_X11_third (hR : rr_all) (hA : rg_A 38 ho gv rv lv fv S M) (hc : nd_c (rd_nd S) ≤ 60) (hfa : rd_fa S < 100) (hr : ∀ k, rd_beh S 0 = some k → k < nd_c (rd_nd S)) : sl_R YX11_third 2 [.ref 0] (ob_set fd db sb sn tl lf lt lp M) (some (.long (an_third tl S).1)) (ob_set fd db sb sn tl lf (an_third tl S).2 lp M) := by
  obtain ⟨r1, r2, r3, r4, r5, r6, r7, r8, r9⟩ := hR
  have hV := c_X11_hasValue (fd := fd) (db := db) (sb := sb) (sn := sn) (tl := tl) (lf := lf) (lt := lt) (lp := lp) hA hc hfa hr
  have hO := c_X7_rootA (ob_rg (fd := fd) (db := db) (sb := sb) (sn := sn) (tl := tl) (lf := lf) (lt := 0) (lp := lp) (by decide) hA)
  obtain ⟨k0, k1, k2, k3, k4, k5, k6, k7, k8, k9, k10, k11, k12, k13, k14⟩ := hA
  refine sl_T.of_V (lv := [_, _]) (by decide) rfl (Nat.le_of_ble_eq_true rfl) ?_
  unfold an_third
  cases hv : an_root tl S with
  | none =>
    rw [hv] at hV
    refine slv_aload_n eX11_third_0 rfl ?_
    refine slv_rV (As := []) eX11_third_1 lX11_273 rfl rfl (by repeat (first | assumption | exact sl_up_eq | refine sl_up_ne (by first | decide | omega) ?_)) rfl hV (by decide) (Nat.le_of_ble_eq_true rfl) ?_
    refine slv_if_neB eX11_third_4 (fun h4 => absurd h4 (by decide)) (fun h4 => ?_)
    refine slv_aload_n eX11_third_7 rfl ?_
    refine slv_iconst (v := nI 1) eX11_third_8 (by decide) ?_
    refine slv_rV (As := [_]) eX11_third_9 lX11_76 rfl rfl (by repeat (first | assumption | exact sl_up_eq | refine sl_up_ne (by first | decide | omega) ?_)) rfl (c_X11_refuse 1) (by decide) (Nat.le_of_ble_eq_true rfl) ?_
    refine slv_pop eX11_third_12 rfl ?_
    refine slv_ldc2 eX11_third_13 kX11_286 ?_
    refine slv_lret eX11_third_16 rfl ?_
    exact ⟨rfl, rfl⟩
  | some k =>
    rw [hv] at hV
    have hbe : rd_beh S 0 = some k := by
      unfold an_root at hv
      cases hc1 : (tl && decide (rd_fa S = 0)) with
      | true => rw [hc1] at hv; exact hv
      | false => rw [hc1] at hv; cases hv
    have hk := hr k hbe
    rw [hbe] at hO
    change sl_R YX7_root 0 _ _ (some (.int (nI k))) _ at hO
    refine slv_aload_n eX11_third_0 rfl ?_
    refine slv_rV (As := []) eX11_third_1 lX11_273 rfl rfl (by repeat (first | assumption | exact sl_up_eq | refine sl_up_ne (by first | decide | omega) ?_)) rfl hV (by decide) (Nat.le_of_ble_eq_true rfl) ?_
    refine slv_if_neB eX11_third_4 (fun h4 => ?_) (fun h4 => absurd h4 sl_tf)
    refine slv_aload_n eX11_third_17 rfl ?_
    refine slv_iconst (v := nI 0) eX11_third_18 (by decide) ?_
    refine slv_rV (As := [_]) eX11_third_19 lX11_110 rfl rfl (by repeat (first | assumption | exact sl_up_eq | refine sl_up_ne (by first | decide | omega) ?_)) rfl (c_X11_grant _) (by decide) (Nat.le_of_ble_eq_true rfl) ?_
    refine slv_pop eX11_third_22 rfl ?_
    refine slv_aload_n eX11_third_23 rfl ?_
    refine slv_getf eX11_third_24 fX11_61 (by repeat (first | assumption | exact sl_up_eq | refine sl_up_ne (by first | decide | omega) ?_)) rfl ?_
    refine slv_getf eX11_third_27 fX11_232 (by repeat (first | assumption | exact sl_up_eq | refine sl_up_ne (by first | decide | omega) ?_)) rfl ?_
    refine slv_getf eX11_third_30 fX11_264 (by repeat (first | assumption | exact sl_up_eq | refine sl_up_ne (by first | decide | omega) ?_)) rfl ?_
    refine slv_aload_n eX11_third_33 rfl ?_
    refine slv_getf eX11_third_34 fX11_61 (by repeat (first | assumption | exact sl_up_eq | refine sl_up_ne (by first | decide | omega) ?_)) rfl ?_
    refine slv_rV (As := []) eX11_third_37 lX11_276 rfl rfl (by repeat (first | assumption | exact sl_up_eq | refine sl_up_ne (by first | decide | omega) ?_)) rfl hO (by decide) (Nat.le_of_ble_eq_true rfl) ?_
    refine slv_ialdN eX11_third_40 (by repeat (first | assumption | exact sl_up_eq | refine sl_up_ne (by first | decide | omega) ?_)) (by omega) (by decide) ?_
    refine slv_istore_n (i := 1) (lv' := [_, _]) eX11_third_41 rfl (by decide) rfl ?_
    refine slv_aload_n eX11_third_42 rfl ?_
    refine slv_getf eX11_third_43 fX11_61 (by repeat (first | assumption | exact sl_up_eq | refine sl_up_ne (by first | decide | omega) ?_)) rfl ?_
    refine slv_getf eX11_third_46 fX11_232 (by repeat (first | assumption | exact sl_up_eq | refine sl_up_ne (by first | decide | omega) ?_)) rfl ?_
    refine slv_getf eX11_third_49 fX11_261 (by repeat (first | assumption | exact sl_up_eq | refine sl_up_ne (by first | decide | omega) ?_)) rfl ?_
    refine slv_aload_n eX11_third_52 rfl ?_
    refine slv_getf eX11_third_53 fX11_61 (by repeat (first | assumption | exact sl_up_eq | refine sl_up_ne (by first | decide | omega) ?_)) rfl ?_
    refine slv_rV (As := []) eX11_third_56 lX11_276 rfl rfl (by repeat (first | assumption | exact sl_up_eq | refine sl_up_ne (by first | decide | omega) ?_)) rfl hO (by decide) (Nat.le_of_ble_eq_true rfl) ?_
    refine slv_zaldN eX11_third_59 (by repeat (first | assumption | exact sl_up_eq | refine sl_up_ne (by first | decide | omega) ?_)) (by omega) (by decide) ?_
    refine slv_if_eqB eX11_third_60 (fun h60 => ?_) (fun h60 => ?_)
    · refine slv_iload_n eX11_third_70 rfl ?_
      refine slv_rS (As := [_]) eX11_third_71 lX11_292 rfl rfl (r8 _ _) (by decide) (Nat.le_of_ble_eq_true rfl) ?_
      refine slv_lret eX11_third_74 rfl ?_
      exact ⟨by simp only; rw [h60]; rfl, rfl⟩
    · refine slv_iload_n eX11_third_63 rfl ?_
      refine slv_rS (As := [_]) eX11_third_64 lX11_288 rfl rfl (r9 _ _) (by decide) (Nat.le_of_ble_eq_true rfl) ?_
      refine slv_goto eX11_third_67 ?_
      refine slv_lret eX11_third_74 rfl ?_
      exact ⟨by simp only; rw [h60]; rfl, rfl⟩
end ASN

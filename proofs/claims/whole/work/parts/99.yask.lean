/-! the reference: questions of a formula -/
/-- a formula told, read as the class reads -/
def rqH (g : sg_T) (s : Nat → Int32) (rn : Nat) (rk kn nu : Nat → Nat) (ln : Nat) (q : fs_T) (how : Nat) (S0 S : rd_T) (v : Nat → Int32) (a : Nat → Nat → Int32) : Prop := sg_ok g ∧ sg_str g ∧ rlaid g s rn rk kn nu v a ∧ ftold g ln q how v a ∧ q.2.1 ≤ 60 ∧ tkP q ∧ (∀ k, q.1 = some k → k < 900) ∧ how < 2 ∧ (how = 1 → rn = 0) ∧ rd_rest S0 ∧ S = rdS g ln q s nu kn how S0
theorem rqH_F {g : sg_T} {s : Nat → Int32} {rn : Nat} {rk kn nu : Nat → Nat} {ln : Nat} {q : fs_T} {how : Nat} {S0 S : rd_T} {v v' : Nat → Int32} {a a' : Nat → Nat → Int32} (h : rqH g s rn rk kn nu ln q how S0 S v a) (hF : rqF v a v' a') : rqH g s rn rk kn nu ln q how S0 S v' a' := ⟨h.1, h.2.1, rlaid_q h.2.2.1 hF, ftold_F h.2.2.2.1 hF, h.2.2.2.2⟩
theorem rqF_0 (v : Nat → Int32) (a : Nat → Nat → Int32) (x : Int32) : rqF v a (sl_u v 0 x) a := rqF_v (fun k hk => sl_u_ne (fun e => hk (by rw [e]; decide)))
/-- an answer, and what else it leaves -/
def qA (v : Nat → Int32) (w : Int64) (a : Nat → Nat → Int32) (nm : Nat → Int64) (M : sl_M) (A : an_T) (r : Option Value) (M' : sl_M) : Prop := r = some (.int A.1) ∧ ∃ v' a', M' = rf_S v' w a' nm M ∧ v' 1 = nI A.2 ∧ v' 2 = -1 ∧ rqF v a v' a'
section RQA
variable {v : Nat → Int32} {w : Int64} {a : Nat → Nat → Int32} {nm : Nat → Int64} {M : sl_M} {g : sg_T} {s : Nat → Int32} {rn : Nat} {rk kn nu : Nat → Nat} {ln how : Nat} {q : fs_T} {S0 S : rd_T} {sn tl : Bool}
theorem rq_by (h : rqH g s rn rk kn nu ln q how S0 S v a) : sl_T YX12_readsBy 8 0 0 (fun o M' => o = none ∧ ∃ v' a', M' = rf_S v' w a' nm M ∧ rqR S v' a' ∧ rsF v a v' a') [.ref 68, .int (nI how)] (rf_S v w a nm M) := by
  obtain ⟨h1, h2, h3, h4, h5, h6, h7, h8, h9, h10, h11⟩ := h
  rw [h11]
  exact rd_by h1 h2 h3 ⟨h4.2.1, h4.2.2.2⟩ h5 h6 (fun k hk => by have := h7 k hk; omega) h8 h9 h10
theorem qA_1 {v1 : Nat → Int32} {a1 : Nat → Nat → Int32} {x : Int32} (k : Nat) (h : rqF v a v1 a1) : qA v w a nm M (x, k) (some (.int x)) (rf_S (rf_gd v1 k) w a1 nm M) := ⟨rfl, _, _, rfl, rfl, rfl, rqF_t h (rqF_v (gd_v v1 k))⟩
set_option maxRecDepth 100000 in
theorem c_X12_isAsked (h21 : v 21 = sl_bi sn) (h24 : v 53 = sl_bi tl) (hts : tl = true → sn = true) (x y : Int32) : sl_R YX12_isAsked 1 [.ref 68, .int x, .int y] (rf_S v w a nm M) (some (.int (sl_bi (tl && (decide (nI 0 ≤ x) && decide (x ≤ y)))))) (rf_S v w a nm M) := by
  have hI := c_X12_in (rf_S v w a nm M) x (nI 0) y
  refine sl_T.of_V (lv := [_, _, _]) (by decide) rfl (Nat.le_of_ble_eq_true rfl) ?_
  cases tl with
  | false =>
    cases sn with
    | false =>
      refine slv_aload_n eX12_isAsked_0 rfl ?_
      refine slr_gi eX12_isAsked_1 fX12_317 rfl (by repeat (first | exact sl_u_eq | assumption | apply rf_ne (by decide) | exact rfl)) ?_
      refine slv_if_eqB eX12_isAsked_4 (fun h4 => ?_) (fun h4 => absurd h4 (by first | decide | (intro z; cases z)))
      refine slv_iconst (v := nI 0) eX12_isAsked_27 (by decide) ?_
      refine slv_zret eX12_isAsked_28 rfl rfl ?_
      exact ⟨rfl, rfl⟩
    | true =>
      refine slv_aload_n eX12_isAsked_0 rfl ?_
      refine slr_gi eX12_isAsked_1 fX12_317 rfl (by repeat (first | exact sl_u_eq | assumption | apply rf_ne (by decide) | exact rfl)) ?_
      refine slv_if_eqB eX12_isAsked_4 (fun h4 => absurd h4 (by first | decide | (intro z; cases z))) (fun h4 => ?_)
      refine slv_aload_n eX12_isAsked_7 rfl ?_
      refine slr_gi eX12_isAsked_8 fX12_336 rfl (by repeat (first | exact sl_u_eq | assumption | apply rf_ne (by decide) | exact rfl)) ?_
      refine slv_if_eqB eX12_isAsked_11 (fun h11 => ?_) (fun h11 => absurd h11 (by first | decide | (intro z; cases z)))
      refine slv_iconst (v := nI 0) eX12_isAsked_27 (by decide) ?_
      refine slv_zret eX12_isAsked_28 rfl rfl ?_
      exact ⟨rfl, rfl⟩
  | true =>
    have e := hts rfl
    rw [e] at h21
    cases hq : (decide (nI 0 ≤ x) && decide (x ≤ y)) with
    | true =>
      rw [hq] at hI
      refine slv_aload_n eX12_isAsked_0 rfl ?_
      refine slr_gi eX12_isAsked_1 fX12_317 rfl (by repeat (first | exact sl_u_eq | assumption | apply rf_ne (by decide) | exact rfl)) ?_
      refine slv_if_eqB eX12_isAsked_4 (fun h4 => absurd h4 (by first | decide | (intro z; cases z))) (fun h4 => ?_)
      refine slv_aload_n eX12_isAsked_7 rfl ?_
      refine slr_gi eX12_isAsked_8 fX12_336 rfl (by repeat (first | exact sl_u_eq | assumption | apply rf_ne (by decide) | exact rfl)) ?_
      refine slv_if_eqB eX12_isAsked_11 (fun h11 => absurd h11 (by first | decide | (intro z; cases z))) (fun h11 => ?_)
      refine slv_iload_n eX12_isAsked_14 rfl ?_
      refine slv_iconst (v := nI 0) eX12_isAsked_15 (by decide) ?_
      refine slv_iload_n eX12_isAsked_16 rfl ?_
      refine slv_rS (As := [_, _, _]) eX12_isAsked_17 lX12_180 rfl rfl hI (by decide) (Nat.le_of_ble_eq_true rfl) ?_
      refine slv_if_eqB eX12_isAsked_20 (fun h20 => absurd h20 (by first | decide | (intro z; cases z))) (fun h20 => ?_)
      refine slv_iconst (v := nI 1) eX12_isAsked_23 (by decide) ?_
      refine slv_goto eX12_isAsked_24 ?_
      refine slv_zret eX12_isAsked_28 rfl rfl ?_
      exact ⟨rfl, rfl⟩
    | false =>
      rw [hq] at hI
      refine slv_aload_n eX12_isAsked_0 rfl ?_
      refine slr_gi eX12_isAsked_1 fX12_317 rfl (by repeat (first | exact sl_u_eq | assumption | apply rf_ne (by decide) | exact rfl)) ?_
      refine slv_if_eqB eX12_isAsked_4 (fun h4 => absurd h4 (by first | decide | (intro z; cases z))) (fun h4 => ?_)
      refine slv_aload_n eX12_isAsked_7 rfl ?_
      refine slr_gi eX12_isAsked_8 fX12_336 rfl (by repeat (first | exact sl_u_eq | assumption | apply rf_ne (by decide) | exact rfl)) ?_
      refine slv_if_eqB eX12_isAsked_11 (fun h11 => absurd h11 (by first | decide | (intro z; cases z))) (fun h11 => ?_)
      refine slv_iload_n eX12_isAsked_14 rfl ?_
      refine slv_iconst (v := nI 0) eX12_isAsked_15 (by decide) ?_
      refine slv_iload_n eX12_isAsked_16 rfl ?_
      refine slv_rS (As := [_, _, _]) eX12_isAsked_17 lX12_180 rfl rfl hI (by decide) (Nat.le_of_ble_eq_true rfl) ?_
      refine slv_if_eqB eX12_isAsked_20 (fun h20 => ?_) (fun h20 => absurd h20 (by first | decide | (intro z; cases z)))
      refine slv_iconst (v := nI 0) eX12_isAsked_27 (by decide) ?_
      refine slv_zret eX12_isAsked_28 rfl rfl ?_
      exact ⟨rfl, rfl⟩
theorem in_00 : (decide (nI 0 ≤ nI 0) && decide (nI 0 ≤ nI 0)) = true := by decide
set_option maxRecDepth 100000 in
theorem c_X12_read (h21 : v 21 = sl_bi sn) (h24 : v 53 = sl_bi tl) (hts : tl = true → sn = true) (hH : tl = true → rqH g s rn rk kn nu ln q how S0 S v a) (x : Int32) : sl_T YX12_read 9 0 0 (qA v w a nm M (an_read tl S (if q.1 = none then q.2.1 else 0) x)) [.ref 68, .int x] (rf_S v w a nm M) := by
  have hA := c_X12_isAsked (v := sl_u v 0 (nI 0)) (w := w) (a := a) (nm := nm) (M := M) h21 h24 hts x (nI 4)
  have hin : (decide (nI 0 ≤ x) && decide (x ≤ nI 4)) = (sl_vi x 5).isSome := in_vi (n := 5) (by decide)
  rw [hin] at hA
  refine sl_T.of_V (lv := [_, _]) (by decide) rfl (Nat.le_of_ble_eq_true rfl) ?_
  unfold an_read
  have F0 := rqF_0 v a (nI 0)
  cases tl with
  | false =>
    refine slv_aload_n eX12_read_0 rfl ?_
    refine slv_iconst (v := nI 0) eX12_read_1 (by decide) ?_
    refine slr_pi eX12_read_2 fX12_149 (Nat.le_of_ble_eq_true rfl) rf_s0 ?_
    refine slv_aload_n eX12_read_5 rfl ?_
    refine slv_iload_n eX12_read_6 rfl ?_
    refine slv_iconst (v := nI 4) eX12_read_7 (by decide) ?_
    refine slv_rV (As := [_, _]) eX12_read_8 lX12_530 rfl rfl rf_68 rfl hA (by decide) (Nat.le_of_ble_eq_true rfl) ?_
    refine slv_if_neB eX12_read_11 (fun h11 => absurd h11 (by first | decide | (intro z; cases z))) (fun h11 => ?_)
    refine slv_aload_n eX12_read_14 rfl ?_
    refine slv_iconst (v := nI 1) eX12_read_15 (by decide) ?_
    refine slv_rV (As := [_]) eX12_read_16 lX12_155 rfl rfl rf_68 rfl (c_X12_refused 1) (by decide) (Nat.le_of_ble_eq_true rfl) ?_
    refine slv_iret eX12_read_19 rfl ?_
    exact qA_1 1 F0
  | true =>
    simp only [cond_true]
    cases hx : sl_vi x 5 with
    | none =>
      rw [hx] at hA
      refine slv_aload_n eX12_read_0 rfl ?_
      refine slv_iconst (v := nI 0) eX12_read_1 (by decide) ?_
      refine slr_pi eX12_read_2 fX12_149 (Nat.le_of_ble_eq_true rfl) rf_s0 ?_
      refine slv_aload_n eX12_read_5 rfl ?_
      refine slv_iload_n eX12_read_6 rfl ?_
      refine slv_iconst (v := nI 4) eX12_read_7 (by decide) ?_
      refine slv_rV (As := [_, _]) eX12_read_8 lX12_530 rfl rfl rf_68 rfl hA (by decide) (Nat.le_of_ble_eq_true rfl) ?_
      refine slv_if_neB eX12_read_11 (fun h11 => absurd h11 (by first | decide | (intro z; cases z))) (fun h11 => ?_)
      refine slv_aload_n eX12_read_14 rfl ?_
      refine slv_iconst (v := nI 1) eX12_read_15 (by decide) ?_
      refine slv_rV (As := [_]) eX12_read_16 lX12_155 rfl rfl rf_68 rfl (c_X12_refused 1) (by decide) (Nat.le_of_ble_eq_true rfl) ?_
      refine slv_iret eX12_read_19 rfl ?_
      exact qA_1 1 F0
    | some k =>
      rw [hx] at hA
      obtain ⟨ex, hk⟩ := vi_some hx
      have hH := rqH_F (hH rfl) F0
      have hRB := rq_by (w := w) (nm := nm) (M := M) hH
      have ghow := hH.2.2.2.1.1
      have gtok := hH.2.2.2.1.2.2.1
      have b11 : (true && (some k).isSome) = true := rfl
      rw [b11] at hA
      subst ex
      have aft : ∀ v2 a2, rqR S v2 a2 → rsF (sl_u v 0 (nI 0)) a v2 a2 → sl_V YX12_read none 9 0 0 (qA v w a nm M (match some k with
          | some 0 => an_ok (nI (rd_fa S))
          | some 1 => an_ok (nI (if q.1 = none then q.2.1 else 0))
          | some 2 => an_ok (nI (rd_sp S))
          | some 3 => an_ok (nI (nd_c (rd_nd S)))
          | some 4 => an_ok (nI (rd_mo S))
          | _ => an_no 1)) 28 [some (.ref 68), some (.int (nI k))] [] (rf_S v2 w a2 nm M) := by
        intro v2 a2 z1 z2
        obtain ⟨⟨y1, y2, y3, y4, y5⟩, y6, y7⟩ := z1
        have zF := rqF_t F0 (rsF_q z2)
        have gtok2 := (z2.1 50 (by decide)).trans gtok
        rcases (show k = 0 ∨ k = 1 ∨ k = 2 ∨ k = 3 ∨ k = 4 by omega) with e | e | e | e | e <;> subst e
        · refine slv_iload_n eX12_read_28 rfl ?_
          refine slv_tableIn (off := 31) (t := 60) eX12_read_29 (by decide) (by decide) (by decide) (by decide) ?_
          refine slv_aload_n eX12_read_60 rfl ?_
          refine slv_aload_n eX12_read_61 rfl ?_
          refine slr_gi eX12_read_62 fX12_441 rfl (by repeat (first | exact sl_u_eq | assumption | apply rf_ne (by decide) | exact rfl)) ?_
          refine slv_rV (As := [_]) eX12_read_65 lX12_314 rfl rfl rf_68 rfl (c_X12_good _) (by decide) (Nat.le_of_ble_eq_true rfl) ?_
          refine slv_iret eX12_read_68 rfl ?_
          exact qA_1 0 zF
        · refine slv_iload_n eX12_read_28 rfl ?_
          refine slv_tableIn (off := 40) (t := 69) eX12_read_29 (by decide) (by decide) (by decide) (by decide) ?_
          refine slv_aload_n eX12_read_69 rfl ?_
          refine slv_aload_n eX12_read_70 rfl ?_
          refine slr_gi eX12_read_71 fX12_417 rfl gtok2 ?_
          refine slv_rV (As := [_]) eX12_read_74 lX12_314 rfl rfl rf_68 rfl (c_X12_good _) (by decide) (Nat.le_of_ble_eq_true rfl) ?_
          refine slv_iret eX12_read_77 rfl ?_
          exact qA_1 0 zF
        · refine slv_iload_n eX12_read_28 rfl ?_
          refine slv_tableIn (off := 49) (t := 78) eX12_read_29 (by decide) (by decide) (by decide) (by decide) ?_
          refine slv_aload_n eX12_read_78 rfl ?_
          refine slv_aload_n eX12_read_79 rfl ?_
          refine slr_gi eX12_read_80 fX12_444 rfl (by repeat (first | exact sl_u_eq | assumption | apply rf_ne (by decide) | exact rfl)) ?_
          refine slv_rV (As := [_]) eX12_read_83 lX12_314 rfl rfl rf_68 rfl (c_X12_good _) (by decide) (Nat.le_of_ble_eq_true rfl) ?_
          refine slv_iret eX12_read_86 rfl ?_
          exact qA_1 0 zF
        · refine slv_iload_n eX12_read_28 rfl ?_
          refine slv_tableIn (off := 58) (t := 87) eX12_read_29 (by decide) (by decide) (by decide) (by decide) ?_
          refine slv_aload_n eX12_read_87 rfl ?_
          refine slv_aload_n eX12_read_88 rfl ?_
          refine slr_gi eX12_read_89 fX12_447 rfl (by repeat (first | exact sl_u_eq | assumption | apply rf_ne (by decide) | exact rfl)) ?_
          refine slv_rV (As := [_]) eX12_read_92 lX12_314 rfl rfl rf_68 rfl (c_X12_good _) (by decide) (Nat.le_of_ble_eq_true rfl) ?_
          refine slv_iret eX12_read_95 rfl ?_
          exact qA_1 0 zF
        · refine slv_iload_n eX12_read_28 rfl ?_
          refine slv_tableOut (t := 96) eX12_read_29 (by decide) (by decide) ?_
          refine slv_aload_n eX12_read_96 rfl ?_
          refine slv_aload_n eX12_read_97 rfl ?_
          refine slr_gi eX12_read_98 fX12_450 rfl (by repeat (first | exact sl_u_eq | assumption | apply rf_ne (by decide) | exact rfl)) ?_
          refine slv_rV (As := [_]) eX12_read_101 lX12_314 rfl rfl rf_68 rfl (c_X12_good _) (by decide) (Nat.le_of_ble_eq_true rfl) ?_
          refine slv_iret eX12_read_104 rfl ?_
          exact qA_1 0 zF
      refine slv_aload_n eX12_read_0 rfl ?_
      refine slv_iconst (v := nI 0) eX12_read_1 (by decide) ?_
      refine slr_pi eX12_read_2 fX12_149 (Nat.le_of_ble_eq_true rfl) rf_s0 ?_
      refine slv_aload_n eX12_read_5 rfl ?_
      refine slv_iload_n eX12_read_6 rfl ?_
      refine slv_iconst (v := nI 4) eX12_read_7 (by decide) ?_
      refine slv_rV (As := [_, _]) eX12_read_8 lX12_530 rfl rfl rf_68 rfl hA (by decide) (Nat.le_of_ble_eq_true rfl) ?_
      refine slv_if_neB eX12_read_11 (fun h11 => ?_) (fun h11 => absurd h11 (by first | decide | (intro z; cases z)))
      refine slv_aload_n eX12_read_20 rfl ?_
      refine slv_aload_n eX12_read_21 rfl ?_
      refine slr_gi eX12_read_22 fX12_521 rfl ghow ?_
      refine slv_callV (As := [_]) eX12_read_25 lX12_524 rfl rfl rf_68 rfl hRB (by decide) (Nat.le_of_ble_eq_true rfl) (Nat.zero_add _).symm (Nat.zero_add _).symm (Or.inl rfl) ?_
      rintro _ _ ⟨rfl, v2, a2, rfl, z1, z2⟩
      exact aft v2 a2 z1 z2
set_option maxRecDepth 100000 in
theorem c_X12_reduced (h21 : v 21 = sl_bi sn) (h24 : v 53 = sl_bi tl) (hts : tl = true → sn = true) (hH : tl = true → rqH g s rn rk kn nu ln q how S0 S v a) (hc : nd_c (rd_nd S) ≤ 60) (x : Int32) : sl_T YX12_reduced 9 0 0 (qA v w a nm M (an_reduced tl (rd_nd S) x)) [.ref 68, .int x] (rf_S v w a nm M) := by
  have hA := c_X12_isAsked (v := sl_u v 0 (nI 0)) (w := w) (a := a) (nm := nm) (M := M) h21 h24 hts (nI 0) (nI 0)
  rw [in_00] at hA
  refine sl_T.of_V (lv := [_, _]) (by decide) rfl (Nat.le_of_ble_eq_true rfl) ?_
  unfold an_reduced sl_vr
  have F0 := rqF_0 v a (nI 0)
  cases tl with
  | false =>
    refine slv_aload_n eX12_reduced_0 rfl ?_
    refine slv_iconst (v := nI 0) eX12_reduced_1 (by decide) ?_
    refine slr_pi eX12_reduced_2 fX12_149 (Nat.le_of_ble_eq_true rfl) rf_s0 ?_
    refine slv_aload_n eX12_reduced_5 rfl ?_
    refine slv_iconst (v := nI 0) eX12_reduced_6 (by decide) ?_
    refine slv_iconst (v := nI 0) eX12_reduced_7 (by decide) ?_
    refine slv_rV (As := [_, _]) eX12_reduced_8 lX12_530 rfl rfl rf_68 rfl hA (by decide) (Nat.le_of_ble_eq_true rfl) ?_
    refine slv_if_neB eX12_reduced_11 (fun h11 => absurd h11 (by first | decide | (intro z; cases z))) (fun h11 => ?_)
    refine slv_aload_n eX12_reduced_14 rfl ?_
    refine slv_iconst (v := nI 1) eX12_reduced_15 (by decide) ?_
    refine slv_rV (As := [_]) eX12_reduced_16 lX12_155 rfl rfl rf_68 rfl (c_X12_refused 1) (by decide) (Nat.le_of_ble_eq_true rfl) ?_
    refine slv_iret eX12_reduced_19 rfl ?_
    exact qA_1 1 F0
  | true =>
    simp only [cond_true]
    have hH := rqH_F (hH rfl) F0
    have hRB := rq_by (w := w) (nm := nm) (M := M) hH
    have ghow := hH.2.2.2.1.1
    have aft : ∀ v2 a2, rqR S v2 a2 → rsF (sl_u v 0 (nI 0)) a v2 a2 → sl_V YX12_reduced none 9 0 0 (qA v w a nm M (match sl_vi x (nd_c (rd_nd S)) with
        | none => an_no 1
        | some k => an_ok (nI (nd_ru (rd_nd S) k)))) 28 [some (.ref 68), some (.int x)] [] (rf_S v2 w a2 nm M) := by
      intro v2 a2 z1 z2
      obtain ⟨⟨y1, y2, y3, y4, y5⟩, y6, y7⟩ := z1
      have zF := rqF_t F0 (rsF_q z2)
      have hI := c_X12_in (rf_S v2 w a2 nm M) x (nI 0) (nI (nd_c (rd_nd S)) - nI 1)
      rw [in_vi (by omega)] at hI
      cases hx : sl_vi x (nd_c (rd_nd S)) with
      | none =>
        rw [hx] at hI
        refine slv_iload_n eX12_reduced_28 rfl ?_
        refine slv_iconst (v := nI 0) eX12_reduced_29 (by decide) ?_
        refine slv_aload_n eX12_reduced_30 rfl ?_
        refine slr_gi eX12_reduced_31 fX12_447 rfl (by repeat (first | exact sl_u_eq | assumption | apply rf_ne (by decide) | exact rfl)) ?_
        refine slv_iconst (v := nI 1) eX12_reduced_34 (by decide) ?_
        refine slv_isub eX12_reduced_35 ?_
        refine slv_rS (As := [_, _, _]) eX12_reduced_36 lX12_180 rfl rfl hI (by decide) (Nat.le_of_ble_eq_true rfl) ?_
        refine slv_if_eqB eX12_reduced_39 (fun h39 => ?_) (fun h39 => absurd h39 (by first | decide | (intro z; cases z)))
        refine slv_aload_n eX12_reduced_55 rfl ?_
        refine slv_iconst (v := nI 1) eX12_reduced_56 (by decide) ?_
        refine slv_rV (As := [_]) eX12_reduced_57 lX12_155 rfl rfl rf_68 rfl (c_X12_refused 1) (by decide) (Nat.le_of_ble_eq_true rfl) ?_
        refine slv_iret eX12_reduced_60 rfl ?_
        exact qA_1 1 zF
      | some k =>
        rw [hx] at hI
        obtain ⟨ex, hk⟩ := vi_some hx
        have yk := (y7 k hk).1
        subst ex
        refine slv_iload_n eX12_reduced_28 rfl ?_
        refine slv_iconst (v := nI 0) eX12_reduced_29 (by decide) ?_
        refine slv_aload_n eX12_reduced_30 rfl ?_
        refine slr_gi eX12_reduced_31 fX12_447 rfl (by repeat (first | exact sl_u_eq | assumption | apply rf_ne (by decide) | exact rfl)) ?_
        refine slv_iconst (v := nI 1) eX12_reduced_34 (by decide) ?_
        refine slv_isub eX12_reduced_35 ?_
        refine slv_rS (As := [_, _, _]) eX12_reduced_36 lX12_180 rfl rfl hI (by decide) (Nat.le_of_ble_eq_true rfl) ?_
        refine slv_if_eqB eX12_reduced_39 (fun h39 => absurd h39 (by first | decide | (intro z; cases z))) (fun h39 => ?_)
        refine slv_aload_n eX12_reduced_42 rfl ?_
        refine slv_aload_n eX12_reduced_43 rfl ?_
        refine slr_ga (p := 99) eX12_reduced_44 fX12_107 rfl ?_
        refine slv_iload_n eX12_reduced_47 rfl ?_
        refine slr_ialdX (k := 57) (p := 99) (len := 122) eX12_reduced_48 rfl (by repeat (first | exact sl_u_eq | assumption | apply rf_ne (by decide) | exact rfl)) (by omega) (by decide) yk ?_
        refine slv_rV (As := [_]) eX12_reduced_49 lX12_314 rfl rfl rf_68 rfl (c_X12_good _) (by decide) (Nat.le_of_ble_eq_true rfl) ?_
        refine slv_goto eX12_reduced_52 ?_
        refine slv_iret eX12_reduced_60 rfl ?_
        exact qA_1 0 zF
    refine slv_aload_n eX12_reduced_0 rfl ?_
    refine slv_iconst (v := nI 0) eX12_reduced_1 (by decide) ?_
    refine slr_pi eX12_reduced_2 fX12_149 (Nat.le_of_ble_eq_true rfl) rf_s0 ?_
    refine slv_aload_n eX12_reduced_5 rfl ?_
    refine slv_iconst (v := nI 0) eX12_reduced_6 (by decide) ?_
    refine slv_iconst (v := nI 0) eX12_reduced_7 (by decide) ?_
    refine slv_rV (As := [_, _]) eX12_reduced_8 lX12_530 rfl rfl rf_68 rfl hA (by decide) (Nat.le_of_ble_eq_true rfl) ?_
    refine slv_if_neB eX12_reduced_11 (fun h11 => ?_) (fun h11 => absurd h11 (by first | decide | (intro z; cases z)))
    refine slv_aload_n eX12_reduced_20 rfl ?_
    refine slv_aload_n eX12_reduced_21 rfl ?_
    refine slr_gi eX12_reduced_22 fX12_521 rfl ghow ?_
    refine slv_callV (As := [_]) eX12_reduced_25 lX12_524 rfl rfl rf_68 rfl hRB (by decide) (Nat.le_of_ble_eq_true rfl) (Nat.zero_add _).symm (Nat.zero_add _).symm (Or.inl rfl) ?_
    rintro _ _ ⟨rfl, v2, a2, rfl, z1, z2⟩
    exact aft v2 a2 z1 z2
set_option maxRecDepth 100000 in
theorem c_X12_isNode (h21 : v 21 = sl_bi sn) (h24 : v 53 = sl_bi tl) (hts : tl = true → sn = true) (hH : tl = true → rqH g s rn rk kn nu ln q how S0 S v a) (hc : nd_c (rd_nd S) ≤ 60) (x : Int32) : sl_T YX12_isNode 9 0 0 (fun r M' => r = some (.int (sl_bi (sl_vr tl x (nd_c (rd_nd S))).isSome)) ∧ ∃ v' a', M' = rf_S v' w a' nm M ∧ rsF v a v' a' ∧ (tl = true → rqR S v' a')) [.ref 68, .int x] (rf_S v w a nm M) := by
  have hA := c_X12_isAsked (v := v) (w := w) (a := a) (nm := nm) (M := M) h21 h24 hts (nI 0) (nI 0)
  rw [in_00] at hA
  refine sl_T.of_V (lv := [_, _]) (by decide) rfl (Nat.le_of_ble_eq_true rfl) ?_
  unfold sl_vr
  cases tl with
  | false =>
    refine slv_aload_n eX12_isNode_0 rfl ?_
    refine slv_iconst (v := nI 0) eX12_isNode_1 (by decide) ?_
    refine slv_iconst (v := nI 0) eX12_isNode_2 (by decide) ?_
    refine slv_rV (As := [_, _]) eX12_isNode_3 lX12_530 rfl rfl rf_68 rfl hA (by decide) (Nat.le_of_ble_eq_true rfl) ?_
    refine slv_if_neB eX12_isNode_6 (fun h6 => absurd h6 (by first | decide | (intro z; cases z))) (fun h6 => ?_)
    refine slv_iconst (v := nI 0) eX12_isNode_9 (by decide) ?_
    refine slv_zret eX12_isNode_10 rfl rfl ?_
    exact ⟨rfl, v, a, rfl, ⟨fun _ _ => rfl, fun _ _ => rfl⟩, fun q => by cases q⟩
  | true =>
    show sl_V _ _ _ _ _ (fun r M' => r = some (.int (sl_bi (sl_vi x (nd_c (rd_nd S))).isSome)) ∧ _) _ _ _ _
    have hH := hH rfl
    have hRB := rq_by (w := w) (nm := nm) (M := M) hH
    have ghow := hH.2.2.2.1.1
    have aft : ∀ v2 a2, rqR S v2 a2 → rsF v a v2 a2 → sl_V YX12_isNode none 9 0 0 (fun r M' => r = some (.int (sl_bi (sl_vi x (nd_c (rd_nd S))).isSome)) ∧ ∃ v' a', M' = rf_S v' w a' nm M ∧ rsF v a v' a' ∧ (true = true → rqR S v' a')) 19 [some (.ref 68), some (.int x)] [] (rf_S v2 w a2 nm M) := by
      intro v2 a2 z1 z2
      have y4 := z1.1.2.2.2.1
      have hI := c_X12_in (rf_S v2 w a2 nm M) x (nI 0) (nI (nd_c (rd_nd S)) - nI 1)
      rw [in_vi (by omega)] at hI
      refine slv_iload_n eX12_isNode_19 rfl ?_
      refine slv_iconst (v := nI 0) eX12_isNode_20 (by decide) ?_
      refine slv_aload_n eX12_isNode_21 rfl ?_
      refine slr_gi eX12_isNode_22 fX12_447 rfl (by repeat (first | exact sl_u_eq | assumption | apply rf_ne (by decide) | exact rfl)) ?_
      refine slv_iconst (v := nI 1) eX12_isNode_25 (by decide) ?_
      refine slv_isub eX12_isNode_26 ?_
      refine slv_rS (As := [_, _, _]) eX12_isNode_27 lX12_180 rfl rfl hI (by decide) (Nat.le_of_ble_eq_true rfl) ?_
      refine slv_zret eX12_isNode_30 rfl (sl_bi_nar _) ?_
      exact ⟨rfl, v2, a2, rfl, z2, fun _ => z1⟩
    refine slv_aload_n eX12_isNode_0 rfl ?_
    refine slv_iconst (v := nI 0) eX12_isNode_1 (by decide) ?_
    refine slv_iconst (v := nI 0) eX12_isNode_2 (by decide) ?_
    refine slv_rV (As := [_, _]) eX12_isNode_3 lX12_530 rfl rfl rf_68 rfl hA (by decide) (Nat.le_of_ble_eq_true rfl) ?_
    refine slv_if_neB eX12_isNode_6 (fun h6 => ?_) (fun h6 => absurd h6 (by first | decide | (intro z; cases z)))
    refine slv_aload_n eX12_isNode_11 rfl ?_
    refine slv_aload_n eX12_isNode_12 rfl ?_
    refine slr_gi eX12_isNode_13 fX12_521 rfl ghow ?_
    refine slv_callV (As := [_]) eX12_isNode_16 lX12_524 rfl rfl rf_68 rfl hRB (by decide) (Nat.le_of_ble_eq_true rfl) (Nat.zero_add _).symm (Nat.zero_add _).symm (Or.inl rfl) ?_
    rintro _ _ ⟨rfl, v2, a2, rfl, z1, z2⟩
    exact aft v2 a2 z1 z2
end RQA

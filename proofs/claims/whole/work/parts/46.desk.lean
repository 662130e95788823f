/-! numbers asked for, and answers -/
/-- an index below n, or none -/
def sl_vi (x : Int32) (n : Nat) : Option Nat := if 0 ≤ x.toInt ∧ x.toInt < (n : Int) then some x.toInt.toNat else none
theorem vi_some {x : Int32} {n k : Nat} (h : sl_vi x n = some k) : x = nI k ∧ k < n := by
  unfold sl_vi at h
  split at h
  · rename_i c
    have e : x.toInt.toNat = k := Option.some.inj h
    subst e
    refine ⟨?_, by omega⟩
    apply Int32.toInt_inj.mp
    have h2 := Int32.toInt_le x
    have h3 : Int32.maxValue.toInt = 2147483647 := by decide
    rw [nI_toInt (by omega)]
    omega
  · cases h
theorem vi_none {x : Int32} {n : Nat} (h : sl_vi x n = none) : x.toInt < 0 ∨ (n : Int) ≤ x.toInt := by
  unfold sl_vi at h
  split at h
  · cases h
  · omega
theorem vi_nI {n k : Nat} (h : k < n) (hn : k < 2147483648) : sl_vi (nI k) n = some k := by
  unfold sl_vi
  rw [nI_toInt hn, if_pos (by omega)]
  rfl
theorem vi_lt {x : Int32} {n : Nat} (hn : n < 2147483648) (h : sl_vi x n = none) : x < 0 ∨ ¬ x < nI n := by
  rcases vi_none h with c | c
  · have h0 : (0 : Int32).toInt = 0 := by decide
    exact Or.inl (Int32.lt_iff_toInt_lt.mpr (by omega))
  · refine Or.inr (fun g => ?_)
    have := Int32.lt_iff_toInt_lt.mp g
    rw [nI_toInt hn] at this
    omega
theorem vi_le1 {x : Int32} {n : Nat} (hn : n + 1 < 2147483648) (h : x ≤ nI n) : x < nI (n + 1) := by
  have := Int32.le_iff_toInt_le.mp h
  rw [nI_toInt (by omega)] at this
  apply Int32.lt_iff_toInt_lt.mpr
  rw [nI_toInt hn]
  omega
def sl_vr (s : Bool) (x : Int32) (n : Nat) : Option Nat := cond s (sl_vi x n) none
theorem vr_some {s : Bool} {x : Int32} {n k : Nat} (h : sl_vr s x n = some k) : s = true ∧ x = nI k ∧ k < n := by
  cases s with
  | true => exact ⟨rfl, vi_some h⟩
  | false => cases h
theorem vr_none {s : Bool} {x : Int32} {n : Nat} (hn : n < 2147483648) (h : sl_vr s x n = none) : s = false ∨ x < 0 ∨ ¬ x < nI n := by
  cases s with
  | true => exact Or.inr (vi_lt hn h)
  | false => exact Or.inl rfl
theorem vi_neg {k : Nat} (h : k < 2147483648) : ¬ nI k < 0 := by
  intro g
  have := Int32.lt_iff_toInt_lt.mp g
  rw [nI_toInt h] at this
  have h0 : (0 : Int32).toInt = 0 := by decide
  omega
/-- an answer and the trouble with it -/
abbrev an_T : Type := Int32 × Nat
def an_no (k : Nat) : an_T := (-1, k)
def an_ok (v : Int32) : an_T := (v, 0)
section DSK
variable {fd db sb lf lt : Nat} {sn tl : Bool} {lp : Int32} {g : sg_T} {M : sl_M}
theorem ob_sg {db' : Nat} (hb : db' = 2 ∨ db' = 10) (hg : sg_at db' g M) : sg_at db' g (ob_set fd db sb sn tl lf lt lp M) := by
  obtain ⟨g0, g1, g2, g3, g4, g5, g6, g7⟩ := hg
  exact ⟨(ob_out (by omega)).trans g0, (ob_out (by omega)).trans g1, (ob_out (by omega)).trans g2, (ob_out (by omega)).trans g3, (ob_out (by omega)).trans g4, (ob_out (by omega)).trans g5, (ob_out (by omega)).trans g6, (ob_out (by omega)).trans g7⟩
set_option maxRecDepth 100000 in
theorem c_X11_grant (v : Int32) : sl_R YX11_grant 0 [.ref 0, .int v] (ob_set fd db sb sn tl lf lt lp M) (some (.int v)) (ob_set fd db sb sn tl lf 0 lp M) := by
  refine sl_T.of_V (lv := [_, _]) (by decide) rfl (Nat.le_of_ble_eq_true rfl) ?_
  refine slv_aload_n eX11_grant_0 rfl ?_
  refine slv_iconst (v := nI 0) eX11_grant_1 (by decide) ?_
  refine slv_putf (fs' := [_, _, _, _, _, _, _, _, _, _, _, _, _, _, _, _]) eX11_grant_2 fX11_113 (by repeat (first | assumption | exact sl_up_eq | refine sl_up_ne (by first | decide | omega) ?_)) (Nat.le_of_ble_eq_true rfl) rfl rfl rfl ?_
  refine slv_mem ob_u0 ?_
  refine slv_iload_n eX11_grant_5 rfl ?_
  refine slv_iret eX11_grant_6 rfl ?_
  exact ⟨rfl, rfl⟩
set_option maxRecDepth 100000 in
theorem c_X11_refuse (k : Nat) : sl_R YX11_refuse 0 [.ref 0, .int (nI k)] (ob_set fd db sb sn tl lf lt lp M) (some (.int (-1))) (ob_set fd db sb sn tl lf k lp M) := by
  refine sl_T.of_V (lv := [_, _]) (by decide) rfl (Nat.le_of_ble_eq_true rfl) ?_
  refine slv_aload_n eX11_refuse_0 rfl ?_
  refine slv_iload_n eX11_refuse_1 rfl ?_
  refine slv_putf (fs' := [_, _, _, _, _, _, _, _, _, _, _, _, _, _, _, _]) eX11_refuse_2 fX11_113 (by repeat (first | assumption | exact sl_up_eq | refine sl_up_ne (by first | decide | omega) ?_)) (Nat.le_of_ble_eq_true rfl) rfl rfl rfl ?_
  refine slv_mem ob_u0 ?_
  refine slv_iconst (v := (-1)) eX11_refuse_5 (by decide) ?_
  refine slv_iret eX11_refuse_6 rfl ?_
  exact ⟨rfl, rfl⟩
set_option maxRecDepth 100000 in
theorem c_X11_refuseAt (k : Nat) (p : Int32) : sl_R YX11_refuseAt 1 [.ref 0, .int (nI k), .int p] (ob_set fd db sb sn tl lf lt lp M) (some (.int (-1))) (ob_set fd db sb sn tl lf k p M) := by
  refine sl_T.of_V (lv := [_, _, _]) (by decide) rfl (Nat.le_of_ble_eq_true rfl) ?_
  refine slv_aload_n eX11_refuseAt_0 rfl ?_
  refine slv_iload_n eX11_refuseAt_1 rfl ?_
  refine slv_putf (fs' := [_, _, _, _, _, _, _, _, _, _, _, _, _, _, _, _]) eX11_refuseAt_2 fX11_116 (by repeat (first | assumption | exact sl_up_eq | refine sl_up_ne (by first | decide | omega) ?_)) (Nat.le_of_ble_eq_true rfl) rfl rfl rfl ?_
  refine slv_mem ob_u0 ?_
  refine slv_aload_n eX11_refuseAt_5 rfl ?_
  refine slv_iload_n eX11_refuseAt_6 rfl ?_
  refine slv_rV (As := [_]) eX11_refuseAt_7 lX11_76 rfl rfl (by repeat (first | assumption | exact sl_up_eq | refine sl_up_ne (by first | decide | omega) ?_)) rfl (c_X11_refuse k) (by decide) (Nat.le_of_ble_eq_true rfl) ?_
  refine slv_iret eX11_refuseAt_10 rfl ?_
  exact ⟨rfl, rfl⟩
set_option maxRecDepth 100000 in
theorem c_X11_hasRule (hb : db = 2 ∨ db = 10) (hg : sg_at db g M) (hok : sg_ok g) (x : Int32) : sl_R YX11_hasRule 0 [.ref 0, .int x] (ob_set fd db sb sn tl lf lt lp M) (some (.int (sl_bi (sl_vr sn x (sg_rules g)).isSome))) (ob_set fd db sb sn tl lf lt lp M) := by
  have hr : sg_rules g ≤ 12 := hok.2.1
  obtain ⟨g0, g1, g2, g3, g4, g5, g6, g7⟩ := hg
  refine sl_T.of_V (lv := [_, _]) (by decide) rfl (Nat.le_of_ble_eq_true rfl) ?_
  cases hv : sl_vr sn x (sg_rules g) with
  | none =>
    refine slv_aload_n eX11_hasRule_0 rfl ?_
    refine slv_getf eX11_hasRule_1 fX11_97 (by repeat (first | assumption | exact sl_up_eq | refine sl_up_ne (by first | decide | omega) ?_)) rfl ?_
    refine slv_if_eqB eX11_hasRule_4 (fun h4 => ?_) (fun h4 => ?_)
    · refine slv_iconst (v := nI 0) eX11_hasRule_26 (by decide) ?_
      refine slv_zret eX11_hasRule_27 rfl rfl ?_
      exact ⟨rfl, rfl⟩
    · refine slv_iload_n eX11_hasRule_7 rfl ?_
      refine slv_if_lt eX11_hasRule_8 (fun h8 => ?_) (fun h8 => ?_)
      · refine slv_iconst (v := nI 0) eX11_hasRule_26 (by decide) ?_
        refine slv_zret eX11_hasRule_27 rfl rfl ?_
        exact ⟨rfl, rfl⟩
      · refine slv_iload_n eX11_hasRule_11 rfl ?_
        refine slv_aload_n eX11_hasRule_12 rfl ?_
        refine slv_getf eX11_hasRule_13 fX11_16 (by repeat (first | assumption | exact sl_up_eq | refine sl_up_ne (by first | decide | omega) ?_)) rfl ?_
        refine slv_getf eX11_hasRule_16 fX11_107 (by repeat (first | assumption | exact sl_up_eq | refine sl_up_ne (by first | decide | omega) ?_)) rfl ?_
        refine slv_icmp_ge eX11_hasRule_19 (fun h19 => ?_) (fun h19 => ?_)
        · refine slv_iconst (v := nI 0) eX11_hasRule_26 (by decide) ?_
          refine slv_zret eX11_hasRule_27 rfl rfl ?_
          exact ⟨rfl, rfl⟩
        · exfalso
          rcases vr_none (by omega) hv with e | e | e
          · rw [h4] at e; cases e
          · exact h8 e
          · exact h19 (Int32.not_lt.mp e)
  | some k =>
    obtain ⟨hs, hx, hk⟩ := vr_some hv
    subst hs hx
    refine slv_aload_n eX11_hasRule_0 rfl ?_
    refine slv_getf eX11_hasRule_1 fX11_97 (by repeat (first | assumption | exact sl_up_eq | refine sl_up_ne (by first | decide | omega) ?_)) rfl ?_
    refine slv_if_eqB eX11_hasRule_4 (fun h4 => absurd h4 (by decide)) (fun h4 => ?_)
    refine slv_iload_n eX11_hasRule_7 rfl ?_
    refine slv_if_ltN eX11_hasRule_8 (by omega) ?_
    refine slv_iload_n eX11_hasRule_11 rfl ?_
    refine slv_aload_n eX11_hasRule_12 rfl ?_
    refine slv_getf eX11_hasRule_13 fX11_16 (by repeat (first | assumption | exact sl_up_eq | refine sl_up_ne (by first | decide | omega) ?_)) rfl ?_
    refine slv_getf eX11_hasRule_16 fX11_107 (by repeat (first | assumption | exact sl_up_eq | refine sl_up_ne (by first | decide | omega) ?_)) rfl ?_
    refine slv_icmp_geN eX11_hasRule_19 (by omega) (by omega) (fun h19 => absurd h19 (by omega)) (fun h19 => ?_)
    refine slv_iconst (v := nI 1) eX11_hasRule_22 (by decide) ?_
    refine slv_goto eX11_hasRule_23 ?_
    refine slv_zret eX11_hasRule_27 rfl rfl ?_
    exact ⟨rfl, rfl⟩
set_option maxRecDepth 100000 in
theorem c_X11_hasTerminal (hb : db = 2 ∨ db = 10) (hg : sg_at db g M) (hok : sg_ok g) (x : Int32) : sl_R YX11_hasTerminal 0 [.ref 0, .int x] (ob_set fd db sb sn tl lf lt lp M) (some (.int (sl_bi (sl_vr sn x (sg_terms g + 1)).isSome))) (ob_set fd db sb sn tl lf lt lp M) := by
  have hr : sg_terms g ≤ 11 := hok.2.2.2.1
  obtain ⟨g0, g1, g2, g3, g4, g5, g6, g7⟩ := hg
  refine sl_T.of_V (lv := [_, _]) (by decide) rfl (Nat.le_of_ble_eq_true rfl) ?_
  cases hv : sl_vr sn x (sg_terms g + 1) with
  | none =>
    refine slv_aload_n eX11_hasTerminal_0 rfl ?_
    refine slv_getf eX11_hasTerminal_1 fX11_97 (by repeat (first | assumption | exact sl_up_eq | refine sl_up_ne (by first | decide | omega) ?_)) rfl ?_
    refine slv_if_eqB eX11_hasTerminal_4 (fun h4 => ?_) (fun h4 => ?_)
    · refine slv_iconst (v := nI 0) eX11_hasTerminal_26 (by decide) ?_
      refine slv_zret eX11_hasTerminal_27 rfl rfl ?_
      exact ⟨rfl, rfl⟩
    · refine slv_iload_n eX11_hasTerminal_7 rfl ?_
      refine slv_if_lt eX11_hasTerminal_8 (fun h8 => ?_) (fun h8 => ?_)
      · refine slv_iconst (v := nI 0) eX11_hasTerminal_26 (by decide) ?_
        refine slv_zret eX11_hasTerminal_27 rfl rfl ?_
        exact ⟨rfl, rfl⟩
      · refine slv_iload_n eX11_hasTerminal_11 rfl ?_
        refine slv_aload_n eX11_hasTerminal_12 rfl ?_
        refine slv_getf eX11_hasTerminal_13 fX11_16 (by repeat (first | assumption | exact sl_up_eq | refine sl_up_ne (by first | decide | omega) ?_)) rfl ?_
        refine slv_getf eX11_hasTerminal_16 fX11_125 (by repeat (first | assumption | exact sl_up_eq | refine sl_up_ne (by first | decide | omega) ?_)) rfl ?_
        refine slv_icmp_gt eX11_hasTerminal_19 (fun h19 => ?_) (fun h19 => ?_)
        · refine slv_iconst (v := nI 0) eX11_hasTerminal_26 (by decide) ?_
          refine slv_zret eX11_hasTerminal_27 rfl rfl ?_
          exact ⟨rfl, rfl⟩
        · exfalso
          rcases vr_none (by omega) hv with e | e | e
          · rw [h4] at e; cases e
          · exact h8 e
          · exact e (vi_le1 (by omega) (Int32.not_lt.mp h19))
  | some k =>
    obtain ⟨hs, hx, hk⟩ := vr_some hv
    subst hs hx
    refine slv_aload_n eX11_hasTerminal_0 rfl ?_
    refine slv_getf eX11_hasTerminal_1 fX11_97 (by repeat (first | assumption | exact sl_up_eq | refine sl_up_ne (by first | decide | omega) ?_)) rfl ?_
    refine slv_if_eqB eX11_hasTerminal_4 (fun h4 => absurd h4 (by decide)) (fun h4 => ?_)
    refine slv_iload_n eX11_hasTerminal_7 rfl ?_
    refine slv_if_ltN eX11_hasTerminal_8 (by omega) ?_
    refine slv_iload_n eX11_hasTerminal_11 rfl ?_
    refine slv_aload_n eX11_hasTerminal_12 rfl ?_
    refine slv_getf eX11_hasTerminal_13 fX11_16 (by repeat (first | assumption | exact sl_up_eq | refine sl_up_ne (by first | decide | omega) ?_)) rfl ?_
    refine slv_getf eX11_hasTerminal_16 fX11_125 (by repeat (first | assumption | exact sl_up_eq | refine sl_up_ne (by first | decide | omega) ?_)) rfl ?_
    refine slv_icmp_gtN eX11_hasTerminal_19 (by omega) (by omega) (fun h19 => absurd h19 (by omega)) (fun h19 => ?_)
    refine slv_iconst (v := nI 1) eX11_hasTerminal_22 (by decide) ?_
    refine slv_goto eX11_hasTerminal_23 ?_
    refine slv_zret eX11_hasTerminal_27 rfl rfl ?_
    exact ⟨rfl, rfl⟩
end DSK

/-! the reference: numbers, the ring -/
def lp (n : Nat) : Int32 := match n with
  | 0 => -1
  | n + 1 => nI n
theorem lp_dec (n : Nat) : nI n + Int32.ofInt (-1) = lp n := by
  cases n with
  | zero => decide
  | succ n =>
    show _ = nI n
    rw [show nI n = nI (n + 1) - nI 1 from by rw [nI_sub (by omega)]; rfl, Int32.sub_eq_add_neg]
    rfl
theorem lf_go (ar : Nat → Int32) (h : Nat → Nat) (p n i m : Nat) : lk_lf ar h p (n + 1) i m = lk_lf ar h p n (i + 1) (cond (sl_bt (ar p) i) (max m (h i + 1)) m) := rfl
def rhN (ar : Nat → Int32) : Nat → Nat → Nat
  | 0 => fun _ => 0
  | n + 1 => rh1 ar 32 0 (rhN ar n)
theorem rhN_inv {ar : Nat → Int32} (hz : gz ar) (hc : ∀ p, p < 28 → sl_bt (lk_wa 28 0 ar p) p = false) (n : Nat) : (∀ p, p < 28 → lw ar n p ≤ rhN ar n p ∧ rhN ar n p ≤ lw ar 27 p) ∧ ∀ p, 28 ≤ p → rhN ar n p = 0 := by
  induction n with
  | zero => exact ⟨fun p _ => ⟨Nat.le_refl _, Nat.zero_le _⟩, fun _ _ => rfl⟩
  | succ n ih => exact rh1_inv hz hc 32 0 (rhN ar n) (by omega) (fun p hp => by omega) ih.1 ih.2
theorem rhN_eq {ar : Nat → Int32} (hz : gz ar) (hc : ∀ p, p < 28 → sl_bt (lk_wa 28 0 ar p) p = false) {p : Nat} (hp : p < 28) : rhN ar 32 p = lw ar 27 p := by
  obtain ⟨h1, h2⟩ := (rhN_inv hz hc 32).1 p hp
  have h3 : ∀ m, lw ar 27 p ≤ lw ar (27 + m) p := by
    intro m
    induction m with
    | zero => exact Nat.le_refl _
    | succ m ih => exact Nat.le_trans ih (lw_le (27 + m) p)
  have h4 : lw ar 27 p ≤ lw ar 32 p := h3 5
  omega
/-- numbers no higher than the longest ways -/
def rh_B (ar : Nat → Int32) (h : Nat → Nat) : Prop := (∀ p, p < 28 → h p ≤ lw ar 27 p) ∧ ∀ p, 28 ≤ p → h p = 0
theorem rh_B_lt {ar : Nat → Int32} {h : Nat → Nat} (hB : rh_B ar h) (p : Nat) : h p < 900 := by
  rcases Nat.lt_or_ge p 28 with g | g
  · have := hB.1 p g
    have := lw_27 (ar := ar) 27 p
    omega
  · rw [hB.2 p g]; omega
theorem rh_B_st {ar : Nat → Int32} {h : Nat → Nat} (hz : gz ar) (hc : ∀ p, p < 28 → sl_bt (lk_wa 28 0 ar p) p = false) (hB : rh_B ar h) (i : Nat) : rh_B ar (sl_u h i (lk_lf ar h i 32 0 (h i))) := by
  refine ⟨fun p hp => ?_, fun p hp => ?_⟩
  · by_cases g : p = i
    · subst g
      rw [sl_u_eq, lf_32 hz, Nat.max_le]
      refine ⟨hB.1 p hp, ?_⟩
      rw [← lw_fix hc hp]
      exact lf_mono hB.1
    · rw [sl_u_ne g]; exact hB.1 p hp
  · by_cases g : p = i
    · subst g
      rw [sl_u_eq, lf_32 hz, hB.2 p hp, Nat.max_eq_right (Nat.zero_le _)]
      apply Nat.le_antisymm _ (Nat.zero_le _)
      rw [lf_le]
      intro q _ hb
      rw [hz.1 p hp, sl_bt_0] at hb
      cases hb
    · rw [sl_u_ne g]; exact hB.2 p hp
section RRG
variable {v : Nat → Int32} {w : Int64} {a : Nat → Nat → Int32} {nm : Nat → Int64} {M : sl_M} {ar f0 f1 f2 f3 : Nat → Int32}
set_option maxRecDepth 100000 in
theorem c_X12_laysHighs (h42 : a 42 = mx ar f1) (h40 : a 40 = f3) (hz : gz ar) (hc : ∀ p, p < 28 → sl_bt (lk_wa 28 0 ar p) p = false) : sl_R YX12_laysHighs 0 [.ref 68] (rf_S v w a nm M) none (rf_S v w (sl_u a 40 (hx (rhN ar 32) f3)) nm M) := by
  have hpp : ∀ p, p < 32 → sl_bt (ar p) p = false := by
    intro p hp
    rcases Nat.lt_or_ge p 28 with g | g
    · cases hb : sl_bt (ar p) p with
      | false => rfl
      | true => exact absurd ((lk_wa_up ar 28 (Nat.le_refl 28) p p g g hb).symm.trans (hc p g)) (by decide)
    · rw [hz.1 p g]; exact sl_bt_0 p
  have hbd : ∀ p, lw ar 27 p ≤ 27 := lw_27 27
  refine sl_T.of_V (lv := [_, _, _, _]) (by decide) rfl (Nat.le_of_ble_eq_true rfl) ?_
  have ini : ∀ n k, k + n = 32 → ∀ (z2 z3 : Option Value) (Q : Option Value → sl_M → Prop), sl_V YX12_laysHighs none 0 0 0 Q 21 [some (.ref 68), some (.int (nI 32)), z2, z3] [] (rf_S v w (sl_u a 40 (hx (fun _ => 0) f3)) nm M) → sl_V YX12_laysHighs none 0 0 0 Q 2 [some (.ref 68), some (.int (nI k)), z2, z3] [] (rf_S v w (sl_u a 40 (ptf f3 (hx (fun _ => 0) f3) k)) nm M) := by
    intro n
    induction n with
    | zero =>
      intro k hk z2 z3 Q hQ
      have e : k = 32 := by omega
      subst e
      rw [ptf_end (fun p hp => by unfold hx; rw [if_neg (by omega)])]
      refine slv_iload_n eX12_laysHighs_2 rfl ?_
      refine slv_bipush (v := nI 32) eX12_laysHighs_3 (by decide) ?_
      refine slv_icmp_geN eX12_laysHighs_5 (by omega) (by omega) (fun h5 => ?_) (fun h5 => absurd h5 (by omega))
      exact hQ
    | succ n ih =>
      intro k hk z2 z3 Q hQ
      refine slv_iload_n eX12_laysHighs_2 rfl ?_
      refine slv_bipush (v := nI 32) eX12_laysHighs_3 (by decide) ?_
      refine slv_icmp_geN eX12_laysHighs_5 (by omega) (by omega) (fun h5 => absurd h5 (by omega)) (fun h5 => ?_)
      refine slv_aload_n eX12_laysHighs_8 rfl ?_
      refine slr_ga (p := 87) eX12_laysHighs_9 fX12_70 rfl ?_
      refine slv_iload_n eX12_laysHighs_12 rfl ?_
      refine slv_iconst (v := nI 0) eX12_laysHighs_13 (by decide) ?_
      refine slr_iastX (k := 40) (p := 87) (len := 32) eX12_laysHighs_14 rfl (by repeat (first | exact sl_u_eq | assumption | apply rf_ne (by decide) | exact rfl)) (by omega) (by decide) (rf_t40 _ _ _ _ _) ?_
      refine slv_iincN (lv' := [_, _, _, _]) eX12_laysHighs_15 rfl (by decide) rfl ?_
      refine slv_goto eX12_laysHighs_18 ?_
      refine slv_mem ?_ (ih (k + 1) (by omega) _ _ Q hQ)
      rw [sl_u_u, ptf_st (hx_at (by omega))]
  have inq : ∀ (m i n p c : Nat) (h : Nat → Nat), i + m = 32 → p < 32 → n < 100 → c < 1000 → (∀ q, h q < 900) → ∀ (Q : Option Value → sl_M → Prop), (∀ z3, sl_V YX12_laysHighs none 0 0 0 Q 96 [some (.ref 68), some (.int (nI n)), some (.int (nI p)), z3] [] (rf_S v w (sl_u a 40 (hx (sl_u h p (lk_lf ar h p m i c)) f3)) nm M)) → sl_V YX12_laysHighs none 0 0 0 Q 39 [some (.ref 68), some (.int (nI n)), some (.int (nI p)), some (.int (nI i))] [] (rf_S v w (sl_u a 40 (hx (sl_u h p c) f3)) nm M) := by
    intro m
    induction m with
    | zero =>
      intro i n p c h hi hp hn hc2 hh Q hQ
      refine slv_iload_n eX12_laysHighs_39 rfl ?_
      refine slv_bipush (v := nI 32) eX12_laysHighs_40 (by decide) ?_
      refine slv_icmp_geN eX12_laysHighs_42 (by omega) (by omega) (fun h42 => ?_) (fun h42 => absurd h42 (by omega))
      exact hQ _
    | succ m ih =>
      intro i n p c h hi hp hn hc2 hh Q hQ
      have hA : mx ar f1 (32 * p + i) = sl_bi (sl_bt (ar p) i) := mb_at hp (by omega)
      have h1 : hx (sl_u h p c) f3 p = nI c := by rw [hx_at hp, sl_u_eq]
      have h2 : sl_bt (ar p) i = true → hx (sl_u h p c) f3 i = nI (h i) := by
        intro g
        have hne : i ≠ p := fun e => by rw [e, hpp p hp] at g; cases g
        rw [hx_at (by omega), sl_u_ne hne]
      have hhi := hh i
      refine slv_iload_n eX12_laysHighs_39 rfl ?_
      refine slv_bipush (v := nI 32) eX12_laysHighs_40 (by decide) ?_
      refine slv_icmp_geN eX12_laysHighs_42 (by omega) (by omega) (fun h42 => absurd h42 (by omega)) (fun h42 => ?_)
      refine slv_aload_n eX12_laysHighs_45 rfl ?_
      refine slr_ga (p := 89) eX12_laysHighs_46 fX12_76 rfl ?_
      refine slv_bipush (v := nI 32) eX12_laysHighs_49 (by decide) ?_
      refine slv_iload_n eX12_laysHighs_51 rfl ?_
      refine slv_imulN eX12_laysHighs_52 ?_
      refine slv_iload_n eX12_laysHighs_53 rfl ?_
      refine slv_iaddN eX12_laysHighs_54 ?_
      refine slr_zaldX (k := 42) (p := 89) (len := 1024) eX12_laysHighs_55 rfl (by repeat (first | exact sl_u_eq | assumption | apply rf_ne (by decide) | exact rfl)) (by omega) (by decide) hA ?_
      refine slv_if_eqB eX12_laysHighs_56 (fun h56 => ?_) (fun h56 => ?_)
      · refine slv_iincN (lv' := [_, _, _, _]) eX12_laysHighs_90 rfl (by decide) rfl ?_
        refine slv_goto eX12_laysHighs_93 ?_
        first | (refine ih (i + 1) n p c h (by omega) hp hn hc2 hh Q (fun z3 => ?_); have q := hQ z3; rw [lf_go, h56, cond_false] at q; exact q) | (refine ih (i + 1) n p c h (by omega) hp hn hc2 hh Q (fun z3 => ?_); have q := hQ z3; rw [lf_go, h56, cond_true, Nat.max_eq_left (by omega)] at q; exact q) | (rw [sl_u_u, hx_set hp, sl_u_u]; refine ih (i + 1) n p (h i + 1) h (by omega) hp hn (by omega) hh Q (fun z3 => ?_); have q := hQ z3; rw [lf_go, h56, cond_true, Nat.max_eq_right (by omega)] at q; exact q)
      · refine slv_aload_n eX12_laysHighs_59 rfl ?_
        refine slr_ga (p := 87) eX12_laysHighs_60 fX12_70 rfl ?_
        refine slv_iload_n eX12_laysHighs_63 rfl ?_
        refine slr_ialdX (k := 40) (p := 87) (len := 32) eX12_laysHighs_64 rfl (by repeat (first | exact sl_u_eq | assumption | apply rf_ne (by decide) | exact rfl)) (by omega) (by decide) (h2 h56) ?_
        refine slv_iconst (v := nI 1) eX12_laysHighs_65 (by decide) ?_
        refine slv_iaddN eX12_laysHighs_66 ?_
        refine slv_aload_n eX12_laysHighs_67 rfl ?_
        refine slr_ga (p := 87) eX12_laysHighs_68 fX12_70 rfl ?_
        refine slv_iload_n eX12_laysHighs_71 rfl ?_
        refine slr_ialdX (k := 40) (p := 87) (len := 32) eX12_laysHighs_72 rfl (by repeat (first | exact sl_u_eq | assumption | apply rf_ne (by decide) | exact rfl)) (by omega) (by decide) h1 ?_
        refine slv_icmp_leN eX12_laysHighs_73 (by omega) (by omega) (fun h73 => ?_) (fun h73 => ?_)
        · refine slv_iincN (lv' := [_, _, _, _]) eX12_laysHighs_90 rfl (by decide) rfl ?_
          refine slv_goto eX12_laysHighs_93 ?_
          first | (refine ih (i + 1) n p c h (by omega) hp hn hc2 hh Q (fun z3 => ?_); have q := hQ z3; rw [lf_go, h56, cond_false] at q; exact q) | (refine ih (i + 1) n p c h (by omega) hp hn hc2 hh Q (fun z3 => ?_); have q := hQ z3; rw [lf_go, h56, cond_true, Nat.max_eq_left (by omega)] at q; exact q) | (rw [sl_u_u, hx_set hp, sl_u_u]; refine ih (i + 1) n p (h i + 1) h (by omega) hp hn (by omega) hh Q (fun z3 => ?_); have q := hQ z3; rw [lf_go, h56, cond_true, Nat.max_eq_right (by omega)] at q; exact q)
        · refine slv_aload_n eX12_laysHighs_76 rfl ?_
          refine slr_ga (p := 87) eX12_laysHighs_77 fX12_70 rfl ?_
          refine slv_iload_n eX12_laysHighs_80 rfl ?_
          refine slv_aload_n eX12_laysHighs_81 rfl ?_
          refine slr_ga (p := 87) eX12_laysHighs_82 fX12_70 rfl ?_
          refine slv_iload_n eX12_laysHighs_85 rfl ?_
          refine slr_ialdX (k := 40) (p := 87) (len := 32) eX12_laysHighs_86 rfl (by repeat (first | exact sl_u_eq | assumption | apply rf_ne (by decide) | exact rfl)) (by omega) (by decide) (h2 h56) ?_
          refine slv_iconst (v := nI 1) eX12_laysHighs_87 (by decide) ?_
          refine slv_iaddN eX12_laysHighs_88 ?_
          refine slr_iastX (k := 40) (p := 87) (len := 32) eX12_laysHighs_89 rfl (by repeat (first | exact sl_u_eq | assumption | apply rf_ne (by decide) | exact rfl)) (by omega) (by decide) (rf_t40 _ _ _ _ _) ?_
          refine slv_iincN (lv' := [_, _, _, _]) eX12_laysHighs_90 rfl (by decide) rfl ?_
          refine slv_goto eX12_laysHighs_93 ?_
          first | (refine ih (i + 1) n p c h (by omega) hp hn hc2 hh Q (fun z3 => ?_); have q := hQ z3; rw [lf_go, h56, cond_false] at q; exact q) | (refine ih (i + 1) n p c h (by omega) hp hn hc2 hh Q (fun z3 => ?_); have q := hQ z3; rw [lf_go, h56, cond_true, Nat.max_eq_left (by omega)] at q; exact q) | (rw [sl_u_u, hx_set hp, sl_u_u]; refine ih (i + 1) n p (h i + 1) h (by omega) hp hn (by omega) hh Q (fun z3 => ?_); have q := hQ z3; rw [lf_go, h56, cond_true, Nat.max_eq_right (by omega)] at q; exact q)
  have inp : ∀ (m i n : Nat) (h : Nat → Nat), i + m = 32 → n < 100 → rh_B ar h → ∀ (z3 : Option Value) (Q : Option Value → sl_M → Prop), (∀ z3, sl_V YX12_laysHighs none 0 0 0 Q 102 [some (.ref 68), some (.int (nI n)), some (.int (nI 32)), z3] [] (rf_S v w (sl_u a 40 (hx (rh1 ar m i h) f3)) nm M)) → sl_V YX12_laysHighs none 0 0 0 Q 31 [some (.ref 68), some (.int (nI n)), some (.int (nI i)), z3] [] (rf_S v w (sl_u a 40 (hx h f3)) nm M) := by
    intro m
    induction m with
    | zero =>
      intro i n h hi hn hB z3 Q hQ
      have e : i = 32 := by omega
      subst e
      refine slv_iload_n eX12_laysHighs_31 rfl ?_
      refine slv_bipush (v := nI 32) eX12_laysHighs_32 (by decide) ?_
      refine slv_icmp_geN eX12_laysHighs_34 (by omega) (by omega) (fun h34 => ?_) (fun h34 => absurd h34 (by omega))
      exact hQ _
    | succ m ih =>
      intro i n h hi hn hB z3 Q hQ
      have hQ' : ∀ z3, sl_V YX12_laysHighs none 0 0 0 Q 102 [some (.ref 68), some (.int (nI n)), some (.int (nI 32)), z3] [] (rf_S v w (sl_u a 40 (hx (rh1 ar m (i + 1) (sl_u h i (lk_lf ar h i 32 0 (h i)))) f3)) nm M) := hQ
      have hi' := rh_B_lt hB i
      have hq := inq 32 0 n i (h i) h (by omega) (by omega) hn (by omega) (rh_B_lt hB) Q
      rw [sl_u_self] at hq
      refine slv_iload_n eX12_laysHighs_31 rfl ?_
      refine slv_bipush (v := nI 32) eX12_laysHighs_32 (by decide) ?_
      refine slv_icmp_geN eX12_laysHighs_34 (by omega) (by omega) (fun h34 => absurd h34 (by omega)) (fun h34 => ?_)
      refine slv_iconst (v := nI 0) eX12_laysHighs_37 (by decide) ?_
      refine slv_istore_n (i := 3) (lv' := [_, _, _, _]) eX12_laysHighs_38 rfl (by decide) rfl ?_
      refine hq (fun z3 => ?_)
      refine slv_iincN (lv' := [_, _, _, _]) eX12_laysHighs_96 rfl (by decide) rfl ?_
      refine slv_goto eX12_laysHighs_99 ?_
      exact ih (i + 1) n _ (by omega) hn (rh_B_st hz hc hB i) _ Q hQ'
  have outer : ∀ (m n : Nat), n + m = 32 → ∀ (z2 z3 : Option Value) (Q : Option Value → sl_M → Prop), Q none (rf_S v w (sl_u a 40 (hx (rhN ar 32) f3)) nm M) → sl_V YX12_laysHighs none 0 0 0 Q 23 [some (.ref 68), some (.int (nI n)), z2, z3] [] (rf_S v w (sl_u a 40 (hx (rhN ar n) f3)) nm M) := by
    intro m
    induction m with
    | zero =>
      intro n hn z2 z3 Q hQ
      have e : n = 32 := by omega
      subst e
      refine slv_iload_n eX12_laysHighs_23 rfl ?_
      refine slv_bipush (v := nI 32) eX12_laysHighs_24 (by decide) ?_
      refine slv_icmp_geN eX12_laysHighs_26 (by omega) (by omega) (fun h26 => ?_) (fun h26 => absurd h26 (by omega))
      refine slv_vret eX12_laysHighs_108 rfl ?_
      exact hQ
    | succ m ih =>
      intro n hn z2 z3 Q hQ
      obtain ⟨b1, b2⟩ := rhN_inv hz hc n
      refine slv_iload_n eX12_laysHighs_23 rfl ?_
      refine slv_bipush (v := nI 32) eX12_laysHighs_24 (by decide) ?_
      refine slv_icmp_geN eX12_laysHighs_26 (by omega) (by omega) (fun h26 => absurd h26 (by omega)) (fun h26 => ?_)
      refine slv_iconst (v := nI 0) eX12_laysHighs_29 (by decide) ?_
      refine slv_istore_n (i := 2) (lv' := [_, _, _, _]) eX12_laysHighs_30 rfl (by decide) rfl ?_
      refine inp 32 0 n (rhN ar n) (by omega) (by omega) ⟨fun p hp => (b1 p hp).2, b2⟩ _ Q (fun z3 => ?_)
      refine slv_iincN (lv' := [_, _, _, _]) eX12_laysHighs_102 rfl (by decide) rfl ?_
      refine slv_goto eX12_laysHighs_105 ?_
      exact ih (n + 1) (by omega) _ _ Q hQ
  have e1 : rf_S v w a nm M = rf_S v w (sl_u a 40 (ptf f3 (hx (fun _ => 0) f3) 0)) nm M := by rw [ptf_0, ← h40, sl_u_self]
  have hl := ini 32 0 (by omega)
  rw [← e1] at hl
  refine slv_iconst (v := nI 0) eX12_laysHighs_0 (by decide) ?_
  refine slv_istore_n (i := 1) (lv' := [_, _, _, _]) eX12_laysHighs_1 rfl (by decide) rfl ?_
  refine hl _ _ _ ?_
  refine slv_iconst (v := nI 0) eX12_laysHighs_21 (by decide) ?_
  refine slv_istore_n (i := 1) (lv' := [_, _, _, _]) eX12_laysHighs_22 rfl (by decide) rfl ?_
  exact outer 32 0 (by omega) _ _ _ ⟨rfl, rfl⟩
/-- what the ring is, when all is laid -/
def rg_Q (ar : Nat → Int32) (v : Nat → Int32) (a : Nat → Nat → Int32) : Prop := match sl_fn (fun p => sl_bt (lk_wa 28 0 ar p) p) 28 0 with
  | none => v 44 = nI 0
  | some s => v 44 = nI (lk_rl ar s) ∧ ∀ i, i < lk_rl ar s → ∃ k, kq ar s i = some k ∧ a 45 i = nI k
set_option maxRecDepth 100000 in
theorem c_X12_laysRing (h42 : a 42 = mx ar f1) (h43 : a 43 = mx (lk_wa 28 0 ar) f2) (hz : gz ar) : sl_T YX12_laysRing 1 0 0 (fun r M' => r = none ∧ ∃ v' a', M' = rf_S v' w a' nm M ∧ (∀ k, k ∉ [44] → v' k = v k) ∧ (∀ k, k ∉ [41, 45] → a' k = a k) ∧ rg_Q ar v' a') [.ref 68] (rf_S v w a nm M) := by
  have hzr := (rf_wa_eq hz).2
  refine sl_T.of_V (lv := [_, _, _, _, _]) (by decide) rfl (Nat.le_of_ble_eq_true rfl) ?_
  have fst : ∀ (n m : Nat), n + m = 32 → ∀ (z3 z4 : Option Value) (Q : Option Value → sl_M → Prop), (∀ z2, sl_V YX12_laysRing none 1 0 0 Q 36 [some (.ref 68), some (.int (sl_io (sl_fn (fun p => sl_bt (lk_wa 28 0 ar p) p) 32 0))), z2, z3, z4] [] (rf_S (sl_u v 44 (nI 0)) w a nm M)) → sl_V YX12_laysRing none 1 0 0 Q 10 [some (.ref 68), some (.int (sl_io (sl_fn (fun p => sl_bt (lk_wa 28 0 ar p) p) m n))), some (.int (lp n)), z3, z4] [] (rf_S (sl_u v 44 (nI 0)) w a nm M) := by
    intro n
    induction n with
    | zero =>
      intro m hm z3 z4 Q hQ
      have e : m = 32 := by omega
      subst e
      refine slv_mem rfl ?_
      refine slv_iload_n eX12_laysRing_10 rfl ?_
      refine slv_if_lt eX12_laysRing_11 (fun h11 => ?_) (fun h11 => absurd (by decide) h11)
      exact hQ _
    | succ n ih =>
      intro m hm z3 z4 Q hQ
      have hA : mx (lk_wa 28 0 ar) f2 (32 * n + n) = sl_bi (sl_bt (lk_wa 28 0 ar n) n) := mb_at (by omega) (by omega)
      have hI := ih (m + 1) (by omega) z3 z4 Q hQ
      have hf : sl_fn (fun p => sl_bt (lk_wa 28 0 ar p) p) (m + 1) n = cond (sl_bt (lk_wa 28 0 ar n) n) (some n) (sl_fn (fun p => sl_bt (lk_wa 28 0 ar p) p) m (n + 1)) := rfl
      rw [hf] at hI
      show sl_V YX12_laysRing none 1 0 0 Q 10 [some (.ref 68), some (.int (sl_io (sl_fn (fun p => sl_bt (lk_wa 28 0 ar p) p) m (n + 1)))), some (.int (nI n)), z3, z4] [] (rf_S (sl_u v 44 (nI 0)) w a nm M)
      refine slv_iload_n eX12_laysRing_10 rfl ?_
      refine slv_if_ltN eX12_laysRing_11 (by omega) ?_
      refine slv_aload_n eX12_laysRing_14 rfl ?_
      refine slr_ga (p := 90) eX12_laysRing_15 fX12_80 rfl ?_
      refine slv_bipush (v := nI 32) eX12_laysRing_18 (by decide) ?_
      refine slv_iload_n eX12_laysRing_20 rfl ?_
      refine slv_imulN eX12_laysRing_21 ?_
      refine slv_iload_n eX12_laysRing_22 rfl ?_
      refine slv_iaddN eX12_laysRing_23 ?_
      refine slr_zaldX (k := 43) (p := 90) (len := 1024) eX12_laysRing_24 rfl (by repeat (first | exact sl_u_eq | assumption | apply rf_ne (by decide) | exact rfl)) (by omega) (by decide) hA ?_
      refine slv_if_eqB eX12_laysRing_25 (fun h25 => ?_) (fun h25 => ?_)
      · refine slv_iinc (lv' := [_, _, _, _, _]) eX12_laysRing_30 rfl (by decide) rfl rfl ?_
        refine slv_goto eX12_laysRing_33 ?_
        rw [lp_dec]
        rw [h25] at hI
        exact hI
      · refine slv_iload_n eX12_laysRing_28 rfl ?_
        refine slv_istore_n (i := 1) (lv' := [_, _, _, _, _]) eX12_laysRing_29 rfl (by decide) rfl ?_
        refine slv_iinc (lv' := [_, _, _, _, _]) eX12_laysRing_30 rfl (by decide) rfl rfl ?_
        refine slv_goto eX12_laysRing_33 ?_
        rw [lp_dec]
        rw [h25] at hI
        exact hI
  have e28 : sl_fn (fun p => sl_bt (lk_wa 28 0 ar p) p) 32 0 = sl_fn (fun p => sl_bt (lk_wa 28 0 ar p) p) 28 0 := by
    cases h : sl_fn (fun p => sl_bt (lk_wa 28 0 ar p) p) 28 0 with
    | some k =>
      obtain ⟨_, h1, h2⟩ := sl_fn_lt 28 0 k h
      exact sl_fn_of (by omega) h2 (fun j hj => sl_fn_first 28 0 k h j (Nat.zero_le j) hj)
    | none =>
      cases h' : sl_fn (fun p => sl_bt (lk_wa 28 0 ar p) p) 32 0 with
      | none => rfl
      | some k =>
        obtain ⟨_, h1, h2⟩ := sl_fn_lt 32 0 k h'
        rcases Nat.lt_or_ge k 28 with g | g
        · rw [sl_fn_none' 28 0 h k (Nat.zero_le k) (by omega)] at h2; cases h2
        · rw [hzr.2 k k g (by omega)] at h2; cases h2
  refine slv_aload_n eX12_laysRing_0 rfl ?_
  refine slv_iconst (v := nI 0) eX12_laysRing_1 (by decide) ?_
  refine slr_pi eX12_laysRing_2 fX12_396 (Nat.le_of_ble_eq_true rfl) rf_s44 ?_
  refine slv_iconst (v := (-1)) eX12_laysRing_5 (by decide) ?_
  refine slv_istore_n (i := 1) (lv' := [_, _, _, _, _]) eX12_laysRing_6 rfl (by decide) rfl ?_
  refine slv_bipush (v := nI 31) eX12_laysRing_7 (by decide) ?_
  refine slv_istore_n (i := 2) (lv' := [_, _, _, _, _]) eX12_laysRing_9 rfl (by decide) rfl ?_
  refine slv_mem rfl (fst 32 0 (by omega) _ _ _ (fun z2 => ?_))
  rw [e28]
  unfold rg_Q
  cases hs0 : sl_fn (fun p => sl_bt (lk_wa 28 0 ar p) p) 28 0 with
  | none =>
    refine slv_iload_n eX12_laysRing_36 rfl ?_
    refine slv_iconst (v := (-1)) eX12_laysRing_37 (by decide) ?_
    refine slv_icmp_ne eX12_laysRing_38 (fun h38 => absurd rfl h38) (fun h38 => ?_)
    refine slv_vret eX12_laysRing_41 rfl ?_
    exact ⟨rfl, _, _, rfl, fun k hk => sl_u_ne (fun e => hk (by rw [e]; exact List.mem_cons_self)), fun k _ => rfl, sl_u_eq⟩
  | some s =>
    obtain ⟨_, hs28, hr⟩ := sl_fn_lt 28 0 s hs0
    have hs : s < 28 := by omega
    have hmn := rmn_eq hz hs hr
    obtain ⟨L, l1, l2, l3, l4⟩ := rl_spec hz hs hr
    have hdb : ∀ p d, dN ar s 27 p = some d → d ≤ 27 := fun p d h => (dN_le 27 p d h).1
    have hB := c_X12_laysBack (v := sl_u v 44 (nI 0)) (w := w) (nm := nm) (M := M) h42 (rfl : a 41 = a 41) hz hs
    generalize hD : dN ar s 27 = D at *
    have h42' : ∀ f, (sl_u a 41 f) 42 = mx ar f1 := fun f => h42
    have hgo : ∀ (m i : Nat) (o : Option Nat), rmn ar s D (m + 1) i o = rmn ar s D m (i + 1) (cond (sl_bt (ar s) i) (match D i with
      | none => o
      | some d => match o with
        | none => some d
        | some c => if d < c then some d else some c) o) := fun m i o => rfl
    have mnl : ∀ (m i : Nat) (o : Option Nat), i + m = 32 → (∀ d, o = some d → d ≤ 27) → ∀ (z4 : Option Value) (Q : Option Value → sl_M → Prop), (∀ z3, sl_V YX12_laysRing none 1 0 0 Q 109 [some (.ref 68), some (.int (nI s)), some (.int (sl_io (rmn ar s D m i o))), z3, z4] [] (rf_S (sl_u v 44 (nI 0)) w (sl_u a 41 (bx D (a 41))) nm M)) → sl_V YX12_laysRing none 1 0 0 Q 51 [some (.ref 68), some (.int (nI s)), some (.int (sl_io o)), some (.int (nI i)), z4] [] (rf_S (sl_u v 44 (nI 0)) w (sl_u a 41 (bx D (a 41))) nm M) := by
      intro m
      induction m with
      | zero =>
        intro i o hi ho z4 Q hQ
        refine slv_iload_n eX12_laysRing_51 rfl ?_
        refine slv_bipush (v := nI 32) eX12_laysRing_52 (by decide) ?_
        refine slv_icmp_geN eX12_laysRing_54 (by omega) (by omega) (fun h54 => ?_) (fun h54 => absurd h54 (by omega))
        exact hQ _
      | succ m ih =>
        intro i o hi ho z4 Q hQ
        have hA : mx ar f1 (32 * s + i) = sl_bi (sl_bt (ar s) i) := mb_at (by omega) (by omega)
        rw [hgo] at hQ
        cases hb : sl_bt (ar s) i with
        | false =>
          rw [hb] at hA hQ
          refine slv_iload_n eX12_laysRing_51 rfl ?_
          refine slv_bipush (v := nI 32) eX12_laysRing_52 (by decide) ?_
          refine slv_icmp_geN eX12_laysRing_54 (by omega) (by omega) (fun h54 => absurd h54 (by omega)) (fun h54 => ?_)
          refine slv_aload_n eX12_laysRing_57 rfl ?_
          refine slr_ga (p := 89) eX12_laysRing_58 fX12_76 rfl ?_
          refine slv_bipush (v := nI 32) eX12_laysRing_61 (by decide) ?_
          refine slv_iload_n eX12_laysRing_63 rfl ?_
          refine slv_imulN eX12_laysRing_64 ?_
          refine slv_iload_n eX12_laysRing_65 rfl ?_
          refine slv_iaddN eX12_laysRing_66 ?_
          refine slr_zaldX (k := 42) (p := 89) (len := 1024) eX12_laysRing_67 rfl (by repeat (first | exact sl_u_eq | assumption | apply rf_ne (by decide) | exact rfl)) (by omega) (by decide) hA ?_
          refine slv_if_eqB eX12_laysRing_68 (fun h68 => ?_) (fun h68 => absurd h68 (by decide))
          refine slv_iincN (lv' := [_, _, _, _, _]) eX12_laysRing_103 rfl (by decide) rfl ?_
          refine slv_goto eX12_laysRing_106 ?_
          exact ih (i + 1) o (by omega) ho _ Q hQ
        | true =>
          rw [hb, cond_true] at hQ
          rw [hb] at hA
          cases hd : D i with
          | none =>
            rw [hd] at hQ
            have hv : bx D (a 41) i = -1 := by rw [bx_at (by omega), hd]; rfl
            refine slv_iload_n eX12_laysRing_51 rfl ?_
            refine slv_bipush (v := nI 32) eX12_laysRing_52 (by decide) ?_
            refine slv_icmp_geN eX12_laysRing_54 (by omega) (by omega) (fun h54 => absurd h54 (by omega)) (fun h54 => ?_)
            refine slv_aload_n eX12_laysRing_57 rfl ?_
            refine slr_ga (p := 89) eX12_laysRing_58 fX12_76 rfl ?_
            refine slv_bipush (v := nI 32) eX12_laysRing_61 (by decide) ?_
            refine slv_iload_n eX12_laysRing_63 rfl ?_
            refine slv_imulN eX12_laysRing_64 ?_
            refine slv_iload_n eX12_laysRing_65 rfl ?_
            refine slv_iaddN eX12_laysRing_66 ?_
            refine slr_zaldX (k := 42) (p := 89) (len := 1024) eX12_laysRing_67 rfl (by repeat (first | exact sl_u_eq | assumption | apply rf_ne (by decide) | exact rfl)) (by omega) (by decide) hA ?_
            refine slv_if_eqB eX12_laysRing_68 (fun h68 => absurd h68 sl_tf) (fun h68 => ?_)
            refine slv_aload_n eX12_laysRing_71 rfl ?_
            refine slr_ga (p := 88) eX12_laysRing_72 fX12_73 rfl ?_
            refine slv_iload_n eX12_laysRing_75 rfl ?_
            refine slr_ialdX (k := 41) (p := 88) (len := 32) eX12_laysRing_76 rfl (by repeat (first | exact sl_u_eq | assumption | apply rf_ne (by decide) | exact rfl)) (by omega) (by decide) hv ?_
            refine slv_iconst (v := (-1)) eX12_laysRing_77 (by decide) ?_
            refine slv_icmp_eq eX12_laysRing_78 (fun h78 => ?_) (fun h78 => absurd rfl h78)
            refine slv_iincN (lv' := [_, _, _, _, _]) eX12_laysRing_103 rfl (by decide) rfl ?_
            refine slv_goto eX12_laysRing_106 ?_
            exact ih (i + 1) o (by omega) ho _ Q hQ
          | some d =>
            rw [hd] at hQ
            have hd27 := hdb i d hd
            have hv : bx D (a 41) i = nI d := by rw [bx_at (by omega), hd]; rfl
            cases o with
            | none =>
              refine slv_iload_n eX12_laysRing_51 rfl ?_
              refine slv_bipush (v := nI 32) eX12_laysRing_52 (by decide) ?_
              refine slv_icmp_geN eX12_laysRing_54 (by omega) (by omega) (fun h54 => absurd h54 (by omega)) (fun h54 => ?_)
              refine slv_aload_n eX12_laysRing_57 rfl ?_
              refine slr_ga (p := 89) eX12_laysRing_58 fX12_76 rfl ?_
              refine slv_bipush (v := nI 32) eX12_laysRing_61 (by decide) ?_
              refine slv_iload_n eX12_laysRing_63 rfl ?_
              refine slv_imulN eX12_laysRing_64 ?_
              refine slv_iload_n eX12_laysRing_65 rfl ?_
              refine slv_iaddN eX12_laysRing_66 ?_
              refine slr_zaldX (k := 42) (p := 89) (len := 1024) eX12_laysRing_67 rfl (by repeat (first | exact sl_u_eq | assumption | apply rf_ne (by decide) | exact rfl)) (by omega) (by decide) hA ?_
              refine slv_if_eqB eX12_laysRing_68 (fun h68 => absurd h68 sl_tf) (fun h68 => ?_)
              refine slv_aload_n eX12_laysRing_71 rfl ?_
              refine slr_ga (p := 88) eX12_laysRing_72 fX12_73 rfl ?_
              refine slv_iload_n eX12_laysRing_75 rfl ?_
              refine slr_ialdX (k := 41) (p := 88) (len := 32) eX12_laysRing_76 rfl (by repeat (first | exact sl_u_eq | assumption | apply rf_ne (by decide) | exact rfl)) (by omega) (by decide) hv ?_
              refine slv_iconst (v := (-1)) eX12_laysRing_77 (by decide) ?_
              refine slv_icmp_eq eX12_laysRing_78 (fun h78 => absurd h78 (nI_neg1 (by omega))) (fun h78 => ?_)
              refine slv_iload_n eX12_laysRing_81 rfl ?_
              refine slv_iconst (v := (-1)) eX12_laysRing_82 (by decide) ?_
              refine slv_icmp_eq eX12_laysRing_83 (fun h83 => ?_) (fun h83 => absurd rfl h83)
              refine slv_aload_n eX12_laysRing_96 rfl ?_
              refine slr_ga (p := 88) eX12_laysRing_97 fX12_73 rfl ?_
              refine slv_iload_n eX12_laysRing_100 rfl ?_
              refine slr_ialdX (k := 41) (p := 88) (len := 32) eX12_laysRing_101 rfl (by repeat (first | exact sl_u_eq | assumption | apply rf_ne (by decide) | exact rfl)) (by omega) (by decide) hv ?_
              refine slv_istore_n (i := 2) (lv' := [_, _, _, _, _]) eX12_laysRing_102 rfl (by decide) rfl ?_
              refine slv_iincN (lv' := [_, _, _, _, _]) eX12_laysRing_103 rfl (by decide) rfl ?_
              refine slv_goto eX12_laysRing_106 ?_
              exact ih (i + 1) (some d) (by omega) (fun d' g => by have := Option.some.inj g; omega) _ Q hQ
            | some c =>
              have hc27 := ho c rfl
              by_cases hlt : d < c
              · simp only [if_pos hlt] at hQ
                refine slv_iload_n eX12_laysRing_51 rfl ?_
                refine slv_bipush (v := nI 32) eX12_laysRing_52 (by decide) ?_
                refine slv_icmp_geN eX12_laysRing_54 (by omega) (by omega) (fun h54 => absurd h54 (by omega)) (fun h54 => ?_)
                refine slv_aload_n eX12_laysRing_57 rfl ?_
                refine slr_ga (p := 89) eX12_laysRing_58 fX12_76 rfl ?_
                refine slv_bipush (v := nI 32) eX12_laysRing_61 (by decide) ?_
                refine slv_iload_n eX12_laysRing_63 rfl ?_
                refine slv_imulN eX12_laysRing_64 ?_
                refine slv_iload_n eX12_laysRing_65 rfl ?_
                refine slv_iaddN eX12_laysRing_66 ?_
                refine slr_zaldX (k := 42) (p := 89) (len := 1024) eX12_laysRing_67 rfl (by repeat (first | exact sl_u_eq | assumption | apply rf_ne (by decide) | exact rfl)) (by omega) (by decide) hA ?_
                refine slv_if_eqB eX12_laysRing_68 (fun h68 => absurd h68 sl_tf) (fun h68 => ?_)
                refine slv_aload_n eX12_laysRing_71 rfl ?_
                refine slr_ga (p := 88) eX12_laysRing_72 fX12_73 rfl ?_
                refine slv_iload_n eX12_laysRing_75 rfl ?_
                refine slr_ialdX (k := 41) (p := 88) (len := 32) eX12_laysRing_76 rfl (by repeat (first | exact sl_u_eq | assumption | apply rf_ne (by decide) | exact rfl)) (by omega) (by decide) hv ?_
                refine slv_iconst (v := (-1)) eX12_laysRing_77 (by decide) ?_
                refine slv_icmp_eq eX12_laysRing_78 (fun h78 => absurd h78 (nI_neg1 (by omega))) (fun h78 => ?_)
                refine slv_iload_n eX12_laysRing_81 rfl ?_
                refine slv_iconst (v := (-1)) eX12_laysRing_82 (by decide) ?_
                refine slv_icmp_eq eX12_laysRing_83 (fun h83 => absurd h83 (nI_neg1 (by omega))) (fun h83 => ?_)
                refine slv_aload_n eX12_laysRing_86 rfl ?_
                refine slr_ga (p := 88) eX12_laysRing_87 fX12_73 rfl ?_
                refine slv_iload_n eX12_laysRing_90 rfl ?_
                refine slr_ialdX (k := 41) (p := 88) (len := 32) eX12_laysRing_91 rfl (by repeat (first | exact sl_u_eq | assumption | apply rf_ne (by decide) | exact rfl)) (by omega) (by decide) hv ?_
                refine slv_iload_n eX12_laysRing_92 rfl ?_
                refine slv_icmp_geN eX12_laysRing_93 (by omega) (by omega) (fun h93 => absurd h93 (by omega)) (fun h93 => ?_)
                refine slv_aload_n eX12_laysRing_96 rfl ?_
                refine slr_ga (p := 88) eX12_laysRing_97 fX12_73 rfl ?_
                refine slv_iload_n eX12_laysRing_100 rfl ?_
                refine slr_ialdX (k := 41) (p := 88) (len := 32) eX12_laysRing_101 rfl (by repeat (first | exact sl_u_eq | assumption | apply rf_ne (by decide) | exact rfl)) (by omega) (by decide) hv ?_
                refine slv_istore_n (i := 2) (lv' := [_, _, _, _, _]) eX12_laysRing_102 rfl (by decide) rfl ?_
                refine slv_iincN (lv' := [_, _, _, _, _]) eX12_laysRing_103 rfl (by decide) rfl ?_
                refine slv_goto eX12_laysRing_106 ?_
                exact ih (i + 1) (some d) (by omega) (fun d' g => by have := Option.some.inj g; omega) _ Q hQ
              · simp only [if_neg hlt] at hQ
                refine slv_iload_n eX12_laysRing_51 rfl ?_
                refine slv_bipush (v := nI 32) eX12_laysRing_52 (by decide) ?_
                refine slv_icmp_geN eX12_laysRing_54 (by omega) (by omega) (fun h54 => absurd h54 (by omega)) (fun h54 => ?_)
                refine slv_aload_n eX12_laysRing_57 rfl ?_
                refine slr_ga (p := 89) eX12_laysRing_58 fX12_76 rfl ?_
                refine slv_bipush (v := nI 32) eX12_laysRing_61 (by decide) ?_
                refine slv_iload_n eX12_laysRing_63 rfl ?_
                refine slv_imulN eX12_laysRing_64 ?_
                refine slv_iload_n eX12_laysRing_65 rfl ?_
                refine slv_iaddN eX12_laysRing_66 ?_
                refine slr_zaldX (k := 42) (p := 89) (len := 1024) eX12_laysRing_67 rfl (by repeat (first | exact sl_u_eq | assumption | apply rf_ne (by decide) | exact rfl)) (by omega) (by decide) hA ?_
                refine slv_if_eqB eX12_laysRing_68 (fun h68 => absurd h68 sl_tf) (fun h68 => ?_)
                refine slv_aload_n eX12_laysRing_71 rfl ?_
                refine slr_ga (p := 88) eX12_laysRing_72 fX12_73 rfl ?_
                refine slv_iload_n eX12_laysRing_75 rfl ?_
                refine slr_ialdX (k := 41) (p := 88) (len := 32) eX12_laysRing_76 rfl (by repeat (first | exact sl_u_eq | assumption | apply rf_ne (by decide) | exact rfl)) (by omega) (by decide) hv ?_
                refine slv_iconst (v := (-1)) eX12_laysRing_77 (by decide) ?_
                refine slv_icmp_eq eX12_laysRing_78 (fun h78 => absurd h78 (nI_neg1 (by omega))) (fun h78 => ?_)
                refine slv_iload_n eX12_laysRing_81 rfl ?_
                refine slv_iconst (v := (-1)) eX12_laysRing_82 (by decide) ?_
                refine slv_icmp_eq eX12_laysRing_83 (fun h83 => absurd h83 (nI_neg1 (by omega))) (fun h83 => ?_)
                refine slv_aload_n eX12_laysRing_86 rfl ?_
                refine slr_ga (p := 88) eX12_laysRing_87 fX12_73 rfl ?_
                refine slv_iload_n eX12_laysRing_90 rfl ?_
                refine slr_ialdX (k := 41) (p := 88) (len := 32) eX12_laysRing_91 rfl (by repeat (first | exact sl_u_eq | assumption | apply rf_ne (by decide) | exact rfl)) (by omega) (by decide) hv ?_
                refine slv_iload_n eX12_laysRing_92 rfl ?_
                refine slv_icmp_geN eX12_laysRing_93 (by omega) (by omega) (fun h93 => ?_) (fun h93 => absurd h93 (by omega))
                refine slv_iincN (lv' := [_, _, _, _, _]) eX12_laysRing_103 rfl (by decide) rfl ?_
                refine slv_goto eX12_laysRing_106 ?_
                exact ih (i + 1) (some c) (by omega) ho _ Q hQ
    have srch : ∀ (n q q0 i k m : Nat) (f5 : Nat → Int32), q + n = q0 → q0 < 28 → k < 28 → m < 28 → sl_bt (ar k) q0 = true → D q0 = some m → (∀ j, j < q0 → ¬ (sl_bt (ar k) j = true ∧ D j = some m)) → ∀ (Q : Option Value → sl_M → Prop), sl_V YX12_laysRing none 1 0 0 Q 178 [some (.ref 68), some (.int (nI s)), some (.int (nI m)), some (.int (nI k)), some (.int (nI q0))] [] (rf_S (sl_u v 44 (nI i)) w (sl_u (sl_u a 41 (bx D (a 41))) 45 f5) nm M) → sl_V YX12_laysRing none 1 0 0 Q 146 [some (.ref 68), some (.int (nI s)), some (.int (nI m)), some (.int (nI k)), some (.int (nI q))] [] (rf_S (sl_u v 44 (nI i)) w (sl_u (sl_u a 41 (bx D (a 41))) 45 f5) nm M) := by
      intro n
      induction n with
      | zero =>
        intro q q0 i k m f5 hq hq0 hk hm hb hd hno Q hQ
        have e : q = q0 := by omega
        subst e
        have hA : mx ar f1 (32 * k + q) = sl_bi (sl_bt (ar k) q) := mb_at (by omega) (by omega)
        rw [hb] at hA
        have hv : bx D (a 41) q = nI m := by rw [bx_at (by omega), hd]; rfl
        refine slv_aload_n eX12_laysRing_146 rfl ?_
        refine slr_ga (p := 89) eX12_laysRing_147 fX12_76 rfl ?_
        refine slv_bipush (v := nI 32) eX12_laysRing_150 (by decide) ?_
        refine slv_iload_n eX12_laysRing_152 rfl ?_
        refine slv_imulN eX12_laysRing_153 ?_
        refine slv_iload eX12_laysRing_154 rfl ?_
        refine slv_iaddN eX12_laysRing_156 ?_
        refine slr_zaldX (k := 42) (p := 89) (len := 1024) eX12_laysRing_157 rfl (by repeat (first | exact sl_u_eq | assumption | apply rf_ne (by decide) | exact rfl)) (by omega) (by decide) hA ?_
        refine slv_if_eqB eX12_laysRing_158 (fun h158 => absurd h158 sl_tf) (fun h158 => ?_)
        refine slv_aload_n eX12_laysRing_161 rfl ?_
        refine slr_ga (p := 88) eX12_laysRing_162 fX12_73 rfl ?_
        refine slv_iload eX12_laysRing_165 rfl ?_
        refine slr_ialdX (k := 41) (p := 88) (len := 32) eX12_laysRing_167 rfl (by repeat (first | exact sl_u_eq | assumption | apply rf_ne (by decide) | exact rfl)) (by omega) (by decide) hv ?_
        refine slv_iload_n eX12_laysRing_168 rfl ?_
        refine slv_icmp_eqN eX12_laysRing_169 (by omega) (by omega) (fun h169 => ?_) (fun h169 => absurd h169 (by omega))
        exact hQ
      | succ n ih =>
        intro q q0 i k m f5 hq hq0 hk hm hb hd hno Q hQ
        have hA : mx ar f1 (32 * k + q) = sl_bi (sl_bt (ar k) q) := mb_at (by omega) (by omega)
        have hnx := hno q (by omega)
        have hio := io_nI (o := D q) (k := m) (fun d g => by have := hdb q d g; omega) (by omega)
        refine slv_aload_n eX12_laysRing_146 rfl ?_
        refine slr_ga (p := 89) eX12_laysRing_147 fX12_76 rfl ?_
        refine slv_bipush (v := nI 32) eX12_laysRing_150 (by decide) ?_
        refine slv_iload_n eX12_laysRing_152 rfl ?_
        refine slv_imulN eX12_laysRing_153 ?_
        refine slv_iload eX12_laysRing_154 rfl ?_
        refine slv_iaddN eX12_laysRing_156 ?_
        refine slr_zaldX (k := 42) (p := 89) (len := 1024) eX12_laysRing_157 rfl (by repeat (first | exact sl_u_eq | assumption | apply rf_ne (by decide) | exact rfl)) (by omega) (by decide) hA ?_
        refine slv_if_eqB eX12_laysRing_158 (fun h158 => ?_) (fun h158 => ?_)
        · refine slv_iincN (lv' := [_, _, _, _, _]) eX12_laysRing_172 rfl (by decide) rfl ?_
          refine slv_goto eX12_laysRing_175 ?_
          exact ih (q + 1) q0 i k m f5 (by omega) hq0 hk hm hb hd hno Q hQ
        · refine slv_aload_n eX12_laysRing_161 rfl ?_
          refine slr_ga (p := 88) eX12_laysRing_162 fX12_73 rfl ?_
          refine slv_iload eX12_laysRing_165 rfl ?_
          refine slr_ialdX (k := 41) (p := 88) (len := 32) eX12_laysRing_167 rfl (by repeat (first | exact sl_u_eq | assumption | apply rf_ne (by decide) | exact rfl)) (by omega) (by decide) (bx_at (by omega)) ?_
          refine slv_iload_n eX12_laysRing_168 rfl ?_
          refine slv_icmp_eq eX12_laysRing_169 (fun h169 => ?_) (fun h169 => ?_)
          · exact absurd ⟨h158, hio.mp h169⟩ hnx
          · refine slv_iincN (lv' := [_, _, _, _, _]) eX12_laysRing_172 rfl (by decide) rfl ?_
            refine slv_goto eX12_laysRing_175 ?_
            exact ih (q + 1) q0 i k m f5 (by omega) hq0 hk hm hb hd hno Q hQ
    have body : ∀ (i k q : Nat) (f5 : Nat → Int32) (z4 : Option Value), i < lk_rl ar s → k < 28 → lk_ln ar (lk_bk ar s) k (lk_rl ar s - 1 - i) = some q → ∀ Q : Option Value → sl_M → Prop, sl_V YX12_laysRing none 1 0 0 Q 111 [some (.ref 68), some (.int (nI s)), some (.int (lp (lk_rl ar s - 1 - i))), some (.int (nI q)), some (.int (nI q))] [] (rf_S (sl_u v 44 (nI (i + 1))) w (sl_u (sl_u a 41 (bx D (a 41))) 45 (sl_u f5 i (nI k))) nm M) → sl_V YX12_laysRing none 1 0 0 Q 123 [some (.ref 68), some (.int (nI s)), some (.int (nI (lk_rl ar s - 1 - i))), some (.int (nI k)), z4] [] (rf_S (sl_u v 44 (nI i)) w (sl_u (sl_u a 41 (bx D (a 41))) 45 f5) nm M) := by
      intro i k q f5 z4 hi hk hln Q hQ
      obtain ⟨c1, c2, c3, c4⟩ := ln_some hz hs (by omega) hln
      rw [hD] at c3 c4
      refine slv_aload_n eX12_laysRing_123 rfl ?_
      refine slr_ga (p := 91) eX12_laysRing_124 fX12_83 rfl ?_
      refine slv_aload_n eX12_laysRing_127 rfl ?_
      refine slr_gi eX12_laysRing_128 fX12_396 rfl (by repeat (first | exact sl_u_eq | assumption | apply rf_ne (by decide) | exact rfl)) ?_
      refine slv_iload_n eX12_laysRing_131 rfl ?_
      refine slr_iastX (k := 45) (p := 91) (len := 33) eX12_laysRing_132 rfl (by repeat (first | exact sl_u_eq | assumption | apply rf_ne (by decide) | exact rfl)) (by omega) (by decide) (rf_t45 _ _ _ _ _) ?_
      refine slv_aload_n eX12_laysRing_133 rfl ?_
      refine slv_dup eX12_laysRing_134 rfl ?_
      refine slr_gi eX12_laysRing_135 fX12_396 rfl (by repeat (first | exact sl_u_eq | assumption | apply rf_ne (by decide) | exact rfl)) ?_
      refine slv_iconst (v := nI 1) eX12_laysRing_138 (by decide) ?_
      refine slv_iaddN eX12_laysRing_139 ?_
      refine slr_pi eX12_laysRing_140 fX12_396 (Nat.le_of_ble_eq_true rfl) rf_s44 ?_
      refine slv_iconst (v := nI 0) eX12_laysRing_143 (by decide) ?_
      refine slv_istore (lv' := [_, _, _, _, _]) eX12_laysRing_144 (by decide) rfl ?_
      rw [sl_u_u, sl_u_u]
      refine srch q 0 q (i + 1) k _ _ (by omega) c1 hk (by omega) c2 c3 c4 Q ?_
      refine slv_iload eX12_laysRing_178 rfl ?_
      refine slv_istore_n (i := 3) (lv' := [_, _, _, _, _]) eX12_laysRing_180 rfl (by decide) rfl ?_
      refine slv_iinc (lv' := [_, _, _, _, _]) eX12_laysRing_181 rfl (by decide) rfl rfl ?_
      refine slv_goto eX12_laysRing_184 ?_
      rw [lp_dec]
      exact hQ
    have ring : ∀ (n i k : Nat) (f5 : Nat → Int32), i + n + 1 = lk_rl ar s → kq ar s i = some k → (∀ j, j < i → ∃ k, kq ar s j = some k ∧ f5 j = nI k) → ∀ (z4 : Option Value) (Q : Option Value → sl_M → Prop), (∀ f5', (∀ j, j < lk_rl ar s → ∃ k, kq ar s j = some k ∧ f5' j = nI k) → Q none (rf_S (sl_u v 44 (nI (lk_rl ar s))) w (sl_u (sl_u a 41 (bx D (a 41))) 45 f5') nm M)) → sl_V YX12_laysRing none 1 0 0 Q 111 [some (.ref 68), some (.int (nI s)), some (.int (nI (lk_rl ar s - 1 - i))), some (.int (nI k)), z4] [] (rf_S (sl_u v 44 (nI i)) w (sl_u (sl_u a 41 (bx D (a 41))) 45 f5) nm M) := by
      intro n
      induction n with
      | zero =>
        intro i k f5 hi hk hj z4 Q hQ
        obtain ⟨kk, a1, a2, a3, a4⟩ := kq_spec hz hs hr i (by omega)
        rw [hk] at a1
        have e := Option.some.inj a1
        subst e
        obtain ⟨q, b1, b2⟩ := a4 (by omega)
        obtain ⟨c1, c2, c3, c4⟩ := ln_some hz hs (by omega) b1
        rw [show lk_rl ar s - 1 - i = 0 by omega] at c3
        have hqs : q = s := dN_0 c3
        have hne : 1 ≤ i → k ≠ s := by
          intro h1 e
          have := a3 h1
          rw [e] at this
          have h0 : dN ar s 0 s = some 0 := if_pos rfl
          have h2 := dN_keep h0 27
          rw [Nat.zero_add, this] at h2
          have := Option.some.inj h2
          omega
        have hfin := hQ (sl_u f5 i (nI k)) (fun j hj2 => by
          by_cases e : j = i
          · subst e; exact ⟨k, hk, sl_u_eq⟩
          · obtain ⟨k2, d1, d2⟩ := hj j (by omega)
            exact ⟨k2, d1, (sl_u_ne e).trans d2⟩)
        have hend : ∀ z4, sl_V YX12_laysRing none 1 0 0 Q 111 [some (.ref 68), some (.int (nI s)), some (.int (lp (lk_rl ar s - 1 - i))), some (.int (nI q)), z4] [] (rf_S (sl_u v 44 (nI (i + 1))) w (sl_u (sl_u a 41 (bx D (a 41))) 45 (sl_u f5 i (nI k))) nm M) := by
          intro z4
          rw [show i + 1 = lk_rl ar s by omega, hqs]
          refine slv_aload_n eX12_laysRing_111 rfl ?_
          refine slr_gi eX12_laysRing_112 fX12_396 rfl (by repeat (first | exact sl_u_eq | assumption | apply rf_ne (by decide) | exact rfl)) ?_
          refine slv_if_eqN eX12_laysRing_115 (by omega) (fun h115 => absurd h115 (by omega)) (fun h115 => ?_)
          refine slv_iload_n eX12_laysRing_118 rfl ?_
          refine slv_iload_n eX12_laysRing_119 rfl ?_
          refine slv_icmp_eqN eX12_laysRing_120 (by omega) (by omega) (fun h120 => ?_) (fun h120 => absurd h120 (fun q => q rfl))
          refine slv_vret eX12_laysRing_187 rfl ?_
          exact hfin
        by_cases h0 : i = 0
        · refine slv_aload_n eX12_laysRing_111 rfl ?_
          refine slr_gi eX12_laysRing_112 fX12_396 rfl (by repeat (first | exact sl_u_eq | assumption | apply rf_ne (by decide) | exact rfl)) ?_
          refine slv_if_eqN eX12_laysRing_115 (by omega) (fun h115 => ?_) (fun h115 => absurd h115 (by omega))
          exact body i k q f5 _ (by omega) a2 b1 Q (hend _)
        · have hne' := hne (by omega)
          refine slv_aload_n eX12_laysRing_111 rfl ?_
          refine slr_gi eX12_laysRing_112 fX12_396 rfl (by repeat (first | exact sl_u_eq | assumption | apply rf_ne (by decide) | exact rfl)) ?_
          refine slv_if_eqN eX12_laysRing_115 (by omega) (fun h115 => absurd h115 (by omega)) (fun h115 => ?_)
          refine slv_iload_n eX12_laysRing_118 rfl ?_
          refine slv_iload_n eX12_laysRing_119 rfl ?_
          refine slv_icmp_eqN eX12_laysRing_120 (by omega) (by omega) (fun h120 => absurd h120 hne') (fun h120 => ?_)
          exact body i k q f5 _ (by omega) a2 b1 Q (hend _)
      | succ n ih =>
        intro i k f5 hi hk hj z4 Q hQ
        obtain ⟨kk, a1, a2, a3, a4⟩ := kq_spec hz hs hr i (by omega)
        rw [hk] at a1
        have e := Option.some.inj a1
        subst e
        obtain ⟨q, b1, b2⟩ := a4 (by omega)
        have hne : 1 ≤ i → k ≠ s := by
          intro h1 e
          have := a3 h1
          rw [e] at this
          have h0 : dN ar s 0 s = some 0 := if_pos rfl
          have h2 := dN_keep h0 27
          rw [Nat.zero_add, this] at h2
          have := Option.some.inj h2
          omega
        have hnx := fun z4 => ih (i + 1) q (sl_u f5 i (nI k)) (by omega) b2 (fun j hj2 => by
          by_cases e : j = i
          · subst e; exact ⟨k, hk, sl_u_eq⟩
          · obtain ⟨k2, d1, d2⟩ := hj j (by omega)
            exact ⟨k2, d1, (sl_u_ne e).trans d2⟩) z4 Q hQ
        have hlp : lp (lk_rl ar s - 1 - i) = nI (lk_rl ar s - 1 - (i + 1)) := by
          rw [show lk_rl ar s - 1 - i = (lk_rl ar s - 1 - (i + 1)) + 1 by omega]
          rfl
        rw [← hlp] at hnx
        by_cases h0 : i = 0
        · refine slv_aload_n eX12_laysRing_111 rfl ?_
          refine slr_gi eX12_laysRing_112 fX12_396 rfl (by repeat (first | exact sl_u_eq | assumption | apply rf_ne (by decide) | exact rfl)) ?_
          refine slv_if_eqN eX12_laysRing_115 (by omega) (fun h115 => ?_) (fun h115 => absurd h115 (by omega))
          exact body i k q f5 _ (by omega) a2 b1 Q (hnx _)
        · have hne' := hne (by omega)
          refine slv_aload_n eX12_laysRing_111 rfl ?_
          refine slr_gi eX12_laysRing_112 fX12_396 rfl (by repeat (first | exact sl_u_eq | assumption | apply rf_ne (by decide) | exact rfl)) ?_
          refine slv_if_eqN eX12_laysRing_115 (by omega) (fun h115 => absurd h115 (by omega)) (fun h115 => ?_)
          refine slv_iload_n eX12_laysRing_118 rfl ?_
          refine slv_iload_n eX12_laysRing_119 rfl ?_
          refine slv_icmp_eqN eX12_laysRing_120 (by omega) (by omega) (fun h120 => absurd h120 hne') (fun h120 => ?_)
          exact body i k q f5 _ (by omega) a2 b1 Q (hnx _)
    have hs' : (show Int32 from sl_io (some s)) = nI s := rfl
    refine slv_iload_n eX12_laysRing_36 rfl ?_
    refine slv_iconst (v := (-1)) eX12_laysRing_37 (by decide) ?_
    refine slv_icmp_ne eX12_laysRing_38 (fun h38 => ?_) (fun h38 => absurd h38 (nI_neg1 (by omega)))
    refine slv_aload_n eX12_laysRing_42 rfl ?_
    refine slv_iload_n eX12_laysRing_43 rfl ?_
    refine slv_rV (As := [_]) eX12_laysRing_44 lX12_402 rfl rfl rf_68 rfl hB (by decide) (Nat.le_of_ble_eq_true rfl) ?_
    refine slv_iconst (v := (-1)) eX12_laysRing_47 (by decide) ?_
    refine slv_istore_n (i := 2) (lv' := [_, _, _, _, _]) eX12_laysRing_48 rfl (by decide) rfl ?_
    refine slv_iconst (v := nI 0) eX12_laysRing_49 (by decide) ?_
    refine slv_istore_n (i := 3) (lv' := [_, _, _, _, _]) eX12_laysRing_50 rfl (by decide) rfl ?_
    refine slv_mem rfl (mnl 32 0 none (by omega) (fun d g => by cases g) _ _ (fun z3 => ?_))
    rw [hmn]
    have e5 : rf_S (sl_u v 44 (nI 0)) w (sl_u a 41 (bx D (a 41))) nm M = rf_S (sl_u v 44 (nI 0)) w (sl_u (sl_u a 41 (bx D (a 41))) 45 (a 45)) nm M := by
      rw [show a 45 = (sl_u a 41 (bx D (a 41))) 45 from rfl, sl_u_self]
    have hrg := ring (lk_rl ar s - 1) 0 s (a 45) (by omega) rfl (fun j hj => by omega)
    rw [← e5] at hrg
    refine slv_iload_n eX12_laysRing_109 rfl ?_
    refine slv_istore_n (i := 3) (lv' := [_, _, _, _, _]) eX12_laysRing_110 rfl (by decide) rfl ?_
    refine slv_mem rfl (hrg _ _ (fun f5 hf5 => ?_))
    refine ⟨rfl, _, _, rfl, fun k hk => sl_u_ne (fun e => hk (by rw [e]; exact List.mem_cons_self)), fun k hk => ?_, sl_u_eq, fun i hi => ?_⟩
    · rw [sl_u_ne (fun e => hk (by rw [e]; decide)), sl_u_ne (fun e => hk (by rw [e]; decide))]
    · obtain ⟨k, d1, d2⟩ := hf5 i hi
      exact ⟨k, d1, by rw [sl_u_eq]; exact d2⟩
end RRG

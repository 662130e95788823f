theorem sl_upd_O (f : Nat → Option Nat) (k : Nat) (x : Option Nat) : upd (fun i => sl_nd (f i)) k (sl_nd x) = fun i => sl_nd (sl_u f k x i) := by funext j; by_cases h : j = k <;> simp [upd, sl_u, h]
theorem slv_iastO {Y : sl_Y} {X : Option (Nat × (Nat → Int32))} {d kc ks : Nat} {Q : Option Value → sl_M → Prop} {pc q : Nat} {lv : List (Option Value)} {st : List Value} {M : sl_M} {a len k : Nat} {x : Option Nat} {f : Nat → Option Nat} (h : sl_D Y pc .iastore 1 q) (hM : M a = .inl (.int, len, .inl fun i => sl_nd (f i))) (hk : k < len) (hl : len < 2147483648) (kk : sl_V Y X d kc ks Q q lv st (sl_up M a (.inl (.int, len, .inl fun i => sl_nd (sl_u f k x i))))) : sl_V Y X d kc ks Q pc lv (.int (sl_nd x) :: .int (nI k) :: .ref a :: st) M := slv_iast h hM (vp_in_nI hk (by omega)) (by rw [nI_clamp (by omega), sl_upd_O]; exact kk)
theorem sl_nd_eq {o : Option Nat} (h : ∀ k, o = some k → k < 2147483648) : sl_nd o = -2 ↔ o = none := by
  cases o with
  | none => exact ⟨fun _ => rfl, fun _ => rfl⟩
  | some k =>
    refine ⟨fun g => ?_, fun g => by cases g⟩
    have h2 := congrArg Int32.toInt (show nI k = -2 from g)
    rw [nI_toInt (h k rfl)] at h2
    have h3 : Int32.toInt (-2) = -2 := by decide
    rw [h3] at h2
    omega
/-- of a node, or nothing -/
def no_g (f : Nat → Nat) (o : Option Nat) : Nat := match o with
  | none => 0
  | some k => f k
section NOD
variable {b c : Nat} {ru de si : Nat → Nat} {fi se : Nat → Option Nat} {rl : Nat → Bool} {bi : Nat → Int32} {M : sl_M}
set_option maxRecDepth 100000 in
theorem c_X6_isFull (h : no_at b c ru fi se de si rl bi M) (hc : c < 1000) : sl_R YX6_isFull 0 [.ref b] M (some (.int (sl_bi (decide (60 ≤ c))))) M := by
  obtain ⟨a0, a1, a2, a3, a4, a5, a6, a7⟩ := h
  refine sl_T.of_V (lv := [_]) (by decide) rfl (Nat.le_of_ble_eq_true rfl) ?_
  refine slv_aload_n eX6_isFull_0 rfl ?_
  refine slv_getf eX6_isFull_1 fX6_34 (by repeat (first | assumption | exact sl_up_eq | refine sl_up_ne (by first | decide | omega) ?_)) rfl ?_
  refine slv_bipush (v := nI 60) eX6_isFull_4 (by decide) ?_
  refine slv_icmp_ltN eX6_isFull_6 (by omega) (by omega) (fun h6 => ?_) (fun h6 => ?_)
  · refine slv_iconst (v := nI 0) eX6_isFull_13 (by decide) ?_
    refine slv_zret eX6_isFull_14 rfl rfl ?_
    exact ⟨by first | (rw [decide_eq_true h6]; rfl) | (rw [decide_eq_false (Nat.not_le.mpr h6)]; rfl), rfl⟩
  · refine slv_iconst (v := nI 1) eX6_isFull_9 (by decide) ?_
    refine slv_goto eX6_isFull_10 ?_
    refine slv_zret eX6_isFull_14 rfl rfl ?_
    exact ⟨by first | (rw [decide_eq_true h6]; rfl) | (rw [decide_eq_false (Nat.not_le.mpr h6)]; rfl), rfl⟩
set_option maxRecDepth 100000 in
theorem c_X6_depthOf (h : no_at b c ru fi se de si rl bi M) {o : Option Nat} (ho : ∀ k, o = some k → k < 60) : sl_R YX6_depthOf 0 [.ref b, .int (sl_nd o)] M (some (.int (nI (no_g de o)))) M := by
  obtain ⟨a0, a1, a2, a3, a4, a5, a6, a7⟩ := h
  refine sl_T.of_V (lv := [_, _]) (by decide) rfl (Nat.le_of_ble_eq_true rfl) ?_
  cases o with
  | none =>
    refine slv_iload_n eX6_depthOf_0 rfl ?_
    refine slv_if_lt eX6_depthOf_1 (fun h1 => ?_) (fun h1 => absurd (by decide) h1)
    refine slv_iconst (v := nI 0) eX6_depthOf_13 (by decide) ?_
    refine slv_iret eX6_depthOf_14 rfl ?_
    exact ⟨rfl, rfl⟩
  | some k =>
    have hk := ho k rfl
    show sl_V _ _ _ _ _ _ _ [some (.ref b), some (.int (nI k))] _ _
    refine slv_iload_n eX6_depthOf_0 rfl ?_
    refine slv_if_ltN eX6_depthOf_1 (by omega) ?_
    refine slv_aload_n eX6_depthOf_4 rfl ?_
    refine slv_getf eX6_depthOf_5 fX6_21 (by repeat (first | assumption | exact sl_up_eq | refine sl_up_ne (by first | decide | omega) ?_)) rfl ?_
    refine slv_iload_n eX6_depthOf_8 rfl ?_
    refine slv_ialdN eX6_depthOf_9 (by repeat (first | assumption | exact sl_up_eq | refine sl_up_ne (by first | decide | omega) ?_)) (by omega) (by decide) ?_
    refine slv_goto eX6_depthOf_10 ?_
    refine slv_iret eX6_depthOf_14 rfl ?_
    exact ⟨rfl, rfl⟩
set_option maxRecDepth 100000 in
theorem c_X6_sizeOf (h : no_at b c ru fi se de si rl bi M) {o : Option Nat} (ho : ∀ k, o = some k → k < 60) : sl_R YX6_sizeOf 0 [.ref b, .int (sl_nd o)] M (some (.int (nI (no_g si o)))) M := by
  obtain ⟨a0, a1, a2, a3, a4, a5, a6, a7⟩ := h
  refine sl_T.of_V (lv := [_, _]) (by decide) rfl (Nat.le_of_ble_eq_true rfl) ?_
  cases o with
  | none =>
    refine slv_iload_n eX6_sizeOf_0 rfl ?_
    refine slv_if_lt eX6_sizeOf_1 (fun h1 => ?_) (fun h1 => absurd (by decide) h1)
    refine slv_iconst (v := nI 0) eX6_sizeOf_13 (by decide) ?_
    refine slv_iret eX6_sizeOf_14 rfl ?_
    exact ⟨rfl, rfl⟩
  | some k =>
    have hk := ho k rfl
    show sl_V _ _ _ _ _ _ _ [some (.ref b), some (.int (nI k))] _ _
    refine slv_iload_n eX6_sizeOf_0 rfl ?_
    refine slv_if_ltN eX6_sizeOf_1 (by omega) ?_
    refine slv_aload_n eX6_sizeOf_4 rfl ?_
    refine slv_getf eX6_sizeOf_5 fX6_24 (by repeat (first | assumption | exact sl_up_eq | refine sl_up_ne (by first | decide | omega) ?_)) rfl ?_
    refine slv_iload_n eX6_sizeOf_8 rfl ?_
    refine slv_ialdN eX6_sizeOf_9 (by repeat (first | assumption | exact sl_up_eq | refine sl_up_ne (by first | decide | omega) ?_)) (by omega) (by decide) ?_
    refine slv_goto eX6_sizeOf_10 ?_
    refine slv_iret eX6_sizeOf_14 rfl ?_
    exact ⟨rfl, rfl⟩
set_option maxRecDepth 100000 in
theorem c_X6_add (h : no_at b c ru fi se de si rl bi M) (hc : c < 60) (hde : ∀ k, k < 60 → de k < 1000) {r : Nat} {o1 o2 : Option Nat} (h1 : ∀ k, o1 = some k → k < 60) (h2 : ∀ k, o2 = some k → k < 60) (x : Bool) (bt : Int32) :
    sl_R YX6_add 1 [.ref b, .int (nI r), .int (sl_nd o1), .int (sl_nd o2), .int (sl_bi x), .int bt] M none (no_set b (c + 1) (sl_u ru c r) (sl_u fi c o1) (sl_u se c o2) (sl_u de c (1 + max (no_g de o1) (no_g de o2))) (sl_u si c (1 + no_g si o1 + no_g si o2)) (sl_u rl c x) (sl_u bi c bt) M) := by
  have g1 : ∀ o : Option Nat, (∀ k, o = some k → k < 60) → no_g de o < 1000 := by
    intro o ho
    cases o with
    | none => exact Nat.zero_lt_succ _
    | some k => exact hde k (ho k rfl)
  have g3 := g1 o1 h1
  have g4 := g1 o2 h2
  refine sl_T.of_V (lv := [_, _, _, _, _, _]) (by decide) rfl (Nat.le_of_ble_eq_true rfl) ?_
  refine slv_mem (no_self h).symm ?_
  refine slv_aload_n eX6_add_0 rfl ?_
  refine slv_getf eX6_add_1 fX6_9 (by repeat (first | assumption | exact sl_up_eq | refine sl_up_ne (by first | decide | omega) ?_)) rfl ?_
  refine slv_aload_n eX6_add_4 rfl ?_
  refine slv_getf eX6_add_5 fX6_34 (by repeat (first | assumption | exact sl_up_eq | refine sl_up_ne (by first | decide | omega) ?_)) rfl ?_
  refine slv_iload_n eX6_add_8 rfl ?_
  refine slv_iastN (x := r) eX6_add_9 (by repeat (first | assumption | exact sl_up_eq | refine sl_up_ne (by first | decide | omega) ?_)) (by omega) (by decide) ?_
  refine slv_mem no_u1 ?_
  refine slv_aload_n eX6_add_10 rfl ?_
  refine slv_getf eX6_add_11 fX6_15 (by repeat (first | assumption | exact sl_up_eq | refine sl_up_ne (by first | decide | omega) ?_)) rfl ?_
  refine slv_aload_n eX6_add_14 rfl ?_
  refine slv_getf eX6_add_15 fX6_34 (by repeat (first | assumption | exact sl_up_eq | refine sl_up_ne (by first | decide | omega) ?_)) rfl ?_
  refine slv_iload_n eX6_add_18 rfl ?_
  refine slv_iastO eX6_add_19 (by repeat (first | assumption | exact sl_up_eq | refine sl_up_ne (by first | decide | omega) ?_)) (by omega) (by decide) ?_
  refine slv_mem no_u2 ?_
  refine slv_aload_n eX6_add_20 rfl ?_
  refine slv_getf eX6_add_21 fX6_18 (by repeat (first | assumption | exact sl_up_eq | refine sl_up_ne (by first | decide | omega) ?_)) rfl ?_
  refine slv_aload_n eX6_add_24 rfl ?_
  refine slv_getf eX6_add_25 fX6_34 (by repeat (first | assumption | exact sl_up_eq | refine sl_up_ne (by first | decide | omega) ?_)) rfl ?_
  refine slv_iload_n eX6_add_28 rfl ?_
  refine slv_iastO eX6_add_29 (by repeat (first | assumption | exact sl_up_eq | refine sl_up_ne (by first | decide | omega) ?_)) (by omega) (by decide) ?_
  refine slv_mem no_u3 ?_
  refine slv_aload_n eX6_add_30 rfl ?_
  refine slv_getf eX6_add_31 fX6_21 (by repeat (first | assumption | exact sl_up_eq | refine sl_up_ne (by first | decide | omega) ?_)) rfl ?_
  refine slv_aload_n eX6_add_34 rfl ?_
  refine slv_getf eX6_add_35 fX6_34 (by repeat (first | assumption | exact sl_up_eq | refine sl_up_ne (by first | decide | omega) ?_)) rfl ?_
  refine slv_iconst (v := nI 1) eX6_add_38 (by decide) ?_
  refine slv_aload_n eX6_add_39 rfl ?_
  refine slv_iload_n eX6_add_40 rfl ?_
  refine slv_rV (As := [_]) eX6_add_41 lX6_38 rfl rfl (by repeat (first | assumption | exact sl_up_eq | refine sl_up_ne (by first | decide | omega) ?_)) rfl (c_X6_depthOf no_of h1) (by decide) (Nat.le_of_ble_eq_true rfl) ?_
  refine slv_aload_n eX6_add_44 rfl ?_
  refine slv_iload_n eX6_add_45 rfl ?_
  refine slv_rV (As := [_]) eX6_add_46 lX6_38 rfl rfl (by repeat (first | assumption | exact sl_up_eq | refine sl_up_ne (by first | decide | omega) ?_)) rfl (c_X6_depthOf no_of h2) (by decide) (Nat.le_of_ble_eq_true rfl) ?_
  refine slv_maxN eX6_add_49 lX6_42 (by omega) (by omega) (by decide) (Nat.le_of_ble_eq_true rfl) ?_
  refine slv_iaddN eX6_add_52 ?_
  refine slv_iastN eX6_add_53 (by repeat (first | assumption | exact sl_up_eq | refine sl_up_ne (by first | decide | omega) ?_)) (by omega) (by decide) ?_
  refine slv_mem no_u4 ?_
  refine slv_aload_n eX6_add_54 rfl ?_
  refine slv_getf eX6_add_55 fX6_24 (by repeat (first | assumption | exact sl_up_eq | refine sl_up_ne (by first | decide | omega) ?_)) rfl ?_
  refine slv_aload_n eX6_add_58 rfl ?_
  refine slv_getf eX6_add_59 fX6_34 (by repeat (first | assumption | exact sl_up_eq | refine sl_up_ne (by first | decide | omega) ?_)) rfl ?_
  refine slv_iconst (v := nI 1) eX6_add_62 (by decide) ?_
  refine slv_aload_n eX6_add_63 rfl ?_
  refine slv_iload_n eX6_add_64 rfl ?_
  refine slv_rV (As := [_]) eX6_add_65 lX6_48 rfl rfl (by repeat (first | assumption | exact sl_up_eq | refine sl_up_ne (by first | decide | omega) ?_)) rfl (c_X6_sizeOf no_of h1) (by decide) (Nat.le_of_ble_eq_true rfl) ?_
  refine slv_iaddN eX6_add_68 ?_
  refine slv_aload_n eX6_add_69 rfl ?_
  refine slv_iload_n eX6_add_70 rfl ?_
  refine slv_rV (As := [_]) eX6_add_71 lX6_48 rfl rfl (by repeat (first | assumption | exact sl_up_eq | refine sl_up_ne (by first | decide | omega) ?_)) rfl (c_X6_sizeOf no_of h2) (by decide) (Nat.le_of_ble_eq_true rfl) ?_
  refine slv_iaddN eX6_add_74 ?_
  refine slv_iastN eX6_add_75 (by repeat (first | assumption | exact sl_up_eq | refine sl_up_ne (by first | decide | omega) ?_)) (by omega) (by decide) ?_
  refine slv_mem no_u5 ?_
  refine slv_aload_n eX6_add_76 rfl ?_
  refine slv_getf eX6_add_77 fX6_27 (by repeat (first | assumption | exact sl_up_eq | refine sl_up_ne (by first | decide | omega) ?_)) rfl ?_
  refine slv_aload_n eX6_add_80 rfl ?_
  refine slv_getf eX6_add_81 fX6_34 (by repeat (first | assumption | exact sl_up_eq | refine sl_up_ne (by first | decide | omega) ?_)) rfl ?_
  refine slv_iload eX6_add_84 rfl ?_
  refine slv_zastB (x := x) eX6_add_86 (by repeat (first | assumption | exact sl_up_eq | refine sl_up_ne (by first | decide | omega) ?_)) (by omega) (by decide) ?_
  refine slv_mem no_u6 ?_
  refine slv_aload_n eX6_add_87 rfl ?_
  refine slv_getf eX6_add_88 fX6_31 (by repeat (first | assumption | exact sl_up_eq | refine sl_up_ne (by first | decide | omega) ?_)) rfl ?_
  refine slv_aload_n eX6_add_91 rfl ?_
  refine slv_getf eX6_add_92 fX6_34 (by repeat (first | assumption | exact sl_up_eq | refine sl_up_ne (by first | decide | omega) ?_)) rfl ?_
  refine slv_iload eX6_add_95 rfl ?_
  refine slv_iastI eX6_add_97 (by repeat (first | assumption | exact sl_up_eq | refine sl_up_ne (by first | decide | omega) ?_)) (by omega) (by decide) ?_
  refine slv_mem no_u7 ?_
  refine slv_aload_n eX6_add_98 rfl ?_
  refine slv_dup eX6_add_99 rfl ?_
  refine slv_getf eX6_add_100 fX6_34 (by repeat (first | assumption | exact sl_up_eq | refine sl_up_ne (by first | decide | omega) ?_)) rfl ?_
  refine slv_iconst (v := nI 1) eX6_add_103 (by decide) ?_
  refine slv_iaddN eX6_add_104 ?_
  refine slv_putf (fs' := [_, _, _, _, _, _, _, _]) eX6_add_105 fX6_34 (by repeat (first | assumption | exact sl_up_eq | refine sl_up_ne (by first | decide | omega) ?_)) (Nat.le_of_ble_eq_true rfl) rfl rfl rfl ?_
  refine slv_mem no_u0 ?_
  refine slv_vret eX6_add_108 rfl ?_
  exact ⟨rfl, rfl⟩
/-- what lies under a node: the left-th -/
def no_bl (fi se : Nat → Option Nat) (si : Nat → Nat) : Nat → Option Nat → Nat → Option Nat
  | 0, h, _ => h
  | n + 1, h, l => cond (decide (l = 0)) h (match h with
    | none => none
    | some k => cond (decide (l ≤ no_g si (fi k))) (no_bl fi se si n (fi k) (l - 1)) (no_bl fi se si n (se k) (l - (1 + no_g si (fi k)))))
set_option maxRecDepth 100000 in
theorem c_X6_below (h : no_at b c ru fi se de si rl bi M) (hsi : ∀ k, k < 60 → si k < 1000) (hfi : ∀ k j, k < 60 → fi k = some j → j < 60) (hse : ∀ k j, k < 60 → se k = some j → j < 60) {k l : Nat} (hk : k < 60) (hl : l < 1000) :
    sl_R YX6_below 1 [.ref b, .int (nI k), .int (nI l)] M (some (.int (sl_nd (no_bl fi se si 60 (some k) l)))) M := by
  have h' := h
  obtain ⟨a0, a1, a2, a3, a4, a5, a6, a7⟩ := h
  have g1 : ∀ o : Option Nat, (∀ k, o = some k → k < 60) → no_g si o < 1000 := by
    intro o ho
    cases o with
    | none => exact Nat.zero_lt_succ _
    | some k => exact hsi k (ho k rfl)
  refine sl_T.of_V (lv := [_, _, _, _, _, _, _]) (by decide) rfl (Nat.le_of_ble_eq_true rfl) ?_
  have loop : ∀ (n i : Nat) (o : Option Nat) (l0 : Nat) (v6 : Option Value), i + n = 60 → (∀ k, o = some k → k < 60) → l0 < 1000 → ∀ Q : Option Value → sl_M → Prop, Q (some (.int (sl_nd (no_bl fi se si n o l0)))) M → sl_V YX6_below none 1 0 0 Q 8 [some (.ref b), some (.int (nI k)), some (.int (nI l)), some (.int (sl_nd o)), some (.int (nI l0)), some (.int (nI i)), v6] [] M := by
    intro n
    induction n with
    | zero =>
      intro i o l0 v6 hi ho hl0 Q hQ
      refine slv_iload eX6_below_8 rfl ?_
      refine slv_bipush (v := nI 60) eX6_below_10 (by decide) ?_
      refine slv_icmp_geN eX6_below_12 (by omega) (by omega) (fun h12 => ?_) (fun h12 => absurd h12 (by omega))
      refine slv_iload_n eX6_below_78 rfl ?_
      refine slv_iret eX6_below_79 rfl ?_
      exact hQ
    | succ n ih =>
      intro i o l0 v6 hi ho hl0 Q hQ
      cases o with
      | none =>
        refine slv_iload eX6_below_8 rfl ?_
        refine slv_bipush (v := nI 60) eX6_below_10 (by decide) ?_
        refine slv_icmp_geN eX6_below_12 (by omega) (by omega) (fun h12 => absurd h12 (by omega)) (fun h12 => ?_)
        refine slv_iload eX6_below_15 rfl ?_
        refine slv_if_leN eX6_below_17 (by omega) (fun h17 => ?_) (fun h17 => ?_)
        · refine slv_iload_n eX6_below_78 rfl ?_
          refine slv_iret eX6_below_79 rfl ?_
          first | (simp only [no_bl, decide_eq_true h17, cond_true] at hQ; exact hQ) | (simp only [no_bl, decide_eq_false (Nat.pos_iff_ne_zero.mp h17), cond_false] at hQ; exact hQ)
        · refine slv_iload_n eX6_below_20 rfl ?_
          refine slv_if_lt eX6_below_21 (fun h21 => ?_) (fun h21 => absurd (by decide) h21)
          refine slv_iload_n eX6_below_78 rfl ?_
          refine slv_iret eX6_below_79 rfl ?_
          first | (simp only [no_bl, decide_eq_true h17, cond_true] at hQ; exact hQ) | (simp only [no_bl, decide_eq_false (Nat.pos_iff_ne_zero.mp h17), cond_false] at hQ; exact hQ)
      | some q =>
        have hq := ho q rfl
        have g2 := g1 (fi q) (hfi q · hq)
        show sl_V _ _ _ _ _ _ _ [some (.ref b), some (.int (nI k)), some (.int (nI l)), some (.int (nI q)), some (.int (nI l0)), some (.int (nI i)), v6] _ _
        refine slv_iload eX6_below_8 rfl ?_
        refine slv_bipush (v := nI 60) eX6_below_10 (by decide) ?_
        refine slv_icmp_geN eX6_below_12 (by omega) (by omega) (fun h12 => absurd h12 (by omega)) (fun h12 => ?_)
        refine slv_iload eX6_below_15 rfl ?_
        refine slv_if_leN eX6_below_17 (by omega) (fun h17 => ?_) (fun h17 => ?_)
        · refine slv_iload_n eX6_below_78 rfl ?_
          refine slv_iret eX6_below_79 rfl ?_
          simp only [no_bl, decide_eq_true h17, cond_true] at hQ
          exact hQ
        · refine slv_iload_n eX6_below_20 rfl ?_
          refine slv_if_ltN eX6_below_21 (by omega) ?_
          refine slv_aload_n eX6_below_24 rfl ?_
          refine slv_aload_n eX6_below_25 rfl ?_
          refine slv_getf eX6_below_26 fX6_15 (by repeat (first | assumption | exact sl_up_eq | refine sl_up_ne (by first | decide | omega) ?_)) rfl ?_
          refine slv_iload_n eX6_below_29 rfl ?_
          refine slv_ialdN eX6_below_30 (by repeat (first | assumption | exact sl_up_eq | refine sl_up_ne (by first | decide | omega) ?_)) (by omega) (by decide) ?_
          refine slv_rV (As := [_]) eX6_below_31 lX6_48 rfl rfl (by repeat (first | assumption | exact sl_up_eq | refine sl_up_ne (by first | decide | omega) ?_)) rfl (c_X6_sizeOf h' (hfi q · hq)) (by decide) (Nat.le_of_ble_eq_true rfl) ?_
          refine slv_istore (lv' := [_, _, _, _, _, _, _]) eX6_below_34 (by decide) rfl ?_
          refine slv_iload eX6_below_36 rfl ?_
          refine slv_iload eX6_below_38 rfl ?_
          refine slv_icmp_gtN eX6_below_40 (by omega) (by omega) (fun h40 => ?_) (fun h40 => ?_)
          · refine slv_aload_n eX6_below_56 rfl ?_
            refine slv_getf eX6_below_57 fX6_18 (by repeat (first | assumption | exact sl_up_eq | refine sl_up_ne (by first | decide | omega) ?_)) rfl ?_
            refine slv_iload_n eX6_below_60 rfl ?_
            refine slv_ialdN eX6_below_61 (by repeat (first | assumption | exact sl_up_eq | refine sl_up_ne (by first | decide | omega) ?_)) (by omega) (by decide) ?_
            refine slv_istore_n (i := 3) (lv' := [_, _, _, _, _, _, _]) eX6_below_62 rfl (by decide) rfl ?_
            refine slv_iload eX6_below_63 rfl ?_
            refine slv_iconst (v := nI 1) eX6_below_65 (by decide) ?_
            refine slv_iload eX6_below_66 rfl ?_
            refine slv_iaddN eX6_below_68 ?_
            refine slv_isubN eX6_below_69 (by omega) ?_
            refine slv_istore (lv' := [_, _, _, _, _, _, _]) eX6_below_70 (by decide) rfl ?_
            refine slv_iincN (lv' := [_, _, _, _, _, _, _]) eX6_below_72 rfl (by decide) rfl ?_
            refine slv_goto eX6_below_75 ?_
            first | (have z : l0 ≤ no_g si (fi q) := h40; simp only [no_bl, decide_eq_false (Nat.pos_iff_ne_zero.mp h17), decide_eq_true z, cond_true, cond_false] at hQ; exact ih (i + 1) (fi q) (l0 - 1) _ (by omega) (hfi q · hq) (by omega) Q hQ) | (have z : no_g si (fi q) < l0 := h40; simp only [no_bl, decide_eq_false (Nat.pos_iff_ne_zero.mp h17), decide_eq_false (Nat.not_le.mpr z), cond_false] at hQ; exact ih (i + 1) (se q) (l0 - (1 + no_g si (fi q))) _ (by omega) (hse q · hq) (by omega) Q hQ)
          · refine slv_aload_n eX6_below_43 rfl ?_
            refine slv_getf eX6_below_44 fX6_15 (by repeat (first | assumption | exact sl_up_eq | refine sl_up_ne (by first | decide | omega) ?_)) rfl ?_
            refine slv_iload_n eX6_below_47 rfl ?_
            refine slv_ialdN eX6_below_48 (by repeat (first | assumption | exact sl_up_eq | refine sl_up_ne (by first | decide | omega) ?_)) (by omega) (by decide) ?_
            refine slv_istore_n (i := 3) (lv' := [_, _, _, _, _, _, _]) eX6_below_49 rfl (by decide) rfl ?_
            refine slv_idecN (lv' := [_, _, _, _, _, _, _]) eX6_below_50 rfl (by decide) (by omega) rfl ?_
            refine slv_goto eX6_below_53 ?_
            refine slv_iincN (lv' := [_, _, _, _, _, _, _]) eX6_below_72 rfl (by decide) rfl ?_
            refine slv_goto eX6_below_75 ?_
            first | (have z : l0 ≤ no_g si (fi q) := h40; simp only [no_bl, decide_eq_false (Nat.pos_iff_ne_zero.mp h17), decide_eq_true z, cond_true, cond_false] at hQ; exact ih (i + 1) (fi q) (l0 - 1) _ (by omega) (hfi q · hq) (by omega) Q hQ) | (have z : no_g si (fi q) < l0 := h40; simp only [no_bl, decide_eq_false (Nat.pos_iff_ne_zero.mp h17), decide_eq_false (Nat.not_le.mpr z), cond_false] at hQ; exact ih (i + 1) (se q) (l0 - (1 + no_g si (fi q))) _ (by omega) (hse q · hq) (by omega) Q hQ)
  refine slv_iload_n eX6_below_0 rfl ?_
  refine slv_istore_n (i := 3) (lv' := [_, _, _, _, _, _, _]) eX6_below_1 rfl (by decide) rfl ?_
  refine slv_iload_n eX6_below_2 rfl ?_
  refine slv_istore (lv' := [_, _, _, _, _, _, _]) eX6_below_3 (by decide) rfl ?_
  refine slv_iconst (v := nI 0) eX6_below_5 (by decide) ?_
  refine slv_istore (lv' := [_, _, _, _, _, _, _]) eX6_below_6 (by decide) rfl ?_
  exact loop 60 0 (some k) l _ (by omega) (fun q hq => by cases hq; exact hk) hl _ ⟨rfl, rfl⟩
end NOD
section HND
variable {b n : Nat} {f s : Option Nat} {it : Nat → Nat} {M : sl_M}
def hn_an (n : Nat) : Nat := if n < 31 then n + 1 else n
def hn_ai (n : Nat) (it : Nat → Nat) (x : Nat) : Nat → Nat := if n < 31 then sl_u it n x else it
set_option maxRecDepth 100000 in
theorem c_X4_addItem (h : hn_at b f s n it M) (hn : n ≤ 31) (x : Nat) : sl_R YX4_addItem 0 [.ref b, .int (nI x)] M none (hn_set b f s (hn_an n) (hn_ai n it x) M) := by
  refine sl_T.of_V (lv := [_, _]) (by decide) rfl (Nat.le_of_ble_eq_true rfl) ?_
  refine slv_mem (hn_self h).symm ?_
  refine slv_aload_n eX4_addItem_0 rfl ?_
  refine slv_getf eX4_addItem_1 fX4_15 (by repeat (first | assumption | exact sl_up_eq | refine sl_up_ne (by first | decide | omega) ?_)) rfl ?_
  refine slv_bipush (v := nI 31) eX4_addItem_4 (by decide) ?_
  refine slv_icmp_geN eX4_addItem_6 (by omega) (by omega) (fun h6 => ?_) (fun h6 => ?_)
  · try refine slv_mem hn_u0 ?_
    refine slv_vret eX4_addItem_29 rfl ?_
    exact ⟨rfl, by first | (rw [hn_an, hn_ai, if_pos h6, if_pos h6]) | (rw [hn_an, hn_ai, if_neg (Nat.not_lt.mpr h6), if_neg (Nat.not_lt.mpr h6)])⟩
  · refine slv_aload_n eX4_addItem_9 rfl ?_
    refine slv_getf eX4_addItem_10 fX4_9 (by repeat (first | assumption | exact sl_up_eq | refine sl_up_ne (by first | decide | omega) ?_)) rfl ?_
    refine slv_aload_n eX4_addItem_13 rfl ?_
    refine slv_getf eX4_addItem_14 fX4_15 (by repeat (first | assumption | exact sl_up_eq | refine sl_up_ne (by first | decide | omega) ?_)) rfl ?_
    refine slv_iload_n eX4_addItem_17 rfl ?_
    refine slv_iastN (x := x) eX4_addItem_18 (by repeat (first | assumption | exact sl_up_eq | refine sl_up_ne (by first | decide | omega) ?_)) (by omega) (by decide) ?_
    refine slv_mem hn_u1 ?_
    refine slv_aload_n eX4_addItem_19 rfl ?_
    refine slv_dup eX4_addItem_20 rfl ?_
    refine slv_getf eX4_addItem_21 fX4_15 (by repeat (first | assumption | exact sl_up_eq | refine sl_up_ne (by first | decide | omega) ?_)) rfl ?_
    refine slv_iconst (v := nI 1) eX4_addItem_24 (by decide) ?_
    refine slv_iaddN eX4_addItem_25 ?_
    refine slv_putf (fs' := [_, _, _, _]) eX4_addItem_26 fX4_15 (by repeat (first | assumption | exact sl_up_eq | refine sl_up_ne (by first | decide | omega) ?_)) (Nat.le_of_ble_eq_true rfl) rfl rfl rfl ?_
    try refine slv_mem hn_u0 ?_
    refine slv_vret eX4_addItem_29 rfl ?_
    exact ⟨rfl, by first | (rw [hn_an, hn_ai, if_pos h6, if_pos h6]) | (rw [hn_an, hn_ai, if_neg (Nat.not_lt.mpr h6), if_neg (Nat.not_lt.mpr h6)])⟩
/-- a value is added: first, second, how many, the items -/
def hn_v1 (o f : Option Nat) : Option Nat := match o, f with
  | none, f => f
  | some k, none => some k
  | some _, some j => some j
def hn_v2 (o f s : Option Nat) : Option Nat := match o, f, s with
  | none, _, s => s
  | some _, none, s => s
  | some k, some _, none => some k
  | some _, some _, some j => some j
def hn_vn (o : Option Nat) (n : Nat) : Nat := match o with
  | none => n
  | some _ => hn_an n
def hn_vi (o : Option Nat) (n : Nat) (it : Nat → Nat) : Nat → Nat := match o with
  | none => it
  | some _ => hn_ai n it 100
set_option maxRecDepth 100000 in
theorem c_X4_addValue (h : hn_at b f s n it M) (hn : n ≤ 31) {o : Option Nat} (ho : ∀ k, o = some k → k < 60) (hf : ∀ k, f = some k → k < 60) (hs : ∀ k, s = some k → k < 60) : sl_R YX4_addValue 1 [.ref b, .int (sl_nd o)] M none (hn_set b (hn_v1 o f) (hn_v2 o f s) (hn_vn o n) (hn_vi o n it) M) := by
  have n1 : sl_nd o = -2 ↔ o = none := sl_nd_eq (fun k hk => by have := ho k hk; omega)
  have n2 : sl_nd f = -2 ↔ f = none := sl_nd_eq (fun k hk => by have := hf k hk; omega)
  have n3 : sl_nd s = -2 ↔ s = none := sl_nd_eq (fun k hk => by have := hs k hk; omega)
  refine sl_T.of_V (lv := [_, _]) (by decide) rfl (Nat.le_of_ble_eq_true rfl) ?_
  refine slv_mem (hn_self h).symm ?_
  refine slv_iload_n eX4_addValue_0 rfl ?_
  refine slv_bipush (v := (-2)) eX4_addValue_1 (by decide) ?_
  refine slv_icmp_ne eX4_addValue_3 (fun h3 => ?_) (fun h3 => ?_)
  · refine slv_aload_n eX4_addValue_7 rfl ?_
    refine slv_bipush (v := nI 100) eX4_addValue_8 (by decide) ?_
    refine slv_rV (As := [_]) eX4_addValue_10 lX4_29 rfl rfl (by repeat (first | assumption | exact sl_up_eq | refine sl_up_ne (by first | decide | omega) ?_)) rfl (c_X4_addItem hn_of hn 100) (by decide) (Nat.le_of_ble_eq_true rfl) ?_
    refine slv_mem hn_ss ?_
    refine slv_aload_n eX4_addValue_13 rfl ?_
    refine slv_getf eX4_addValue_14 fX4_19 (by repeat (first | assumption | exact sl_up_eq | refine sl_up_ne (by first | decide | omega) ?_)) rfl ?_
    refine slv_bipush (v := (-2)) eX4_addValue_17 (by decide) ?_
    refine slv_icmp_ne eX4_addValue_19 (fun h19 => ?_) (fun h19 => ?_)
    · refine slv_aload_n eX4_addValue_30 rfl ?_
      refine slv_getf eX4_addValue_31 fX4_22 (by repeat (first | assumption | exact sl_up_eq | refine sl_up_ne (by first | decide | omega) ?_)) rfl ?_
      refine slv_bipush (v := (-2)) eX4_addValue_34 (by decide) ?_
      refine slv_icmp_ne eX4_addValue_36 (fun h36 => ?_) (fun h36 => ?_)
      · try refine slv_mem (hn_u0 (f' := f) (s' := o) (n' := hn_an n)) ?_
        refine slv_vret eX4_addValue_44 rfl ?_
        rw [n1] at h3
        obtain ⟨ok, hok⟩ := Option.ne_none_iff_exists'.mp h3
        rw [n2] at h19
        first | (have z : f = none := h19; subst z hok; exact ⟨rfl, rfl⟩) | (obtain ⟨fk, hfk⟩ := Option.ne_none_iff_exists'.mp h19; rw [n3] at h36; first | (have z : s = none := h36; subst z hok hfk; exact ⟨rfl, rfl⟩) | (obtain ⟨sk, hsk⟩ := Option.ne_none_iff_exists'.mp h36; subst hok hfk hsk; exact ⟨rfl, rfl⟩))
      · refine slv_aload_n eX4_addValue_39 rfl ?_
        refine slv_iload_n eX4_addValue_40 rfl ?_
        refine slv_putf (fs' := [_, _, _, _]) eX4_addValue_41 fX4_22 (by repeat (first | assumption | exact sl_up_eq | refine sl_up_ne (by first | decide | omega) ?_)) (Nat.le_of_ble_eq_true rfl) rfl rfl rfl ?_
        try refine slv_mem (hn_u0 (f' := f) (s' := o) (n' := hn_an n)) ?_
        refine slv_vret eX4_addValue_44 rfl ?_
        rw [n1] at h3
        obtain ⟨ok, hok⟩ := Option.ne_none_iff_exists'.mp h3
        rw [n2] at h19
        first | (have z : f = none := h19; subst z hok; exact ⟨rfl, rfl⟩) | (obtain ⟨fk, hfk⟩ := Option.ne_none_iff_exists'.mp h19; rw [n3] at h36; first | (have z : s = none := h36; subst z hok hfk; exact ⟨rfl, rfl⟩) | (obtain ⟨sk, hsk⟩ := Option.ne_none_iff_exists'.mp h36; subst hok hfk hsk; exact ⟨rfl, rfl⟩))
    · refine slv_aload_n eX4_addValue_22 rfl ?_
      refine slv_iload_n eX4_addValue_23 rfl ?_
      refine slv_putf (fs' := [_, _, _, _]) eX4_addValue_24 fX4_19 (by repeat (first | assumption | exact sl_up_eq | refine sl_up_ne (by first | decide | omega) ?_)) (Nat.le_of_ble_eq_true rfl) rfl rfl rfl ?_
      refine slv_mem (hn_u0 (f' := o) (s' := s) (n' := hn_an n)) ?_
      refine slv_goto eX4_addValue_27 ?_
      try refine slv_mem (hn_u0 (f' := f) (s' := o) (n' := hn_an n)) ?_
      refine slv_vret eX4_addValue_44 rfl ?_
      rw [n1] at h3
      obtain ⟨ok, hok⟩ := Option.ne_none_iff_exists'.mp h3
      rw [n2] at h19
      first | (have z : f = none := h19; subst z hok; exact ⟨rfl, rfl⟩) | (obtain ⟨fk, hfk⟩ := Option.ne_none_iff_exists'.mp h19; rw [n3] at h36; first | (have z : s = none := h36; subst z hok hfk; exact ⟨rfl, rfl⟩) | (obtain ⟨sk, hsk⟩ := Option.ne_none_iff_exists'.mp h36; subst hok hfk hsk; exact ⟨rfl, rfl⟩))
  · refine slv_vret eX4_addValue_6 rfl ?_
    rw [n1] at h3
    subst h3
    exact ⟨rfl, rfl⟩
/-- the handle matches rule r -/
def hn_mt (g : sg_T) (n : Nat) (it : Nat → Nat) (r : Nat) : Bool := decide (sg_lens g r = n) && !(sl_ex (fun i => !(decide (it i = cond (sg_nm (sg_it g r i)) 100 (sg_it g r i)))) n 0)
set_option maxRecDepth 100000 in
theorem c_X4_matches {gb : Nat} {g : sg_T} (hg : sg_at gb g M) (hok : sg_ok g) (h : hn_at b f s n it M) (hn : n ≤ 31) (hit : ∀ i, i < 31 → it i < 1000) {r : Nat} (hr : r < 12) : sl_R YX4_matches 1 [.ref b, .ref gb, .int (nI r)] M (some (.int (sl_bi (hn_mt g n it r)))) M := by
  have hg' := hg
  obtain ⟨g0, g1, g2, g3, g4, g5, g6, g7⟩ := hg
  have hl : sg_lens g r ≤ 5 := (hok.2.2.2.2.2.1 r hr).2.2
  obtain ⟨a0, a1⟩ := h
  refine sl_T.of_V (lv := [_, _, _, _, _]) (by decide) rfl (Nat.le_of_ble_eq_true rfl) ?_
  have loop : ∀ (m i : Nat) (v4 : Option Value), i + m = n → n ≤ 5 → ∀ Q : Option Value → sl_M → Prop, Q (some (.int (sl_bi (!(sl_ex (fun i => !(decide (it i = cond (sg_nm (sg_it g r i)) 100 (sg_it g r i)))) m i))))) M → sl_V YX4_matches none 1 0 0 Q 17 [some (.ref b), some (.ref gb), some (.int (nI r)), some (.int (nI i)), v4] [] M := by
    intro m
    induction m with
    | zero =>
      intro i v4 hi hn5 Q hQ
      refine slv_iload_n eX4_matches_17 rfl ?_
      refine slv_aload_n eX4_matches_18 rfl ?_
      refine slv_getf eX4_matches_19 fX4_15 (by repeat (first | assumption | exact sl_up_eq | refine sl_up_ne (by first | decide | omega) ?_)) rfl ?_
      refine slv_icmp_geN eX4_matches_22 (by omega) (by omega) (fun h22 => ?_) (fun h22 => absurd h22 (by omega))
      refine slv_iconst (v := nI 1) eX4_matches_65 (by decide) ?_
      refine slv_zret eX4_matches_66 rfl rfl ?_
      exact hQ
    | succ m ih =>
      intro i v4 hi hn5 Q hQ
      have j1 := hok.2.2.2.2.2.2.1 (5 * r + i) (by omega)
      have j2 := hit i (by omega)
      refine slv_iload_n eX4_matches_17 rfl ?_
      refine slv_aload_n eX4_matches_18 rfl ?_
      refine slv_getf eX4_matches_19 fX4_15 (by repeat (first | assumption | exact sl_up_eq | refine sl_up_ne (by first | decide | omega) ?_)) rfl ?_
      refine slv_icmp_geN eX4_matches_22 (by omega) (by omega) (fun h22 => absurd h22 (by omega)) (fun h22 => ?_)
      refine slv_aload_n eX4_matches_25 rfl ?_
      refine slv_iload_n eX4_matches_26 rfl ?_
      refine slv_iload_n eX4_matches_27 rfl ?_
      refine slv_rV (As := [_, _]) eX4_matches_28 lX4_52 rfl rfl (by repeat (first | assumption | exact sl_up_eq | refine sl_up_ne (by first | decide | omega) ?_)) rfl (c_X2_itemAt hg' hr (by omega)) (by decide) (Nat.le_of_ble_eq_true rfl) ?_
      refine slv_istore (lv' := [_, _, _, _, _]) eX4_matches_31 (by decide) rfl ?_
      refine slv_aload_n eX4_matches_33 rfl ?_
      refine slv_getf eX4_matches_34 fX4_9 (by repeat (first | assumption | exact sl_up_eq | refine sl_up_ne (by first | decide | omega) ?_)) rfl ?_
      refine slv_iload_n eX4_matches_37 rfl ?_
      refine slv_ialdN eX4_matches_38 (by repeat (first | assumption | exact sl_up_eq | refine sl_up_ne (by first | decide | omega) ?_)) (by omega) (by decide) ?_
      refine slv_iload eX4_matches_39 rfl ?_
      refine slv_rS (As := [_]) eX4_matches_41 lX4_56 rfl rfl (c_X2_isName M _ (by omega)) (by decide) (Nat.le_of_ble_eq_true rfl) ?_
      refine slv_if_eqB eX4_matches_44 (fun h44 => ?_) (fun h44 => ?_)
      · refine slv_iload eX4_matches_52 rfl ?_
        refine slv_icmp_eqN eX4_matches_54 (by omega) (by omega) (fun h54 => ?_) (fun h54 => ?_)
        · refine slv_iincN (lv' := [_, _, _, _, _]) eX4_matches_59 rfl (by decide) rfl ?_
          refine slv_goto eX4_matches_62 ?_
          refine ih (i + 1) _ (by omega) hn5 Q ?_
          simp only [sl_ex, sg_nm, sg_it, h44, cond_true, cond_false, decide_eq_true h54, Bool.not_true, Bool.false_or] at hQ
          exact hQ
        · refine slv_iconst (v := nI 0) eX4_matches_57 (by decide) ?_
          refine slv_zret eX4_matches_58 rfl rfl ?_
          simp only [sl_ex, sg_nm, sg_it, h44, cond_true, cond_false, decide_eq_false h54, Bool.not_false, Bool.true_or] at hQ
          exact hQ
      · refine slv_bipush (v := nI 100) eX4_matches_47 (by decide) ?_
        refine slv_goto eX4_matches_49 ?_
        refine slv_icmp_eqN eX4_matches_54 (by omega) (by omega) (fun h54 => ?_) (fun h54 => ?_)
        · refine slv_iincN (lv' := [_, _, _, _, _]) eX4_matches_59 rfl (by decide) rfl ?_
          refine slv_goto eX4_matches_62 ?_
          refine ih (i + 1) _ (by omega) hn5 Q ?_
          simp only [sl_ex, sg_nm, sg_it, h44, cond_true, cond_false, decide_eq_true h54, Bool.not_true, Bool.false_or] at hQ
          exact hQ
        · refine slv_iconst (v := nI 0) eX4_matches_57 (by decide) ?_
          refine slv_zret eX4_matches_58 rfl rfl ?_
          simp only [sl_ex, sg_nm, sg_it, h44, cond_true, cond_false, decide_eq_false h54, Bool.not_false, Bool.true_or] at hQ
          exact hQ
  refine slv_aload_n eX4_matches_0 rfl ?_
  refine slv_getf eX4_matches_1 fX4_49 (by repeat (first | assumption | exact sl_up_eq | refine sl_up_ne (by first | decide | omega) ?_)) rfl ?_
  refine slv_iload_n eX4_matches_4 rfl ?_
  refine slv_ialdN eX4_matches_5 (by repeat (first | assumption | exact sl_up_eq | refine sl_up_ne (by first | decide | omega) ?_)) (by omega) (by decide) ?_
  refine slv_aload_n eX4_matches_6 rfl ?_
  refine slv_getf eX4_matches_7 fX4_15 (by repeat (first | assumption | exact sl_up_eq | refine sl_up_ne (by first | decide | omega) ?_)) rfl ?_
  refine slv_icmp_eqN eX4_matches_10 (by omega) (by omega) (fun h10 => ?_) (fun h10 => ?_)
  · refine slv_iconst (v := nI 0) eX4_matches_15 (by decide) ?_
    refine slv_istore_n (i := 3) (lv' := [_, _, _, _, _]) eX4_matches_16 rfl (by decide) rfl ?_
    refine loop n 0 _ (by omega) (by omega) _ ?_
    exact ⟨by rw [hn_mt, decide_eq_true h10]; rfl, rfl⟩
  · refine slv_iconst (v := nI 0) eX4_matches_13 (by decide) ?_
    refine slv_zret eX4_matches_14 rfl rfl ?_
    exact ⟨by rw [hn_mt, decide_eq_false h10]; rfl, rfl⟩
set_option maxRecDepth 100000 in
theorem c_X4_ruleOf {gb : Nat} {g : sg_T} (hg : sg_at gb g M) (hok : sg_ok g) (h : hn_at b f s n it M) (hn : n ≤ 31) (hit : ∀ i, i < 31 → it i < 1000) : sl_R YX4_ruleOf 2 [.ref b, .ref gb] M (some (.int (sl_io (sl_fn (fun r => !(sg_put g r) && (sg_sk g r && hn_mt g n it r)) (sg_rules g) 0)))) M := by
  have hg' := hg
  have h' := h
  obtain ⟨g0, g1, g2, g3, g4, g5, g6, g7⟩ := hg
  obtain ⟨a0, a1⟩ := h
  have hr12 : sg_rules g ≤ 12 := hok.2.1
  refine sl_T.of_V (lv := [_, _, _]) (by decide) rfl (Nat.le_of_ble_eq_true rfl) ?_
  have loop : ∀ (m i : Nat), i + m = sg_rules g → ∀ Q : Option Value → sl_M → Prop, Q (some (.int (sl_io (sl_fn (fun r => !(sg_put g r) && (sg_sk g r && hn_mt g n it r)) m i)))) M → sl_V YX4_ruleOf none 2 0 0 Q 2 [some (.ref b), some (.ref gb), some (.int (nI i))] [] M := by
    intro m
    induction m with
    | zero =>
      intro i hi Q hQ
      refine slv_iload_n eX4_ruleOf_2 rfl ?_
      refine slv_aload_n eX4_ruleOf_3 rfl ?_
      refine slv_getf eX4_ruleOf_4 fX4_32 (by repeat (first | assumption | exact sl_up_eq | refine sl_up_ne (by first | decide | omega) ?_)) rfl ?_
      refine slv_icmp_geN eX4_ruleOf_7 (by omega) (by omega) (fun h7 => ?_) (fun h7 => absurd h7 (by omega))
      refine slv_iconst (v := (-1)) eX4_ruleOf_44 (by decide) ?_
      refine slv_iret eX4_ruleOf_45 rfl ?_
      exact hQ
    | succ m ih =>
      intro i hi Q hQ
      refine slv_iload_n eX4_ruleOf_2 rfl ?_
      refine slv_aload_n eX4_ruleOf_3 rfl ?_
      refine slv_getf eX4_ruleOf_4 fX4_32 (by repeat (first | assumption | exact sl_up_eq | refine sl_up_ne (by first | decide | omega) ?_)) rfl ?_
      refine slv_icmp_geN eX4_ruleOf_7 (by omega) (by omega) (fun h7 => absurd h7 (by omega)) (fun h7 => ?_)
      refine slv_aload_n eX4_ruleOf_10 rfl ?_
      refine slv_getf eX4_ruleOf_11 fX4_37 (by repeat (first | assumption | exact sl_up_eq | refine sl_up_ne (by first | decide | omega) ?_)) rfl ?_
      refine slv_iload_n eX4_ruleOf_14 rfl ?_
      refine slv_zaldN eX4_ruleOf_15 (by repeat (first | assumption | exact sl_up_eq | refine sl_up_ne (by first | decide | omega) ?_)) (by omega) (by decide) ?_
      refine slv_if_neB eX4_ruleOf_16 (fun h16 => ?_) (fun h16 => ?_)
      · refine slv_iincN (lv' := [_, _, _]) eX4_ruleOf_38 rfl (by decide) rfl ?_
        refine slv_goto eX4_ruleOf_41 ?_
        refine ih (i + 1) (by omega) Q ?_
        first | (simp only [sl_fn, h16, h24, h33, Bool.not_false, Bool.and_false, Bool.true_and, cond_false] at hQ; exact hQ) | (simp only [sl_fn, h16, h24, Bool.not_false, Bool.false_and, Bool.and_false, cond_false] at hQ; exact hQ) | (simp only [sl_fn, h16, Bool.not_true, Bool.false_and, cond_false] at hQ; exact hQ)
      · refine slv_aload_n eX4_ruleOf_19 rfl ?_
        refine slv_iload_n eX4_ruleOf_20 rfl ?_
        refine slv_rV (As := [_]) eX4_ruleOf_21 lX4_41 rfl rfl (by repeat (first | assumption | exact sl_up_eq | refine sl_up_ne (by first | decide | omega) ?_)) rfl (c_X2_hasSkeleton hg' hok (by omega)) (by decide) (Nat.le_of_ble_eq_true rfl) ?_
        refine slv_if_eqB eX4_ruleOf_24 (fun h24 => ?_) (fun h24 => ?_)
        · refine slv_iincN (lv' := [_, _, _]) eX4_ruleOf_38 rfl (by decide) rfl ?_
          refine slv_goto eX4_ruleOf_41 ?_
          refine ih (i + 1) (by omega) Q ?_
          first | (simp only [sl_fn, h16, h24, h33, Bool.not_false, Bool.and_false, Bool.true_and, cond_false] at hQ; exact hQ) | (simp only [sl_fn, h16, h24, Bool.not_false, Bool.false_and, Bool.and_false, cond_false] at hQ; exact hQ) | (simp only [sl_fn, h16, Bool.not_true, Bool.false_and, cond_false] at hQ; exact hQ)
        · refine slv_aload_n eX4_ruleOf_27 rfl ?_
          refine slv_aload_n eX4_ruleOf_28 rfl ?_
          refine slv_iload_n eX4_ruleOf_29 rfl ?_
          refine slv_rV (As := [_, _]) eX4_ruleOf_30 lX4_45 rfl rfl (by repeat (first | assumption | exact sl_up_eq | refine sl_up_ne (by first | decide | omega) ?_)) rfl (c_X4_matches hg' hok h' hn hit (by omega)) (by decide) (Nat.le_of_ble_eq_true rfl) ?_
          refine slv_if_eqB eX4_ruleOf_33 (fun h33 => ?_) (fun h33 => ?_)
          · refine slv_iincN (lv' := [_, _, _]) eX4_ruleOf_38 rfl (by decide) rfl ?_
            refine slv_goto eX4_ruleOf_41 ?_
            refine ih (i + 1) (by omega) Q ?_
            first | (simp only [sl_fn, h16, h24, h33, Bool.not_false, Bool.and_false, Bool.true_and, cond_false] at hQ; exact hQ) | (simp only [sl_fn, h16, h24, Bool.not_false, Bool.false_and, Bool.and_false, cond_false] at hQ; exact hQ) | (simp only [sl_fn, h16, Bool.not_true, Bool.false_and, cond_false] at hQ; exact hQ)
          · refine slv_iload_n eX4_ruleOf_36 rfl ?_
            refine slv_iret eX4_ruleOf_37 rfl ?_
            simp only [sl_fn, h16, h24, h33, Bool.not_false, Bool.and_self, cond_true] at hQ
            exact hQ
  refine slv_iconst (v := nI 0) eX4_ruleOf_0 (by decide) ?_
  refine slv_istore_n (i := 2) (lv' := [_, _, _]) eX4_ruleOf_1 rfl (by decide) rfl ?_
  exact loop (sg_rules g) 0 (by omega) _ ⟨rfl, rfl⟩
/-- what is gathered, from place i on, m places -/
def hn_gt (stk : Nat → Nat) (beh : Nat → Option Nat) : Nat → Nat → Option Nat × Option Nat × Nat × (Nat → Nat) → Option Nat × Option Nat × Nat × (Nat → Nat)
  | 0, _, q => q
  | m + 1, i, q => hn_gt stk beh m (i + 1) (hn_v1 (beh i) q.1, hn_v2 (beh i) q.1 q.2.1, hn_vn (beh i) (hn_an q.2.2.1), hn_vi (beh i) (hn_an q.2.2.1) (hn_ai q.2.2.1 q.2.2.2 (stk i)))
theorem hn_an_le {n : Nat} (h : n ≤ 31) : hn_an n ≤ 31 := by unfold hn_an; split <;> omega
theorem hn_vn_le {o : Option Nat} {n : Nat} (h : n ≤ 31) : hn_vn o n ≤ 31 := by cases o; exact h; exact hn_an_le h
theorem hn_v1_lt {o f : Option Nat} (ho : ∀ k, o = some k → k < 60) (hf : ∀ k, f = some k → k < 60) : ∀ k, hn_v1 o f = some k → k < 60 := by
  intro k hk
  cases o with
  | none => exact hf k hk
  | some a => cases f with
    | none => exact ho k hk
    | some c => exact hf k hk
theorem hn_v2_lt {o f s : Option Nat} (ho : ∀ k, o = some k → k < 60) (hs : ∀ k, s = some k → k < 60) : ∀ k, hn_v2 o f s = some k → k < 60 := by
  intro k hk
  cases o with
  | none => exact hs k hk
  | some a => cases f with
    | none => exact hs k hk
    | some c => cases s with
      | none => exact ho k hk
      | some j => exact hs k hk
set_option maxRecDepth 100000 in
theorem c_X4_gather {sp bp : Nat} {stk : Nat → Nat} {beh : Nat → Option Nat} (hsp : M sp = .inl (.int, 16, .inl fun i => nI (stk i))) (hbp : M bp = .inl (.int, 16, .inl fun i => sl_nd (beh i))) (hd : sp ≠ b ∧ sp ≠ b + 1 ∧ bp ≠ b ∧ bp ≠ b + 1) (h : hn_at b f s n it M) (hb : ∀ i k, i < 16 → beh i = some k → k < 60) {fr tp : Nat} (hf1 : 1 ≤ fr) (hft : fr ≤ tp) (htp : tp ≤ 15) :
    sl_R YX4_gather 2 [.ref b, .ref sp, .ref bp, .int (nI fr), .int (nI tp)] M none (hn_set b (hn_gt stk beh (tp + 1 - fr) fr (hn_v1 (beh (fr - 1)) none, hn_v2 (beh (fr - 1)) none none, hn_vn (beh (fr - 1)) 0, hn_vi (beh (fr - 1)) 0 it)).1 (hn_gt stk beh (tp + 1 - fr) fr (hn_v1 (beh (fr - 1)) none, hn_v2 (beh (fr - 1)) none none, hn_vn (beh (fr - 1)) 0, hn_vi (beh (fr - 1)) 0 it)).2.1 (hn_gt stk beh (tp + 1 - fr) fr (hn_v1 (beh (fr - 1)) none, hn_v2 (beh (fr - 1)) none none, hn_vn (beh (fr - 1)) 0, hn_vi (beh (fr - 1)) 0 it)).2.2.1 (hn_gt stk beh (tp + 1 - fr) fr (hn_v1 (beh (fr - 1)) none, hn_v2 (beh (fr - 1)) none none, hn_vn (beh (fr - 1)) 0, hn_vi (beh (fr - 1)) 0 it)).2.2.2 M) := by
  obtain ⟨d1, d2, d3, d4⟩ := hd
  refine sl_T.of_V (lv := [_, _, _, _, _, _]) (by decide) rfl (Nat.le_of_ble_eq_true rfl) ?_
  have loop : ∀ (m i : Nat) (f s : Option Nat) (n : Nat) (it : Nat → Nat), i + m = tp + 1 → n ≤ 31 → (∀ k, f = some k → k < 60) → (∀ k, s = some k → k < 60) → ∀ Q : Option Value → sl_M → Prop, Q none (hn_set b (hn_gt stk beh m i (f, s, n, it)).1 (hn_gt stk beh m i (f, s, n, it)).2.1 (hn_gt stk beh m i (f, s, n, it)).2.2.1 (hn_gt stk beh m i (f, s, n, it)).2.2.2 M) → sl_V YX4_gather none 2 0 0 Q 29 [some (.ref b), some (.ref sp), some (.ref bp), some (.int (nI fr)), some (.int (nI tp)), some (.int (nI i))] [] (hn_set b f s n it M) := by
    intro m
    induction m with
    | zero =>
      intro i f s n it hi hn hf hs Q hQ
      refine slv_iload eX4_gather_29 rfl ?_
      refine slv_iload eX4_gather_31 rfl ?_
      refine slv_icmp_gtN eX4_gather_33 (by omega) (by omega) (fun h33 => ?_) (fun h33 => absurd h33 (by omega))
      refine slv_vret eX4_gather_58 rfl ?_
      exact hQ
    | succ m ih =>
      intro i f s n it hi hn hf hs Q hQ
      have hbi : ∀ k, beh i = some k → k < 60 := fun k hk => hb i k (by omega) hk
      refine slv_iload eX4_gather_29 rfl ?_
      refine slv_iload eX4_gather_31 rfl ?_
      refine slv_icmp_gtN eX4_gather_33 (by omega) (by omega) (fun h33 => absurd h33 (by omega)) (fun h33 => ?_)
      refine slv_aload_n eX4_gather_36 rfl ?_
      refine slv_aload_n eX4_gather_37 rfl ?_
      refine slv_iload eX4_gather_38 rfl ?_
      refine slv_ialdN eX4_gather_40 (by repeat (first | assumption | exact sl_up_eq | refine sl_up_ne (by first | decide | omega) ?_)) (by omega) (by decide) ?_
      refine slv_rV (As := [_]) eX4_gather_41 lX4_29 rfl rfl (by repeat (first | assumption | exact sl_up_eq | refine sl_up_ne (by first | decide | omega) ?_)) rfl (c_X4_addItem hn_of hn _) (by decide) (Nat.le_of_ble_eq_true rfl) ?_
      refine slv_mem hn_ss ?_
      refine slv_aload_n eX4_gather_44 rfl ?_
      refine slv_aload_n eX4_gather_45 rfl ?_
      refine slv_iload eX4_gather_46 rfl ?_
      refine slv_ialdN eX4_gather_48 (by repeat (first | assumption | exact sl_up_eq | refine sl_up_ne (by first | decide | omega) ?_)) (by omega) (by decide) ?_
      refine slv_rV (As := [_]) eX4_gather_49 lX4_25 rfl rfl (by repeat (first | assumption | exact sl_up_eq | refine sl_up_ne (by first | decide | omega) ?_)) rfl (c_X4_addValue hn_of (hn_an_le hn) hbi hf hs) (by decide) (Nat.le_of_ble_eq_true rfl) ?_
      refine slv_mem hn_ss ?_
      refine slv_iincN (lv' := [_, _, _, _, _, _]) eX4_gather_52 rfl (by decide) rfl ?_
      refine slv_goto eX4_gather_55 ?_
      exact ih (i + 1) _ _ _ _ (by omega) (hn_vn_le (hn_an_le hn)) (hn_v1_lt hbi hf) (hn_v2_lt hbi hs) Q hQ
  refine slv_mem (hn_self h).symm ?_
  have hbf : ∀ k, beh (fr - 1) = some k → k < 60 := fun k hk => hb (fr - 1) k (by omega) hk
  refine slv_aload_n eX4_gather_0 rfl ?_
  refine slv_iconst (v := nI 0) eX4_gather_1 (by decide) ?_
  refine slv_putf (fs' := [_, _, _, _]) eX4_gather_2 fX4_15 (by repeat (first | assumption | exact sl_up_eq | refine sl_up_ne (by first | decide | omega) ?_)) (Nat.le_of_ble_eq_true rfl) rfl rfl rfl ?_
  refine slv_mem (hn_u0 (f' := f) (s' := s) (n' := 0)) ?_
  refine slv_aload_n eX4_gather_5 rfl ?_
  refine slv_bipush (v := (-2)) eX4_gather_6 (by decide) ?_
  refine slv_putf (fs' := [_, _, _, _]) eX4_gather_8 fX4_19 (by repeat (first | assumption | exact sl_up_eq | refine sl_up_ne (by first | decide | omega) ?_)) (Nat.le_of_ble_eq_true rfl) rfl rfl rfl ?_
  refine slv_mem (hn_u0 (f' := none) (s' := s) (n' := 0)) ?_
  refine slv_aload_n eX4_gather_11 rfl ?_
  refine slv_bipush (v := (-2)) eX4_gather_12 (by decide) ?_
  refine slv_putf (fs' := [_, _, _, _]) eX4_gather_14 fX4_22 (by repeat (first | assumption | exact sl_up_eq | refine sl_up_ne (by first | decide | omega) ?_)) (Nat.le_of_ble_eq_true rfl) rfl rfl rfl ?_
  refine slv_mem (hn_u0 (f' := none) (s' := none) (n' := 0)) ?_
  refine slv_aload_n eX4_gather_17 rfl ?_
  refine slv_aload_n eX4_gather_18 rfl ?_
  refine slv_iload_n eX4_gather_19 rfl ?_
  refine slv_iconst (v := nI 1) eX4_gather_20 (by decide) ?_
  refine slv_isubN eX4_gather_21 (by omega) ?_
  refine slv_ialdN eX4_gather_22 (by repeat (first | assumption | exact sl_up_eq | refine sl_up_ne (by first | decide | omega) ?_)) (by omega) (by decide) ?_
  refine slv_rV (As := [_]) eX4_gather_23 lX4_25 rfl rfl (by repeat (first | assumption | exact sl_up_eq | refine sl_up_ne (by first | decide | omega) ?_)) rfl (c_X4_addValue hn_of (by omega) hbf (fun k hk => by cases hk) (fun k hk => by cases hk)) (by decide) (Nat.le_of_ble_eq_true rfl) ?_
  refine slv_mem hn_ss ?_
  refine slv_iload_n eX4_gather_26 rfl ?_
  refine slv_istore (lv' := [_, _, _, _, _, _]) eX4_gather_27 (by decide) rfl ?_
  refine loop (tp + 1 - fr) fr _ _ _ _ (by omega) (hn_vn_le (by omega)) (hn_v1_lt hbf (fun k hk => by cases hk)) (hn_v2_lt hbf (fun k hk => by cases hk)) _ ?_
  exact ⟨rfl, rfl⟩
end HND

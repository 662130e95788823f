/-! the reference takes a grammar over -/
def rcp (n i : Nat) (ks : List (Nat × Nat)) (a a' : Nat → Nat → Int32) : Prop := (∀ k, k ∉ ks.map Prod.fst → a' k = a k) ∧ ∀ p, p ∈ ks → (∀ j, i ≤ j → j < n → a' p.1 j = a p.2 j) ∧ ∀ j, j < i → a' p.1 j = a p.1 j
section RTK
variable {v : Nat → Int32} {w : Int64} {a : Nat → Nat → Int32} {nm : Nat → Int64} {M : sl_M} {f : Nat → Int32} {ln : Nat} {R : gr_T} {g : sg_T} {Q : Option Value → sl_M → Prop}
set_option maxRecDepth 100000 in
theorem rt_L1 : ∀ (n i : Nat) (a : Nat → Nat → Int32), i + n = 12 → ∀ Q : Option Value → sl_M → Prop, (∀ a' z, rcp 12 i [(3, 8), (5, 10), (6, 11)] a a' → sl_V YX12_takesOver none 4 0 0 Q 87 [some (.ref 68), z] [] (rf_S v w a' nm M)) → sl_V YX12_takesOver none 4 0 0 Q 39 [some (.ref 68), some (.int (nI i))] [] (rf_S v w a nm M) := by
  intro n
  induction n with
  | zero =>
    intro i a hi Q hQ
    refine slv_iload_n eX12_takesOver_39 rfl ?_
    refine slv_bipush (v := nI 12) eX12_takesOver_40 (by decide) ?_
    refine slv_icmp_geN eX12_takesOver_42 (by omega) (by omega) (fun h42 => ?_) (fun h42 => absurd h42 (by omega))
    exact hQ a _ ⟨fun _ _ => rfl, fun p hp => ⟨fun j h1 h2 => by omega, fun j _ => rfl⟩⟩
  | succ n ih =>
    intro i a hi Q hQ
    refine slv_iload_n eX12_takesOver_39 rfl ?_
    refine slv_bipush (v := nI 12) eX12_takesOver_40 (by decide) ?_
    refine slv_icmp_geN eX12_takesOver_42 (by omega) (by omega) (fun h42 => absurd h42 (by omega)) (fun h42 => ?_)
    refine slv_aload_n eX12_takesOver_45 rfl ?_
    refine slr_ga (p := 69) eX12_takesOver_46 fX12_13 rfl ?_
    refine slv_iload_n eX12_takesOver_49 rfl ?_
    refine slv_aload_n eX12_takesOver_50 rfl ?_
    refine slr_ga (p := 74) eX12_takesOver_51 fX12_29 rfl ?_
    refine slv_iload_n eX12_takesOver_54 rfl ?_
    refine slr_ialdX (k := 8) (p := 74) (len := 12) eX12_takesOver_55 rfl (by repeat (first | exact sl_u_eq | assumption | apply rf_ne (by decide) | exact rfl)) (by omega) (by decide) rfl ?_
    refine slr_iastX (k := 3) (p := 69) (len := 12) eX12_takesOver_56 rfl (by repeat (first | exact sl_u_eq | assumption | apply rf_ne (by decide) | exact rfl)) (by omega) (by decide) (rf_t3 _ _ _ _ _) ?_
    refine slv_aload_n eX12_takesOver_57 rfl ?_
    refine slr_ga (p := 71) eX12_takesOver_58 fX12_20 rfl ?_
    refine slv_iload_n eX12_takesOver_61 rfl ?_
    refine slv_aload_n eX12_takesOver_62 rfl ?_
    refine slr_ga (p := 76) eX12_takesOver_63 fX12_35 rfl ?_
    refine slv_iload_n eX12_takesOver_66 rfl ?_
    refine slr_ialdX (k := 10) (p := 76) (len := 12) eX12_takesOver_67 rfl (by repeat (first | exact sl_u_eq | assumption | apply rf_ne (by decide) | exact rfl)) (by omega) (by decide) rfl ?_
    refine slr_iastX (k := 5) (p := 71) (len := 12) eX12_takesOver_68 rfl (by repeat (first | exact sl_u_eq | assumption | apply rf_ne (by decide) | exact rfl)) (by omega) (by decide) (rf_t5 _ _ _ _ _) ?_
    refine slv_aload_n eX12_takesOver_69 rfl ?_
    refine slr_ga (p := 72) eX12_takesOver_70 fX12_23 rfl ?_
    refine slv_iload_n eX12_takesOver_73 rfl ?_
    refine slv_aload_n eX12_takesOver_74 rfl ?_
    refine slr_ga (p := 77) eX12_takesOver_75 fX12_38 rfl ?_
    refine slv_iload_n eX12_takesOver_78 rfl ?_
    refine slr_ialdX (k := 11) (p := 77) (len := 12) eX12_takesOver_79 rfl (by repeat (first | exact sl_u_eq | assumption | apply rf_ne (by decide) | exact rfl)) (by omega) (by decide) rfl ?_
    refine slr_iastX (k := 6) (p := 72) (len := 12) eX12_takesOver_80 rfl (by repeat (first | exact sl_u_eq | assumption | apply rf_ne (by decide) | exact rfl)) (by omega) (by decide) (rf_t6 _ _ _ _ _) ?_
    refine slv_iincN (lv' := [_, _]) eX12_takesOver_81 rfl (by decide) rfl ?_
    refine slv_goto eX12_takesOver_84 ?_
    refine ih (i + 1) _ (by omega) Q (fun a' z hc => hQ a' z ?_)
    obtain ⟨c1, c2⟩ := hc
    obtain ⟨x1, y1⟩ := c2 (3, 8) (by decide)
    obtain ⟨x2, y2⟩ := c2 (5, 10) (by decide)
    obtain ⟨x3, y3⟩ := c2 (6, 11) (by decide)
    refine ⟨fun k hk => ?_, fun p hp => ?_⟩
    · rw [c1 k hk, sl_u_ne (fun e => hk (by rw [e]; decide)), sl_u_ne (fun e => hk (by rw [e]; decide)), sl_u_ne (fun e => hk (by rw [e]; decide))]
    · simp only [List.mem_cons, List.mem_nil_iff, or_false] at hp
      rcases hp with rfl | rfl | rfl
      · refine ⟨fun j h1 h2 => ?_, fun j h1 => ?_⟩
        · by_cases e : j = i
          · rw [e, y1 i (by omega)]
            exact sl_u_eq
          · rw [x1 j (by omega) h2]
            rfl
        · rw [y1 j (by omega)]
          exact sl_u_ne (by omega)
      · refine ⟨fun j h1 h2 => ?_, fun j h1 => ?_⟩
        · by_cases e : j = i
          · rw [e, y2 i (by omega)]
            exact sl_u_eq
          · rw [x2 j (by omega) h2]
            rfl
        · rw [y2 j (by omega)]
          exact sl_u_ne (by omega)
      · refine ⟨fun j h1 h2 => ?_, fun j h1 => ?_⟩
        · by_cases e : j = i
          · rw [e, y3 i (by omega)]
            exact sl_u_eq
          · rw [x3 j (by omega) h2]
            rfl
        · rw [y3 j (by omega)]
          exact sl_u_ne (by omega)
set_option maxRecDepth 100000 in
theorem rt_L2 : ∀ (n i : Nat) (a : Nat → Nat → Int32), i + n = 60 → ∀ Q : Option Value → sl_M → Prop, (∀ a' z, rcp 60 i [(4, 9)] a a' → sl_V YX12_takesOver none 4 0 0 Q 113 [some (.ref 68), z] [] (rf_S v w a' nm M)) → sl_V YX12_takesOver none 4 0 0 Q 89 [some (.ref 68), some (.int (nI i))] [] (rf_S v w a nm M) := by
  intro n
  induction n with
  | zero =>
    intro i a hi Q hQ
    refine slv_iload_n eX12_takesOver_89 rfl ?_
    refine slv_bipush (v := nI 60) eX12_takesOver_90 (by decide) ?_
    refine slv_icmp_geN eX12_takesOver_92 (by omega) (by omega) (fun h92 => ?_) (fun h92 => absurd h92 (by omega))
    exact hQ a _ ⟨fun _ _ => rfl, fun p hp => ⟨fun j h1 h2 => by omega, fun j _ => rfl⟩⟩
  | succ n ih =>
    intro i a hi Q hQ
    refine slv_iload_n eX12_takesOver_89 rfl ?_
    refine slv_bipush (v := nI 60) eX12_takesOver_90 (by decide) ?_
    refine slv_icmp_geN eX12_takesOver_92 (by omega) (by omega) (fun h92 => absurd h92 (by omega)) (fun h92 => ?_)
    refine slv_aload_n eX12_takesOver_95 rfl ?_
    refine slr_ga (p := 70) eX12_takesOver_96 fX12_17 rfl ?_
    refine slv_iload_n eX12_takesOver_99 rfl ?_
    refine slv_aload_n eX12_takesOver_100 rfl ?_
    refine slr_ga (p := 75) eX12_takesOver_101 fX12_32 rfl ?_
    refine slv_iload_n eX12_takesOver_104 rfl ?_
    refine slr_ialdX (k := 9) (p := 75) (len := 60) eX12_takesOver_105 rfl (by repeat (first | exact sl_u_eq | assumption | apply rf_ne (by decide) | exact rfl)) (by omega) (by decide) rfl ?_
    refine slr_iastX (k := 4) (p := 70) (len := 60) eX12_takesOver_106 rfl (by repeat (first | exact sl_u_eq | assumption | apply rf_ne (by decide) | exact rfl)) (by omega) (by decide) (rf_t4 _ _ _ _ _) ?_
    refine slv_iincN (lv' := [_, _]) eX12_takesOver_107 rfl (by decide) rfl ?_
    refine slv_goto eX12_takesOver_110 ?_
    refine ih (i + 1) _ (by omega) Q (fun a' z hc => hQ a' z ?_)
    obtain ⟨c1, c2⟩ := hc
    obtain ⟨x1, y1⟩ := c2 (4, 9) (by decide)
    refine ⟨fun k hk => ?_, fun p hp => ?_⟩
    · rw [c1 k hk, sl_u_ne (fun e => hk (by rw [e]; decide))]
    · simp only [List.mem_cons, List.mem_nil_iff, or_false] at hp
      rcases hp with rfl
      refine ⟨fun j h1 h2 => ?_, fun j h1 => ?_⟩
      · by_cases e : j = i
        · rw [e, y1 i (by omega)]
          exact sl_u_eq
        · rw [x1 j (by omega) h2]
          rfl
      · rw [y1 j (by omega)]
        exact sl_u_ne (by omega)
set_option maxRecDepth 100000 in
theorem rt_L3 : ∀ (n i : Nat) (a : Nat → Nat → Int32), i + n = 11 → ∀ Q : Option Value → sl_M → Prop, (∀ a' z, rcp 11 i [(7, 12)] a a' → sl_V YX12_takesOver none 4 0 0 Q 139 [some (.ref 68), z] [] (rf_S v w a' nm M)) → sl_V YX12_takesOver none 4 0 0 Q 115 [some (.ref 68), some (.int (nI i))] [] (rf_S v w a nm M) := by
  intro n
  induction n with
  | zero =>
    intro i a hi Q hQ
    refine slv_iload_n eX12_takesOver_115 rfl ?_
    refine slv_bipush (v := nI 11) eX12_takesOver_116 (by decide) ?_
    refine slv_icmp_geN eX12_takesOver_118 (by omega) (by omega) (fun h118 => ?_) (fun h118 => absurd h118 (by omega))
    exact hQ a _ ⟨fun _ _ => rfl, fun p hp => ⟨fun j h1 h2 => by omega, fun j _ => rfl⟩⟩
  | succ n ih =>
    intro i a hi Q hQ
    refine slv_iload_n eX12_takesOver_115 rfl ?_
    refine slv_bipush (v := nI 11) eX12_takesOver_116 (by decide) ?_
    refine slv_icmp_geN eX12_takesOver_118 (by omega) (by omega) (fun h118 => absurd h118 (by omega)) (fun h118 => ?_)
    refine slv_aload_n eX12_takesOver_121 rfl ?_
    refine slr_ga (p := 73) eX12_takesOver_122 fX12_26 rfl ?_
    refine slv_iload_n eX12_takesOver_125 rfl ?_
    refine slv_aload_n eX12_takesOver_126 rfl ?_
    refine slr_ga (p := 78) eX12_takesOver_127 fX12_41 rfl ?_
    refine slv_iload_n eX12_takesOver_130 rfl ?_
    refine slr_ialdX (k := 12) (p := 78) (len := 11) eX12_takesOver_131 rfl (by repeat (first | exact sl_u_eq | assumption | apply rf_ne (by decide) | exact rfl)) (by omega) (by decide) rfl ?_
    refine slr_iastX (k := 7) (p := 73) (len := 11) eX12_takesOver_132 rfl (by repeat (first | exact sl_u_eq | assumption | apply rf_ne (by decide) | exact rfl)) (by omega) (by decide) (rf_t7 _ _ _ _ _) ?_
    refine slv_iincN (lv' := [_, _]) eX12_takesOver_133 rfl (by decide) rfl ?_
    refine slv_goto eX12_takesOver_136 ?_
    refine ih (i + 1) _ (by omega) Q (fun a' z hc => hQ a' z ?_)
    obtain ⟨c1, c2⟩ := hc
    obtain ⟨x1, y1⟩ := c2 (7, 12) (by decide)
    refine ⟨fun k hk => ?_, fun p hp => ?_⟩
    · rw [c1 k hk, sl_u_ne (fun e => hk (by rw [e]; decide))]
    · simp only [List.mem_cons, List.mem_nil_iff, or_false] at hp
      rcases hp with rfl
      refine ⟨fun j h1 h2 => ?_, fun j h1 => ?_⟩
      · by_cases e : j = i
        · rw [e, y1 i (by omega)]
          exact sl_u_eq
        · rw [x1 j (by omega) h2]
          rfl
      · rw [y1 j (by omega)]
        exact sl_u_ne (by omega)
end RTK

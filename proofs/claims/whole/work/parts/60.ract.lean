/-! the reference: feed, remembers, kind -/
theorem sl_u_u {α : Type} {f : Nat → α} {k : Nat} {x y : α} : sl_u (sl_u f k x) k y = sl_u f k y := by
  funext j; simp only [sl_u]; by_cases h : j = k <;> simp [h]
theorem sl_u_sw {α : Type} {f : Nat → α} {k j : Nat} {x y : α} (h : k ≠ j) : sl_u (sl_u f k x) j y = sl_u (sl_u f j y) k x := by
  funext i; simp only [sl_u]
  by_cases h1 : i = k
  · subst h1; simp [h]
  · by_cases h2 : i = j
    · subst h2; simp [h1]
    · simp [h1, h2]
theorem sl_u_self {α : Type} {f : Nat → α} {k : Nat} : sl_u f k (f k) = f := by
  funext j; simp only [sl_u]; by_cases h : j = k <;> simp [h]
def fd_s (a b c d e : Int32) (k : Nat) : Int32 := if k < 4 then a else if k < 8 then b else if k < 12 then c else if k < 16 then d else e
def fd_k (x : Int32) (k : Nat) : Int32 := vp_nar .byte ((x >>> ((nI 24 - nI 8 * (nI k - nI k / nI 4 * nI 4)) &&& 31)).toInt8.toInt32)
theorem fd_all (f : Nat → Int32) (n : Nat) (a b c d e : Int32) : sl_fo (fun k f => sl_u f (n + k) (fd_k (fd_s a b c d e k) k)) 20 0 f = fd_20 f n a b c d e := by
  have h : ∀ x k j, nI 24 - nI 8 * (nI k - nI k / nI 4 * nI 4) = nI j → fd_k x k = fd_b x j := by
    intro x k j h
    unfold fd_k fd_b
    rw [h]
  simp only [sl_fo]
  rw [h _ 0 24 (by decide), h _ (0 + 1) 16 (by decide), h _ (0 + 1 + 1) 8 (by decide), h _ (0 + 1 + 1 + 1) 0 (by decide), h _ (0 + 1 + 1 + 1 + 1) 24 (by decide), h _ (0 + 1 + 1 + 1 + 1 + 1) 16 (by decide), h _ (0 + 1 + 1 + 1 + 1 + 1 + 1) 8 (by decide), h _ (0 + 1 + 1 + 1 + 1 + 1 + 1 + 1) 0 (by decide), h _ (0 + 1 + 1 + 1 + 1 + 1 + 1 + 1 + 1) 24 (by decide), h _ (0 + 1 + 1 + 1 + 1 + 1 + 1 + 1 + 1 + 1) 16 (by decide), h _ (0 + 1 + 1 + 1 + 1 + 1 + 1 + 1 + 1 + 1 + 1) 8 (by decide), h _ (0 + 1 + 1 + 1 + 1 + 1 + 1 + 1 + 1 + 1 + 1 + 1) 0 (by decide), h _ (0 + 1 + 1 + 1 + 1 + 1 + 1 + 1 + 1 + 1 + 1 + 1 + 1) 24 (by decide), h _ (0 + 1 + 1 + 1 + 1 + 1 + 1 + 1 + 1 + 1 + 1 + 1 + 1 + 1) 16 (by decide), h _ (0 + 1 + 1 + 1 + 1 + 1 + 1 + 1 + 1 + 1 + 1 + 1 + 1 + 1 + 1) 8 (by decide), h _ (0 + 1 + 1 + 1 + 1 + 1 + 1 + 1 + 1 + 1 + 1 + 1 + 1 + 1 + 1 + 1) 0 (by decide), h _ (0 + 1 + 1 + 1 + 1 + 1 + 1 + 1 + 1 + 1 + 1 + 1 + 1 + 1 + 1 + 1 + 1) 24 (by decide), h _ (0 + 1 + 1 + 1 + 1 + 1 + 1 + 1 + 1 + 1 + 1 + 1 + 1 + 1 + 1 + 1 + 1 + 1) 16 (by decide), h _ (0 + 1 + 1 + 1 + 1 + 1 + 1 + 1 + 1 + 1 + 1 + 1 + 1 + 1 + 1 + 1 + 1 + 1 + 1) 8 (by decide), h _ (0 + 1 + 1 + 1 + 1 + 1 + 1 + 1 + 1 + 1 + 1 + 1 + 1 + 1 + 1 + 1 + 1 + 1 + 1 + 1) 0 (by decide)]
  rfl
abbrev rm_v (c : Nat) (v : Nat → Int32) : Nat → Int32 := sl_u (sl_u v 26 (nI (ac_kc c))) 53 (nI 0)
abbrev rm_a (c : Nat) (v : Nat → Int32) (a : Nat → Nat → Int32) : Nat → Nat → Int32 := sl_u (sl_u a 24 (ac_kf c (a 24) (v 22))) 25 (ac_kf c (a 25) (v 23))
/-- shifted by one up to place k -/
def rm_s (f : Nat → Int32) (k : Nat) : Nat → Int32 := fun i => if i + 1 < k then f (i + 1) else f i
theorem rm_s1 (f : Nat → Int32) : rm_s f 1 = f := by funext i; simp [rm_s]
theorem rm_sk (f : Nat → Int32) {k : Nat} (hk : 1 ≤ k) : sl_u (rm_s f k) (k - 1) (rm_s f k k) = rm_s f (k + 1) := by
  funext i
  simp only [sl_u, rm_s]
  by_cases h1 : i = k - 1
  · rw [if_pos h1, if_neg (by omega), if_pos (by omega), show i + 1 = k by omega]
  · rw [if_neg h1]
    by_cases h2 : i + 1 < k
    · rw [if_pos h2, if_pos (by omega)]
    · rw [if_neg h2, if_neg (by omega)]
theorem rm_s10 (f : Nat → Int32) : rm_s f 10 = ac_sh f := by
  funext i
  unfold ac_sh va_cpy
  simp only [rm_s]
  by_cases h : i + 1 < 10
  · rw [if_pos h]
    first | (rw [if_pos (by omega)]; congr 1; omega) | simp [show i < 9 by omega, Nat.add_comm]
  · rw [if_neg h]
    first | (rw [if_neg (by omega)]) | simp [show ¬ i < 9 by omega]
section RAC
variable {v : Nat → Int32} {w : Int64} {a : Nat → Nat → Int32} {nm : Nat → Int64} {M : sl_M} {g : sg_T} {sn : Bool}
set_option maxRecDepth 100000 in
theorem c_X12_feed {fd : Nat} (hf : fd ≤ 900) (h28 : v 28 = nI fd) (x1 x2 x3 x4 x5 : Int32) : sl_R YX12_feed 1 [.ref 68, .int x1, .int x2, .int x3, .int x4, .int x5] (rf_S v w a nm M) (some (.int (if fd + 20 ≤ 900 then nI (fd + 20) else -1))) (if fd + 20 ≤ 900 then rf_S (sl_u (sl_u v 0 (nI 0)) 28 (nI (fd + 20))) w (sl_u a 27 (fd_20 (a 27) fd x1 x2 x3 x4 x5)) nm M else rf_S (sl_u v 0 (nI 0)) w a nm M) := by
  refine sl_T.of_V (lv := [_, _, _, _, _, _, _, _]) (by decide) rfl (Nat.le_of_ble_eq_true rfl) ?_
  by_cases h : fd + 20 ≤ 900
  · rw [if_pos h, if_pos h]
    have body : ∀ (k : Nat) (f : Nat → Int32) (y : Int32) (z : Option Value), k < 20 → fd_s x1 x2 x3 x4 x5 k = y → ∀ Q : Option Value → sl_M → Prop, sl_V YX12_feed none 1 0 0 Q 23 [some (.ref 68), some (.int x1), some (.int x2), some (.int x3), some (.int x4), some (.int x5), some (.int (nI (k + 1))), some (.int y)] [] (rf_S (sl_u (sl_u v 0 (nI 0)) 28 (nI (fd + (k + 1)))) w (sl_u a 27 (sl_u f (fd + k) (fd_k (fd_s x1 x2 x3 x4 x5 k) k))) nm M) → sl_V YX12_feed none 1 0 0 Q 76 [some (.ref 68), some (.int x1), some (.int x2), some (.int x3), some (.int x4), some (.int x5), some (.int (nI k)), z] [.int y] (rf_S (sl_u (sl_u v 0 (nI 0)) 28 (nI (fd + k))) w (sl_u a 27 f) nm M) := by
      intro k f y z hk hy Q hQ
      subst hy
      refine slv_istore (lv' := [_, _, _, _, _, _, _, _]) eX12_feed_76 (by decide) rfl ?_
      refine slv_aload_n eX12_feed_78 rfl ?_
      refine slr_ga (p := 82) eX12_feed_79 fX12_54 rfl ?_
      refine slv_aload_n eX12_feed_82 rfl ?_
      refine slr_gi eX12_feed_83 fX12_302 rfl (by repeat (first | exact sl_u_eq | assumption | apply rf_ne (by decide) | exact rfl)) ?_
      refine slv_iload eX12_feed_86 rfl ?_
      refine slv_bipush (v := nI 24) eX12_feed_88 (by decide) ?_
      refine slv_bipush (v := nI 8) eX12_feed_90 (by decide) ?_
      refine slv_iload eX12_feed_92 rfl ?_
      refine slv_iconst (v := nI 4) eX12_feed_94 (by decide) ?_
      refine slv_irem eX12_feed_95 (by decide) ?_
      refine slv_imul eX12_feed_96 ?_
      refine slv_isub eX12_feed_97 ?_
      refine slv_ishr eX12_feed_98 ?_
      refine slv_i2b eX12_feed_99 rfl ?_
      refine slr_bastX (k := 27) (p := 82) (len := 900) eX12_feed_100 rfl (by repeat (first | exact sl_u_eq | assumption | apply rf_ne (by decide) | exact rfl)) (by omega) (by decide) (rf_t27 _ _ _ _ _) ?_
      refine slv_aload_n eX12_feed_101 rfl ?_
      refine slv_dup eX12_feed_102 rfl ?_
      refine slr_gi eX12_feed_103 fX12_302 rfl (by repeat (first | exact sl_u_eq | assumption | apply rf_ne (by decide) | exact rfl)) ?_
      refine slv_iconst (v := nI 1) eX12_feed_106 (by decide) ?_
      refine slv_iaddN eX12_feed_107 ?_
      refine slr_pi eX12_feed_108 fX12_302 (Nat.le_of_ble_eq_true rfl) rf_s28 ?_
      refine slv_iincN (lv' := [_, _, _, _, _, _, _, _]) eX12_feed_111 rfl (by decide) rfl ?_
      refine slv_goto eX12_feed_114 ?_
      rw [sl_u_u, sl_u_u]
      exact hQ
    have loop : ∀ (n k : Nat) (f : Nat → Int32) (z : Option Value), k + n = 20 → ∀ Q : Option Value → sl_M → Prop, Q (some (.int (nI (fd + 20)))) (rf_S (sl_u (sl_u v 0 (nI 0)) 28 (nI (fd + 20))) w (sl_u a 27 (sl_fo (fun k f => sl_u f (fd + k) (fd_k (fd_s x1 x2 x3 x4 x5 k) k)) n k f)) nm M) → sl_V YX12_feed none 1 0 0 Q 23 [some (.ref 68), some (.int x1), some (.int x2), some (.int x3), some (.int x4), some (.int x5), some (.int (nI k)), z] [] (rf_S (sl_u (sl_u v 0 (nI 0)) 28 (nI (fd + k))) w (sl_u a 27 f) nm M) := by
      intro n
      induction n with
      | zero =>
        intro k f z hi Q hQ
        have hk : k = 20 := by omega
        subst hk
        refine slv_iload eX12_feed_23 rfl ?_
        refine slv_bipush (v := nI 20) eX12_feed_25 (by decide) ?_
        refine slv_icmp_geN eX12_feed_27 (by omega) (by omega) (fun h27 => ?_) (fun h27 => absurd h27 (by omega))
        refine slv_aload_n eX12_feed_117 rfl ?_
        refine slr_gi eX12_feed_118 fX12_302 rfl (by repeat (first | exact sl_u_eq | assumption | apply rf_ne (by decide) | exact rfl)) ?_
        refine slv_iret eX12_feed_121 rfl ?_
        exact hQ
      | succ n ih =>
        intro k f z hi Q hQ
        refine slv_iload eX12_feed_23 rfl ?_
        refine slv_bipush (v := nI 20) eX12_feed_25 (by decide) ?_
        refine slv_icmp_geN eX12_feed_27 (by omega) (by omega) (fun h27 => absurd h27 (by omega)) (fun h27 => ?_)
        refine slv_iload eX12_feed_30 rfl ?_
        refine slv_iconst (v := nI 4) eX12_feed_32 (by decide) ?_
        refine slv_icmp_geN eX12_feed_33 (by omega) (by omega) (fun h33 => ?_) (fun h33 => ?_)
        · refine slv_iload eX12_feed_40 rfl ?_
          refine slv_bipush (v := nI 8) eX12_feed_42 (by decide) ?_
          refine slv_icmp_geN eX12_feed_44 (by omega) (by omega) (fun h44 => ?_) (fun h44 => ?_)
          · refine slv_iload eX12_feed_51 rfl ?_
            refine slv_bipush (v := nI 12) eX12_feed_53 (by decide) ?_
            refine slv_icmp_geN eX12_feed_55 (by omega) (by omega) (fun h55 => ?_) (fun h55 => ?_)
            · refine slv_iload eX12_feed_62 rfl ?_
              refine slv_bipush (v := nI 16) eX12_feed_64 (by decide) ?_
              refine slv_icmp_geN eX12_feed_66 (by omega) (by omega) (fun h66 => ?_) (fun h66 => ?_)
              · refine slv_iload eX12_feed_74 rfl ?_
                refine body k f _ z (by omega) ?_ Q (ih (k + 1) _ _ (by omega) Q hQ)
                unfold fd_s
                repeat (first | rw [if_pos (by omega)] | rw [if_neg (by omega)])
              · refine slv_iload eX12_feed_69 rfl ?_
                refine slv_goto eX12_feed_71 ?_
                refine body k f _ z (by omega) ?_ Q (ih (k + 1) _ _ (by omega) Q hQ)
                unfold fd_s
                repeat (first | rw [if_pos (by omega)] | rw [if_neg (by omega)])
            · refine slv_iload_n eX12_feed_58 rfl ?_
              refine slv_goto eX12_feed_59 ?_
              refine body k f _ z (by omega) ?_ Q (ih (k + 1) _ _ (by omega) Q hQ)
              unfold fd_s
              repeat (first | rw [if_pos (by omega)] | rw [if_neg (by omega)])
          · refine slv_iload_n eX12_feed_47 rfl ?_
            refine slv_goto eX12_feed_48 ?_
            refine body k f _ z (by omega) ?_ Q (ih (k + 1) _ _ (by omega) Q hQ)
            unfold fd_s
            repeat (first | rw [if_pos (by omega)] | rw [if_neg (by omega)])
        · refine slv_iload_n eX12_feed_36 rfl ?_
          refine slv_goto eX12_feed_37 ?_
          refine body k f _ z (by omega) ?_ Q (ih (k + 1) _ _ (by omega) Q hQ)
          unfold fd_s
          repeat (first | rw [if_pos (by omega)] | rw [if_neg (by omega)])
    have e1 : rf_S (sl_u v 0 (nI 0)) w a nm M = rf_S (sl_u (sl_u v 0 (nI 0)) 28 (nI (fd + 0))) w (sl_u a 27 (a 27)) nm M := by
      rw [sl_u_self, Nat.add_zero, ← h28, show v 28 = (sl_u v 0 (nI 0)) 28 from rfl, sl_u_self]
    have hl := loop 20 0 (a 27) none (by omega)
    rw [fd_all, ← e1] at hl
    refine slv_aload_n eX12_feed_0 rfl ?_
    refine slv_iconst (v := nI 0) eX12_feed_1 (by decide) ?_
    refine slr_pi eX12_feed_2 fX12_149 (Nat.le_of_ble_eq_true rfl) rf_s0 ?_
    refine slv_aload_n eX12_feed_5 rfl ?_
    refine slr_gi eX12_feed_6 fX12_302 rfl (by repeat (first | exact sl_u_eq | assumption | apply rf_ne (by decide) | exact rfl)) ?_
    refine slv_bipush (v := nI 20) eX12_feed_9 (by decide) ?_
    refine slv_iaddN eX12_feed_11 ?_
    refine slv_sipush (v := nI 900) eX12_feed_12 (by decide) ?_
    refine slv_icmp_leN eX12_feed_15 (by omega) (by omega) (fun h15 => ?_) (fun h15 => absurd h15 (by omega))
    refine slv_iconst (v := nI 0) eX12_feed_20 (by decide) ?_
    refine slv_istore (lv' := [_, _, _, _, _, _, _, _]) eX12_feed_21 (by decide) rfl ?_
    exact hl _ ⟨rfl, rfl⟩
  · rw [if_neg h, if_neg h]
    refine slv_aload_n eX12_feed_0 rfl ?_
    refine slv_iconst (v := nI 0) eX12_feed_1 (by decide) ?_
    refine slr_pi eX12_feed_2 fX12_149 (Nat.le_of_ble_eq_true rfl) rf_s0 ?_
    refine slv_aload_n eX12_feed_5 rfl ?_
    refine slr_gi eX12_feed_6 fX12_302 rfl (by repeat (first | exact sl_u_eq | assumption | apply rf_ne (by decide) | exact rfl)) ?_
    refine slv_bipush (v := nI 20) eX12_feed_9 (by decide) ?_
    refine slv_iaddN eX12_feed_11 ?_
    refine slv_sipush (v := nI 900) eX12_feed_12 (by decide) ?_
    refine slv_icmp_leN eX12_feed_15 (by omega) (by omega) (fun h15 => absurd h15 (by omega)) (fun h15 => ?_)
    refine slv_iconst (v := (-1)) eX12_feed_18 (by decide) ?_
    refine slv_iret eX12_feed_19 rfl ?_
    exact ⟨rfl, rfl⟩
set_option maxRecDepth 100000 in
theorem c_X12_remembers {c : Nat} (hc : c ≤ 10) (h26 : v 26 = nI c) : sl_R YX12_remembers 0 [.ref 68] (rf_S v w a nm M) none (rf_S (rm_v c v) w (rm_a c v a) nm M) := by
  refine sl_T.of_V (lv := [_, _]) (by decide) rfl (Nat.le_of_ble_eq_true rfl) ?_
  unfold rm_v rm_a
  by_cases h : c = 10
  · subst h
    have loop : ∀ (n k : Nat), k + n = 10 → 1 ≤ k → ∀ Q : Option Value → sl_M → Prop, sl_V YX12_remembers none 0 0 0 Q 51 [some (.ref 68), some (.int (nI 10))] [] (rf_S v w (sl_u (sl_u a 24 (rm_s (a 24) 10)) 25 (rm_s (a 25) 10)) nm M) → sl_V YX12_remembers none 0 0 0 Q 11 [some (.ref 68), some (.int (nI k))] [] (rf_S v w (sl_u (sl_u a 24 (rm_s (a 24) k)) 25 (rm_s (a 25) k)) nm M) := by
      intro n
      induction n with
      | zero =>
        intro k hi h1 Q hQ
        have hk : k = 10 := by omega
        subst hk
        refine slv_iload_n eX12_remembers_11 rfl ?_
        refine slv_bipush (v := nI 10) eX12_remembers_12 (by decide) ?_
        refine slv_icmp_geN eX12_remembers_14 (by omega) (by omega) (fun h14 => ?_) (fun h14 => absurd h14 (by omega))
        exact hQ
      | succ n ih =>
        intro k hi h1 Q hQ
        refine slv_iload_n eX12_remembers_11 rfl ?_
        refine slv_bipush (v := nI 10) eX12_remembers_12 (by decide) ?_
        refine slv_icmp_geN eX12_remembers_14 (by omega) (by omega) (fun h14 => absurd h14 (by omega)) (fun h14 => ?_)
        refine slv_aload_n eX12_remembers_17 rfl ?_
        refine slr_ga (p := 80) eX12_remembers_18 fX12_48 rfl ?_
        refine slv_iload_n eX12_remembers_21 rfl ?_
        refine slv_iconst (v := nI 1) eX12_remembers_22 (by decide) ?_
        refine slv_isubN eX12_remembers_23 (by omega) ?_
        refine slv_aload_n eX12_remembers_24 rfl ?_
        refine slr_ga (p := 80) eX12_remembers_25 fX12_48 rfl ?_
        refine slv_iload_n eX12_remembers_28 rfl ?_
        refine slr_ialdX (k := 24) (p := 80) (len := 10) eX12_remembers_29 rfl (by repeat (first | exact sl_u_eq | assumption | apply rf_ne (by decide) | exact rfl)) (by omega) (by decide) rfl ?_
        refine slr_iastX (k := 24) (p := 80) (len := 10) eX12_remembers_30 rfl (by repeat (first | exact sl_u_eq | assumption | apply rf_ne (by decide) | exact rfl)) (by omega) (by decide) (rf_t24 _ _ _ _ _) ?_
        refine slv_aload_n eX12_remembers_31 rfl ?_
        refine slr_ga (p := 81) eX12_remembers_32 fX12_51 rfl ?_
        refine slv_iload_n eX12_remembers_35 rfl ?_
        refine slv_iconst (v := nI 1) eX12_remembers_36 (by decide) ?_
        refine slv_isubN eX12_remembers_37 (by omega) ?_
        refine slv_aload_n eX12_remembers_38 rfl ?_
        refine slr_ga (p := 81) eX12_remembers_39 fX12_51 rfl ?_
        refine slv_iload_n eX12_remembers_42 rfl ?_
        refine slr_ialdX (k := 25) (p := 81) (len := 10) eX12_remembers_43 rfl (by repeat (first | exact sl_u_eq | assumption | apply rf_ne (by decide) | exact rfl)) (by omega) (by decide) rfl ?_
        refine slr_iastX (k := 25) (p := 81) (len := 10) eX12_remembers_44 rfl (by repeat (first | exact sl_u_eq | assumption | apply rf_ne (by decide) | exact rfl)) (by omega) (by decide) (rf_t25 _ _ _ _ _) ?_
        refine slv_iincN (lv' := [_, _]) eX12_remembers_45 rfl (by decide) rfl ?_
        refine slv_goto eX12_remembers_48 ?_
        refine slv_mem ?_ (ih (k + 1) (by omega) (by omega) Q hQ)
        rw [← rm_sk (a 24) h1, ← rm_sk (a 25) h1, sl_u_sw (show 25 ≠ 24 by decide), sl_u_u, sl_u_u]
    have e1 : rf_S v w a nm M = rf_S v w (sl_u (sl_u a 24 (rm_s (a 24) 1)) 25 (rm_s (a 25) 1)) nm M := by
      rw [rm_s1, rm_s1, sl_u_self, show a 25 = (sl_u a 24 (a 24)) 25 from rfl, sl_u_self, sl_u_self]
    have hl := loop 9 1 (by omega) (by omega)
    rw [← e1, rm_s10, rm_s10] at hl
    refine slv_aload_n eX12_remembers_0 rfl ?_
    refine slr_gi eX12_remembers_1 fX12_333 rfl (by repeat (first | exact sl_u_eq | assumption | apply rf_ne (by decide) | exact rfl)) ?_
    refine slv_bipush (v := nI 10) eX12_remembers_4 (by decide) ?_
    refine slv_icmp_neN eX12_remembers_6 (by omega) (by omega) (fun h6 => absurd h6 (by decide)) (fun h6 => ?_)
    refine slv_iconst (v := nI 1) eX12_remembers_9 (by decide) ?_
    refine slv_istore_n (i := 1) (lv' := [_, _]) eX12_remembers_10 rfl (by decide) rfl ?_
    refine hl _ ?_
    refine slv_aload_n eX12_remembers_51 rfl ?_
    refine slv_dup eX12_remembers_52 rfl ?_
    refine slr_gi eX12_remembers_53 fX12_333 rfl (by repeat (first | exact sl_u_eq | assumption | apply rf_ne (by decide) | exact rfl)) ?_
    refine slv_iconst (v := nI 1) eX12_remembers_56 (by decide) ?_
    refine slv_isubN eX12_remembers_57 (by omega) ?_
    refine slr_pi eX12_remembers_58 fX12_333 (Nat.le_of_ble_eq_true rfl) rf_s26 ?_
    refine slv_aload_n eX12_remembers_61 rfl ?_
    refine slr_ga (p := 80) eX12_remembers_62 fX12_48 rfl ?_
    refine slv_aload_n eX12_remembers_65 rfl ?_
    refine slr_gi eX12_remembers_66 fX12_333 rfl (by repeat (first | exact sl_u_eq | assumption | apply rf_ne (by decide) | exact rfl)) ?_
    refine slv_aload_n eX12_remembers_69 rfl ?_
    refine slr_gi eX12_remembers_70 fX12_327 rfl (by repeat (first | exact sl_u_eq | assumption | apply rf_ne (by decide) | exact rfl)) ?_
    refine slr_iastX (k := 24) (p := 80) (len := 10) eX12_remembers_73 rfl (by repeat (first | exact sl_u_eq | assumption | apply rf_ne (by decide) | exact rfl)) (by omega) (by decide) (rf_t24 _ _ _ _ _) ?_
    refine slv_aload_n eX12_remembers_74 rfl ?_
    refine slr_ga (p := 81) eX12_remembers_75 fX12_51 rfl ?_
    refine slv_aload_n eX12_remembers_78 rfl ?_
    refine slr_gi eX12_remembers_79 fX12_333 rfl (by repeat (first | exact sl_u_eq | assumption | apply rf_ne (by decide) | exact rfl)) ?_
    refine slv_aload_n eX12_remembers_82 rfl ?_
    refine slr_gi eX12_remembers_83 fX12_330 rfl (by repeat (first | exact sl_u_eq | assumption | apply rf_ne (by decide) | exact rfl)) ?_
    refine slr_iastX (k := 25) (p := 81) (len := 10) eX12_remembers_86 rfl (by repeat (first | exact sl_u_eq | assumption | apply rf_ne (by decide) | exact rfl)) (by omega) (by decide) (rf_t25 _ _ _ _ _) ?_
    refine slv_aload_n eX12_remembers_87 rfl ?_
    refine slv_dup eX12_remembers_88 rfl ?_
    refine slr_gi eX12_remembers_89 fX12_333 rfl (by repeat (first | exact sl_u_eq | assumption | apply rf_ne (by decide) | exact rfl)) ?_
    refine slv_iconst (v := nI 1) eX12_remembers_92 (by decide) ?_
    refine slv_iaddN eX12_remembers_93 ?_
    refine slr_pi eX12_remembers_94 fX12_333 (Nat.le_of_ble_eq_true rfl) rf_s26 ?_
    refine slv_aload_n eX12_remembers_97 rfl ?_
    refine slv_iconst (v := nI 0) eX12_remembers_98 (by decide) ?_
    refine slr_pz eX12_remembers_99 fX12_336 (Nat.le_of_ble_eq_true rfl) rfl rfl rf_s53 ?_
    refine slv_vret eX12_remembers_102 rfl ?_
    refine ⟨rfl, ?_⟩
    rw [sl_u_u, sl_u_sw (show 25 ≠ 24 by decide), sl_u_u, sl_u_u]
    rfl
  · have h10 : c < 10 := by omega
    have k1 : ac_kc c = c + 1 := if_pos h10
    have k2 : ∀ (f : Nat → Int32) x, ac_kf c f x = sl_u f c x := fun f x => if_pos h10
    rw [k1, k2, k2]
    refine slv_aload_n eX12_remembers_0 rfl ?_
    refine slr_gi eX12_remembers_1 fX12_333 rfl (by repeat (first | exact sl_u_eq | assumption | apply rf_ne (by decide) | exact rfl)) ?_
    refine slv_bipush (v := nI 10) eX12_remembers_4 (by decide) ?_
    refine slv_icmp_neN eX12_remembers_6 (by omega) (by omega) (fun h6 => ?_) (fun h6 => absurd h6 (by omega))
    refine slv_aload_n eX12_remembers_61 rfl ?_
    refine slr_ga (p := 80) eX12_remembers_62 fX12_48 rfl ?_
    refine slv_aload_n eX12_remembers_65 rfl ?_
    refine slr_gi eX12_remembers_66 fX12_333 rfl (by repeat (first | exact sl_u_eq | assumption | apply rf_ne (by decide) | exact rfl)) ?_
    refine slv_aload_n eX12_remembers_69 rfl ?_
    refine slr_gi eX12_remembers_70 fX12_327 rfl (by repeat (first | exact sl_u_eq | assumption | apply rf_ne (by decide) | exact rfl)) ?_
    refine slr_iastX (k := 24) (p := 80) (len := 10) eX12_remembers_73 rfl (by repeat (first | exact sl_u_eq | assumption | apply rf_ne (by decide) | exact rfl)) (by omega) (by decide) (rf_t24 _ _ _ _ _) ?_
    refine slv_aload_n eX12_remembers_74 rfl ?_
    refine slr_ga (p := 81) eX12_remembers_75 fX12_51 rfl ?_
    refine slv_aload_n eX12_remembers_78 rfl ?_
    refine slr_gi eX12_remembers_79 fX12_333 rfl (by repeat (first | exact sl_u_eq | assumption | apply rf_ne (by decide) | exact rfl)) ?_
    refine slv_aload_n eX12_remembers_82 rfl ?_
    refine slr_gi eX12_remembers_83 fX12_330 rfl (by repeat (first | exact sl_u_eq | assumption | apply rf_ne (by decide) | exact rfl)) ?_
    refine slr_iastX (k := 25) (p := 81) (len := 10) eX12_remembers_86 rfl (by repeat (first | exact sl_u_eq | assumption | apply rf_ne (by decide) | exact rfl)) (by omega) (by decide) (rf_t25 _ _ _ _ _) ?_
    refine slv_aload_n eX12_remembers_87 rfl ?_
    refine slv_dup eX12_remembers_88 rfl ?_
    refine slr_gi eX12_remembers_89 fX12_333 rfl (by repeat (first | exact sl_u_eq | assumption | apply rf_ne (by decide) | exact rfl)) ?_
    refine slv_iconst (v := nI 1) eX12_remembers_92 (by decide) ?_
    refine slv_iaddN eX12_remembers_93 ?_
    refine slr_pi eX12_remembers_94 fX12_333 (Nat.le_of_ble_eq_true rfl) rf_s26 ?_
    refine slv_aload_n eX12_remembers_97 rfl ?_
    refine slv_iconst (v := nI 0) eX12_remembers_98 (by decide) ?_
    refine slr_pz eX12_remembers_99 fX12_336 (Nat.le_of_ble_eq_true rfl) rfl rfl rf_s53 ?_
    refine slv_vret eX12_remembers_102 rfl ?_
    exact ⟨rfl, rfl⟩
set_option maxRecDepth 100000 in
theorem c_X12_kind {c : Nat} (h21 : v 21 = sl_bi sn) (hG : sn = true → rf_G g v a) (hc : c ≤ 10) (h26 : v 26 = nI c) (x : Int32) : sl_R YX12_kind 1 [.ref 68, .int x] (rf_S v w a nm M) (some (.int (an_kind sn g x).1)) (match sn, sl_vi x 3 with
    | true, some k => rf_S (rf_gd (sl_u (rm_v c (sl_u v 0 (nI 0))) 22 (nI k)) 0) w (rm_a c v a) nm M
    | _, _ => rf_S (rf_an v (an_kind sn g x).2) w a nm M) := by
  refine sl_T.of_V (lv := [_, _, _]) (by decide) rfl (Nat.le_of_ble_eq_true rfl) ?_
  unfold an_kind
  cases sn with
  | false =>
    refine slv_aload_n eX12_kind_0 rfl ?_
    refine slv_iconst (v := nI 0) eX12_kind_1 (by decide) ?_
    refine slr_pi eX12_kind_2 fX12_149 (Nat.le_of_ble_eq_true rfl) rf_s0 ?_
    refine slv_aload_n eX12_kind_5 rfl ?_
    refine slr_gi eX12_kind_6 fX12_317 rfl (by repeat (first | exact sl_u_eq | assumption | apply rf_ne (by decide) | exact rfl)) ?_
    refine slv_if_neB eX12_kind_9 (fun h9 => absurd h9 (by decide)) (fun h9 => ?_)
    refine slv_aload_n eX12_kind_12 rfl ?_
    refine slv_iconst (v := nI 1) eX12_kind_13 (by decide) ?_
    refine slv_rV (As := [_]) eX12_kind_14 lX12_155 rfl rfl rf_68 rfl (c_X12_refused 1) (by decide) (Nat.le_of_ble_eq_true rfl) ?_
    refine slv_iret eX12_kind_17 rfl ?_
    exact ⟨rfl, rfl⟩
  | true =>
    obtain ⟨h14, h15, h16, h22, hr, hi, ht⟩ := hG rfl
    have hI := c_X12_in1 (rf_S (sl_u v 0 (nI 0)) w a nm M) x (n := 2) (by omega)
    have hM := c_X12_remembers (v := sl_u v 0 (nI 0)) (w := w) (a := a) (nm := nm) (M := M) hc h26
    cases hv : sl_vi x 3 with
    | none =>
      rw [hv] at hI
      refine slv_aload_n eX12_kind_0 rfl ?_
      refine slv_iconst (v := nI 0) eX12_kind_1 (by decide) ?_
      refine slr_pi eX12_kind_2 fX12_149 (Nat.le_of_ble_eq_true rfl) rf_s0 ?_
      refine slv_aload_n eX12_kind_5 rfl ?_
      refine slr_gi eX12_kind_6 fX12_317 rfl (by repeat (first | exact sl_u_eq | assumption | apply rf_ne (by decide) | exact rfl)) ?_
      refine slv_if_neB eX12_kind_9 (fun h9 => ?_) (fun h9 => absurd h9 (by decide))
      refine slv_iload_n eX12_kind_18 rfl ?_
      refine slv_iconst (v := nI 0) eX12_kind_19 (by decide) ?_
      refine slv_iconst (v := nI 2) eX12_kind_20 (by decide) ?_
      refine slv_rS (As := [_, _, _]) eX12_kind_21 lX12_180 rfl rfl hI (by decide) (Nat.le_of_ble_eq_true rfl) ?_
      refine slv_if_neB eX12_kind_24 (fun h24 => absurd h24 (by decide)) (fun h24 => ?_)
      refine slv_aload_n eX12_kind_27 rfl ?_
      refine slv_iconst (v := nI 2) eX12_kind_28 (by decide) ?_
      refine slv_rV (As := [_]) eX12_kind_29 lX12_155 rfl rfl rf_68 rfl (c_X12_refused 2) (by decide) (Nat.le_of_ble_eq_true rfl) ?_
      refine slv_iret eX12_kind_32 rfl ?_
      exact ⟨rfl, rfl⟩
    | some k =>
      rw [hv] at hI
      obtain ⟨hx, hk⟩ := vi_some hv
      subst hx
      refine slv_aload_n eX12_kind_0 rfl ?_
      refine slv_iconst (v := nI 0) eX12_kind_1 (by decide) ?_
      refine slr_pi eX12_kind_2 fX12_149 (Nat.le_of_ble_eq_true rfl) rf_s0 ?_
      refine slv_aload_n eX12_kind_5 rfl ?_
      refine slr_gi eX12_kind_6 fX12_317 rfl (by repeat (first | exact sl_u_eq | assumption | apply rf_ne (by decide) | exact rfl)) ?_
      refine slv_if_neB eX12_kind_9 (fun h9 => ?_) (fun h9 => absurd h9 (by decide))
      refine slv_iload_n eX12_kind_18 rfl ?_
      refine slv_iconst (v := nI 0) eX12_kind_19 (by decide) ?_
      refine slv_iconst (v := nI 2) eX12_kind_20 (by decide) ?_
      refine slv_rS (As := [_, _, _]) eX12_kind_21 lX12_180 rfl rfl hI (by decide) (Nat.le_of_ble_eq_true rfl) ?_
      refine slv_if_neB eX12_kind_24 (fun h24 => ?_) (fun h24 => absurd h24 sl_tf)
      refine slv_aload_n eX12_kind_33 rfl ?_
      refine slv_rV (As := []) eX12_kind_34 lX12_557 rfl rfl rf_68 rfl hM (by decide) (Nat.le_of_ble_eq_true rfl) ?_
      refine slv_aload_n eX12_kind_37 rfl ?_
      refine slr_gi eX12_kind_38 fX12_327 rfl (by repeat (first | exact sl_u_eq | assumption | apply rf_ne (by decide) | exact rfl)) ?_
      refine slv_istore_n (i := 2) (lv' := [_, _, _]) eX12_kind_41 rfl (by decide) rfl ?_
      refine slv_aload_n eX12_kind_42 rfl ?_
      refine slv_iload_n eX12_kind_43 rfl ?_
      refine slr_pi eX12_kind_44 fX12_327 (Nat.le_of_ble_eq_true rfl) rf_s22 ?_
      refine slv_aload_n eX12_kind_47 rfl ?_
      refine slv_iload_n eX12_kind_48 rfl ?_
      refine slv_rV (As := [_]) eX12_kind_49 lX12_314 rfl rfl rf_68 rfl (c_X12_good _) (by decide) (Nat.le_of_ble_eq_true rfl) ?_
      refine slv_iret eX12_kind_52 rfl ?_
      exact ⟨rfl, rfl⟩
end RAC

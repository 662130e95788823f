/-! the reference: all laid -/
/-- only more bits -/
def ble (f f' : Nat → Int32) : Prop := ∀ n, f n ||| f' n = f' n
theorem ble_tr {f f' f'' : Nat → Int32} (h1 : ble f f') (h2 : ble f' f'') : ble f f'' := by
  intro n
  rw [← h2 n, ← Int32.or_assoc, h1 n]
theorem ble_as {f f' : Nat → Int32} (h1 : ble f f') (h2 : ble f' f) : f = f' := by
  funext n
  exact (h2 n).symm.trans ((Int32.or_comm _ _).trans (h1 n))
theorem ble_rf (f : Nat → Int32) : ble f f := fun n => Int32.or_self
theorem sX_ble (g : sg_T) (o i : Nat → Nat) (r : Nat) (f : Nat → Int32) : ble f (rl_sX g o i r f) := by
  intro n
  unfold rl_sX
  cases (!(sg_put g r) && decide (0 < sg_lens g r)) with
  | false => exact Int32.or_self
  | true =>
    rw [cond_true]
    by_cases h : n = sg_heads g r
    · rw [h, sl_u_eq, ← Int32.or_assoc, Int32.or_self]
    · rw [sl_u_ne h, Int32.or_self]
theorem fo_ble (g : sg_T) (o i : Nat → Nat) (n : Nat) : ∀ (j : Nat) (f : Nat → Int32), ble f (sl_fo (rl_sX g o i) n j f) := by
  induction n with
  | zero => intro j f; exact ble_rf f
  | succ n ih => intro j f; exact ble_tr (sX_ble g o i j f) (ih (j + 1) _)
theorem fo_fix {g : sg_T} {o i : Nat → Nat} {n j : Nat} {f : Nat → Int32} (h : sl_fo (rl_sX g o i) (n + 1) j f = f) : rl_sX g o i j f = f := by
  have h1 := fo_ble g o i n (j + 1) (rl_sX g o i j f)
  have h2 : sl_fo (rl_sX g o i) n (j + 1) (rl_sX g o i j f) = f := h
  rw [h2] at h1
  exact ble_as h1 (sX_ble g o i j f)
section RLA
variable {v : Nat → Int32} {w : Int64} {a : Nat → Nat → Int32} {nm : Nat → Int64} {M : sl_M} {g : sg_T}
set_option maxRecDepth 100000 in
theorem c_X12_lays (hok : sg_ok g) (hs : sg_str g) (hG : rf_G g v a) (hz : ∀ i, 6 ≤ i → a 36 i = nI 0 ∧ a 37 i = nI 0) (hz2 : ∀ i, 144 ≤ i → a 38 i = nI 0) : sl_T YX12_lays 3 0 0 (fun r M' => r = none ∧ ∃ v' a', M' = rf_S v' w a' nm M ∧ (∀ k, k ∉ [44] → v' k = v k) ∧ (∀ k, k ∉ [36, 37, 38, 39, 40, 41, 42, 43, 45] → a' k = a k) ∧ a' 36 = (rl_LT g).1 ∧ a' 37 = (rl_LT g).2 ∧ a' 38 = rl_S g ∧ ∀ rk ba, rf_K (lk_F (rl_S g) (sg_terms g) rk ba).1 (lk_F (rl_S g) (sg_terms g) rk ba).2.1 (lk_K (rl_S g) (sg_terms g)) (lk_N (rl_S g) (sg_terms g) (lk_F (rl_S g) (sg_terms g) rk ba).1) v' a') [.ref 68] (rf_S v w a nm M) := by
  have hr12 : sg_rules g ≤ 12 := hok.2.1
  have hn6 : sg_names g ≤ 6 := hok.2.2.1
  have ht11 : sg_terms g ≤ 11 := hok.2.2.2.1
  have hG2 : ∀ X Y, rf_G g v (sl_u (sl_u a 36 X) 37 Y) := fun X Y => hG
  have hG0 := hG
  obtain ⟨h14, h15, h16, h22, hrr, hi, ht⟩ := hG
  refine sl_T.of_V (lv := [_, _, _]) (by decide) rfl (Nat.le_of_ble_eq_true rfl) ?_
  have ini : ∀ n k, k + n = 6 → ∀ (z2 : Option Value) (Q : Option Value → sl_M → Prop), (∀ z1, sl_V YX12_lays none 3 0 0 Q 28 [some (.ref 68), z1, z2] [] (rf_S v w (sl_u (sl_u a 36 (fun _ => nI 0)) 37 (fun _ => nI 0)) nm M)) → sl_V YX12_lays none 3 0 0 Q 2 [some (.ref 68), some (.int (nI k)), z2] [] (rf_S v w (sl_u (sl_u a 36 (ptf (a 36) (fun _ => nI 0) k)) 37 (ptf (a 37) (fun _ => nI 0) k)) nm M) := by
    intro n
    induction n with
    | zero =>
      intro k hk z2 Q hQ
      have e : k = 6 := by omega
      subst e
      rw [ptf_end (fun p hp => (hz p hp).1.symm), ptf_end (fun p hp => (hz p hp).2.symm)]
      refine slv_iload_n eX12_lays_2 rfl ?_
      refine slv_bipush (v := nI 6) eX12_lays_3 (by decide) ?_
      refine slv_icmp_geN eX12_lays_5 (by omega) (by omega) (fun h5 => ?_) (fun h5 => absurd h5 (by omega))
      exact hQ _
    | succ n ih =>
      intro k hk z2 Q hQ
      refine slv_iload_n eX12_lays_2 rfl ?_
      refine slv_bipush (v := nI 6) eX12_lays_3 (by decide) ?_
      refine slv_icmp_geN eX12_lays_5 (by omega) (by omega) (fun h5 => absurd h5 (by omega)) (fun h5 => ?_)
      refine slv_aload_n eX12_lays_8 rfl ?_
      refine slr_ga (p := 83) eX12_lays_9 fX12_58 rfl ?_
      refine slv_iload_n eX12_lays_12 rfl ?_
      refine slv_iconst (v := nI 0) eX12_lays_13 (by decide) ?_
      refine slr_iastX (k := 36) (p := 83) (len := 6) eX12_lays_14 rfl (by repeat (first | exact sl_u_eq | assumption | apply rf_ne (by decide) | exact rfl)) (by omega) (by decide) (rf_t36 _ _ _ _ _) ?_
      refine slv_aload_n eX12_lays_15 rfl ?_
      refine slr_ga (p := 84) eX12_lays_16 fX12_61 rfl ?_
      refine slv_iload_n eX12_lays_19 rfl ?_
      refine slv_iconst (v := nI 0) eX12_lays_20 (by decide) ?_
      refine slr_iastX (k := 37) (p := 84) (len := 6) eX12_lays_21 rfl (by repeat (first | exact sl_u_eq | assumption | apply rf_ne (by decide) | exact rfl)) (by omega) (by decide) (rf_t37 _ _ _ _ _) ?_
      refine slv_iincN (lv' := [_, _, _]) eX12_lays_22 rfl (by decide) rfl ?_
      refine slv_goto eX12_lays_25 ?_
      refine slv_mem ?_ (ih (k + 1) (by omega) _ Q hQ)
      rw [sl_u_sw (show 37 ≠ 36 by decide), sl_u_u, sl_u_u, ptf_st rfl, ptf_st rfl]
  have e1 : rf_S v w a nm M = rf_S v w (sl_u (sl_u a 36 (ptf (a 36) (fun _ => nI 0) 0)) 37 (ptf (a 37) (fun _ => nI 0) 0)) nm M := by
    rw [ptf_0, ptf_0, sl_u_self, sl_u_self]
  have hl := ini 6 0 (by omega)
  rw [← e1] at hl
  refine slv_iconst (v := nI 0) eX12_lays_0 (by decide) ?_
  refine slv_istore_n (i := 1) (lv' := [_, _, _]) eX12_lays_1 rfl (by decide) rfl ?_
  refine hl _ _ (fun z1 => ?_)
  -- a round of the edges
  have rnd : ∀ (n i : Nat) (L T : Nat → Int32) (b : Bool), i + n = sg_rules g → ∀ (Q : Option Value → sl_M → Prop), (∀ b' z2, (b' = false → b = false ∧ sl_fo (rl_sX g (rl_o1 g) (rl_i1 g)) n i L = L ∧ sl_fo (rl_sX g (rl_o2 g) (rl_i2 g)) n i T = T) → (b' = true → b = true ∨ ¬ (sl_fo (rl_sX g (rl_o1 g) (rl_i1 g)) n i L = L ∧ sl_fo (rl_sX g (rl_o2 g) (rl_i2 g)) n i T = T)) → sl_V YX12_lays none 3 0 0 Q 103 [some (.ref 68), some (.int (sl_bi b')), z2] [] (rf_S v w (sl_u (sl_u a 36 (sl_fo (rl_sX g (rl_o1 g) (rl_i1 g)) n i L)) 37 (sl_fo (rl_sX g (rl_o2 g) (rl_i2 g)) n i T)) nm M)) → sl_V YX12_lays none 3 0 0 Q 38 [some (.ref 68), some (.int (sl_bi b)), some (.int (nI i))] [] (rf_S v w (sl_u (sl_u a 36 L) 37 T) nm M) := by
    intro n
    induction n with
    | zero =>
      intro i L T b hi Q hQ
      refine slv_iload_n eX12_lays_38 rfl ?_
      refine slv_aload_n eX12_lays_39 rfl ?_
      refine slr_gi eX12_lays_40 fX12_311 rfl (by repeat (first | exact sl_u_eq | assumption | apply rf_ne (by decide) | exact rfl)) ?_
      refine slv_icmp_geN eX12_lays_43 (by omega) (by omega) (fun h43 => ?_) (fun h43 => absurd h43 (by omega))
      exact hQ b _ (fun h => ⟨h, rfl, rfl⟩) (fun h => Or.inl h)
    | succ n ih =>
      intro i L T b hi Q hQ
      obtain ⟨r1, r2, r3, r4⟩ := hrr i (by omega)
      have hl1 := hok.2.2.2.2.2.2.2 i (by omega)
      have hl5 := (hok.2.2.2.2.2.1 i (by omega)).2.2
      have hSv := rf_sv (w := w) (nm := nm) (M := M) (hG2 L T) (show i < sg_rules g by omega)
      cases hp : sg_put g i with
      | true =>
        rw [hp] at hSv
        have x1 : ∀ f, rl_sX g (rl_o1 g) (rl_i1 g) i f = f := fun f => by unfold rl_sX; rw [hp]; rfl
        have x2 : ∀ f, rl_sX g (rl_o2 g) (rl_i2 g) i f = f := fun f => by unfold rl_sX; rw [hp]; rfl
        have hQ' := hQ
        simp only [sl_fo, x1, x2] at hQ'
        cases b with
        | false =>
          refine slv_iload_n eX12_lays_38 rfl ?_
          refine slv_aload_n eX12_lays_39 rfl ?_
          refine slr_gi eX12_lays_40 fX12_311 rfl (by repeat (first | exact sl_u_eq | assumption | apply rf_ne (by decide) | exact rfl)) ?_
          refine slv_icmp_geN eX12_lays_43 (by omega) (by omega) (fun h43 => absurd h43 (by omega)) (fun h43 => ?_)
          refine slv_aload_n eX12_lays_46 rfl ?_
          refine slv_iload_n eX12_lays_47 rfl ?_
          refine slv_rV (As := [_]) eX12_lays_48 lX12_348 rfl rfl rf_68 rfl hSv (by decide) (Nat.le_of_ble_eq_true rfl) ?_
          refine slv_if_eqB eX12_lays_51 (fun h51 => ?_) (fun h51 => absurd h51 (by decide))
          refine slv_iload_n eX12_lays_87 rfl ?_
          refine slv_if_eqB eX12_lays_88 (fun h88 => ?_) (fun h88 => absurd h88 (by decide))
          refine slv_iconst (v := nI 0) eX12_lays_95 (by decide) ?_
          refine slv_istore_n (i := 1) (lv' := [_, _, _]) eX12_lays_96 rfl (by decide) rfl ?_
          refine slv_iincN (lv' := [_, _, _]) eX12_lays_97 rfl (by decide) rfl ?_
          refine slv_goto eX12_lays_100 ?_
          exact ih (i + 1) L T false (by omega) Q hQ'
        | true =>
          refine slv_iload_n eX12_lays_38 rfl ?_
          refine slv_aload_n eX12_lays_39 rfl ?_
          refine slr_gi eX12_lays_40 fX12_311 rfl (by repeat (first | exact sl_u_eq | assumption | apply rf_ne (by decide) | exact rfl)) ?_
          refine slv_icmp_geN eX12_lays_43 (by omega) (by omega) (fun h43 => absurd h43 (by omega)) (fun h43 => ?_)
          refine slv_aload_n eX12_lays_46 rfl ?_
          refine slv_iload_n eX12_lays_47 rfl ?_
          refine slv_rV (As := [_]) eX12_lays_48 lX12_348 rfl rfl rf_68 rfl hSv (by decide) (Nat.le_of_ble_eq_true rfl) ?_
          refine slv_if_eqB eX12_lays_51 (fun h51 => ?_) (fun h51 => absurd h51 (by decide))
          refine slv_iload_n eX12_lays_87 rfl ?_
          refine slv_if_eqB eX12_lays_88 (fun h88 => absurd h88 (by decide)) (fun h88 => ?_)
          refine slv_iconst (v := nI 1) eX12_lays_91 (by decide) ?_
          refine slv_goto eX12_lays_92 ?_
          refine slv_istore_n (i := 1) (lv' := [_, _, _]) eX12_lays_96 rfl (by decide) rfl ?_
          refine slv_iincN (lv' := [_, _, _]) eX12_lays_97 rfl (by decide) rfl ?_
          refine slv_goto eX12_lays_100 ?_
          exact ih (i + 1) L T true (by omega) Q hQ'
      | false =>
        rw [hp] at hSv
        have x1 : ∀ f, rl_sX g (rl_o1 g) (rl_i1 g) i f = sl_u f (sg_heads g i) (f (sg_heads g i) ||| rl_eo g i (rl_o1 g i) (rl_i1 g i) f) := fun f => by unfold rl_sX; rw [hp, decide_eq_true (show 0 < sg_lens g i by omega)]; rfl
        have x2 : ∀ f, rl_sX g (rl_o2 g) (rl_i2 g) i f = sl_u f (sg_heads g i) (f (sg_heads g i) ||| rl_eo g i (rl_o2 g i) (rl_i2 g i) f) := fun f => by unfold rl_sX; rw [hp, decide_eq_true (show 0 < sg_lens g i by omega)]; rfl
        have hLd := c_X12_laysLead (w := w) (nm := nm) (M := M) hok hs (hG2 L T) (L := L) ((sl_u_ne (by decide)).trans sl_u_eq) (show i < sg_rules g by omega)
        have hTr := c_X12_laysTrail (w := w) (nm := nm) (M := M) hok hs (hG2 (rl_sX g (rl_o1 g) (rl_i1 g) i L) T) (L := T) sl_u_eq (show i < sg_rules g by omega)
        rw [sl_u_sw (show 37 ≠ 36 by decide), sl_u_u, ← x1] at hLd
        rw [sl_u_u, ← x2] at hTr
        -- whether anything came
        have c1 : (!(decide (L (sg_heads g i) ||| rl_eo g i (rl_o1 g i) (rl_i1 g i) L = L (sg_heads g i)))) = false ↔ rl_sX g (rl_o1 g) (rl_i1 g) i L = L := by
          rw [Bool.not_eq_false', decide_eq_true_iff, x1]
          exact ⟨fun h => by rw [h, sl_u_self], fun h => by have := congrFun h (sg_heads g i); rwa [sl_u_eq] at this⟩
        have c2 : (!(decide (T (sg_heads g i) ||| rl_eo g i (rl_o2 g i) (rl_i2 g i) T = T (sg_heads g i)))) = false ↔ rl_sX g (rl_o2 g) (rl_i2 g) i T = T := by
          rw [Bool.not_eq_false', decide_eq_true_iff, x2]
          exact ⟨fun h => by rw [h, sl_u_self], fun h => by have := congrFun h (sg_heads g i); rwa [sl_u_eq] at this⟩
        generalize (!(decide (L (sg_heads g i) ||| rl_eo g i (rl_o1 g i) (rl_i1 g i) L = L (sg_heads g i)))) = b1 at *
        generalize (!(decide (T (sg_heads g i) ||| rl_eo g i (rl_o2 g i) (rl_i2 g i) T = T (sg_heads g i)))) = b2 at *
        have hQ' : ∀ b', (b' = (b1 || b2 || b)) → sl_V YX12_lays none 3 0 0 Q 38 [some (.ref 68), some (.int (sl_bi b')), some (.int (nI (i + 1)))] [] (rf_S v w (sl_u (sl_u a 36 (rl_sX g (rl_o1 g) (rl_i1 g) i L)) 37 (rl_sX g (rl_o2 g) (rl_i2 g) i T)) nm M) := by
          intro b' hb'
          refine ih (i + 1) _ _ b' (by omega) Q (fun b'' z2 g1 g2 => hQ b'' z2 (fun h => ?_) (fun h => ?_))
          · obtain ⟨q1, q2, q3⟩ := g1 h
            rw [hb'] at q1
            simp only [Bool.or_eq_false_iff] at q1
            have y1 := c1.mp q1.1.1
            have y2 := c2.mp q1.1.2
            rw [y1] at q2
            rw [y2] at q3
            refine ⟨q1.2, ?_, ?_⟩
            · show sl_fo _ n (i + 1) (rl_sX g (rl_o1 g) (rl_i1 g) i L) = L
              rw [y1]; exact q2
            · show sl_fo _ n (i + 1) (rl_sX g (rl_o2 g) (rl_i2 g) i T) = T
              rw [y2]; exact q3
          · rcases g2 h with q | q
            · rw [hb'] at q
              simp only [Bool.or_eq_true] at q
              rcases q with (q | q) | q
              · right
                rintro ⟨w1, -⟩
                have := c1.mpr (fo_fix w1)
                rw [q] at this; cases this
              · right
                rintro ⟨-, w1⟩
                have := c2.mpr (fo_fix w1)
                rw [q] at this; cases this
              · exact Or.inl q
            · right
              rintro ⟨w1, w2⟩
              have y1 := fo_fix w1
              have y2 := fo_fix w2
              refine q ⟨?_, ?_⟩
              · have w1' : sl_fo (rl_sX g (rl_o1 g) (rl_i1 g)) n (i + 1) (rl_sX g (rl_o1 g) (rl_i1 g) i L) = L := w1
                rw [y1] at w1' ⊢; exact w1'
              · have w2' : sl_fo (rl_sX g (rl_o2 g) (rl_i2 g)) n (i + 1) (rl_sX g (rl_o2 g) (rl_i2 g) i T) = T := w2
                rw [y2] at w2' ⊢; exact w2'
        have hor : sl_bi b1 ||| sl_bi b2 = sl_bi (b1 || b2) := by cases b1 <;> cases b2 <;> decide
        refine slv_iload_n eX12_lays_38 rfl ?_
        refine slv_aload_n eX12_lays_39 rfl ?_
        refine slr_gi eX12_lays_40 fX12_311 rfl (by repeat (first | exact sl_u_eq | assumption | apply rf_ne (by decide) | exact rfl)) ?_
        refine slv_icmp_geN eX12_lays_43 (by omega) (by omega) (fun h43 => absurd h43 (by omega)) (fun h43 => ?_)
        refine slv_aload_n eX12_lays_46 rfl ?_
        refine slv_iload_n eX12_lays_47 rfl ?_
        refine slv_rV (As := [_]) eX12_lays_48 lX12_348 rfl rfl rf_68 rfl hSv (by decide) (Nat.le_of_ble_eq_true rfl) ?_
        refine slv_if_eqB eX12_lays_51 (fun h51 => absurd h51 (by decide)) (fun h51 => ?_)
        refine slv_aload_n eX12_lays_54 rfl ?_
        refine slv_iload_n eX12_lays_55 rfl ?_
        refine slv_aload_n eX12_lays_56 rfl ?_
        refine slr_ga (p := 83) eX12_lays_57 fX12_58 rfl ?_
        refine slv_iconst (v := nI 0) eX12_lays_60 (by decide) ?_
        refine slv_iconst (v := nI 1) eX12_lays_61 (by decide) ?_
        refine slv_rV (As := [_, _, _, _]) eX12_lays_62 lX12_357 rfl rfl rf_68 rfl hLd (by decide) (Nat.le_of_ble_eq_true rfl) ?_
        refine slv_aload_n eX12_lays_65 rfl ?_
        refine slv_iload_n eX12_lays_66 rfl ?_
        refine slv_aload_n eX12_lays_67 rfl ?_
        refine slr_ga (p := 84) eX12_lays_68 fX12_61 rfl ?_
        refine slv_aload_n eX12_lays_71 rfl ?_
        refine slr_ga (p := 71) eX12_lays_72 fX12_20 rfl ?_
        refine slv_iload_n eX12_lays_75 rfl ?_
        refine slr_ialdX (k := 5) (p := 71) (len := 12) eX12_lays_76 rfl (by repeat (first | exact sl_u_eq | assumption | apply rf_ne (by decide) | exact rfl)) (by omega) (by decide) r2 ?_
        refine slv_iconst (v := nI 1) eX12_lays_77 (by decide) ?_
        refine slv_isubN eX12_lays_78 (by omega) ?_
        refine slv_iconst (v := (-1)) eX12_lays_79 (by decide) ?_
        refine slv_rV (As := [_, _, _, _]) eX12_lays_80 lX12_357 rfl rfl rf_68 rfl hTr (by decide) (Nat.le_of_ble_eq_true rfl) ?_
        refine slv_ior eX12_lays_83 ?_
        refine slv_top (w := .int (sl_bi (b1 || b2))) (by rw [hor]) ?_
        cases b with
        | false =>
          refine slv_if_neB eX12_lays_84 (fun h84 => ?_) (fun h84 => ?_)
          · refine slv_iconst (v := nI 1) eX12_lays_91 (by decide) ?_
            refine slv_goto eX12_lays_92 ?_
            refine slv_istore_n (i := 1) (lv' := [_, _, _]) eX12_lays_96 rfl (by decide) rfl ?_
            refine slv_iincN (lv' := [_, _, _]) eX12_lays_97 rfl (by decide) rfl ?_
            refine slv_goto eX12_lays_100 ?_
            exact hQ' _ (by rw [h84])
          · refine slv_iload_n eX12_lays_87 rfl ?_
            refine slv_if_eqB eX12_lays_88 (fun h88 => ?_) (fun h88 => absurd h88 (by decide))
            refine slv_iconst (v := nI 0) eX12_lays_95 (by decide) ?_
            refine slv_istore_n (i := 1) (lv' := [_, _, _]) eX12_lays_96 rfl (by decide) rfl ?_
            refine slv_iincN (lv' := [_, _, _]) eX12_lays_97 rfl (by decide) rfl ?_
            refine slv_goto eX12_lays_100 ?_
            exact hQ' _ (by rw [h84])
        | true =>
          refine slv_if_neB eX12_lays_84 (fun h84 => ?_) (fun h84 => ?_)
          · refine slv_iconst (v := nI 1) eX12_lays_91 (by decide) ?_
            refine slv_goto eX12_lays_92 ?_
            refine slv_istore_n (i := 1) (lv' := [_, _, _]) eX12_lays_96 rfl (by decide) rfl ?_
            refine slv_iincN (lv' := [_, _, _]) eX12_lays_97 rfl (by decide) rfl ?_
            refine slv_goto eX12_lays_100 ?_
            exact hQ' _ (by rw [Bool.or_true])
          · refine slv_iload_n eX12_lays_87 rfl ?_
            refine slv_if_eqB eX12_lays_88 (fun h88 => absurd h88 (by decide)) (fun h88 => ?_)
            refine slv_iconst (v := nI 1) eX12_lays_91 (by decide) ?_
            refine slv_goto eX12_lays_92 ?_
            refine slv_istore_n (i := 1) (lv' := [_, _, _]) eX12_lays_96 rfl (by decide) rfl ?_
            refine slv_iincN (lv' := [_, _, _]) eX12_lays_97 rfl (by decide) rfl ?_
            refine slv_goto eX12_lays_100 ?_
            exact hQ' _ (by rw [Bool.or_true])
  have LT1 : (rl_LT g).1 = sl_it (rl_GL g) (sg_names g + 1) (fun _ => nI 0) := by rw [rl_LT_it]
  have LT2 : (rl_LT g).2 = sl_it (rl_GT g) (sg_names g + 1) (fun _ => nI 0) := by rw [rl_LT_it]
  have edg : ∀ (n j : Nat), j + n = sg_names g → ∀ (z2 : Option Value) (Q : Option Value → sl_M → Prop), (∀ z2, sl_V YX12_lays none 3 0 0 Q 106 [some (.ref 68), some (.int (sl_bi false)), z2] [] (rf_S v w (sl_u (sl_u a 36 (rl_LT g).1) 37 (rl_LT g).2) nm M)) → sl_V YX12_lays none 3 0 0 Q 30 [some (.ref 68), some (.int (sl_bi true)), z2] [] (rf_S v w (sl_u (sl_u a 36 (sl_it (rl_GL g) j (fun _ => nI 0))) 37 (sl_it (rl_GT g) j (fun _ => nI 0))) nm M) := by
    intro n
    induction n with
    | zero =>
      intro j hj z2 Q hQ
      have e : j = sg_names g := by omega
      subst e
      have f1 := rl_set_X hs (rl_o1 g) (rl_i1 g) (fun _ => nI 0)
      have f2 := rl_set_X hs (rl_o2 g) (rl_i2 g) (fun _ => nI 0)
      have g1 : (rl_LT g).1 = sl_it (rl_GL g) (sg_names g) (fun _ => nI 0) := LT1.trans (rl_L_it hs (rl_o1 g) (rl_i1 g) _)
      have g2 : (rl_LT g).2 = sl_it (rl_GT g) (sg_names g) (fun _ => nI 0) := LT2.trans (rl_L_it hs (rl_o2 g) (rl_i2 g) _)
      refine slv_iload_n eX12_lays_30 rfl ?_
      refine slv_if_eqB eX12_lays_31 (fun h31 => absurd h31 (by decide)) (fun h31 => ?_)
      refine slv_iconst (v := nI 0) eX12_lays_34 (by decide) ?_
      refine slv_istore_n (i := 1) (lv' := [_, _, _]) eX12_lays_35 rfl (by decide) rfl ?_
      refine slv_iconst (v := nI 0) eX12_lays_36 (by decide) ?_
      refine slv_istore_n (i := 2) (lv' := [_, _, _]) eX12_lays_37 rfl (by decide) rfl ?_
      refine slv_mem rfl (rnd (sg_rules g) 0 _ _ false (by omega) Q (fun b' z2 q1 q2 => ?_))
      have hb' : b' = false := by
        cases b' with
        | false => rfl
        | true => exact absurd ⟨f1, f2⟩ ((q2 rfl).resolve_left (by decide))
      subst hb'
      rw [show sl_fo (rl_sX g (rl_o1 g) (rl_i1 g)) (sg_rules g) 0 (sl_it (rl_GL g) (sg_names g) (fun _ => nI 0)) = (rl_LT g).1 from f1.trans g1.symm, show sl_fo (rl_sX g (rl_o2 g) (rl_i2 g)) (sg_rules g) 0 (sl_it (rl_GT g) (sg_names g) (fun _ => nI 0)) = (rl_LT g).2 from f2.trans g2.symm]
      refine slv_goto eX12_lays_103 ?_
      refine slv_iload_n eX12_lays_30 rfl ?_
      refine slv_if_eqB eX12_lays_31 (fun h31 => ?_) (fun h31 => absurd h31 (by decide))
      exact hQ _
    | succ n ih =>
      intro j hj z2 Q hQ
      refine slv_iload_n eX12_lays_30 rfl ?_
      refine slv_if_eqB eX12_lays_31 (fun h31 => absurd h31 (by decide)) (fun h31 => ?_)
      refine slv_iconst (v := nI 0) eX12_lays_34 (by decide) ?_
      refine slv_istore_n (i := 1) (lv' := [_, _, _]) eX12_lays_35 rfl (by decide) rfl ?_
      refine slv_iconst (v := nI 0) eX12_lays_36 (by decide) ?_
      refine slv_istore_n (i := 2) (lv' := [_, _, _]) eX12_lays_37 rfl (by decide) rfl ?_
      refine slv_mem rfl (rnd (sg_rules g) 0 _ _ false (by omega) Q (fun b' z2 q1 q2 => ?_))
      cases b' with
      | true =>
        have s1 := sl_it_s (rl_GL g) j (fun _ => nI 0)
        have s2 := sl_it_s (rl_GT g) j (fun _ => nI 0)
        have hI := ih (j + 1) (by omega)
        rw [s1, s2] at hI
        refine slv_goto eX12_lays_103 ?_
        exact hI _ Q hQ
      | false =>
        obtain ⟨-, y1, y2⟩ := q1 rfl
        have g1 : (rl_LT g).1 = sl_it (rl_GL g) j (fun _ => nI 0) := by
          rw [LT1, show sg_names g + 1 = j + (sg_names g + 1 - j) by omega, sl_it_add]
          exact sl_it_fix y1 _
        have g2 : (rl_LT g).2 = sl_it (rl_GT g) j (fun _ => nI 0) := by
          rw [LT2, show sg_names g + 1 = j + (sg_names g + 1 - j) by omega, sl_it_add]
          exact sl_it_fix y2 _
        rw [y1, y2, ← g1, ← g2]
        refine slv_goto eX12_lays_103 ?_
        refine slv_iload_n eX12_lays_30 rfl ?_
        refine slv_if_eqB eX12_lays_31 (fun h31 => ?_) (fun h31 => absurd h31 (by decide))
        exact hQ _
  refine slv_iconst (v := nI 1) eX12_lays_28 (by decide) ?_
  refine slv_istore_n (i := 1) (lv' := [_, _, _]) eX12_lays_29 rfl (by decide) rfl ?_
  refine slv_mem rfl (edg (sg_names g) 0 (by omega) _ _ (fun z2 => ?_))
  unfold rl_S
  rw [← rl_two_eq]
  unfold rl_S1
  generalize hL : (rl_LT g).1 = L at *
  generalize hT : (rl_LT g).2 = T at *
  have hb36 : (sl_u (sl_u a 36 L) 37 T) 36 = L := (sl_u_ne (by decide)).trans sl_u_eq
  have hb37 : (sl_u (sl_u a 36 L) 37 T) 37 = T := sl_u_eq
  have hb38 : (sl_u (sl_u a 36 L) 37 T) 38 = a 38 := rfl
  have hbO : ∀ k, k ∉ [36, 37, 38, 39, 40, 41, 42, 43, 45] → (sl_u (sl_u a 36 L) 37 T) k = a k := fun k hk => (sl_u_ne (fun e => hk (by rw [e]; decide))).trans (sl_u_ne (fun e => hk (by rw [e]; decide)))
  have hbG := hG2 L T
  generalize (sl_u (sl_u a 36 L) 37 T) = b at *
  have hbG38 : ∀ f, rf_G g v (sl_u b 38 f) := fun f => hbG
  have zer : ∀ n k, k + n = 144 → ∀ (Q : Option Value → sl_M → Prop), (∀ z2, sl_V YX12_lays none 3 0 0 Q 130 [some (.ref 68), some (.int (sl_bi false)), z2] [] (rf_S v w (sl_u b 38 (fun _ => nI 0)) nm M)) → sl_V YX12_lays none 3 0 0 Q 108 [some (.ref 68), some (.int (sl_bi false)), some (.int (nI k))] [] (rf_S v w (sl_u b 38 (ptf (a 38) (fun _ => nI 0) k)) nm M) := by
    intro n
    induction n with
    | zero =>
      intro k hk Q hQ
      have e : k = 144 := by omega
      subst e
      rw [ptf_end (fun p hp => (hz2 p hp).symm)]
      refine slv_iload_n eX12_lays_108 rfl ?_
      refine slv_aload_n eX12_lays_109 rfl ?_
      refine slr_ga (p := 85) eX12_lays_110 fX12_64 rfl ?_
      refine slv_alen eX12_lays_113 rfl rfl rfl ?_
      refine slv_top (w := .int (nI 144)) rfl ?_
      refine slv_icmp_geN eX12_lays_114 (by omega) (by omega) (fun h114 => ?_) (fun h114 => absurd h114 (by omega))
      exact hQ _
    | succ n ih =>
      intro k hk Q hQ
      refine slv_iload_n eX12_lays_108 rfl ?_
      refine slv_aload_n eX12_lays_109 rfl ?_
      refine slr_ga (p := 85) eX12_lays_110 fX12_64 rfl ?_
      refine slv_alen eX12_lays_113 rfl rfl rfl ?_
      refine slv_top (w := .int (nI 144)) rfl ?_
      refine slv_icmp_geN eX12_lays_114 (by omega) (by omega) (fun h114 => absurd h114 (by omega)) (fun h114 => ?_)
      refine slv_aload_n eX12_lays_117 rfl ?_
      refine slr_ga (p := 85) eX12_lays_118 fX12_64 rfl ?_
      refine slv_iload_n eX12_lays_121 rfl ?_
      refine slv_iconst (v := nI 0) eX12_lays_122 (by decide) ?_
      refine slr_iastX (k := 38) (p := 85) (len := 144) eX12_lays_123 rfl (by repeat (first | exact sl_u_eq | assumption | apply rf_ne (by decide) | exact rfl)) (by omega) (by decide) (rf_t38 _ _ _ _ _) ?_
      refine slv_iincN (lv' := [_, _, _]) eX12_lays_124 rfl (by decide) rfl ?_
      refine slv_goto eX12_lays_127 ?_
      refine slv_mem ?_ (ih (k + 1) (by omega) Q hQ)
      rw [sl_u_u, ptf_st rfl]
  have e2 : rf_S v w b nm M = rf_S v w (sl_u b 38 (ptf (a 38) (fun _ => nI 0) 0)) nm M := by rw [ptf_0, ← hb38, sl_u_self]
  have hl2 := zer 144 0 (by omega)
  rw [← e2] at hl2
  refine slv_iconst (v := nI 0) eX12_lays_106 (by decide) ?_
  refine slv_istore_n (i := 2) (lv' := [_, _, _]) eX12_lays_107 rfl (by decide) rfl ?_
  refine hl2 _ (fun z2 => ?_)
  have rel : ∀ (n i : Nat) (s : Nat → Int32), i + n = sg_rules g → ∀ (Q : Option Value → sl_M → Prop), (∀ z2, sl_V YX12_lays none 3 0 0 Q 159 [some (.ref 68), some (.int (sl_bi false)), z2] [] (rf_S v w (sl_u b 38 (sl_fo (fun r s => cond (sg_put g r) s (rl_rr g (sg_terms g) L T r (sg_lens g r - 1) 0 s)) n i s)) nm M)) → sl_V YX12_lays none 3 0 0 Q 132 [some (.ref 68), some (.int (sl_bi false)), some (.int (nI i))] [] (rf_S v w (sl_u b 38 s) nm M) := by
    intro n
    induction n with
    | zero =>
      intro i s hi Q hQ
      refine slv_iload_n eX12_lays_132 rfl ?_
      refine slv_aload_n eX12_lays_133 rfl ?_
      refine slr_gi eX12_lays_134 fX12_311 rfl (by repeat (first | exact sl_u_eq | assumption | apply rf_ne (by decide) | exact rfl)) ?_
      refine slv_icmp_geN eX12_lays_137 (by omega) (by omega) (fun h137 => ?_) (fun h137 => absurd h137 (by omega))
      exact hQ _
    | succ n ih =>
      intro i s hi Q hQ
      have hQ' : ∀ z2, sl_V YX12_lays none 3 0 0 Q 159 [some (.ref 68), some (.int (sl_bi false)), z2] [] (rf_S v w (sl_u b 38 (sl_fo (fun r s => cond (sg_put g r) s (rl_rr g (sg_terms g) L T r (sg_lens g r - 1) 0 s)) n (i + 1) (cond (sg_put g i) s (rl_rr g (sg_terms g) L T i (sg_lens g i - 1) 0 s)))) nm M) := hQ
      have hSv := rf_sv (w := w) (nm := nm) (M := M) (hbG38 s) (show i < sg_rules g by omega)
      have hRl := c_X12_laysRelations (w := w) (nm := nm) (M := M) hok hs (hbG38 s) (L := L) (T := T) (s := s) hb36 hb37 sl_u_eq (show i < sg_rules g by omega)
      rw [sl_u_u] at hRl
      cases hp : sg_put g i with
      | true =>
        rw [hp] at hSv hQ'
        refine slv_iload_n eX12_lays_132 rfl ?_
        refine slv_aload_n eX12_lays_133 rfl ?_
        refine slr_gi eX12_lays_134 fX12_311 rfl (by repeat (first | exact sl_u_eq | assumption | apply rf_ne (by decide) | exact rfl)) ?_
        refine slv_icmp_geN eX12_lays_137 (by omega) (by omega) (fun h137 => absurd h137 (by omega)) (fun h137 => ?_)
        refine slv_aload_n eX12_lays_140 rfl ?_
        refine slv_iload_n eX12_lays_141 rfl ?_
        refine slv_rV (As := [_]) eX12_lays_142 lX12_348 rfl rfl rf_68 rfl hSv (by decide) (Nat.le_of_ble_eq_true rfl) ?_
        refine slv_if_eqB eX12_lays_145 (fun h145 => ?_) (fun h145 => absurd h145 (by decide))
        refine slv_iincN (lv' := [_, _, _]) eX12_lays_153 rfl (by decide) rfl ?_
        refine slv_goto eX12_lays_156 ?_
        exact ih (i + 1) s (by omega) Q hQ'
      | false =>
        rw [hp] at hSv hQ'
        refine slv_iload_n eX12_lays_132 rfl ?_
        refine slv_aload_n eX12_lays_133 rfl ?_
        refine slr_gi eX12_lays_134 fX12_311 rfl (by repeat (first | exact sl_u_eq | assumption | apply rf_ne (by decide) | exact rfl)) ?_
        refine slv_icmp_geN eX12_lays_137 (by omega) (by omega) (fun h137 => absurd h137 (by omega)) (fun h137 => ?_)
        refine slv_aload_n eX12_lays_140 rfl ?_
        refine slv_iload_n eX12_lays_141 rfl ?_
        refine slv_rV (As := [_]) eX12_lays_142 lX12_348 rfl rfl rf_68 rfl hSv (by decide) (Nat.le_of_ble_eq_true rfl) ?_
        refine slv_if_eqB eX12_lays_145 (fun h145 => absurd h145 (by decide)) (fun h145 => ?_)
        refine slv_aload_n eX12_lays_148 rfl ?_
        refine slv_iload_n eX12_lays_149 rfl ?_
        refine slv_rV (As := [_]) eX12_lays_150 lX12_361 rfl rfl rf_68 rfl hRl (by decide) (Nat.le_of_ble_eq_true rfl) ?_
        refine slv_iincN (lv' := [_, _, _]) eX12_lays_153 rfl (by decide) rfl ?_
        refine slv_goto eX12_lays_156 ?_
        exact ih (i + 1) _ (by omega) Q hQ'
  refine slv_iconst (v := nI 0) eX12_lays_130 (by decide) ?_
  refine slv_istore_n (i := 2) (lv' := [_, _, _]) eX12_lays_131 rfl (by decide) rfl ?_
  refine rel (sg_rules g) 0 _ (by omega) _ (fun z2 => ?_)
  generalize sl_fo (fun r s => cond (sg_put g r) s (rl_rr g (sg_terms g) L T r (sg_lens g r - 1) 0 s)) (sg_rules g) 0 (fun _ => nI 0) = s1
  have two : ∀ (n i : Nat) (s : Nat → Int32), i + n = sg_terms g → ∀ (Q : Option Value → sl_M → Prop), (∀ z2, sl_V YX12_lays none 3 0 0 Q 221 [some (.ref 68), some (.int (sl_bi false)), z2] [] (rf_S v w (sl_u b 38 (rl_two (sg_terms g) (L 0) (T 0) n i s)) nm M)) → sl_V YX12_lays none 3 0 0 Q 161 [some (.ref 68), some (.int (sl_bi false)), some (.int (nI i))] [] (rf_S v w (sl_u b 38 s) nm M) := by
    intro n
    induction n with
    | zero =>
      intro i s hi Q hQ
      refine slv_iload_n eX12_lays_161 rfl ?_
      refine slv_aload_n eX12_lays_162 rfl ?_
      refine slr_gi eX12_lays_163 fX12_324 rfl (by repeat (first | exact sl_u_eq | assumption | apply rf_ne (by decide) | exact rfl)) ?_
      refine slv_icmp_geN eX12_lays_166 (by omega) (by omega) (fun h166 => ?_) (fun h166 => absurd h166 (by omega))
      exact hQ _
    | succ n ih =>
      intro i s hi Q hQ
      have hQ' : ∀ z2, sl_V YX12_lays none 3 0 0 Q 221 [some (.ref 68), some (.int (sl_bi false)), z2] [] (rf_S v w (sl_u b 38 (rl_two (sg_terms g) (L 0) (T 0) n (i + 1) (cond (sl_bt (T 0) i) (rl_add (sg_terms g) (cond (sl_bt (L 0) i) (rl_add (sg_terms g) s (sg_terms g) i 1) s) i (sg_terms g) 4) (cond (sl_bt (L 0) i) (rl_add (sg_terms g) s (sg_terms g) i 1) s)))) nm M) := hQ
      have hr1 := c_X12_relates (v := v) (w := w) (a := sl_u b 38 s) (nm := nm) (M := M) (s := s) sl_u_eq ht11 (Nat.le_refl (sg_terms g)) (show i ≤ sg_terms g by omega) 1
      have hr2 := fun s => c_X12_relates (v := v) (w := w) (a := sl_u b 38 s) (nm := nm) (M := M) (s := s) sl_u_eq ht11 (show i ≤ sg_terms g by omega) (Nat.le_refl (sg_terms g)) 4
      rw [sl_u_u] at hr1
      simp only [sl_u_u] at hr2
      have snd : ∀ s', (∀ z2, sl_V YX12_lays none 3 0 0 Q 221 [some (.ref 68), some (.int (sl_bi false)), z2] [] (rf_S v w (sl_u b 38 (rl_two (sg_terms g) (L 0) (T 0) n (i + 1) (cond (sl_bt (T 0) i) (rl_add (sg_terms g) s' i (sg_terms g) 4) s'))) nm M)) → sl_V YX12_lays none 3 0 0 Q 192 [some (.ref 68), some (.int (sl_bi false)), some (.int (nI i))] [] (rf_S v w (sl_u b 38 s') nm M) := by
        intro s' hq
        refine slv_aload_n eX12_lays_192 rfl ?_
        refine slr_ga (p := 84) eX12_lays_193 fX12_61 rfl ?_
        refine slv_iconst (v := nI 0) eX12_lays_196 (by decide) ?_
        refine slr_ialdX (k := 37) (p := 84) (len := 6) eX12_lays_197 rfl (by repeat (first | exact sl_u_eq | assumption | apply rf_ne (by decide) | exact rfl)) (by omega) (by decide) rfl ?_
        refine slv_iload_n eX12_lays_198 rfl ?_
        refine slv_rS (As := [_, _]) eX12_lays_199 lX12_342 rfl rfl (c_X12_has _ _ _) (by decide) (Nat.le_of_ble_eq_true rfl) ?_
        refine slv_if_eqB eX12_lays_202 (fun h202 => ?_) (fun h202 => ?_)
        · refine slv_iincN (lv' := [_, _, _]) eX12_lays_215 rfl (by decide) rfl ?_
          refine slv_goto eX12_lays_218 ?_
          rw [h202] at hq
          exact ih (i + 1) _ (by omega) Q hq
        · refine slv_aload_n eX12_lays_205 rfl ?_
          refine slv_iload_n eX12_lays_206 rfl ?_
          refine slv_aload_n eX12_lays_207 rfl ?_
          refine slr_gi eX12_lays_208 fX12_324 rfl (by repeat (first | exact sl_u_eq | assumption | apply rf_ne (by decide) | exact rfl)) ?_
          refine slv_iconst (v := nI 4) eX12_lays_211 (by decide) ?_
          refine slv_rV (As := [_, _, _]) eX12_lays_212 lX12_364 rfl rfl rf_68 rfl (hr2 s') (by decide) (Nat.le_of_ble_eq_true rfl) ?_
          refine slv_iincN (lv' := [_, _, _]) eX12_lays_215 rfl (by decide) rfl ?_
          refine slv_goto eX12_lays_218 ?_
          rw [h202] at hq
          exact ih (i + 1) _ (by omega) Q hq
      refine slv_iload_n eX12_lays_161 rfl ?_
      refine slv_aload_n eX12_lays_162 rfl ?_
      refine slr_gi eX12_lays_163 fX12_324 rfl (by repeat (first | exact sl_u_eq | assumption | apply rf_ne (by decide) | exact rfl)) ?_
      refine slv_icmp_geN eX12_lays_166 (by omega) (by omega) (fun h166 => absurd h166 (by omega)) (fun h166 => ?_)
      refine slv_aload_n eX12_lays_169 rfl ?_
      refine slr_ga (p := 83) eX12_lays_170 fX12_58 rfl ?_
      refine slv_iconst (v := nI 0) eX12_lays_173 (by decide) ?_
      refine slr_ialdX (k := 36) (p := 83) (len := 6) eX12_lays_174 rfl (by repeat (first | exact sl_u_eq | assumption | apply rf_ne (by decide) | exact rfl)) (by omega) (by decide) rfl ?_
      refine slv_iload_n eX12_lays_175 rfl ?_
      refine slv_rS (As := [_, _]) eX12_lays_176 lX12_342 rfl rfl (c_X12_has _ _ _) (by decide) (Nat.le_of_ble_eq_true rfl) ?_
      refine slv_if_eqB eX12_lays_179 (fun h179 => ?_) (fun h179 => ?_)
      · rw [h179] at hQ'
        exact snd _ hQ'
      · refine slv_aload_n eX12_lays_182 rfl ?_
        refine slv_aload_n eX12_lays_183 rfl ?_
        refine slr_gi eX12_lays_184 fX12_324 rfl (by repeat (first | exact sl_u_eq | assumption | apply rf_ne (by decide) | exact rfl)) ?_
        refine slv_iload_n eX12_lays_187 rfl ?_
        refine slv_iconst (v := nI 1) eX12_lays_188 (by decide) ?_
        refine slv_rV (As := [_, _, _]) eX12_lays_189 lX12_364 rfl rfl rf_68 rfl hr1 (by decide) (Nat.le_of_ble_eq_true rfl) ?_
        rw [h179] at hQ'
        exact snd _ hQ'
  refine slv_iconst (v := nI 0) eX12_lays_159 (by decide) ?_
  refine slv_istore_n (i := 2) (lv' := [_, _, _]) eX12_lays_160 rfl (by decide) rfl ?_
  refine two (sg_terms g) 0 _ (by omega) _ (fun z2 => ?_)
  generalize rl_two (sg_terms g) (L 0) (T 0) (sg_terms g) 0 s1 = s2
  have hPt := c_X12_laysPoints (v := v) (w := w) (nm := nm) (M := M) (a := sl_u b 38 s2) (s := s2) ht11 h16 sl_u_eq
  refine slv_aload_n eX12_lays_221 rfl ?_
  refine slv_callV (As := []) eX12_lays_222 lX12_368 rfl rfl rf_68 rfl hPt (by decide) (Nat.le_of_ble_eq_true rfl) (Nat.zero_add _).symm (Nat.zero_add _).symm (Or.inl rfl) ?_
  rintro _ _ ⟨rfl, v1, a1, rfl, hv1, ha1, hk1⟩
  refine slv_vret eX12_lays_225 rfl ?_
  refine ⟨rfl, v1, a1, rfl, hv1, fun k hk => ?_, ?_, ?_, ?_, hk1⟩
  · exact (ha1 k (fun q => hk (by revert q; simp; omega))).trans ((sl_u_ne (fun e => hk (by rw [e]; decide))).trans (hbO k hk))
  · exact (ha1 _ (by decide)).trans hb36
  · exact (ha1 _ (by decide)).trans hb37
  · exact (ha1 _ (by decide)).trans sl_u_eq
end RLA

/-! what the reference does, all deeds -/
section RDT
variable {v : Nat → Int32} {w : Int64} {a : Nat → Nat → Int32} {nm : Nat → Int64} {M : sl_M} {Q : Option Value → sl_M → Prop}
set_option maxRecDepth 100000 in
theorem do_2 {d k r fr : Nat} {rl : Nat → Bool} {bi : Nat → Int32} {x y : Nat} {r0 : Bool × Int32} (hd4 : d < 4) (hk : k ≤ 2) (hkn : v 22 = nI k) (hf : v 62 = nI 0) (hr : r < 12) (hd : a 6 r = nI d) (h1 : a 68 0 = bi x) (h2 : a 76 0 = sl_bi (rl x)) (h3 : rl x = true → fl_b (bi x).toUInt32 = bi x) (g1 : a 68 1 = bi y) (g2 : a 76 1 = sl_bi (rl y)) (g3 : rl y = true → fl_b (bi y).toUInt32 = bi y) (hQ : doQ w nm M (rd_v2 k d rl bi x y r0) v a Q) : sl_V YX12_does none 4 0 0 Q 0 [some (.ref 68), some (.int (nI r)), some (.int (nI fr))] [] (rf_S v w a nm M) := by
  have hto : (nI d).toInt < 4 ∨ 8 < (nI d).toInt := by rw [nI_toInt (by omega)]; omega
  cases hx : rl x with
  | true =>
    have hQ1 : doQ w nm M (rd_vk k (true, rr_r d (cond (rl x) (bi x) (FP.i2f (bi x)).toInt32) (cond (rl y) (bi y) (FP.i2f (bi y)).toInt32))) v a Q := by
      have e : rd_v2 k d rl bi x y r0 = rd_vk k (true, rr_r d (rd_rb rl bi x) (rd_rb rl bi y)) := by unfold rd_v2; rw [hx]; rfl
      rw [e] at hQ
      exact hQ
    have h2' := h2
    rw [hx] at h2'
    refine slv_aload_n eX12_does_0 rfl ?_
    refine slr_ga (p := 72) eX12_does_1 fX12_23 rfl ?_
    refine slv_iload_n eX12_does_4 rfl ?_
    refine slr_ialdX (k := 6) (p := 72) (len := 12) eX12_does_5 rfl (by repeat (first | exact sl_u_eq | assumption | apply rf_ne (by decide) | exact rfl)) (by omega) (by decide) hd ?_
    refine slv_tableOut (t := 165) eX12_does_6 hto (by decide) ?_
    refine slv_aload_n eX12_does_165 rfl ?_
    refine slr_ga (p := 112) eX12_does_166 fX12_146 rfl ?_
    refine slv_iconst (v := nI 0) eX12_does_169 (by decide) ?_
    refine slr_zaldX (k := 76) (p := 112) (len := 17) eX12_does_170 rfl (by repeat (first | exact sl_u_eq | assumption | apply rf_ne (by decide) | exact rfl)) (by omega) (by decide) h2' ?_
    refine slv_if_neB eX12_does_171 (fun h171 => ?_) (fun h171 => absurd h171 (by decide))
    exact do_re hd4 hk hkn hf hr hd h1 h2 h3 g1 g2 g3 hQ1
  | false =>
    have h2' := h2
    rw [hx] at h2'
    cases hy : rl y with
    | true =>
      have hQ1 : doQ w nm M (rd_vk k (true, rr_r d (cond (rl x) (bi x) (FP.i2f (bi x)).toInt32) (cond (rl y) (bi y) (FP.i2f (bi y)).toInt32))) v a Q := by
        have e : rd_v2 k d rl bi x y r0 = rd_vk k (true, rr_r d (rd_rb rl bi x) (rd_rb rl bi y)) := by unfold rd_v2; rw [hx, hy]; rfl
        rw [e] at hQ
        exact hQ
      have g2' := g2
      rw [hy] at g2'
      refine slv_aload_n eX12_does_0 rfl ?_
      refine slr_ga (p := 72) eX12_does_1 fX12_23 rfl ?_
      refine slv_iload_n eX12_does_4 rfl ?_
      refine slr_ialdX (k := 6) (p := 72) (len := 12) eX12_does_5 rfl (by repeat (first | exact sl_u_eq | assumption | apply rf_ne (by decide) | exact rfl)) (by omega) (by decide) hd ?_
      refine slv_tableOut (t := 165) eX12_does_6 hto (by decide) ?_
      refine slv_aload_n eX12_does_165 rfl ?_
      refine slr_ga (p := 112) eX12_does_166 fX12_146 rfl ?_
      refine slv_iconst (v := nI 0) eX12_does_169 (by decide) ?_
      refine slr_zaldX (k := 76) (p := 112) (len := 17) eX12_does_170 rfl (by repeat (first | exact sl_u_eq | assumption | apply rf_ne (by decide) | exact rfl)) (by omega) (by decide) h2' ?_
      refine slv_if_neB eX12_does_171 (fun h171 => absurd h171 (by decide)) (fun h171 => ?_)
      refine slv_aload_n eX12_does_174 rfl ?_
      refine slr_ga (p := 112) eX12_does_175 fX12_146 rfl ?_
      refine slv_iconst (v := nI 1) eX12_does_178 (by decide) ?_
      refine slr_zaldX (k := 76) (p := 112) (len := 17) eX12_does_179 rfl (by repeat (first | exact sl_u_eq | assumption | apply rf_ne (by decide) | exact rfl)) (by omega) (by decide) g2' ?_
      refine slv_if_eqB eX12_does_180 (fun h180 => absurd h180 (by decide)) (fun h180 => ?_)
      exact do_re hd4 hk hkn hf hr hd h1 h2 h3 g1 g2 g3 hQ1
    | false =>
      have g2' := g2
      rw [hy] at g2'
      have e : rd_v2 k d rl bi x y r0 = cond (decide (d = 3) && decide (bi y = nI 0)) (6, r0) (rd_vk k (false, rr_w d (bi x) (bi y))) := by unfold rd_v2; rw [hx, hy]; rfl
      rw [e] at hQ
      have q1 : ¬ (d = 3 ∧ bi y = 0) → doQ w nm M (rd_vk k (false, rr_w d (bi x) (bi y))) v a Q := fun hn => by
        have : (decide (d = 3) && decide (bi y = nI 0)) = false := by
          cases hc : (decide (d = 3) && decide (bi y = nI 0)) with
          | false => rfl
          | true =>
            rw [Bool.and_eq_true] at hc
            exact absurd ⟨of_decide_eq_true hc.1, of_decide_eq_true hc.2⟩ hn
        rw [this] at hQ
        exact hQ
      have q2 : d = 3 ∧ bi y = 0 → Q none (rf_S (sl_u v 62 (nI 6)) w a nm M) := fun hn => by
        have : (decide (d = 3) && decide (bi y = nI 0)) = true := by
          rw [decide_eq_true hn.1, decide_eq_true (show bi y = nI 0 from hn.2)]; rfl
        rw [this] at hQ
        exact hQ _ (fun j hj => sl_u_ne (fun q => hj (by rw [q]; decide))) sl_u_eq (fun q => by cases q)
      refine slv_aload_n eX12_does_0 rfl ?_
      refine slr_ga (p := 72) eX12_does_1 fX12_23 rfl ?_
      refine slv_iload_n eX12_does_4 rfl ?_
      refine slr_ialdX (k := 6) (p := 72) (len := 12) eX12_does_5 rfl (by repeat (first | exact sl_u_eq | assumption | apply rf_ne (by decide) | exact rfl)) (by omega) (by decide) hd ?_
      refine slv_tableOut (t := 165) eX12_does_6 hto (by decide) ?_
      refine slv_aload_n eX12_does_165 rfl ?_
      refine slr_ga (p := 112) eX12_does_166 fX12_146 rfl ?_
      refine slv_iconst (v := nI 0) eX12_does_169 (by decide) ?_
      refine slr_zaldX (k := 76) (p := 112) (len := 17) eX12_does_170 rfl (by repeat (first | exact sl_u_eq | assumption | apply rf_ne (by decide) | exact rfl)) (by omega) (by decide) h2' ?_
      refine slv_if_neB eX12_does_171 (fun h171 => absurd h171 (by decide)) (fun h171 => ?_)
      refine slv_aload_n eX12_does_174 rfl ?_
      refine slr_ga (p := 112) eX12_does_175 fX12_146 rfl ?_
      refine slv_iconst (v := nI 1) eX12_does_178 (by decide) ?_
      refine slr_zaldX (k := 76) (p := 112) (len := 17) eX12_does_179 rfl (by repeat (first | exact sl_u_eq | assumption | apply rf_ne (by decide) | exact rfl)) (by omega) (by decide) g2' ?_
      refine slv_if_eqB eX12_does_180 (fun h180 => ?_) (fun h180 => absurd h180 (by decide))
      exact do_wh hd4 hk hkn hf hr hd h1 g1 q1 q2
theorem c_X12_does {d k r fr vm : Nat} {D : nd_T} {H : hn_T} {tv r0 : Bool × Int32} (hd9 : d < 9) (hk : k ≤ 2) (hkn : v 22 = nI k) (hf : v 62 = nI 0) (hr : r < 12) (hfr : fr < 16) (hd : a 6 r = nI d) (hH : rH D H vm v a) (c8 : d = 8 → a 56 fr = tv.2 ∧ a 60 fr = sl_bi tv.1) (c1 : d ≠ 8 → ∃ x, H.1 = some x) (c2 : d ≤ 3 → ∃ y, H.2.1 = some y) (hcn : ∀ x, H.1 = some x ∨ H.2.1 = some x → nd_rl D x = true → fl_b (nd_bi D x).toUInt32 = nd_bi D x) :
    sl_T YX12_does 4 0 0 (fun o M' => o = none ∧ ∃ v', M' = rf_S v' w a nm M ∧ (∀ j, j ∉ [79, 80, 62] → v' j = v j) ∧ v' 62 = nI (rd_mv k d tv (nd_rl D) (nd_bi D) H.1 H.2.1 r0).1 ∧ ((rd_mv k d tv (nd_rl D) (nd_bi D) H.1 H.2.1 r0).1 = 0 → v' 80 = sl_bi (rd_mv k d tv (nd_rl D) (nd_bi D) H.1 H.2.1 r0).2.1 ∧ v' 79 = (rd_mv k d tv (nd_rl D) (nd_bi D) H.1 H.2.1 r0).2.2)) [.ref 68, .int (nI r), .int (nI fr)] (rf_S v w a nm M) := by
  obtain ⟨⟨k1, k2⟩, k3, ⟨k4, k5⟩, k6, k7⟩ := hH
  refine sl_T.of_V (lv := [_, _, _]) (by decide) rfl (Nat.le_of_ble_eq_true rfl) ?_
  have hQ : ∀ V, rd_mv k d tv (nd_rl D) (nd_bi D) H.1 H.2.1 r0 = V → doQ w nm M V v a (fun o M' => o = none ∧ ∃ v', M' = rf_S v' w a nm M ∧ (∀ j, j ∉ [79, 80, 62] → v' j = v j) ∧ v' 62 = nI V.1 ∧ (V.1 = 0 → v' 80 = sl_bi V.2.1 ∧ v' 79 = V.2.2)) := fun V _ v' e1 e2 e3 => ⟨rfl, v', rfl, e1, e2, e3⟩
  by_cases d8 : d = 8
  · rw [rd_mv_8 d8] at hQ ⊢
    obtain ⟨o1, o2⟩ := c8 d8
    subst d8
    exact do_8 hk hkn hf hr hfr hd o1 o2 (hQ _ rfl)
  · obtain ⟨x, hx⟩ := c1 d8
    obtain ⟨n1, n2, n3⟩ := k6 x hx
    have n4 := hcn x (Or.inl hx)
    by_cases d3 : d ≤ 3
    · obtain ⟨y, hy⟩ := c2 d3
      obtain ⟨m1, m2, m3⟩ := k7 y hy
      have m4 := hcn y (Or.inr hy)
      rw [hx, hy, rd_mv_2 d8 d3] at hQ ⊢
      exact do_2 (by omega) hk hkn hf hr hd n2 n3 n4 m2 m3 m4 (hQ _ rfl)
    · rw [hx, rd_mv_1 d8 (by omega)] at hQ ⊢
      have hQ := hQ _ rfl
      rcases (show d = 4 ∨ d = 5 ∨ d = 6 ∨ d = 7 by omega) with q | q | q | q <;> subst q
      · exact do_4 hk hkn hf hr hd n2 n3 n4 hQ
      · exact do_5 hk hkn hf hr hd n2 n3 hQ
      · exact do_6 hk hkn hf hr hd n2 n3 (fun q => cn_q (n4 q)) hQ
      · exact do_7 hk hkn hf hr hd n2 n3 n4 hQ
end RDT

/-! the reference reads as the class's machine steps: items -/
theorem gr_is_f {R : gr_T} (h : gr_tk R ≠ 1) (j : Nat) : gr_is R j = false := by unfold gr_is; rw [decide_eq_false h]; rfl
theorem gr_nw_f {R : gr_T} (h : gr_tk R ≠ 1) : gr_nw R = false := by unfold gr_nw; rw [decide_eq_false h]; rfl
theorem gp_dw_f {R : gr_T} (h : gr_tk R ≠ 1) : gp_dw R = none := by
  unfold gp_dw
  exact sl_fn_none 9 0 (fun k _ => gr_is_f h _)
theorem take_0 {R : gr_T} {g : sg_T} (h : gr_st R = 0) : gp_take R g = (gp_line R g, g) := by
  unfold gp_take
  by_cases e : gr_tk R = 4
  · rw [if_pos e]
    unfold gp_line
    rw [gr_is_f (by omega), gr_is_f (by omega)]
    rfl
  · rw [if_neg e, h]; rfl
theorem take_1 {R : gr_T} {g : sg_T} (h : gr_st R = 1) : gp_take R g = gp_kind R g := by
  unfold gp_take
  by_cases e : gr_tk R = 4
  · rw [if_pos e]
    unfold gp_kind
    rw [gr_is_f (by omega), gr_is_f (by omega), gr_is_f (by omega)]
    rfl
  · rw [if_neg e, h]; rfl
theorem take_2 {R : gr_T} {g : sg_T} (h : gr_st R = 2) : gp_take R g = gp_head R g := by
  unfold gp_take
  by_cases e : gr_tk R = 4
  · rw [if_pos e]
    unfold gp_head
    rw [gr_nw_f (by omega)]
    rfl
  · rw [if_neg e, h]; rfl
theorem take_3 {R : gr_T} {g : sg_T} (h : gr_st R = 3) : gp_take R g = (gp_is R, g) := by
  unfold gp_take
  by_cases e : gr_tk R = 4
  · rw [if_pos e]
    unfold gp_is
    rw [gr_is_f (by omega)]
    rfl
  · rw [if_neg e, h]; rfl
theorem take_45 {R : gr_T} {g : sg_T} (h : gr_st R = 4 ∨ gr_st R = 5) : gp_take R g = gp_item R g := by
  unfold gp_take
  by_cases e : gr_tk R = 4
  · rw [if_pos e]
    unfold gp_item
    rw [gr_is_f (show gr_tk R ≠ 1 by omega), gr_nw_f (by omega), gr_is_f (show gr_tk R ≠ 1 by omega), if_neg (by omega), Bool.and_false]
    rfl
  · rw [if_neg e]
    rcases h with h | h <;> rw [h] <;> rfl
theorem take_6 {R : gr_T} {g : sg_T} (h : gr_st R = 6) : gp_take R g = gp_deed R g := by
  unfold gp_take
  by_cases e : gr_tk R = 4
  · rw [if_pos e]
    unfold gp_deed
    rw [gp_dw_f (by omega)]
  · rw [if_neg e, h]; rfl
theorem take_7 {R : gr_T} {g : sg_T} (h : gr_st R = 7) : gp_take R g = (gp_part R g, g) := by
  unfold gp_take
  by_cases e : gr_tk R = 4
  · rw [if_pos e]
    unfold gp_part
    rw [if_neg (by omega), if_neg (by omega)]
  · rw [if_neg e, h]; rfl
theorem gr_tok_k (f : Nat → Int32) {ln : Nat} {R : gr_T} (ha : gr_a R ≤ ln) : (gr_st (gr_tok f ln R) = gr_st R ∧ gr_hd (gr_tok f ln R) = gr_hd R ∧ gr_en (gr_tok f ln R) = gr_en R) ∧ gr_a R ≤ gr_a (gr_tok f ln R) ∧ (gr_tk (gr_tok f ln R) ≠ 0 → gr_a R + 1 ≤ gr_a (gr_tok f ln R)) := by
  have hs := gr_sk_le f ln (ln - gr_a R) (gr_a R) ha
  unfold gr_tok gr_t1
  generalize gr_sk f ln (ln - gr_a R) (gr_a R) = a at hs
  by_cases h1 : ln ≤ a
  · rw [if_pos h1]; exact ⟨⟨rfl, rfl, rfl⟩, hs.1, fun q => absurd rfl q⟩
  · rw [if_neg h1]
    cases hc : gr_lt (by_ f a) with
    | true =>
      have e : ln - a = (ln - (a + 1)) + 1 := by omega
      have h2 := (gr_we_le f ln (ln - (a + 1)) (a + 1) (by omega)).1
      have h3 : a + 1 ≤ gr_we f ln (ln - a) a := by
        rw [e, gr_we, decide_eq_true (show a < ln by omega), hc]
        exact h2
      refine ⟨⟨rfl, rfl, rfl⟩, ?_, fun _ => ?_⟩
      · show gr_a R ≤ gr_we f ln (ln - a) a
        omega
      · show gr_a R + 1 ≤ gr_we f ln (ln - a) a
        omega
    | false =>
      simp only [cond_false]
      have h3 : gr_a R + 1 ≤ a + 1 := by omega
      by_cases h2 : by_ f a = 59
      · rw [if_pos h2]; exact ⟨⟨rfl, rfl, rfl⟩, by show gr_a R ≤ a + 1; omega, fun _ => h3⟩
      · rw [if_neg h2]
        cases st_sg (by_ f a) with
        | true => exact ⟨⟨rfl, rfl, rfl⟩, by show gr_a R ≤ a + 1; omega, fun _ => h3⟩
        | false => exact ⟨⟨rfl, rfl, rfl⟩, by show gr_a R ≤ a + 1; omega, fun _ => h3⟩
/-- the reference stands where the machine stands -/
def rOK (ln st : Nat) (C : gr_T × sg_T) (v : Nat → Int32) (w : Int64) (a : Nat → Nat → Int32) (nm : Nat → Int64) : Prop := rm_t ln C.1 v w ∧ rm_g C.2 v a nm ∧ gpo_k ln C.1 C.2 ∧ gsp (gr_st C.1) C.2 ∧ gr_en C.1 = false ∧ gr_st C.1 = st
/-- both have failed, alike -/
def rBAD (C : gr_T × sg_T) (v : Nat → Int32) : Prop := gr_en C.1 = true ∧ 0 < gr_fa C.1 ∧ gr_fa C.1 < 100 ∧ v 34 = nI (gr_fa C.1) ∧ v 32 = nI (gr_pl C.1) ∧ v 31 = nI 0
theorem rm_g_v {g : sg_T} {v v' : Nat → Int32} {a : Nat → Nat → Int32} {nm : Nat → Int64} (h : rm_g g v a nm) (h1 : v' 17 = v 17) (h2 : v' 18 = v 18) (h3 : v' 19 = v 19) : rm_g g v' a nm := ⟨h1.trans h.1, h2.trans h.2.1, h3.trans h.2.2.1, h.2.2.2⟩
theorem rBAD_fl {R : gr_T} {g : sg_T} {v : Nat → Int32} {ln : Nat} {w : Int64} (h : rm_t ln R v w) {k : Nat} (h1 : 0 < k) (h2 : k < 100) : rBAD (gr_fl k R, g) (sl_u (sl_u v 34 (nI k)) 31 (nI 0)) := ⟨rfl, h1, h2, rfl, h.2.2.2.2.1, rfl⟩
theorem rm_g_ai {g : sg_T} {v : Nat → Int32} {a : Nat → Nat → Int32} {nm : Nat → Int64} (h : rm_g g v a nm) (hi : rm_i g a) (hok : sg_ok g) (hr : sg_rules g < 12) (x : Nat) : rm_g (gp_ai g x) v (sl_u a 9 (sl_u (a 9) (5 * sg_rules g + sg_lens g (sg_rules g)) (nI x))) nm ∧ rm_i (gp_ai g x) (sl_u a 9 (sl_u (a 9) (5 * sg_rules g + sg_lens g (sg_rules g)) (nI x))) := by
  obtain ⟨g1, g2, g3, g4, g5, g6, g7⟩ := h
  have hl5 : ∀ r, r < 12 → sg_lens g r ≤ 5 := fun r hr => (hok.2.2.2.2.2.1 r hr).2.2
  have hit : ∀ r i, sg_it (gp_ai g x) r i = sl_u (sg_items g) (sg_rules g * 5 + sg_lens g (sg_rules g)) x (5 * r + i) := fun r i => rfl
  have hln : ∀ r, sg_lens (gp_ai g x) r = sl_u (sg_lens g) (sg_rules g) (sg_lens g (sg_rules g) + 1) r := fun r => rfl
  refine ⟨⟨g1, g2, g3, fun r h1 => ?_, fun r i h1 h2 => ?_, g6, g7⟩, fun i h2 => ?_⟩
  · have h1' : r < sg_rules g := h1
    obtain ⟨q1, q2, q3⟩ := g4 r h1'
    exact ⟨q1, q2.trans (by rw [hln, sl_u_ne (by omega)]), q3⟩
  · have h1' : r < sg_rules g := h1
    rw [hln, sl_u_ne (by omega)] at h2
    have := hl5 r (by omega)
    rw [sl_u_eq, sl_u_ne (by omega), hit, sl_u_ne (by omega)]
    exact g5 r i h1 h2
  · have e1 : sg_rules (gp_ai g x) = sg_rules g := rfl
    rw [e1, hln, sl_u_eq] at h2
    rw [e1, sl_u_eq, hit]
    by_cases e : i = sg_lens g (sg_rules g)
    · rw [e, sl_u_eq, show sg_rules g * 5 + sg_lens g (sg_rules g) = 5 * sg_rules g + sg_lens g (sg_rules g) by omega, sl_u_eq]
    · rw [sl_u_ne (by omega), sl_u_ne (by omega)]
      exact hi i (by omega)
theorem gsp_34 {g : sg_T} (h : gsp 3 g) : gsp 4 g := by
  obtain ⟨a1, a2, a3, a4, a5, a6⟩ := h
  obtain ⟨b1, b2, b3, b4, b5⟩ := a6 (by omega) (by omega)
  exact ⟨a1, a2, a3, a4, a5, fun _ _ => ⟨b1, b2, b3, fun _ => b4 (by omega), fun q => by omega⟩⟩
section RIT
variable {v : Nat → Int32} {w : Int64} {a : Nat → Nat → Int32} {nm : Nat → Int64} {M : sl_M} {f : Nat → Int32} {ln : Nat} {R : gr_T} {g : sg_T}
set_option maxRecDepth 100000 in
theorem rm_needs (hS : st_all) (h27 : a 27 = f) (hl : ln ≤ 900) (hC : rOK ln 3 (R, g) v w a nm) : sl_T YX12_needs 7 0 0 (fun r M' => r = none ∧ ∃ v' w', M' = rf_S v' w' a nm M ∧ (∀ k, k ∉ [30, 31, 32, 33, 34] → v' k = v k) ∧ ((stp f ln (R, g) = (gr_tok f ln (gr_to 4 R), g) ∧ rOK ln 4 (stp f ln (R, g)) v' w' a nm) ∨ rBAD (stp f ln (R, g)) v')) [.ref 68, .ref (sl_X + 2 * 6)] (rf_S v w a nm M) := by
  obtain ⟨ht, hg, hk, hs, he, hst⟩ := hC
  simp only at ht hg hk hs he hst
  have htk := hk.2.1
  have hH := rm_isHere (a := a) (nm := nm) (M := M) hS ht htk (j := 6) (by decide) (by decide)
  have htk3 := take_3 (g := g) hst
  have hko := gpo_k_take hk
  rw [htk3] at hko
  refine sl_T.of_V (lv := [_, _]) (by decide) rfl (Nat.le_of_ble_eq_true rfl) ?_
  unfold gp_is at htk3 hko
  cases h6 : gr_is R 6 with
  | true =>
    rw [h6] at hH htk3 hko
    have hst' : stp f ln (R, g) = (gr_tok f ln (gr_to 4 R), g) := stp_go he htk3 he
    have hN := c_X12_next (v := v) (w := w) (nm := nm) (M := M) (R := gr_to 4 R) h27 hl ht.2.1 ht.1 ht.2.2.1 hk.1
    rw [hst']
    refine slv_aload_n eX12_needs_0 rfl ?_
    refine slv_aload_n eX12_needs_1 rfl ?_
    refine slv_rV (As := [_]) eX12_needs_2 lX12_212 rfl rfl rf_68 rfl hH (by decide) (Nat.le_of_ble_eq_true rfl) ?_
    refine slv_if_neB eX12_needs_5 (fun h5 => ?_) (fun h5 => absurd h5 (by decide))
    refine slv_aload_n eX12_needs_13 rfl ?_
    refine slv_callV (As := []) eX12_needs_14 lX12_220 rfl rfl rf_68 rfl hN (by decide) (Nat.le_of_ble_eq_true rfl) (Nat.zero_add _).symm (Nat.zero_add _).symm (Or.inl rfl) ?_
    rintro _ _ ⟨rfl, v1, w1, rfl, hv1, ht1⟩
    refine slv_vret eX12_needs_17 rfl ?_
    refine ⟨rfl, v1, w1, rfl, fun k hk' => hv1 k (fun q => hk' (by revert q; simp; omega)), Or.inl ⟨rfl, ht1, rm_g_v hg (hv1 _ (by decide)) (hv1 _ (by decide)) (hv1 _ (by decide)), gpo_k_tok f hko, ?_, ?_, ?_⟩⟩
    · show gsp (gr_st (gr_tok f ln (gr_to 4 R))) g
      rw [(gr_tok_k (R := gr_to 4 R) f hk.1).1.1]
      rw [hst] at hs
      exact gsp_34 hs
    · exact (gr_tok_k (R := gr_to 4 R) f hk.1).1.2.2.trans he
    · exact (gr_tok_k (R := gr_to 4 R) f hk.1).1.1
  | false =>
    rw [h6] at hH htk3
    have hst' : stp f ln (R, g) = (gr_fl 1 R, g) := stp_fl he htk3
    rw [hst']
    have hN := fun h => c_X12_nextB (v := sl_u (sl_u v 34 (nI 1)) 31 (nI 0)) (w := w) (a := a) (nm := nm) (M := M) (k := 1) (by omega) (by omega) h
    refine slv_aload_n eX12_needs_0 rfl ?_
    refine slv_aload_n eX12_needs_1 rfl ?_
    refine slv_rV (As := [_]) eX12_needs_2 lX12_212 rfl rfl rf_68 rfl hH (by decide) (Nat.le_of_ble_eq_true rfl) ?_
    refine slv_if_neB eX12_needs_5 (fun h5 => absurd h5 (by decide)) (fun h5 => ?_)
    refine slv_aload_n eX12_needs_8 rfl ?_
    refine slv_iconst (v := nI 1) eX12_needs_9 (by decide) ?_
    refine slv_rV (As := [_]) eX12_needs_10 lX12_216 rfl rfl rf_68 rfl (c_X12_flaw ht.1 1) (by decide) (Nat.le_of_ble_eq_true rfl) ?_
    refine slv_aload_n eX12_needs_13 rfl ?_
    refine slv_rV (As := []) eX12_needs_14 lX12_220 rfl rfl rf_68 rfl (hN rfl) (by decide) (Nat.le_of_ble_eq_true rfl) ?_
    refine slv_vret eX12_needs_17 rfl ?_
    refine ⟨rfl, _, _, rfl, fun k hk' => ?_, Or.inr (rBAD_fl ht (by omega) (by omega))⟩
    rw [sl_u_ne (fun e => hk' (by rw [e]; decide)), sl_u_ne (fun e => hk' (by rw [e]; decide))]
end RIT

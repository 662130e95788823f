def sg_z (g : sg_T) : Prop := ∀ j, 12 ≤ j → sg_lens g j = 0 ∧ sg_put g j = false
def gpo_k (ln : Nat) (R : gr_T) (g : sg_T) : Prop := gr_a R ≤ ln ∧ gr_tk R ≤ 4 ∧ gr_st R ≤ 7 ∧ gr_sg R < 256 ∧ sg_ok g ∧ sg_z g ∧ (2 ≤ gr_st R → gr_st R ≤ 6 → sg_rules g < 12) ∧ (5 ≤ gr_st R → gr_st R ≤ 6 → 1 ≤ sg_lens g (sg_rules g))
theorem gpo_k_fl {ln : Nat} {R : gr_T} {g : sg_T} (h : gpo_k ln R g) (k : Nat) : gpo_k ln (gr_fl k R) g := h
theorem gpo_k_tok {ln : Nat} {R : gr_T} {g : sg_T} (f : Nat → Int32) (h : gpo_k ln R g) : gpo_k ln (gr_tok f ln R) g := by
  obtain ⟨a1, a2, a3, a4, a5⟩ := h
  have hs := gr_sk_le f ln (ln - gr_a R) (gr_a R) a1
  unfold gr_tok gr_t1
  generalize gr_sk f ln (ln - gr_a R) (gr_a R) = a at hs
  by_cases h1 : ln ≤ a
  · rw [if_pos h1]; exact ⟨hs.2, Nat.zero_le _, a3, a4, a5⟩
  · rw [if_neg h1]
    cases gr_lt (by_ f a) with
    | true =>
      refine ⟨(gr_we_le f ln (ln - a) a hs.2).2, ?_, a3, a4, a5⟩
      show (if _ then 1 else 4) ≤ 4
      split <;> omega
    | false =>
      simp only [cond_false]
      by_cases h2 : by_ f a = 59
      · rw [if_pos h2]; exact ⟨by show a + 1 ≤ ln; omega, by show 3 ≤ 4; omega, a3, a4, a5⟩
      · rw [if_neg h2]
        cases st_sg (by_ f a) with
        | true => exact ⟨by show a + 1 ≤ ln; omega, by show 2 ≤ 4; omega, a3, by_lt f a, a5⟩
        | false => exact ⟨by show a + 1 ≤ ln; omega, by show 4 ≤ 4; omega, a3, a4, a5⟩
theorem gm_z {R : gr_T} {g : sg_T} (h : sg_z g) : sg_z (gm_s R g).2 := by
  unfold gm_s
  cases gm_k g (gr_wd R) with
  | some k => exact h
  | none => simp only; split <;> exact h
theorem gt_z {R : gr_T} {g : sg_T} {x : Nat} (h : sg_z g) : sg_z (gt_s R g x).2 := by
  unfold gt_s
  cases gt_k g x with
  | some k => exact h
  | none => simp only; split <;> exact h
/-- what meeting a name or a terminal leaves of the reader -/
theorem gm_R {R : gr_T} {g : sg_T} : gr_a (gm_s R g).1 = gr_a R ∧ gr_tk (gm_s R g).1 = gr_tk R ∧ gr_sg (gm_s R g).1 = gr_sg R ∧ gr_st (gm_s R g).1 = gr_st R := by
  unfold gm_s
  cases gm_k g (gr_wd R) with
  | some k => exact ⟨rfl, rfl, rfl, rfl⟩
  | none => simp only; split <;> exact ⟨rfl, rfl, rfl, rfl⟩
theorem gt_R {R : gr_T} {g : sg_T} {x : Nat} : gr_a (gt_s R g x).1 = gr_a R ∧ gr_tk (gt_s R g x).1 = gr_tk R ∧ gr_sg (gt_s R g x).1 = gr_sg R ∧ gr_st (gt_s R g x).1 = gr_st R := by
  unfold gt_s
  cases gt_k g x with
  | some k => exact ⟨rfl, rfl, rfl, rfl⟩
  | none => simp only; split <;> exact ⟨rfl, rfl, rfl, rfl⟩
theorem gpo_k_same {ln : Nat} {R R' : gr_T} {g g' : sg_T} (h : gpo_k ln R g) (h1 : gr_a R' = gr_a R ∧ gr_tk R' = gr_tk R ∧ gr_sg R' = gr_sg R ∧ gr_st R' = gr_st R) (h2 : sg_ok g' ∧ sg_rules g' = sg_rules g ∧ sg_lens g' = sg_lens g) (h3 : sg_z g') : gpo_k ln R' g' := by
  obtain ⟨a1, a2, a3, a4, a5, a6, a7, a8⟩ := h
  obtain ⟨b1, b2, b3, b4⟩ := h1
  obtain ⟨c1, c2, c3⟩ := h2
  unfold gpo_k
  rw [b1, b2, b3, b4, c2, c3]
  exact ⟨a1, a2, a3, a4, c1, h3, a7, a8⟩
theorem gpo_k_jo {ln : Nat} {R R' : gr_T} {g g' : sg_T} (h : gpo_k ln R g) (h1 : gr_a R' = gr_a R ∧ gr_tk R' = gr_tk R ∧ gr_sg R' = gr_sg R ∧ gr_st R' = gr_st R) (h2 : sg_ok g' ∧ sg_rules g' = sg_rules g ∧ sg_lens g' = sg_lens g) (h3 : sg_z g') (hr : sg_rules g < 12) (hl : sg_lens g (sg_rules g) < 5) {o : Option Nat} {z : Nat} (hz : ∀ k, o = some k → z + k < 106) : gpo_k ln (gp_jo o (R', g') z).1 (gp_jo o (R', g') z).2 := by
  have hs := gpo_k_same h h1 h2 h3
  cases o with
  | none => exact hs
  | some k =>
    obtain ⟨a1, a2, a3, a4, a5, a6, a7, a8⟩ := hs
    obtain ⟨d1, d2, d3, d4, d5, d6, d7, d8⟩ := a5
    obtain ⟨c1, c2, c3⟩ := h2
    have hr' : sg_rules g' < 12 := by rw [c2]; exact hr
    have hl' : sg_lens g' (sg_rules g') < 5 := by rw [c2, c3]; exact hl
    refine ⟨a1, a2, by show 5 ≤ 7; omega, a4, ⟨d1, d2, d3, d4, d5, ?_, ?_, ?_⟩, ?_, fun _ _ => hr', fun _ _ => ?_⟩
    · intro r hr
      refine ⟨(d6 r hr).1, (d6 r hr).2.1, ?_⟩
      show sl_u (sg_lens g') (sg_rules g') (sg_lens g' (sg_rules g') + 1) r ≤ 5
      unfold sl_u; split
      · omega
      · exact (d6 r hr).2.2
    · intro j hj
      show sl_u _ _ _ j < 106
      unfold sl_u; split
      · exact hz k rfl
      · exact d7 j hj
    · intro r hr
      have hr : r < sg_rules g' := hr
      show 1 ≤ sl_u (sg_lens g') (sg_rules g') (sg_lens g' (sg_rules g') + 1) r
      unfold sl_u; rw [if_neg (by omega)]
      exact d8 r hr
    · intro j hj
      refine ⟨?_, (h3 j hj).2⟩
      show sl_u (sg_lens g') (sg_rules g') (sg_lens g' (sg_rules g') + 1) j = 0
      unfold sl_u; rw [if_neg (by omega)]
      exact (h3 j hj).1
    · show 1 ≤ sl_u (sg_lens g') (sg_rules g') (sg_lens g' (sg_rules g') + 1) (sg_rules g')
      unfold sl_u; rw [if_pos rfl]; omega
theorem gpo_k_to {ln : Nat} {R : gr_T} {g : sg_T} (h : gpo_k ln R g) {k : Nat} (hk : k ≤ 7) (h1 : 2 ≤ k → k ≤ 6 → sg_rules g < 12) (h2 : 5 ≤ k → k ≤ 6 → 1 ≤ sg_lens g (sg_rules g)) : gpo_k ln (gr_to k R) g := by
  obtain ⟨a1, a2, a3, a4, a5, a6, a7, a8⟩ := h
  exact ⟨a1, a2, hk, a4, a5, a6, h1, h2⟩
theorem gpo_k_ni {ln : Nat} {R : gr_T} {g : sg_T} (h : gpo_k ln R g) (hr : sg_rules g < 12) : gpo_k ln (gp_ni R g).1 (gp_ni R g).2 := by
  unfold gp_ni
  cases (decide (0 < sg_lens g (sg_rules g)) && sg_nm (sg_it g (sg_rules g) (sg_lens g (sg_rules g) - 1))) with
  | true => exact h
  | false =>
    simp only [cond_false]
    by_cases h5 : sg_lens g (sg_rules g) < 5
    · rw [if_pos h5]
      have ho := gm_ok (R := R) h.2.2.2.2.1
      exact gpo_k_jo h gm_R ⟨ho.1, ho.2.1, ho.2.2.1⟩ (gm_z h.2.2.2.2.2.1) hr h5 (fun k hk => by have := ho.2.2.2 k hk; omega)
    · rw [if_neg h5]; exact h
theorem gpo_k_ti {ln : Nat} {R : gr_T} {g : sg_T} (h : gpo_k ln R g) (hr : sg_rules g < 12) {x : Nat} (hx : x < 256) : gpo_k ln (gp_ti R g x).1 (gp_ti R g x).2 := by
  unfold gp_ti
  by_cases h5 : sg_lens g (sg_rules g) < 5
  · rw [if_pos h5]
    have ho := gt_ok (R := R) hx h.2.2.2.2.1
    exact gpo_k_jo h gt_R ⟨ho.1, ho.2.1, ho.2.2.1⟩ (gt_z h.2.2.2.2.2.1) hr h5 (fun k hk => by have := ho.2.2.2 k hk; omega)
  · rw [if_neg h5]; exact h
theorem gpo_k_item {ln : Nat} {R : gr_T} {g : sg_T} (h : gpo_k ln R g) (h4 : gr_st R = 4 ∨ gr_st R = 5) : gpo_k ln (gp_item R g).1 (gp_item R g).2 := by
  have hr : sg_rules g < 12 := h.2.2.2.2.2.2.1 (by omega) (by omega)
  unfold gp_item
  cases hc : (decide (gr_st R = 5) && gr_is R 7) with
  | true =>
    have h5 : gr_st R = 5 := of_decide_eq_true (Bool.and_eq_true _ _ ▸ hc).1
    exact gpo_k_to h (by decide) (fun _ _ => hr) (fun _ _ => h.2.2.2.2.2.2.2 (by omega) (by omega))
  | false =>
    simp only [cond_false]
    cases gr_nw R with
    | true => exact gpo_k_ni h hr
    | false =>
      simp only [cond_false]
      by_cases h2 : gr_tk R = 2
      · rw [if_pos h2]; exact gpo_k_ti h hr h.2.2.2.1
      · rw [if_neg h2]
        cases gr_is R 8 with
        | true => exact gpo_k_ti h hr (by decide)
        | false => exact h
theorem gpo_k_take {ln : Nat} {R : gr_T} {g : sg_T} (h : gpo_k ln R g) : gpo_k ln (gp_take R g).1 (gp_take R g).2 := by
  unfold gp_take
  by_cases h4 : gr_tk R = 4
  · rw [if_pos h4]; exact h
  · rw [if_neg h4]
    have h7 := h.2.2.1
    have hrr := h.2.2.2.2.2.2.1
    rcases (show gr_st R = 0 ∨ gr_st R = 1 ∨ gr_st R = 2 ∨ gr_st R = 3 ∨ gr_st R = 4 ∨ gr_st R = 5 ∨ gr_st R = 6 ∨ gr_st R = 7 by omega) with e | e | e | e | e | e | e | e <;> rw [e] <;> simp only
    · unfold gp_line
      cases gr_is R 1 with
      | true =>
        cases gr_hd R with
        | true => exact h
        | false =>
          obtain ⟨a1, a2, a3, a4, a5, a6, a7, a8⟩ := h
          exact ⟨a1, a2, by show 1 ≤ 7; omega, a4, a5, a6, fun (z : 2 ≤ 1) _ => by omega, fun (z : 5 ≤ 1) _ => by omega⟩
      | false =>
        simp only [cond_false]
        cases gr_is R 2 with
        | true =>
          simp only [cond_true]
          by_cases h12 : sg_rules g < 12
          · rw [if_pos h12]
            cases gr_hd R with
            | true => exact gpo_k_to h (by decide) (fun _ _ => h12) (fun z _ => by omega)
            | false => exact h
          · rw [if_neg h12]; exact h
        | false => exact h
    · unfold gp_kind
      have key : ∀ k, k ≤ 2 → gpo_k ln (gr_to 7 R) (k, g.2) := by
        intro k hk
        obtain ⟨a1, a2, a3, a4, a5, a6, a7, a8⟩ := h
        obtain ⟨d1, d2, d3, d4, d5, d6, d7, d8⟩ := a5
        exact ⟨a1, a2, by show 7 ≤ 7; omega, a4, ⟨hk, d2, d3, d4, d5, d6, d7, d8⟩, a6, fun _ (z : 7 ≤ 6) => by omega, fun _ (z : 7 ≤ 6) => by omega⟩
      cases gr_is R 3 with
      | true => exact key 0 (by decide)
      | false => cases gr_is R 4 with
        | true => exact key 1 (by decide)
        | false => cases gr_is R 5 with
          | true => exact key 2 (by decide)
          | false => exact h
    · have hr : sg_rules g < 12 := hrr (by omega) (by omega)
      unfold gp_head
      cases gr_nw R with
      | false => exact h
      | true =>
        have ho := gm_ok (R := R) h.2.2.2.2.1
        have hs := gpo_k_same h (gm_R (R := R) (g := g)) ⟨ho.1, ho.2.1, ho.2.2.1⟩ (gm_z h.2.2.2.2.2.1)
        have h6 := ho.2.2.2
        have hr' : sg_rules (gm_s R g).2 < 12 := by rw [ho.2.1]; exact hr
        simp only [cond_true]
        cases hq : gm_o R g with
        | none => exact hs
        | some k =>
          have hk := h6 k hq
          obtain ⟨a1, a2, a3, a4, a5, a6, a7, a8⟩ := hs
          obtain ⟨d1, d2, d3, d4, d5, d6, d7, d8⟩ := a5
          refine ⟨a1, a2, by show 3 ≤ 7; omega, a4, ⟨d1, d2, d3, d4, d5, ?_, d7, ?_⟩, ?_, fun _ _ => hr', fun (z : 5 ≤ 3) _ => by omega⟩
          · intro r hr
            refine ⟨?_, (d6 r hr).2.1, ?_⟩
            · show sl_u _ _ _ r < 6
              unfold sl_u; split
              · exact hk
              · exact (d6 r hr).1
            · show sl_u _ _ _ r ≤ 5
              unfold sl_u; split
              · omega
              · exact (d6 r hr).2.2
          · intro r hr
            have hr : r < sg_rules (gm_s R g).2 := hr
            show 1 ≤ sl_u _ _ _ r
            unfold sl_u; rw [if_neg (by omega)]
            exact d8 r hr
          · intro j hj
            refine ⟨?_, (a6 j hj).2⟩
            show sl_u _ _ _ j = 0
            unfold sl_u; rw [if_neg (by omega)]
            exact (a6 j hj).1
    · have hr : sg_rules g < 12 := hrr (by omega) (by omega)
      unfold gp_is
      cases gr_is R 6 with
      | true => exact gpo_k_to h (by decide) (fun _ _ => hr) (fun z _ => by omega)
      | false => exact h
    · exact gpo_k_item h (Or.inl e)
    · exact gpo_k_item h (Or.inr e)
    · have hr : sg_rules g < 12 := hrr (by omega) (by omega)
      have hl1 := h.2.2.2.2.2.2.2 (by omega) (by omega)
      unfold gp_deed
      cases hq : gp_dw R with
      | none => exact h
      | some d =>
        have hd : d < 9 := by have := sl_fn_lt _ _ _ hq; omega
        simp only
        cases gp_goes g d with
        | false => exact h
        | true =>
          obtain ⟨a1, a2, a3, a4, a5, a6, a7, a8⟩ := h
          obtain ⟨d1, d2, d3, d4, d5, d6, d7, d8⟩ := a5
          refine ⟨a1, a2, by show 7 ≤ 7; omega, a4, ⟨d1, hr, d3, d4, d5, ?_, d7, ?_⟩, a6, fun _ (z : 7 ≤ 6) => by omega, fun _ (z : 7 ≤ 6) => by omega⟩
          · intro r hr
            refine ⟨(d6 r hr).1, ?_, (d6 r hr).2.2⟩
            show sl_u _ _ _ r < 9
            unfold sl_u; split
            · exact hd
            · exact (d6 r hr).2.1
          · intro r hr
            have hr : r < sg_rules g + 1 := hr
            by_cases e2 : r = sg_rules g
            · rw [e2]; exact hl1
            · exact d8 r (by omega)
    · unfold gp_part
      by_cases h3 : gr_tk R = 3
      · rw [if_pos h3]; exact gpo_k_to h (by decide) (fun z _ => by omega) (fun z _ => by omega)
      · rw [if_neg h3]
        by_cases h0 : gr_tk R = 0
        · rw [if_pos h0]
          cases gp_lk R g with
          | true => exact h
          | false => exact h
        · rw [if_neg h0]; exact h
def gp_run (f : Nat → Int32) (ln : Nat) : Nat → gr_T × sg_T → gr_T × sg_T
  | 0, q => q
  | n + 1, q => cond (gr_en q.1) q (gp_run f ln n (gp_take (gr_tok f ln q.1) q.2))
def gp_g0 (g : sg_T) : sg_T := (0, 0, 0, 0, sg_words g, sg_signs g, sg_heads g, sg_deeds g, fun _ => 0, sg_items g, fun _ => false)
def gp_R0 (R : gr_T) : gr_T := (0, 0, 0, 0, false, false, gr_tk R, gr_tp R, gr_wd R, gr_sg R)
theorem gpo_k_run {f : Nat → Int32} {ln : Nat} : ∀ (n : Nat) (q : gr_T × sg_T), gpo_k ln q.1 q.2 → gpo_k ln (gp_run f ln n q).1 (gp_run f ln n q).2 := by
  intro n
  induction n with
  | zero => intro q h; exact h
  | succ n ih =>
    intro q h
    rw [gp_run]
    cases gr_en q.1 with
    | true => exact h
    | false => exact ih _ (gpo_k_take (gpo_k_tok f h))

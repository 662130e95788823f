/-! the class's reading of a grammar: what its rules keep, its steps -/
def iv (g : sg_T) (x : Nat) : Prop := (x < 100 → x < sg_terms g) ∧ (100 ≤ x → x - 100 < sg_names g)
def gdd (g : sg_T) (r : Nat) : Prop := (sg_deeds g r = 8 → sg_lens g r = 1 ∧ sg_it g r 0 < 100 ∧ sg_signs g (sg_it g r 0) = 0) ∧ (sg_deeds g r ≠ 8 → sl_ct (fun i => sg_nm (sg_it g r i)) (sg_lens g r) 0 = if sg_deeds g r ≤ 3 then 2 else 1)
def gsp (st : Nat) (g : sg_T) : Prop :=
  (∀ r, r < sg_rules g → sg_heads g r < sg_names g ∧ 1 ≤ sg_lens g r) ∧ (∀ r i, r < sg_rules g → i < sg_lens g r → iv g (sg_it g r i)) ∧ (∀ r i, r < sg_rules g → i + 1 < sg_lens g r → ¬ (100 ≤ sg_it g r i ∧ 100 ≤ sg_it g r (i + 1))) ∧ (∀ r, r < sg_rules g → gdd g r) ∧
  (∀ t t', t < sg_terms g → t' < sg_terms g → sg_signs g t = sg_signs g t' → t = t') ∧
  (3 ≤ st → st ≤ 6 → sg_heads g (sg_rules g) < sg_names g ∧ (∀ i, i < sg_lens g (sg_rules g) → iv g (sg_it g (sg_rules g) i)) ∧ (∀ i, i + 1 < sg_lens g (sg_rules g) → ¬ (100 ≤ sg_it g (sg_rules g) i ∧ 100 ≤ sg_it g (sg_rules g) (i + 1))) ∧ (st ≤ 4 → sg_lens g (sg_rules g) = 0) ∧ (5 ≤ st → 1 ≤ sg_lens g (sg_rules g)))
theorem gsp_str {st : Nat} {g : sg_T} (h : gsp st g) : sg_str g := ⟨h.1, h.2.1, h.2.2.1, h.2.2.2.1, h.2.2.2.2.1⟩
theorem gsp_lo {st st' : Nat} {g : sg_T} (h : gsp st g) (h2 : st' < 3 ∨ 6 < st') : gsp st' g := ⟨h.1, h.2.1, h.2.2.1, h.2.2.2.1, h.2.2.2.2.1, fun a b => by omega⟩
theorem gsp_k {st : Nat} {g : sg_T} (h : gsp st g) (k : Nat) : gsp st (k, g.2) := h
theorem gm_nm {R : gr_T} {g : sg_T} : sg_names g ≤ sg_names (gm_s R g).2 ∧ sg_terms (gm_s R g).2 = sg_terms g ∧ sg_signs (gm_s R g).2 = sg_signs g ∧ sg_heads (gm_s R g).2 = sg_heads g ∧ sg_deeds (gm_s R g).2 = sg_deeds g ∧ sg_items (gm_s R g).2 = sg_items g ∧ sg_kind (gm_s R g).2 = sg_kind g ∧ ∀ k, gm_o R g = some k → k < sg_names (gm_s R g).2 := by
  unfold gm_s gm_o
  cases ho : gm_k g (gr_wd R) with
  | some k =>
    refine ⟨Nat.le_refl _, rfl, rfl, rfl, rfl, rfl, rfl, fun j hj => ?_⟩
    obtain ⟨_, h1, _⟩ := sl_fn_lt _ 0 k ho
    have : k = j := Option.some.inj hj
    show j < sg_names g
    omega
  | none =>
    simp only
    by_cases h : sg_names g < 6
    · rw [if_pos h, if_pos h]
      refine ⟨Nat.le_succ _, rfl, rfl, rfl, rfl, rfl, rfl, fun j hj => ?_⟩
      have : sg_names g = j := Option.some.inj hj
      show j < sg_names g + 1
      omega
    · rw [if_neg h, if_neg h]
      exact ⟨Nat.le_refl _, rfl, rfl, rfl, rfl, rfl, rfl, fun j hj => by cases hj⟩
theorem gt_nm {R : gr_T} {g : sg_T} {x : Nat} (hx : x < 256) (hok : sg_ok g) (hd : ∀ t t', t < sg_terms g → t' < sg_terms g → sg_signs g t = sg_signs g t' → t = t') : sg_terms g ≤ sg_terms (gt_s R g x).2 ∧ sg_names (gt_s R g x).2 = sg_names g ∧ sg_heads (gt_s R g x).2 = sg_heads g ∧ sg_deeds (gt_s R g x).2 = sg_deeds g ∧ sg_items (gt_s R g x).2 = sg_items g ∧ sg_kind (gt_s R g x).2 = sg_kind g ∧ (∀ t, t < sg_terms g → sg_signs (gt_s R g x).2 t = sg_signs g t) ∧ (∀ t t', t < sg_terms (gt_s R g x).2 → t' < sg_terms (gt_s R g x).2 → sg_signs (gt_s R g x).2 t = sg_signs (gt_s R g x).2 t' → t = t') ∧ ∀ k, gt_o g x = some k → k < sg_terms (gt_s R g x).2 := by
  unfold gt_s gt_o
  have ht11 : sg_terms g ≤ 11 := hok.2.2.2.1
  cases ho : gt_k g x with
  | some k =>
    refine ⟨Nat.le_refl _, rfl, rfl, rfl, rfl, rfl, fun t _ => rfl, hd, fun j hj => ?_⟩
    obtain ⟨_, h1, _⟩ := sl_fn_lt _ 0 k ho
    have : k = j := Option.some.inj hj
    show j < sg_terms g
    omega
  | none =>
    simp only
    by_cases h : sg_terms g < 11
    · rw [if_pos h, if_pos h]
      have hne : ∀ t, t < sg_terms g → sg_signs g t ≠ x := by
        intro t ht e
        have := sl_fn_none' _ 0 ho t (Nat.zero_le t) (by omega)
        rw [e] at this
        exact absurd this (by simp)
      refine ⟨Nat.le_succ _, rfl, rfl, rfl, rfl, rfl, fun t ht => sl_u_ne (by omega), fun t t' h1 h2 e => ?_, fun j hj => ?_⟩
      · have h1' : t < sg_terms g + 1 := h1
        have h2' : t' < sg_terms g + 1 := h2
        have e' : sl_u (sg_signs g) (sg_terms g) x t = sl_u (sg_signs g) (sg_terms g) x t' := e
        by_cases q1 : t = sg_terms g
        · by_cases q2 : t' = sg_terms g
          · omega
          · rw [q1, sl_u_eq, sl_u_ne q2] at e'
            exact absurd e'.symm (hne t' (by omega))
        · by_cases q2 : t' = sg_terms g
          · rw [q2, sl_u_eq, sl_u_ne q1] at e'
            exact absurd e' (hne t (by omega))
          · rw [sl_u_ne q1, sl_u_ne q2] at e'
            exact hd t t' (by omega) (by omega) e'
      · have : sg_terms g = j := Option.some.inj hj
        show j < sg_terms g + 1
        omega
    · rw [if_neg h, if_neg h]
      exact ⟨Nat.le_refl _, rfl, rfl, rfl, rfl, rfl, fun t _ => rfl, hd, fun j hj => by cases hj⟩
theorem gdd_same {g g' : sg_T} {r : Nat} (h : gdd g r) (h1 : sg_deeds g' r = sg_deeds g r) (h2 : sg_lens g' r = sg_lens g r) (h3 : ∀ i, i < sg_lens g r → sg_it g' r i = sg_it g r i) (h4 : sg_it g r 0 < sg_terms g → sg_signs g' (sg_it g r 0) = sg_signs g (sg_it g r 0)) (h5 : 1 ≤ sg_lens g r) (h6 : iv g (sg_it g r 0)) : gdd g' r := by
  have e0 := h3 0 (by omega)
  refine ⟨fun hd => ?_, fun hd => ?_⟩
  · rw [h1] at hd
    obtain ⟨a, b, c⟩ := h.1 hd
    rw [h2, e0, h4 (h6.1 b)]
    exact ⟨a, b, c⟩
  · rw [h1] at hd ⊢
    rw [h2, ← h.2 hd]
    refine sl_ct_congr _ 0 (fun k _ hk => ?_)
    rw [h3 k (by omega)]
/-- a larger grammar with the same rules so far -/
theorem gsp_grow {st st' : Nat} {g g' : sg_T} (h : gsp st g) (hr : sg_rules g' = sg_rules g) (hn : sg_names g ≤ sg_names g') (ht : sg_terms g ≤ sg_terms g') (hh : ∀ r, r < sg_rules g → sg_heads g' r = sg_heads g r ∧ sg_lens g' r = sg_lens g r ∧ sg_deeds g' r = sg_deeds g r ∧ ∀ i, i < sg_lens g r → sg_it g' r i = sg_it g r i) (hs : ∀ t, t < sg_terms g → sg_signs g' t = sg_signs g t) (hd : ∀ t t', t < sg_terms g' → t' < sg_terms g' → sg_signs g' t = sg_signs g' t' → t = t')
    (hl : 3 ≤ st' → st' ≤ 6 → sg_heads g' (sg_rules g') < sg_names g' ∧ (∀ i, i < sg_lens g' (sg_rules g') → iv g' (sg_it g' (sg_rules g') i)) ∧ (∀ i, i + 1 < sg_lens g' (sg_rules g') → ¬ (100 ≤ sg_it g' (sg_rules g') i ∧ 100 ≤ sg_it g' (sg_rules g') (i + 1))) ∧ (st' ≤ 4 → sg_lens g' (sg_rules g') = 0) ∧ (5 ≤ st' → 1 ≤ sg_lens g' (sg_rules g'))) : gsp st' g' := by
  obtain ⟨a1, a2, a3, a4, a5, a6⟩ := h
  refine ⟨fun r h1 => ?_, fun r i h1 h2 => ?_, fun r i h1 h2 => ?_, fun r h1 => ?_, hd, hl⟩
  · rw [hr] at h1
    obtain ⟨e1, e2, e3, e4⟩ := hh r h1
    obtain ⟨b1, b2⟩ := a1 r h1
    rw [e1, e2]
    exact ⟨by omega, b2⟩
  · rw [hr] at h1
    obtain ⟨e1, e2, e3, e4⟩ := hh r h1
    rw [e2] at h2
    obtain ⟨b1, b2⟩ := a2 r i h1 h2
    rw [e4 i h2]
    exact ⟨fun q => by have := b1 q; omega, fun q => by have := b2 q; omega⟩
  · rw [hr] at h1
    obtain ⟨e1, e2, e3, e4⟩ := hh r h1
    rw [e2] at h2
    rw [e4 i (by omega), e4 (i + 1) h2]
    exact a3 r i h1 h2
  · rw [hr] at h1
    obtain ⟨e1, e2, e3, e4⟩ := hh r h1
    obtain ⟨b1, b2⟩ := a1 r h1
    exact gdd_same (a4 r h1) e3 e2 e4 (fun q => hs _ q) b2 (a2 r 0 h1 (by omega))
theorem gsp_hl {st : Nat} {R : gr_T} {g : sg_T} (h : gsp st g) (hok : sg_ok g) {k : Nat} (hk : gm_o R g = some k) : gsp 3 (gp_hl (gm_s R g).2 k) := by
  obtain ⟨n1, n2, n3, n4, n5, n6, n7, n8⟩ := gm_nm (R := R) (g := g)
  obtain ⟨-, o2, o3, -⟩ := gm_ok (R := R) hok
  refine gsp_grow h o2 n1 (Nat.le_of_eq n2.symm) (fun r hr => ⟨?_, ?_, ?_, fun i hi => ?_⟩) (fun t _ => congrFun n3 t) ?_ (fun _ _ => ⟨?_, fun i hi => ?_, fun i hi => ?_, fun _ => ?_, fun q => by omega⟩)
  · show sl_u (sg_heads (gm_s R g).2) (sg_rules (gm_s R g).2) k r = _
    rw [sl_u_ne (by omega), n4]
  · show sl_u (sg_lens (gm_s R g).2) (sg_rules (gm_s R g).2) 0 r = _
    rw [sl_u_ne (by omega), o3]
  · exact congrFun n5 r
  · exact congrFun n6 _
  · show ∀ t t', t < sg_terms (gm_s R g).2 → t' < sg_terms (gm_s R g).2 → sg_signs (gm_s R g).2 t = sg_signs (gm_s R g).2 t' → t = t'
    rw [n2, n3]
    exact h.2.2.2.2.1
  · show sl_u (sg_heads (gm_s R g).2) (sg_rules (gm_s R g).2) k (sg_rules (gm_s R g).2) < _
    rw [sl_u_eq]
    exact n8 k hk
  · have : i < sl_u (sg_lens (gm_s R g).2) (sg_rules (gm_s R g).2) 0 (sg_rules (gm_s R g).2) := hi
    rw [sl_u_eq] at this
    omega
  · have : i + 1 < sl_u (sg_lens (gm_s R g).2) (sg_rules (gm_s R g).2) 0 (sg_rules (gm_s R g).2) := hi
    rw [sl_u_eq] at this
    omega
  · show sl_u (sg_lens (gm_s R g).2) (sg_rules (gm_s R g).2) 0 (sg_rules (gm_s R g).2) = 0
    rw [sl_u_eq]
/-- an item more, in a grammar that grew -/
theorem gsp_ai {st : Nat} {g g1 : sg_T} (h : gsp st g) (h3 : 4 ≤ st) (h6 : st ≤ 5) (hr : sg_rules g1 = sg_rules g) (hn : sg_names g ≤ sg_names g1) (ht : sg_terms g ≤ sg_terms g1) (hh : sg_heads g1 = sg_heads g) (hl : sg_lens g1 = sg_lens g) (hdd : sg_deeds g1 = sg_deeds g) (hi : sg_items g1 = sg_items g) (hs : ∀ t, t < sg_terms g → sg_signs g1 t = sg_signs g t) (hd : ∀ t t', t < sg_terms g1 → t' < sg_terms g1 → sg_signs g1 t = sg_signs g1 t' → t = t') (hl5 : ∀ r, r < sg_rules g → sg_lens g r ≤ 5) {x : Nat} (hx : iv g1 x) (hadj : 100 ≤ x → 0 < sg_lens g (sg_rules g) → sg_it g (sg_rules g) (sg_lens g (sg_rules g) - 1) < 100) : gsp 5 (gp_ai g1 x) := by
  obtain ⟨b1, b2, b3, b4, b5⟩ := h.2.2.2.2.2 (by omega) (by omega)
  have hit : ∀ i, i < sg_lens g (sg_rules g) → sg_it (gp_ai g1 x) (sg_rules g) i = sg_it g (sg_rules g) i := by
    intro i h1
    show sl_u (sg_items g1) (sg_rules g1 * 5 + sg_lens g1 (sg_rules g1)) x (5 * sg_rules g + i) = _
    rw [hr, hl, sl_u_ne (by omega), hi]
  have hitn : sg_it (gp_ai g1 x) (sg_rules g) (sg_lens g (sg_rules g)) = x := by
    show sl_u (sg_items g1) (sg_rules g1 * 5 + sg_lens g1 (sg_rules g1)) x (5 * sg_rules g + sg_lens g (sg_rules g)) = _
    rw [hr, hl, show sg_rules g * 5 + sg_lens g (sg_rules g) = 5 * sg_rules g + sg_lens g (sg_rules g) by omega, sl_u_eq]
  have hln : sg_lens (gp_ai g1 x) (sg_rules g) = sg_lens g (sg_rules g) + 1 := by
    show sl_u (sg_lens g1) (sg_rules g1) (sg_lens g1 (sg_rules g1) + 1) (sg_rules g) = _
    rw [hr, sl_u_eq, hl]
  have hrr : sg_rules (gp_ai g1 x) = sg_rules g := hr
  refine gsp_grow h hr hn ht (fun r hr1 => ⟨?_, ?_, ?_, fun i hi1 => ?_⟩) hs hd (fun _ _ => ?_)
  · exact congrFun hh r
  · show sl_u (sg_lens g1) (sg_rules g1) (sg_lens g1 (sg_rules g1) + 1) r = _
    rw [sl_u_ne (by omega), hl]
  · exact congrFun hdd r
  · have := hl5 r hr1
    show sl_u (sg_items g1) (sg_rules g1 * 5 + sg_lens g1 (sg_rules g1)) x (5 * r + i) = _
    rw [hr, hl, sl_u_ne (by omega), hi]
  · rw [hrr, hln]
    refine ⟨?_, fun i hi1 => ?_, fun i hi1 => ?_, fun q => by omega, fun _ => by omega⟩
    · have : sg_heads (gp_ai g1 x) = sg_heads g := hh
      rw [this]
      have : sg_names (gp_ai g1 x) = sg_names g1 := rfl
      omega
    · by_cases e : i = sg_lens g (sg_rules g)
      · rw [e, hitn]; exact hx
      · rw [hit i (by omega)]
        obtain ⟨c1, c2⟩ := b2 i (by omega)
        exact ⟨fun q => by have := c1 q; show _ < sg_terms g1; omega, fun q => by have := c2 q; show _ < sg_names g1; omega⟩
    · by_cases e : i + 1 = sg_lens g (sg_rules g)
      · rw [e, hitn, hit i (by omega)]
        rintro ⟨c1, c2⟩
        have := hadj c2 (by omega)
        rw [show sg_lens g (sg_rules g) - 1 = i by omega] at this
        omega
      · rw [hit i (by omega), hit (i + 1) (by omega)]
        exact b3 i (by omega)
theorem gsp_de {g : sg_T} (h : gsp 6 g) (hok : sg_ok g) {d : Nat} (hg : gp_goes g d = true) : gsp 7 (gp_de g d) := by
  obtain ⟨a1, a2, a3, a4, a5, a6⟩ := h
  obtain ⟨b1, b2, b3, b4, b5⟩ := a6 (by omega) (by omega)
  have hrr : sg_rules (gp_de g d) = sg_rules g + 1 := rfl
  have ht11 : sg_terms g ≤ 11 := hok.2.2.2.1
  have hdd : ∀ r, sg_deeds (gp_de g d) r = sl_u (sg_deeds g) (sg_rules g) d r := fun r => rfl
  refine ⟨fun r h1 => ?_, fun r i h1 h2 => ?_, fun r i h1 h2 => ?_, fun r h1 => ?_, a5, fun q1 q2 => by omega⟩
  · rcases Nat.lt_or_ge r (sg_rules g) with q | q
    · exact a1 r q
    · have e : r = sg_rules g := by omega
      rw [e]
      exact ⟨b1, b5 (by omega)⟩
  · rcases Nat.lt_or_ge r (sg_rules g) with q | q
    · exact a2 r i q h2
    · have e : r = sg_rules g := by omega
      rw [e] at h2 ⊢
      exact b2 i h2
  · rcases Nat.lt_or_ge r (sg_rules g) with q | q
    · exact a3 r i q h2
    · have e : r = sg_rules g := by omega
      rw [e] at h2 ⊢
      exact b3 i h2
  · rcases Nat.lt_or_ge r (sg_rules g) with q | q
    · exact gdd_same (a4 r q) (by rw [hdd, sl_u_ne (by omega)]) rfl (fun i _ => rfl) (fun _ => rfl) (a1 r q).2 (a2 r 0 q (by have := (a1 r q).2; omega))
    · have e : r = sg_rules g := by omega
      rw [e]
      unfold gp_goes at hg
      refine ⟨fun hd => ?_, fun hd => ?_⟩
      · rw [hdd, sl_u_eq] at hd
        rw [if_pos hd, Bool.and_eq_true] at hg
        have g1 := of_decide_eq_true hg.1
        have g2 := of_decide_eq_true hg.2
        cases hq : gt_k g 0 with
        | none =>
          rw [hq] at g2
          have hi := hok.2.2.2.2.2.2.1 (5 * sg_rules g + 0)
          rcases Nat.lt_or_ge (sg_it g (sg_rules g) 0) 2147483648 with q | q
          · exact absurd g2 (nI_neg1 q)
          · exfalso
            obtain ⟨c1, c2⟩ := b2 0 (by omega)
            have := c2 (by omega)
            have hn6 : sg_names g ≤ 6 := hok.2.2.1
            omega
        | some k =>
          rw [hq] at g2
          obtain ⟨_, q2, q3⟩ := sl_fn_lt _ 0 k hq
          have hs := hok.2.2.2.2.1 k (by omega)
          have hz : sg_signs g k = 0 := (nI_inj (by omega) (by omega)).mp (of_decide_eq_true q3)
          have hlt : sg_it g (sg_rules g) 0 < 2147483648 := by
            obtain ⟨c1, c2⟩ := b2 0 (by omega)
            have hn6 : sg_names g ≤ 6 := hok.2.2.1
            rcases Nat.lt_or_ge (sg_it g (sg_rules g) 0) 100 with q | q
            · omega
            · have := c2 q; omega
          have e0 : sg_it g (sg_rules g) 0 = k := (nI_inj hlt (by omega)).mp g2
          refine ⟨g1, ?_, ?_⟩
          · show sg_it g (sg_rules g) 0 < 100
            omega
          · show sg_signs g (sg_it g (sg_rules g) 0) = 0
            rw [e0]; exact hz
      · rw [hdd, sl_u_eq] at hd ⊢
        rw [if_neg hd] at hg
        exact of_decide_eq_true hg
/-! the machine's steps -/
def stp (f : Nat → Int32) (ln : Nat) (C : gr_T × sg_T) : gr_T × sg_T := cond (gr_en C.1) C (cond (gr_en (gp_take C.1 C.2).1) (gp_take C.1 C.2) (gr_tok f ln (gp_take C.1 C.2).1, (gp_take C.1 C.2).2))
def rst (f : Nat → Int32) (ln : Nat) (C C' : gr_T × sg_T) : Prop := ∃ n, sl_it (stp f ln) n C = C'
theorem rst_1 (f : Nat → Int32) (ln : Nat) (C : gr_T × sg_T) : rst f ln C (stp f ln C) := ⟨1, rfl⟩
theorem rst_0 (f : Nat → Int32) (ln : Nat) (C : gr_T × sg_T) : rst f ln C C := ⟨0, rfl⟩
theorem rst_t {f : Nat → Int32} {ln : Nat} {C C' C'' : gr_T × sg_T} (h1 : rst f ln C C') (h2 : rst f ln C' C'') : rst f ln C C'' := by
  obtain ⟨n, e1⟩ := h1
  obtain ⟨m, e2⟩ := h2
  exact ⟨n + m, by rw [sl_it_add, e1, e2]⟩
theorem stp_go {f : Nat → Int32} {ln : Nat} {R R' : gr_T} {g g' : sg_T} (h : gr_en R = false) (ht : gp_take R g = (R', g')) (he : gr_en R' = false) : stp f ln (R, g) = (gr_tok f ln R', g') := by
  unfold stp
  rw [h, cond_false, ht, he]
  rfl
theorem stp_fl {f : Nat → Int32} {ln : Nat} {R : gr_T} {g : sg_T} {k : Nat} (h : gr_en R = false) (ht : gp_take R g = (gr_fl k R, g)) : stp f ln (R, g) = (gr_fl k R, g) := by
  unfold stp
  rw [h, cond_false, ht]
  rfl

/-! the machine's steps: they end -/
theorem line_k {R : gr_T} {g : sg_T} : gr_a (gp_line R g) = gr_a R ∧ (gr_en (gp_line R g) = false → gr_en R = false ∧ gr_fa (gp_line R g) = gr_fa R ∧ gr_pl (gp_line R g) = gr_pl R) ∧ (gr_tk R = 0 → gr_en (gp_line R g) = true) := by
  refine ⟨?_, ?_, fun h => ?_⟩
  · unfold gp_line
    cases gr_is R 1 <;> cases gr_is R 2 <;> cases gr_hd R <;> simp only [cond_true, cond_false] <;> (try split) <;> rfl
  · unfold gp_line
    cases gr_is R 1 with
    | true =>
      cases hd : gr_hd R with
      | true => intro q; cases q
      | false => exact fun q => ⟨q, rfl, rfl⟩
    | false =>
      cases gr_is R 2 with
      | true =>
        simp only [cond_false, cond_true]
        split
        · cases hd : gr_hd R with
          | true => exact fun q => ⟨q, rfl, rfl⟩
          | false => intro q; cases q
        · intro q; cases q
      | false => intro q; cases q
  · unfold gp_line
    rw [gr_is_f (by omega), gr_is_f (by omega)]
    rfl
theorem kind_k {R : gr_T} {g : sg_T} : gr_a (gp_kind R g).1 = gr_a R ∧ (gr_en (gp_kind R g).1 = false → gr_en R = false ∧ gr_fa (gp_kind R g).1 = gr_fa R ∧ gr_pl (gp_kind R g).1 = gr_pl R) ∧ (gr_tk R = 0 → gr_en (gp_kind R g).1 = true) := by
  refine ⟨?_, ?_, fun h => ?_⟩
  · unfold gp_kind
    cases gr_is R 3 <;> cases gr_is R 4 <;> cases gr_is R 5 <;> rfl
  · unfold gp_kind
    cases gr_is R 3 <;> cases gr_is R 4 <;> cases gr_is R 5 <;> intro q <;> first | exact ⟨q, rfl, rfl⟩ | cases q
  · unfold gp_kind
    rw [gr_is_f (by omega), gr_is_f (by omega), gr_is_f (by omega)]
    rfl
theorem gms_k {R : gr_T} {g : sg_T} : gr_a (gm_s R g).1 = gr_a R ∧ (gr_en (gm_s R g).1 = false → gr_en R = false ∧ gr_fa (gm_s R g).1 = gr_fa R ∧ gr_pl (gm_s R g).1 = gr_pl R) := by
  unfold gm_s
  cases gm_k g (gr_wd R) with
  | some k => exact ⟨rfl, fun q => ⟨q, rfl, rfl⟩⟩
  | none =>
    simp only
    split
    · exact ⟨rfl, fun q => ⟨q, rfl, rfl⟩⟩
    · exact ⟨rfl, fun q => by cases q⟩
theorem gts_k {R : gr_T} {g : sg_T} {x : Nat} : gr_a (gt_s R g x).1 = gr_a R ∧ (gr_en (gt_s R g x).1 = false → gr_en R = false ∧ gr_fa (gt_s R g x).1 = gr_fa R ∧ gr_pl (gt_s R g x).1 = gr_pl R) := by
  unfold gt_s
  cases gt_k g x with
  | some k => exact ⟨rfl, fun q => ⟨q, rfl, rfl⟩⟩
  | none =>
    simp only
    split
    · exact ⟨rfl, fun q => ⟨q, rfl, rfl⟩⟩
    · exact ⟨rfl, fun q => by cases q⟩
theorem head_k {R : gr_T} {g : sg_T} : gr_a (gp_head R g).1 = gr_a R ∧ (gr_en (gp_head R g).1 = false → gr_en R = false ∧ gr_fa (gp_head R g).1 = gr_fa R ∧ gr_pl (gp_head R g).1 = gr_pl R) ∧ (gr_tk R = 0 → gr_en (gp_head R g).1 = true) := by
  obtain ⟨m1, m2⟩ := gms_k (R := R) (g := g)
  refine ⟨?_, ?_, fun h => ?_⟩
  · unfold gp_head
    cases gr_nw R with
    | false => rfl
    | true =>
      cases gm_o R g with
      | none => exact m1
      | some k => exact m1
  · unfold gp_head
    cases gr_nw R with
    | false => intro q; cases q
    | true =>
      cases gm_o R g with
      | none => exact m2
      | some k => exact m2
  · unfold gp_head
    rw [gr_nw_f (by omega)]
    rfl
theorem jo_k {R : gr_T} {o : Option Nat} {q : gr_T × sg_T} {z : Nat} (h : gr_a q.1 = gr_a R ∧ (gr_en q.1 = false → gr_en R = false ∧ gr_fa q.1 = gr_fa R ∧ gr_pl q.1 = gr_pl R)) : gr_a (gp_jo o q z).1 = gr_a R ∧ (gr_en (gp_jo o q z).1 = false → gr_en R = false ∧ gr_fa (gp_jo o q z).1 = gr_fa R ∧ gr_pl (gp_jo o q z).1 = gr_pl R) := by
  unfold gp_jo
  cases o with
  | none => exact h
  | some k => exact h
theorem ti_k {R : gr_T} {g : sg_T} {x : Nat} : gr_a (gp_ti R g x).1 = gr_a R ∧ (gr_en (gp_ti R g x).1 = false → gr_en R = false ∧ gr_fa (gp_ti R g x).1 = gr_fa R ∧ gr_pl (gp_ti R g x).1 = gr_pl R) := by
  unfold gp_ti
  split
  · exact jo_k gts_k
  · exact ⟨rfl, fun q => by cases q⟩
theorem ni_k {R : gr_T} {g : sg_T} : gr_a (gp_ni R g).1 = gr_a R ∧ (gr_en (gp_ni R g).1 = false → gr_en R = false ∧ gr_fa (gp_ni R g).1 = gr_fa R ∧ gr_pl (gp_ni R g).1 = gr_pl R) := by
  unfold gp_ni
  cases (decide (0 < sg_lens g (sg_rules g)) && sg_nm (sg_it g (sg_rules g) (sg_lens g (sg_rules g) - 1))) with
  | true => exact ⟨rfl, fun q => by cases q⟩
  | false =>
    simp only [cond_false]
    split
    · exact jo_k gms_k
    · exact ⟨rfl, fun q => by cases q⟩
theorem item_k {R : gr_T} {g : sg_T} : gr_a (gp_item R g).1 = gr_a R ∧ (gr_en (gp_item R g).1 = false → gr_en R = false ∧ gr_fa (gp_item R g).1 = gr_fa R ∧ gr_pl (gp_item R g).1 = gr_pl R) ∧ (gr_tk R = 0 → gr_en (gp_item R g).1 = true) := by
  have h1 : gr_a (gp_item R g).1 = gr_a R ∧ (gr_en (gp_item R g).1 = false → gr_en R = false ∧ gr_fa (gp_item R g).1 = gr_fa R ∧ gr_pl (gp_item R g).1 = gr_pl R) := by
    unfold gp_item
    cases (decide (gr_st R = 5) && gr_is R 7) with
    | true => exact ⟨rfl, fun q => ⟨q, rfl, rfl⟩⟩
    | false =>
      simp only [cond_false]
      cases gr_nw R with
      | true => exact ni_k
      | false =>
        simp only [cond_false]
        split
        · exact ti_k
        · cases gr_is R 8 with
          | true => exact ti_k
          | false => exact ⟨rfl, fun q => by cases q⟩
  refine ⟨h1.1, h1.2, fun h => ?_⟩
  unfold gp_item
  rw [gr_is_f (show gr_tk R ≠ 1 by omega), gr_nw_f (by omega), gr_is_f (show gr_tk R ≠ 1 by omega), if_neg (by omega), Bool.and_false]
  rfl
theorem deed_k {R : gr_T} {g : sg_T} : gr_a (gp_deed R g).1 = gr_a R ∧ (gr_en (gp_deed R g).1 = false → gr_en R = false ∧ gr_fa (gp_deed R g).1 = gr_fa R ∧ gr_pl (gp_deed R g).1 = gr_pl R) ∧ (gr_tk R = 0 → gr_en (gp_deed R g).1 = true) := by
  refine ⟨?_, ?_, fun h => ?_⟩
  · unfold gp_deed
    cases gp_dw R with
    | none => rfl
    | some d => simp only; cases gp_goes g d <;> rfl
  · unfold gp_deed
    cases gp_dw R with
    | none => intro q; cases q
    | some d =>
      simp only
      cases gp_goes g d with
      | true => exact fun q => ⟨q, rfl, rfl⟩
      | false => intro q; cases q
  · unfold gp_deed
    rw [gp_dw_f (by omega)]
    rfl
theorem part_k {R : gr_T} {g : sg_T} : gr_a (gp_part R g) = gr_a R ∧ (gr_en (gp_part R g) = false → gr_en R = false ∧ gr_fa (gp_part R g) = gr_fa R ∧ gr_pl (gp_part R g) = gr_pl R) ∧ (gr_tk R = 0 → gr_en (gp_part R g) = true) := by
  refine ⟨?_, ?_, fun h => ?_⟩
  · unfold gp_part
    split
    · rfl
    · split
      · cases gp_lk R g <;> rfl
      · rfl
  · unfold gp_part
    split
    · exact fun q => ⟨q, rfl, rfl⟩
    · split
      · cases gp_lk R g <;> (intro q; cases q)
      · intro q; cases q
  · unfold gp_part
    rw [if_neg (by omega), if_pos h]
    cases gp_lk R g <;> rfl
theorem take_k {R : gr_T} {g : sg_T} : gr_a (gp_take R g).1 = gr_a R ∧ (gr_en (gp_take R g).1 = false → gr_en R = false ∧ gr_fa (gp_take R g).1 = gr_fa R ∧ gr_pl (gp_take R g).1 = gr_pl R) ∧ (gr_tk R = 0 → gr_en (gp_take R g).1 = true) := by
  unfold gp_take
  by_cases e : gr_tk R = 4
  · rw [if_pos e]
    exact ⟨rfl, fun q => (by cases q), fun _ => rfl⟩
  · rw [if_neg e]
    split
    · exact line_k
    · exact kind_k
    · exact head_k
    · unfold gp_is
      refine ⟨?_, ?_, fun h => ?_⟩
      · cases gr_is R 6 <;> rfl
      · cases gr_is R 6 with
        | true => exact fun q => ⟨q, rfl, rfl⟩
        | false => intro q; cases q
      · rw [gr_is_f (by omega)]
        rfl
    · exact item_k
    · exact item_k
    · exact deed_k
    · exact part_k
theorem gr_tok_fp (f : Nat → Int32) {ln : Nat} (R : gr_T) : gr_fa (gr_tok f ln R) = gr_fa R ∧ gr_pl (gr_tok f ln R) = gr_pl R := by
  unfold gr_tok gr_t1
  generalize gr_sk f ln (ln - gr_a R) (gr_a R) = a
  split
  · exact ⟨rfl, rfl⟩
  · cases gr_lt (by_ f a) with
    | true => exact ⟨rfl, rfl⟩
    | false =>
      simp only [cond_false]
      split
      · exact ⟨rfl, rfl⟩
      · cases st_sg (by_ f a) <;> exact ⟨rfl, rfl⟩
section RMC
variable {f : Nat → Int32} {ln : Nat}
theorem stp_en {C : gr_T × sg_T} (h : gr_en C.1 = true) : stp f ln C = C := by
  unfold stp
  rw [h]
  rfl
theorem stp_k {C : gr_T × sg_T} (hk : gpo_k ln C.1 C.2) : gpo_k ln (stp f ln C).1 (stp f ln C).2 ∧ gr_a C.1 ≤ gr_a (stp f ln C).1 ∧ (gr_en (stp f ln C).1 = false → gr_en C.1 = false ∧ gr_tk C.1 ≠ 0 ∧ gr_fa (stp f ln C).1 = gr_fa C.1 ∧ gr_pl (stp f ln C).1 = gr_pl C.1) := by
  obtain ⟨t1, t2, t3⟩ := take_k (R := C.1) (g := C.2)
  have hko := gpo_k_take hk
  unfold stp
  cases he : gr_en C.1 with
  | true => exact ⟨hk, Nat.le_refl _, fun q => by rw [cond_true] at q; rw [he] at q; cases q⟩
  | false =>
    rw [cond_false]
    cases he2 : gr_en (gp_take C.1 C.2).1 with
    | true =>
      rw [cond_true]
      exact ⟨hko, Nat.le_of_eq t1.symm, fun q => by rw [he2] at q; cases q⟩
    | false =>
      rw [cond_false]
      have hkk := gr_tok_k (R := (gp_take C.1 C.2).1) f hko.1
      refine ⟨gpo_k_tok f hko, ?_, fun _ => ⟨rfl, fun q => ?_, ?_, ?_⟩⟩
      · show gr_a C.1 ≤ gr_a (gr_tok f ln (gp_take C.1 C.2).1)
        rw [← t1]
        exact hkk.2.1
      · rw [t3 q] at he2; cases he2
      · show gr_fa (gr_tok f ln (gp_take C.1 C.2).1) = _
        rw [(gr_tok_fp f _).1]
        exact (t2 he2).2.1
      · show gr_pl (gr_tok f ln (gp_take C.1 C.2).1) = _
        rw [(gr_tok_fp f _).2]
        exact (t2 he2).2.2
theorem rst_k {C C' : gr_T × sg_T} (h : rst f ln C C') : gpo_k ln C.1 C.2 → gpo_k ln C'.1 C'.2 ∧ gr_a C.1 ≤ gr_a C'.1 ∧ (gr_en C'.1 = false → (C' = C ∨ gr_tk C.1 ≠ 0) ∧ gr_fa C'.1 = gr_fa C.1 ∧ gr_pl C'.1 = gr_pl C.1) := by
  obtain ⟨n, hn⟩ := h
  induction n generalizing C with
  | zero =>
    intro hk
    have e : C = C' := hn
    rw [← e]
    exact ⟨hk, Nat.le_refl _, fun _ => ⟨Or.inl rfl, rfl, rfl⟩⟩
  | succ n ih =>
    intro hk
    obtain ⟨s1, s2, s3⟩ := stp_k (f := f) hk
    obtain ⟨i1, i2, i3⟩ := ih (C := stp f ln C) hn s1
    refine ⟨i1, by omega, fun q => ?_⟩
    obtain ⟨j1, j2, j3⟩ := i3 q
    have hen : gr_en (stp f ln C).1 = false := by
      cases hq : gr_en (stp f ln C).1 with
      | false => rfl
      | true =>
        rw [sl_it, sl_it_fix (stp_en hq)] at hn
        rw [hn, q] at hq
        cases hq
    obtain ⟨k1, k2, k3, k4⟩ := s3 hen
    exact ⟨Or.inr k2, j2.trans k3, j3.trans k4⟩
theorem run_en : ∀ (n : Nat) {q : gr_T × sg_T}, gr_en q.1 = true → gp_run f ln n q = q := by
  intro n q h
  cases n with
  | zero => rfl
  | succ n => rw [gp_run, h]; rfl
theorem run_end : ∀ (n : Nat) (q : gr_T × sg_T), gr_en q.1 = false → gpo_k ln q.1 q.2 → ln < gr_a q.1 + n → gr_en (gp_run f ln n q).1 = true := by
  intro n
  induction n with
  | zero => intro q _ hk hn; have := hk.1; omega
  | succ n ih =>
    intro q he hk hn
    rw [gp_run, he, cond_false]
    have hkt := gpo_k_tok f hk
    have hkk := gr_tok_k (R := q.1) f hk.1
    obtain ⟨t1, t2, t3⟩ := take_k (R := gr_tok f ln q.1) (g := q.2)
    cases h2 : gr_en (gp_take (gr_tok f ln q.1) q.2).1 with
    | true => rw [run_en n h2]; exact h2
    | false =>
      refine ih _ h2 (gpo_k_take hkt) ?_
      have h0 : gr_tk (gr_tok f ln q.1) ≠ 0 := fun e => by rw [t3 e] at h2; cases h2
      have := hkk.2.2 h0
      omega
theorem run_rst : ∀ (n : Nat) (q : gr_T × sg_T), gr_en q.1 = false → gpo_k ln q.1 q.2 → gr_en (gp_run f ln n q).1 = true → rst f ln (gr_tok f ln q.1, q.2) (gp_run f ln n q) := by
  intro n
  induction n with
  | zero => intro q he _ h; rw [gp_run, he] at h; cases h
  | succ n ih =>
    intro q he hk h
    rw [gp_run, he, cond_false] at h ⊢
    have hkk := gr_tok_k (R := q.1) f hk.1
    have het : gr_en (gr_tok f ln q.1) = false := hkk.1.2.2.trans he
    have hkt := gpo_k_take (gpo_k_tok f hk)
    cases h2 : gr_en (gp_take (gr_tok f ln q.1) q.2).1 with
    | true =>
      rw [run_en n h2]
      refine ⟨1, ?_⟩
      show stp f ln (gr_tok f ln q.1, q.2) = _
      unfold stp
      rw [het, cond_false, h2, cond_true]
    | false =>
      refine rst_t ⟨1, ?_⟩ (ih _ h2 hkt h)
      show stp f ln (gr_tok f ln q.1, q.2) = _
      unfold stp
      rw [het, cond_false, h2, cond_false]
theorem rst_uni {C E E' : gr_T × sg_T} (h : rst f ln C E) (h' : rst f ln C E') (e : gr_en E.1 = true) (e' : gr_en E'.1 = true) : E = E' := by
  obtain ⟨n, hn⟩ := h
  obtain ⟨m, hm⟩ := h'
  rcases Nat.le_total n m with q | q
  · have := sl_it_add (stp f ln) (m - n) n C
    rw [Nat.add_sub_cancel' q, hm, hn, sl_it_fix (stp_en e)] at this
    exact this.symm
  · have := sl_it_add (stp f ln) (n - m) m C
    rw [Nat.add_sub_cancel' q, hn, hm, sl_it_fix (stp_en e')] at this
    exact this
/-- the class's run and the steps end alike -/
theorem run_is {q E : gr_T × sg_T} {n : Nat} (he : gr_en q.1 = false) (hk : gpo_k ln q.1 q.2) (hn : ln < gr_a q.1 + n) (h : rst f ln (gr_tok f ln q.1, q.2) E) (e : gr_en E.1 = true) : gp_run f ln n q = E := rst_uni (run_rst n q he hk (run_end n q he hk hn)) h (run_end n q he hk hn) e
end RMC

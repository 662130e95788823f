/-! a reading's state kept in bounds -/
def sl_sm (f : Nat → Nat) : Nat → Nat
  | 0 => 0
  | n + 1 => sl_sm f n + f n
theorem sl_sm_congr {f g : Nat → Nat} : ∀ n, (∀ i, i < n → f i = g i) → sl_sm f n = sl_sm g n := by
  intro n
  induction n with
  | zero => intro _; rfl
  | succ n ih => intro h; rw [sl_sm, sl_sm, ih (fun i hi => h i (by omega)), h n (by omega)]
theorem sl_sm_mono {f : Nat → Nat} {m : Nat} : ∀ n, m ≤ n → sl_sm f m ≤ sl_sm f n := by
  intro n
  induction n with
  | zero => intro h; have : m = 0 := by omega
            subst this; exact Nat.le_refl _
  | succ n ih =>
    intro h
    by_cases e : m = n + 1
    · subst e; exact Nat.le_refl _
    · rw [sl_sm]; exact Nat.le_trans (ih (by omega)) (Nat.le_add_right _ _)
def rd_gat (S : rd_T) (fr : Nat) : Option Nat × Option Nat × Nat × (Nat → Nat) := hn_gt (rd_stk S) (rd_beh S) (rd_tp S + 1 - fr) fr (hn_v1 (rd_beh S (fr - 1)) none, hn_v2 (rd_beh S (fr - 1)) none none, hn_vn (rd_beh S (fr - 1)) 0, hn_vi (rd_beh S (fr - 1)) 0 (rd_hn S).2.2.2)
def rd_ok (E : rx_T) (S : rd_T) : Prop := rd_nx S ≤ rx_tc E ∧ rd_tp S ≤ 15 ∧ rd_mo S ≤ 15 ∧ nd_c (rd_nd S) ≤ 60 ∧ (∀ i, i < 16 → rd_stk S i < 12) ∧ (∀ i, i < 16 → rd_tok S i < 60) ∧ (∀ i k, i < 16 → rd_beh S i = some k → k < 60) ∧ (∀ i k, i ≤ rd_tp S → rd_beh S i = some k → k < nd_c (rd_nd S)) ∧ (∀ k, k < 60 → nd_de (rd_nd S) k ≤ k + 1) ∧ (∀ i, i < 31 → (rd_hn S).2.2.2 i < 1000) ∧
  (∀ k j, k < 60 → nd_fi (rd_nd S) k = some j → j < 60 ∧ (k < nd_c (rd_nd S) → j < k)) ∧ (∀ k j, k < 60 → nd_se (rd_nd S) k = some j → j < 60 ∧ (k < nd_c (rd_nd S) → j < k)) ∧ (∀ k, k < 60 → nd_si (rd_nd S) k ≤ k + 1) ∧ sl_sm (fun i => no_g (nd_si (rd_nd S)) (rd_beh S i)) (rd_tp S + 1) ≤ nd_c (rd_nd S)
theorem hn_ai_lt {n : Nat} {it : Nat → Nat} {x : Nat} (hi : ∀ i, i < 31 → it i < 1000) (hx : x < 1000) : ∀ i, i < 31 → hn_ai n it x i < 1000 := by
  intro i h
  unfold hn_ai
  split
  · unfold sl_u; split
    · exact hx
    · exact hi i h
  · exact hi i h
theorem hn_vi_lt {o : Option Nat} {n : Nat} {it : Nat → Nat} (hi : ∀ i, i < 31 → it i < 1000) : ∀ i, i < 31 → hn_vi o n it i < 1000 := by
  cases o with
  | none => exact hi
  | some k => exact hn_ai_lt hi (by decide)
/-- what gathering keeps: places below a bound; length and items in bounds; sizes -/
theorem hn_gt_ok {stk : Nat → Nat} {beh : Nat → Option Nat} {c : Nat} {si : Nat → Nat} : ∀ (m i : Nat) (q : Option Nat × Option Nat × Nat × (Nat → Nat)), (∀ j, i ≤ j → j < i + m → stk j < 12 ∧ ∀ k, beh j = some k → k < c) → (∀ k, q.1 = some k → k < c) → (∀ k, q.2.1 = some k → k < c) → q.2.2.1 ≤ 31 → (∀ j, j < 31 → q.2.2.2 j < 1000) →
    (∀ k, (hn_gt stk beh m i q).1 = some k → k < c) ∧ (∀ k, (hn_gt stk beh m i q).2.1 = some k → k < c) ∧ (hn_gt stk beh m i q).2.2.1 ≤ 31 ∧ (∀ j, j < 31 → (hn_gt stk beh m i q).2.2.2 j < 1000) := by
  intro m
  induction m with
  | zero => intro i q _ h1 h2 h3 h4; exact ⟨h1, h2, h3, h4⟩
  | succ m ih =>
    intro i q h0 h1 h2 h3 h4
    rw [hn_gt]
    have hb : ∀ k, beh i = some k → k < c := (h0 i (Nat.le_refl i) (by omega)).2
    refine ih (i + 1) _ (fun j a b => h0 j (by omega) (by omega)) ?_ ?_ (hn_vn_le (hn_an_le h3)) (hn_vi_lt (hn_ai_lt h4 (Nat.lt_trans (h0 i (Nat.le_refl i) (by omega)).1 (by decide))))
    · intro k hk
      cases ho : beh i with
      | none => rw [ho] at hk; exact h1 k hk
      | some a =>
        rw [ho] at hk
        cases hq : q.1 with
        | none => rw [hq] at hk; have : a = k := Option.some.inj hk
                  subst this; exact hb a ho
        | some z => rw [hq] at hk; have : z = k := Option.some.inj hk
                    subst this; exact h1 z hq
    · intro k hk
      cases ho : beh i with
      | none => rw [ho] at hk; exact h2 k hk
      | some a =>
        rw [ho] at hk
        cases hq : q.1 with
        | none => rw [hq] at hk; exact h2 k hk
        | some z =>
          rw [hq] at hk
          cases hs : q.2.1 with
          | none => rw [hs] at hk; have : a = k := Option.some.inj hk
                    subst this; exact hb a ho
          | some y => rw [hs] at hk; have : y = k := Option.some.inj hk
                      subst this; exact h2 y hs
theorem hn_v_sz {si : Nat → Nat} (o f s : Option Nat) : no_g si (hn_v1 o f) + no_g si (hn_v2 o f s) ≤ no_g si f + no_g si s + no_g si o := by
  cases o with
  | none => exact Nat.le_refl _
  | some a => cases f with
    | none => show si a + no_g si s ≤ 0 + no_g si s + si a
              omega
    | some z => cases s with
      | none => show si z + si a ≤ si z + 0 + si a
                omega
      | some y => show si z + si y ≤ si z + si y + si a
                  omega
theorem hn_gt_sz {stk : Nat → Nat} {beh : Nat → Option Nat} {si : Nat → Nat} : ∀ (m i : Nat) (q : Option Nat × Option Nat × Nat × (Nat → Nat)), no_g si q.1 + no_g si q.2.1 ≤ sl_sm (fun j => no_g si (beh j)) i →
    no_g si (hn_gt stk beh m i q).1 + no_g si (hn_gt stk beh m i q).2.1 ≤ sl_sm (fun j => no_g si (beh j)) (i + m) := by
  intro m
  induction m with
  | zero => intro i q h; exact h
  | succ m ih =>
    intro i q h
    rw [hn_gt]
    have := ih (i + 1) (hn_v1 (beh i) q.1, hn_v2 (beh i) q.1 q.2.1, hn_vn (beh i) (hn_an q.2.2.1), hn_vi (beh i) (hn_an q.2.2.1) (hn_ai q.2.2.1 q.2.2.2 (stk i))) ?_
    · rw [show i + (m + 1) = i + 1 + m from by omega]; exact this
    · rw [sl_sm]
      have := hn_v_sz (si := si) (beh i) q.1 q.2.1
      simp only
      omega
/-- the same with what lies below left out -/
theorem hn_gt_sz2 {stk : Nat → Nat} {beh : Nat → Option Nat} {si : Nat → Nat} (p : Nat) : ∀ (m i : Nat) (q : Option Nat × Option Nat × Nat × (Nat → Nat)), p + (no_g si q.1 + no_g si q.2.1) ≤ sl_sm (fun j => no_g si (beh j)) i →
    p + (no_g si (hn_gt stk beh m i q).1 + no_g si (hn_gt stk beh m i q).2.1) ≤ sl_sm (fun j => no_g si (beh j)) (i + m) := by
  intro m
  induction m with
  | zero => intro i q h; exact h
  | succ m ih =>
    intro i q h
    rw [hn_gt]
    have := ih (i + 1) (hn_v1 (beh i) q.1, hn_v2 (beh i) q.1 q.2.1, hn_vn (beh i) (hn_an q.2.2.1), hn_vi (beh i) (hn_an q.2.2.1) (hn_ai q.2.2.1 q.2.2.2 (stk i))) ?_
    · rw [show i + (m + 1) = i + 1 + m from by omega]; exact this
    · rw [sl_sm]
      have := hn_v_sz (si := si) (beh i) q.1 q.2.1
      simp only
      omega
theorem rd_gat_ok {E : rx_T} {S : rd_T} (h : rd_ok E S) {fr : Nat} (h1 : 1 ≤ fr) (h2 : fr ≤ rd_tp S) :
    (∀ k, (rd_gat S fr).1 = some k → k < nd_c (rd_nd S)) ∧ (∀ k, (rd_gat S fr).2.1 = some k → k < nd_c (rd_nd S)) ∧ (rd_gat S fr).2.2.1 ≤ 31 ∧ (∀ j, j < 31 → (rd_gat S fr).2.2.2 j < 1000) ∧
    sl_sm (fun i => no_g (nd_si (rd_nd S)) (rd_beh S i)) (fr - 1) + (no_g (nd_si (rd_nd S)) (rd_gat S fr).1 + no_g (nd_si (rd_nd S)) (rd_gat S fr).2.1) ≤ nd_c (rd_nd S) := by
  obtain ⟨a1, a2, a3, a4, a5, a6, a7, a8, a9, a10, a11, a12, a13, a14⟩ := h
  have hb := a8 (fr - 1)
  have z := hn_gt_ok (stk := rd_stk S) (beh := rd_beh S) (c := nd_c (rd_nd S)) (si := nd_si (rd_nd S)) (rd_tp S + 1 - fr) fr (hn_v1 (rd_beh S (fr - 1)) none, hn_v2 (rd_beh S (fr - 1)) none none, hn_vn (rd_beh S (fr - 1)) 0, hn_vi (rd_beh S (fr - 1)) 0 (rd_hn S).2.2.2) (fun j b c => ⟨a5 j (by omega), fun k hk => a8 j k (by omega) hk⟩) ?_ ?_ (hn_vn_le (by decide)) (hn_vi_lt a10)
  · refine ⟨z.1, z.2.1, z.2.2.1, z.2.2.2, ?_⟩
    have y := hn_gt_sz2 (stk := rd_stk S) (beh := rd_beh S) (si := nd_si (rd_nd S)) (sl_sm (fun i => no_g (nd_si (rd_nd S)) (rd_beh S i)) (fr - 1)) (rd_tp S + 1 - fr) fr (hn_v1 (rd_beh S (fr - 1)) none, hn_v2 (rd_beh S (fr - 1)) none none, hn_vn (rd_beh S (fr - 1)) 0, hn_vi (rd_beh S (fr - 1)) 0 (rd_hn S).2.2.2) ?_
    · rw [show fr + (rd_tp S + 1 - fr) = rd_tp S + 1 from by omega] at y
      exact Nat.le_trans y a14
    · have e : fr = (fr - 1) + 1 := by omega
      generalize fr - 1 = f0 at e
      subst e
      rw [sl_sm]
      have := hn_v_sz (si := nd_si (rd_nd S)) (rd_beh S f0) none none
      simp only
      have e2 : no_g (nd_si (rd_nd S)) none = 0 := rfl
      omega
  · intro k hk
    cases ho : rd_beh S (fr - 1) with
    | none => simp only [ho] at hk; cases hk
    | some a => simp only [ho] at hk; have : a = k := Option.some.inj hk
                subst this; exact a8 (fr - 1) a (by omega) ho
  · intro k hk
    cases ho : rd_beh S (fr - 1) with
    | none => simp only [ho] at hk; cases hk
    | some a => simp only [ho] at hk; cases hk

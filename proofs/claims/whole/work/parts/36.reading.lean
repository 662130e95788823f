def rd_rule (g : sg_T) (H : Option Nat × Option Nat × Nat × (Nat → Nat)) : Option Nat := sl_fn (fun r => !(sg_put g r) && (sg_sk g r && hn_mt g H.2.2.1 H.2.2.2 r)) (sg_rules g) 0
def nd_add (D : nd_T) (r : Nat) (f s : Option Nat) (q : Bool × Int32) : nd_T := (nd_c D + 1, sl_u (nd_ru D) (nd_c D) r, sl_u (nd_fi D) (nd_c D) f, sl_u (nd_se D) (nd_c D) s, sl_u (nd_de D) (nd_c D) (1 + max (no_g (nd_de D) f) (no_g (nd_de D) s)), sl_u (nd_si D) (nd_c D) (1 + no_g (nd_si D) f + no_g (nd_si D) s), sl_u (nd_rl D) (nd_c D) q.1, sl_u (nd_bi D) (nd_c D) q.2)
def rd_red3 (E : rx_T) (S : rd_T) (fr : Nat) (H : Option Nat × Option Nat × Nat × (Nat → Nat)) (r : Nat) (V : Nat × Bool × Int32) : rd_T := if V.1 = 0 then ((rd_fa S, rd_pl S, rd_sp S + 1, rd_mo S, rd_nx S, rd_en S, fr - 1), (rd_stk S, rd_tok S, sl_u (rd_beh S) (fr - 1) (some (nd_c (rd_nd S)))), nd_add (rd_nd S) r H.1 H.2.1 V.2, H, V.2) else rd_fh E V.1 (S.1, S.2.1, S.2.2.1, H, V.2)
def rd_red2 (E : rx_T) (S : rd_T) (fr : Nat) (H : Option Nat × Option Nat × Nat × (Nat → Nat)) : rd_T := match rd_rule (rx_g E) H with
  | none => rd_fh E 4 (S.1, S.2.1, S.2.2.1, H, S.2.2.2.2)
  | some r => rd_red3 E S fr H r (rd_mv (sg_kind (rx_g E)) (sg_deeds (rx_g E) r) (rx_rl E (rd_tok S fr), rx_bt E (rd_tok S fr)) (nd_rl (rd_nd S)) (nd_bi (rd_nd S)) H.1 H.2.1 (rd_rc S))
def rd_red (E : rx_T) (S : rd_T) : rd_T := if rd_hd (rx_o E) (rd_stk S) (rd_tp S) < 1 ∨ 60 ≤ nd_c (rd_nd S) then rd_fh E 4 S else rd_red2 E S (rd_hd (rx_o E) (rd_stk S) (rd_tp S)) (rd_gat S (rd_hd (rx_o E) (rd_stk S) (rd_tp S)))
def rd_go2 (E : rx_T) (S : rd_T) (x y : Nat) : rd_T := if rx_o E x y = nI 4 then rd_red E S else if rx_o E x y = nI 1 ∨ rx_o E x y = nI 2 then rd_push E y S else rd_fh E 3 S
def rd_go (E : rx_T) (S : rd_T) : rd_T := match rd_nt E (rd_nx S) with
  | none => rd_fh E 2 S
  | some y => if rd_stk S (rd_tp S) = sg_terms (rx_g E) ∧ y = sg_terms (rx_g E) then rd_fin E S else rd_go2 E S (rd_stk S (rd_tp S)) y
def rd_run (E : rx_T) : Nat → rd_T → rd_T
  | 0, S => S
  | n + 1, S => cond (rd_en S) S (rd_run E n (rd_go E S))
theorem rd_ok_fl {E : rx_T} {S : rd_T} (h : rd_ok E S) (k : Nat) (w : Int32) : rd_ok E (rd_fl k w S) := h
theorem rd_ok_fh {E : rx_T} {S : rd_T} (h : rd_ok E S) (k : Nat) : rd_ok E (rd_fh E k S) := h
theorem rd_ok_fin {E : rx_T} {S : rd_T} (h : rd_ok E S) : rd_ok E (rd_fin E S) := by
  unfold rd_fin
  cases decide (rd_beh S 0 = none) with
  | true => exact h
  | false => exact h
theorem rd_ok_push {E : rx_T} {S : rd_T} (h : rd_ok E S) {y : Nat} (hy : y < 12) (hn : rd_nx S < rx_tc E) (ht : rx_tc E ≤ 60) : rd_ok E (rd_push E y S) := by
  unfold rd_push
  by_cases h15 : rd_tp S < 15
  · rw [if_pos h15]
    obtain ⟨a1, a2, a3, a4, a5, a6, a7, a8, a9, a10, a11, a12, a13, a14⟩ := h
    refine ⟨hn, h15, Nat.max_le.mpr ⟨a3, h15⟩, a4, ?_, ?_, ?_, ?_, a9, a10, a11, a12, a13, ?_⟩
    · intro i hi
      show sl_u _ _ _ i < 12
      unfold sl_u; split
      · exact hy
      · exact a5 i hi
    · intro i hi
      show sl_u _ _ _ i < 60
      unfold sl_u; split
      · omega
      · exact a6 i hi
    · intro i k hi hk
      have hk : sl_u _ _ _ i = some k := hk
      unfold sl_u at hk; split at hk
      · cases hk
      · exact a7 i k hi hk
    · intro i k hi hk
      have hk : sl_u _ _ _ i = some k := hk
      have hi : i ≤ rd_tp S + 1 := hi
      unfold sl_u at hk; split at hk
      · cases hk
      · exact a8 i k (by omega) hk
    · show sl_sm (fun i => no_g (nd_si (rd_nd S)) (sl_u (rd_beh S) (rd_tp S + 1) none i)) (rd_tp S + 1 + 1) ≤ _
      rw [sl_sm, sl_sm_congr (g := fun i => no_g (nd_si (rd_nd S)) (rd_beh S i))]
      · rw [show sl_u (rd_beh S) (rd_tp S + 1) none (rd_tp S + 1) = none by simp [sl_u]]
        exact a14
      · intro i hi
        rw [show sl_u (rd_beh S) (rd_tp S + 1) none i = rd_beh S i by unfold sl_u; rw [if_neg (by omega)]]
  · rw [if_neg h15]; exact h
theorem no_g_le {f : Nat → Nat} {o : Option Nat} {c : Nat} (h : ∀ k, o = some k → k < c) (hf : ∀ k, k < c → f k ≤ k + 1) : no_g f o ≤ c := by
  cases o with
  | none => exact Nat.zero_le _
  | some k => have := h k rfl; have := hf k (by omega); show f k ≤ c; omega
theorem rd_ok_red3 {E : rx_T} {S : rd_T} (h : rd_ok E S) {fr r : Nat} (h1 : 1 ≤ fr) (h2 : fr ≤ rd_tp S) (hc : nd_c (rd_nd S) < 60) (V : Nat × Bool × Int32) : rd_ok E (rd_red3 E S fr (rd_gat S fr) r V) := by
  have hg := rd_gat_ok h h1 h2
  unfold rd_red3
  obtain ⟨a1, a2, a3, a4, a5, a6, a7, a8, a9, a10, a11, a12, a13, a14⟩ := h
  obtain ⟨g1, g2, g3, g4, g5⟩ := hg
  by_cases hV : V.1 = 0
  · rw [if_pos hV]
    have ub : ∀ i k, sl_u (rd_beh S) (fr - 1) (some (nd_c (rd_nd S))) i = some k → (i = fr - 1 ∧ k = nd_c (rd_nd S)) ∨ (i ≠ fr - 1 ∧ rd_beh S i = some k) := by
      intro i k hk
      unfold sl_u at hk; split at hk
      · rename_i e
        exact Or.inl ⟨e, (Option.some.inj hk).symm⟩
      · rename_i e
        exact Or.inr ⟨e, hk⟩
    refine ⟨a1, Nat.le_trans (show fr - 1 ≤ rd_tp S by omega) a2, a3, hc, a5, a6, ?_, ?_, ?_, g4, ?_, ?_, ?_, ?_⟩
    · intro i k hi hk
      rcases ub i k hk with e | e
      · omega
      · exact a7 i k hi e.2
    · intro i k hi hk
      show k < nd_c (rd_nd S) + 1
      have hi : i ≤ fr - 1 := hi
      rcases ub i k hk with e | e
      · omega
      · exact Nat.lt_succ_of_lt (a8 i k (by omega) e.2)
    · intro k hk
      show sl_u _ _ _ k ≤ k + 1
      unfold sl_u; split
      · rename_i e
        have q1 := no_g_le g1 (fun k hk => a9 k (by omega))
        have q2 := no_g_le g2 (fun k hk => a9 k (by omega))
        have := Nat.max_le.mpr ⟨q1, q2⟩
        omega
      · exact a9 k hk
    · intro k j hk hj
      have hj : sl_u _ _ _ k = some j := hj
      unfold sl_u at hj; split at hj
      · rename_i e
        have := g1 j hj
        exact ⟨by omega, fun _ => by omega⟩
      · rename_i e
        have q0 := a11 k j hk hj
        exact ⟨q0.1, fun q => q0.2 (by have q' : k < nd_c (rd_nd S) + 1 := q; omega)⟩
    · intro k j hk hj
      have hj : sl_u _ _ _ k = some j := hj
      unfold sl_u at hj; split at hj
      · rename_i e
        have := g2 j hj
        exact ⟨by omega, fun _ => by omega⟩
      · rename_i e
        have q0 := a12 k j hk hj
        exact ⟨q0.1, fun q => q0.2 (by have q' : k < nd_c (rd_nd S) + 1 := q; omega)⟩
    · intro k hk
      show sl_u _ _ _ k ≤ k + 1
      unfold sl_u; split
      · rename_i e; omega
      · exact a13 k hk
    · show sl_sm (fun i => no_g (sl_u (nd_si (rd_nd S)) (nd_c (rd_nd S)) (1 + no_g (nd_si (rd_nd S)) (rd_gat S fr).1 + no_g (nd_si (rd_nd S)) (rd_gat S fr).2.1)) (sl_u (rd_beh S) (fr - 1) (some (nd_c (rd_nd S))) i)) (fr - 1 + 1) ≤ nd_c (rd_nd S) + 1
      rw [sl_sm, sl_sm_congr (g := fun i => no_g (nd_si (rd_nd S)) (rd_beh S i))]
      · rw [show sl_u (rd_beh S) (fr - 1) (some (nd_c (rd_nd S))) (fr - 1) = some (nd_c (rd_nd S)) by simp [sl_u]]
        show _ + sl_u _ _ _ (nd_c (rd_nd S)) ≤ _
        rw [show sl_u (nd_si (rd_nd S)) (nd_c (rd_nd S)) (1 + no_g (nd_si (rd_nd S)) (rd_gat S fr).1 + no_g (nd_si (rd_nd S)) (rd_gat S fr).2.1) (nd_c (rd_nd S)) = 1 + no_g (nd_si (rd_nd S)) (rd_gat S fr).1 + no_g (nd_si (rd_nd S)) (rd_gat S fr).2.1 by simp [sl_u]]
        omega
      · intro i hi
        rw [show sl_u (rd_beh S) (fr - 1) (some (nd_c (rd_nd S))) i = rd_beh S i by unfold sl_u; rw [if_neg (by omega)]]
        cases ho : rd_beh S i with
        | none => rfl
        | some k =>
          have := a8 i k (by omega) ho
          show sl_u _ _ _ k = nd_si (rd_nd S) k
          unfold sl_u; rw [if_neg (by omega)]
  · rw [if_neg hV]
    exact ⟨a1, a2, a3, a4, a5, a6, a7, a8, a9, g4, a11, a12, a13, a14⟩
theorem rd_ok_red {E : rx_T} {S : rd_T} (h : rd_ok E S) : rd_ok E (rd_red E S) := by
  unfold rd_red
  have hl := rd_hd_le (rx_o E) (rd_stk S) (rd_tp S)
  generalize rd_hd (rx_o E) (rd_stk S) (rd_tp S) = fr at hl
  by_cases hc : fr < 1 ∨ 60 ≤ nd_c (rd_nd S)
  · rw [if_pos hc]; exact h
  · rw [if_neg hc]
    have hc1 : 1 ≤ fr := by omega
    have hc2 : nd_c (rd_nd S) < 60 := by omega
    unfold rd_red2
    cases rd_rule (rx_g E) (rd_gat S fr) with
    | none =>
      have hg := rd_gat_ok h hc1 hl.1
      obtain ⟨a1, a2, a3, a4, a5, a6, a7, a8, a9, a10, a11, a12, a13, a14⟩ := h
      exact ⟨a1, a2, a3, a4, a5, a6, a7, a8, a9, hg.2.2.2.1, a11, a12, a13, a14⟩
    | some r => exact rd_ok_red3 h hc1 hl.1 hc2 _
theorem rd_ok_go {E : rx_T} {S : rd_T} (hok : sg_ok (rx_g E)) (ht : rx_tc E ≤ 60) (hO : ∀ x, x < 12 → rx_o E x (sg_terms (rx_g E)) ≠ nI 1 ∧ rx_o E x (sg_terms (rx_g E)) ≠ nI 2) (h : rd_ok E S) : rd_ok E (rd_go E S) := by
  unfold rd_go
  have h11 : sg_terms (rx_g E) ≤ 11 := hok.2.2.2.1
  cases hy : rd_nt E (rd_nx S) with
  | none => exact h
  | some y =>
    have hy1 := rd_nt_lt hok hy
    simp only
    by_cases he : rd_stk S (rd_tp S) = sg_terms (rx_g E) ∧ y = sg_terms (rx_g E)
    · rw [if_pos he]; exact rd_ok_fin h
    · rw [if_neg he]
      unfold rd_go2
      split
      · exact rd_ok_red h
      · split
        · rename_i q
          by_cases hn : rd_nx S < rx_tc E
          · exact rd_ok_push h (by omega) hn ht
          · exfalso
            unfold rd_nt at hy
            rw [decide_eq_false hn] at hy
            have e : sg_terms (rx_g E) = y := Option.some.inj hy
            have hx : rd_stk S (rd_tp S) < 12 := h.2.2.2.2.1 _ (by have := h.2.1; omega)
            rw [← e] at q
            exact q.elim (hO _ hx).1 (hO _ hx).2
        · exact h

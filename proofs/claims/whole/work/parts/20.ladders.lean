theorem slv_mem {Y : sl_Y} {X : Option (Nat × (Nat → Int32))} {d kc ks : Nat} {Q : Option Value → sl_M → Prop} {pc : Nat} {lv : List (Option Value)} {st : List Value} {M M' : sl_M} (h : M = M') (kk : sl_V Y X d kc ks Q pc lv st M') : sl_V Y X d kc ks Q pc lv st M := h ▸ kk
section LAD
variable {rn e : Nat} {rk kn nu ba : Nat → Nat} {ar re : Nat → Int32} {M : sl_M}
/-- reaching over 'by' -/
def lk_w1 (by_ n i : Nat) (r : Nat → Int32) : Nat → Int32 := sl_fo (fun p r => cond (sl_bt (r p) by_) (sl_u r p (r p ||| r by_)) r) n i r
def lk_wa (n i : Nat) (r : Nat → Int32) : Nat → Int32 := sl_fo (fun by_ r => lk_w1 by_ 28 0 r) n i r
set_option maxRecDepth 100000 in
theorem c_X5_reachOut (h : ld_at rn e rk kn ar re nu ba M) (hz : ∀ p, 28 ≤ p → re p = ar p) : sl_R YX5_reachOut 1 [.ref 23] M none (ld_set rn e rk kn ar (lk_wa 28 0 ar) nu ba M) := by
  refine sl_T.of_V (lv := [_, _, _]) (by decide) rfl (Nat.le_of_ble_eq_true rfl) ?_
  have copy : ∀ (n i : Nat) (r : Nat → Int32) (v2 : Option Value), i + n = 28 → (∀ j, j < i ∨ 28 ≤ j → r j = ar j) → ∀ Q : Option Value → sl_M → Prop, (∀ v1 v2, sl_V YX5_reachOut none 1 0 0 Q 26 [some (.ref 23), v1, v2] [] (ld_set rn e rk kn ar ar nu ba M)) → sl_V YX5_reachOut none 1 0 0 Q 2 [some (.ref 23), some (.int (nI i)), v2] [] (ld_set rn e rk kn ar r nu ba M) := by
    intro n
    induction n with
    | zero =>
      intro i r v2 hi hr Q hk
      have e1 : r = ar := funext fun j => hr j (by omega)
      subst e1
      refine slv_iload_n eX5_reachOut_2 rfl ?_
      refine slv_bipush (v := nI 28) eX5_reachOut_3 (by decide) ?_
      refine slv_icmp_geN eX5_reachOut_5 (by omega) (by omega) (fun h5 => ?_) (fun h5 => absurd h5 (by omega))
      exact hk _ _
    | succ n ih =>
      intro i r v2 hi hr Q hk
      refine slv_iload_n eX5_reachOut_2 rfl ?_
      refine slv_bipush (v := nI 28) eX5_reachOut_3 (by decide) ?_
      refine slv_icmp_geN eX5_reachOut_5 (by omega) (by omega) (fun h5 => absurd h5 (by omega)) (fun h5 => ?_)
      refine slv_aload_n eX5_reachOut_8 rfl ?_
      refine slv_getf eX5_reachOut_9 fX5_21 (by repeat (first | assumption | exact sl_up_eq | refine sl_up_ne (by first | decide | omega) ?_)) rfl ?_
      refine slv_iload_n eX5_reachOut_12 rfl ?_
      refine slv_aload_n eX5_reachOut_13 rfl ?_
      refine slv_getf eX5_reachOut_14 fX5_18 (by repeat (first | assumption | exact sl_up_eq | refine sl_up_ne (by first | decide | omega) ?_)) rfl ?_
      refine slv_iload_n eX5_reachOut_17 rfl ?_
      refine slv_ialdN eX5_reachOut_18 (by repeat (first | assumption | exact sl_up_eq | refine sl_up_ne (by first | decide | omega) ?_)) (by omega) (by decide) ?_
      refine slv_iastI eX5_reachOut_19 (by repeat (first | assumption | exact sl_up_eq | refine sl_up_ne (by first | decide | omega) ?_)) (by omega) (by decide) ?_
      rw [ld_u27]
      refine slv_iincN (lv' := [_, _, _]) eX5_reachOut_20 rfl (by decide) rfl ?_
      refine slv_goto eX5_reachOut_23 ?_
      refine ih (i + 1) _ _ (by omega) (fun j hj => ?_) Q hk
      by_cases q : j = i
      · rw [q, sl_u_eq]
      · rw [sl_u_ne q]; exact hr j (by omega)
  have inner : ∀ (n p by_ : Nat) (r : Nat → Int32), p + n = 28 → by_ < 28 → ∀ Q : Option Value → sl_M → Prop, (∀ v2, sl_V YX5_reachOut none 1 0 0 Q 76 [some (.ref 23), some (.int (nI by_)), v2] [] (ld_set rn e rk kn ar (lk_w1 by_ n p r) nu ba M)) → sl_V YX5_reachOut none 1 0 0 Q 36 [some (.ref 23), some (.int (nI by_)), some (.int (nI p))] [] (ld_set rn e rk kn ar r nu ba M) := by
    intro n
    induction n with
    | zero =>
      intro p by_ r hp hb Q hk
      refine slv_iload_n eX5_reachOut_36 rfl ?_
      refine slv_bipush (v := nI 28) eX5_reachOut_37 (by decide) ?_
      refine slv_icmp_geN eX5_reachOut_39 (by omega) (by omega) (fun h39 => ?_) (fun h39 => absurd h39 (by omega))
      exact hk _
    | succ n ih =>
      intro p by_ r hp hb Q hk
      refine slv_iload_n eX5_reachOut_36 rfl ?_
      refine slv_bipush (v := nI 28) eX5_reachOut_37 (by decide) ?_
      refine slv_icmp_geN eX5_reachOut_39 (by omega) (by omega) (fun h39 => absurd h39 (by omega)) (fun h39 => ?_)
      refine slv_aload_n eX5_reachOut_42 rfl ?_
      refine slv_getf eX5_reachOut_43 fX5_21 (by repeat (first | assumption | exact sl_up_eq | refine sl_up_ne (by first | decide | omega) ?_)) rfl ?_
      refine slv_iload_n eX5_reachOut_46 rfl ?_
      refine slv_ialdN eX5_reachOut_47 (by repeat (first | assumption | exact sl_up_eq | refine sl_up_ne (by first | decide | omega) ?_)) (by omega) (by decide) ?_
      refine slv_iload_n eX5_reachOut_48 rfl ?_
      refine slv_rS (As := [_, _]) eX5_reachOut_49 lX5_72 rfl rfl (c_X5_has _ _ _) (by decide) (Nat.le_of_ble_eq_true rfl) ?_
      refine slv_if_eqB eX5_reachOut_52 (fun h52 => ?_) (fun h52 => ?_)
      · try rw [ld_u27]
        refine slv_iincN (lv' := [_, _, _]) eX5_reachOut_70 rfl (by decide) rfl ?_
        refine slv_goto eX5_reachOut_73 ?_
        refine ih (p + 1) by_ _ (by omega) hb Q ?_
        simp only [lk_w1, sl_fo, h52, cond_true, cond_false] at hk
        exact hk
      · refine slv_aload_n eX5_reachOut_55 rfl ?_
        refine slv_getf eX5_reachOut_56 fX5_21 (by repeat (first | assumption | exact sl_up_eq | refine sl_up_ne (by first | decide | omega) ?_)) rfl ?_
        refine slv_iload_n eX5_reachOut_59 rfl ?_
        refine slv_dup2 eX5_reachOut_60 rfl rfl ?_
        refine slv_ialdN eX5_reachOut_61 (by repeat (first | assumption | exact sl_up_eq | refine sl_up_ne (by first | decide | omega) ?_)) (by omega) (by decide) ?_
        refine slv_aload_n eX5_reachOut_62 rfl ?_
        refine slv_getf eX5_reachOut_63 fX5_21 (by repeat (first | assumption | exact sl_up_eq | refine sl_up_ne (by first | decide | omega) ?_)) rfl ?_
        refine slv_iload_n eX5_reachOut_66 rfl ?_
        refine slv_ialdN eX5_reachOut_67 (by repeat (first | assumption | exact sl_up_eq | refine sl_up_ne (by first | decide | omega) ?_)) (by omega) (by decide) ?_
        refine slv_ior eX5_reachOut_68 ?_
        refine slv_iastI eX5_reachOut_69 (by repeat (first | assumption | exact sl_up_eq | refine sl_up_ne (by first | decide | omega) ?_)) (by omega) (by decide) ?_
        try rw [ld_u27]
        refine slv_iincN (lv' := [_, _, _]) eX5_reachOut_70 rfl (by decide) rfl ?_
        refine slv_goto eX5_reachOut_73 ?_
        refine ih (p + 1) by_ _ (by omega) hb Q ?_
        simp only [lk_w1, sl_fo, h52, cond_true, cond_false] at hk
        exact hk
  have outer : ∀ (n by_ : Nat) (r : Nat → Int32) (v2 : Option Value), by_ + n = 28 → ∀ Q : Option Value → sl_M → Prop, Q none (ld_set rn e rk kn ar (lk_wa n by_ r) nu ba M) → sl_V YX5_reachOut none 1 0 0 Q 28 [some (.ref 23), some (.int (nI by_)), v2] [] (ld_set rn e rk kn ar r nu ba M) := by
    intro n
    induction n with
    | zero =>
      intro by_ r v2 hb Q hQ
      refine slv_iload_n eX5_reachOut_28 rfl ?_
      refine slv_bipush (v := nI 28) eX5_reachOut_29 (by decide) ?_
      refine slv_icmp_geN eX5_reachOut_31 (by omega) (by omega) (fun h31 => ?_) (fun h31 => absurd h31 (by omega))
      refine slv_vret eX5_reachOut_82 rfl ?_
      exact hQ
    | succ n ih =>
      intro by_ r v2 hb Q hQ
      refine slv_iload_n eX5_reachOut_28 rfl ?_
      refine slv_bipush (v := nI 28) eX5_reachOut_29 (by decide) ?_
      refine slv_icmp_geN eX5_reachOut_31 (by omega) (by omega) (fun h31 => absurd h31 (by omega)) (fun h31 => ?_)
      refine slv_iconst (v := nI 0) eX5_reachOut_34 (by decide) ?_
      refine slv_istore_n (i := 2) (lv' := [_, _, _]) eX5_reachOut_35 rfl (by decide) rfl ?_
      refine inner 28 0 by_ r (by omega) (by omega) Q (fun v2 => ?_)
      refine slv_iincN (lv' := [_, _, _]) eX5_reachOut_76 rfl (by decide) rfl ?_
      refine slv_goto eX5_reachOut_79 ?_
      exact ih (by_ + 1) _ _ (by omega) Q hQ
  rw [← ld_self h]
  refine slv_iconst (v := nI 0) eX5_reachOut_0 (by decide) ?_
  refine slv_istore_n (i := 1) (lv' := [_, _, _]) eX5_reachOut_1 rfl (by decide) rfl ?_
  refine copy 28 0 re _ (by omega) (fun j hj => hz j (by omega)) _ (fun v1 v2 => ?_)
  refine slv_iconst (v := nI 0) eX5_reachOut_26 (by decide) ?_
  refine slv_istore_n (i := 1) (lv' := [_, _, _]) eX5_reachOut_27 rfl (by decide) rfl ?_
  refine outer 28 0 ar _ (by omega) _ ⟨rfl, ?_⟩
  rw [ld_self h]
/-- the least knot one arc from k, at that distance -/
def lk_ln (ar : Nat → Int32) (ba : Nat → Nat) (k far : Nat) : Option Nat := sl_fn (fun p => sl_bt (ar k) p && decide (ba p = far)) 28 0
theorem sl_bt0 (k : Nat) (s : Int32) (h : s = 0) : sl_bt s k = false := by
  subst h
  apply sl_bt_f
  have e : (0 : Int32) >>> (nI k &&& 31) = 0 := by
    apply Int32.toBitVec_inj.mp
    simp [Int32.toBitVec_shiftRight]
  rw [e]
  decide
theorem lk_ln_lt {ar : Nat → Int32} {ba : Nat → Nat} {k far q : Nat} (h : lk_ln ar ba k far = some q) : q < 28 := by
  have := sl_fn_lt 28 0 q h
  omega
set_option maxRecDepth 100000 in
theorem c_X5_leastNext (h : ld_at rn e rk kn ar re nu ba M) (hb : ∀ p, p < 28 → ba p < 1000) {k far : Nat} (hk : k < 28) (hf : far < 1000) : sl_R YX5_leastNext 1 [.ref 23, .int (nI k), .int (nI far)] M (some (.int (sl_io (lk_ln ar ba k far)))) M := by
  obtain ⟨a23, a24, a25, a26, a27, a28, a29⟩ := h
  refine sl_T.of_V (lv := [_, _, _, _]) (by decide) rfl (Nat.le_of_ble_eq_true rfl) ?_
  have loop : ∀ n i : Nat, i + n = 28 → ∀ Q : Option Value → sl_M → Prop, Q (some (.int (sl_io (sl_fn (fun p => sl_bt (ar k) p && decide (ba p = far)) n i)))) M → sl_V YX5_leastNext none 1 0 0 Q 2 [some (.ref 23), some (.int (nI k)), some (.int (nI far)), some (.int (nI i))] [] M := by
    intro n
    induction n with
    | zero =>
      intro i hi Q hQ
      refine slv_iload_n eX5_leastNext_2 rfl ?_
      refine slv_bipush (v := nI 28) eX5_leastNext_3 (by decide) ?_
      refine slv_icmp_geN eX5_leastNext_5 (by omega) (by omega) (fun h5 => ?_) (fun h5 => absurd h5 (by omega))
      refine slv_iconst (v := (-1)) eX5_leastNext_48 (by decide) ?_
      refine slv_iret eX5_leastNext_49 rfl ?_
      exact hQ
    | succ n ih =>
      intro i hi Q hQ
      have hbi := hb i (by omega)
      refine slv_iload_n eX5_leastNext_2 rfl ?_
      refine slv_bipush (v := nI 28) eX5_leastNext_3 (by decide) ?_
      refine slv_icmp_geN eX5_leastNext_5 (by omega) (by omega) (fun h5 => absurd h5 (by omega)) (fun h5 => ?_)
      refine slv_aload_n eX5_leastNext_8 rfl ?_
      refine slv_getf eX5_leastNext_9 fX5_18 (by repeat (first | assumption | exact sl_up_eq | refine sl_up_ne (by first | decide | omega) ?_)) rfl ?_
      refine slv_iload_n eX5_leastNext_12 rfl ?_
      refine slv_ialdN eX5_leastNext_13 (by repeat (first | assumption | exact sl_up_eq | refine sl_up_ne (by first | decide | omega) ?_)) (by omega) (by decide) ?_
      refine slv_if_eq eX5_leastNext_14 (fun h14 => ?_) (fun h14 => ?_)
      · refine slv_iconst (v := (-1)) eX5_leastNext_48 (by decide) ?_
        refine slv_iret eX5_leastNext_49 rfl ?_
        rw [sl_fn_none (n + 1) i (fun j _ => by simp only [sl_bt0 j (ar k) h14, Bool.false_and])] at hQ
        exact hQ
      · refine slv_aload_n eX5_leastNext_17 rfl ?_
        refine slv_getf eX5_leastNext_18 fX5_18 (by repeat (first | assumption | exact sl_up_eq | refine sl_up_ne (by first | decide | omega) ?_)) rfl ?_
        refine slv_iload_n eX5_leastNext_21 rfl ?_
        refine slv_ialdN eX5_leastNext_22 (by repeat (first | assumption | exact sl_up_eq | refine sl_up_ne (by first | decide | omega) ?_)) (by omega) (by decide) ?_
        refine slv_iload_n eX5_leastNext_23 rfl ?_
        refine slv_rS (As := [_, _]) eX5_leastNext_24 lX5_72 rfl rfl (c_X5_has _ _ _) (by decide) (Nat.le_of_ble_eq_true rfl) ?_
        refine slv_if_eqB eX5_leastNext_27 (fun h27 => ?_) (fun h27 => ?_)
        · refine slv_iincN (lv' := [_, _, _, _]) eX5_leastNext_42 rfl (by decide) rfl ?_
          refine slv_goto eX5_leastNext_45 ?_
          refine ih (i + 1) (by omega) Q ?_
          first | (simp only [sl_fn, h27, Bool.false_and, cond_false] at hQ; exact hQ) | (simp only [sl_fn, h27, decide_eq_false h37, Bool.true_and, cond_false] at hQ; exact hQ)
        · refine slv_aload_n eX5_leastNext_30 rfl ?_
          refine slv_getf eX5_leastNext_31 fX5_27 (by repeat (first | assumption | exact sl_up_eq | refine sl_up_ne (by first | decide | omega) ?_)) rfl ?_
          refine slv_iload_n eX5_leastNext_34 rfl ?_
          refine slv_ialdN eX5_leastNext_35 (by repeat (first | assumption | exact sl_up_eq | refine sl_up_ne (by first | decide | omega) ?_)) (by omega) (by decide) ?_
          refine slv_iload_n eX5_leastNext_36 rfl ?_
          refine slv_icmp_neN eX5_leastNext_37 (by omega) (by omega) (fun h37 => ?_) (fun h37 => ?_)
          · refine slv_iincN (lv' := [_, _, _, _]) eX5_leastNext_42 rfl (by decide) rfl ?_
            refine slv_goto eX5_leastNext_45 ?_
            refine ih (i + 1) (by omega) Q ?_
            first | (simp only [sl_fn, h27, Bool.false_and, cond_false] at hQ; exact hQ) | (simp only [sl_fn, h27, decide_eq_false h37, Bool.true_and, cond_false] at hQ; exact hQ)
          · refine slv_iload_n eX5_leastNext_40 rfl ?_
            refine slv_iret eX5_leastNext_41 rfl ?_
            simp only [sl_fn, h27, decide_eq_true h37, Bool.true_and, cond_true] at hQ
            exact hQ
  refine slv_iconst (v := nI 0) eX5_leastNext_0 (by decide) ?_
  refine slv_istore_n (i := 3) (lv' := [_, _, _, _]) eX5_leastNext_1 rfl (by decide) rfl ?_
  exact loop 28 0 (by omega) _ ⟨rfl, rfl⟩
/-- one round of measuring back -/
def lk_b1 (ar : Nat → Int32) (far n i : Nat) (q : (Nat → Nat) × Bool) : (Nat → Nat) × Bool := sl_fo (fun p q => cond (decide (q.1 p = 28) && (lk_ln ar q.1 p (far - 1)).isSome) (sl_u q.1 p far, true) q) n i q
def lk_bo (ar : Nat → Int32) : Nat → Nat → (Nat → Nat) → Bool → (Nat → Nat)
  | 0, _, ba, _ => ba
  | n + 1, far, ba, gr => cond gr (lk_bo ar n (far + 1) (lk_b1 ar far 28 0 (ba, false)).1 (lk_b1 ar far 28 0 (ba, false)).2) ba
def lk_bk (ar : Nat → Int32) (s : Nat) : Nat → Nat := lk_bo ar 27 1 (fun p => if p = s then 0 else if p < 28 then 28 else 0) true
theorem lk_b1_lt {ar : Nat → Int32} {far : Nat} (hf : far < 28) (n : Nat) : ∀ (i : Nat) (q : (Nat → Nat) × Bool), (∀ p, q.1 p ≤ 28) → ∀ p, (lk_b1 ar far n i q).1 p ≤ 28 := by
  induction n with
  | zero => intro i q h; exact h
  | succ n ih =>
    intro i q h
    refine ih (i + 1) _ ?_
    intro p
    show (cond (decide (q.1 i = 28) && (lk_ln ar q.1 i (far - 1)).isSome) (sl_u q.1 i far, true) q).1 p ≤ 28
    cases (decide (q.1 i = 28) && (lk_ln ar q.1 i (far - 1)).isSome)
    · exact h p
    · show sl_u q.1 i far p ≤ 28
      by_cases g : p = i
      · rw [g, sl_u_eq]; omega
      · rw [sl_u_ne g]; exact h p
theorem lk_bo_lt {ar : Nat → Int32} (n : Nat) : ∀ (far : Nat) (ba : Nat → Nat) (gr : Bool), far + n ≤ 28 → (∀ p, ba p ≤ 28) → ∀ p, lk_bo ar n far ba gr p ≤ 28 := by
  induction n with
  | zero => intro far ba gr _ h; exact h
  | succ n ih =>
    intro far ba gr hf h
    cases gr
    · exact h
    · exact ih (far + 1) _ _ (by omega) (lk_b1_lt (by omega) 28 0 _ h)
theorem lk_bk_lt (ar : Nat → Int32) (s p : Nat) : lk_bk ar s p ≤ 28 := lk_bo_lt 27 1 _ _ (by omega) (fun p => by split; omega; split <;> omega) p
set_option maxRecDepth 100000 in
theorem c_X5_measureBack (h : ld_at rn e rk kn ar re nu ba M) (hz : ∀ p, 28 ≤ p → ba p = 0) {s : Nat} (hs : s < 28) : sl_R YX5_measureBack 2 [.ref 23, .int (nI s)] M none (ld_set rn e rk kn ar re nu (lk_bk ar s) M) := by
  refine sl_T.of_V (lv := [_, _, _, _, _]) (by decide) rfl (Nat.le_of_ble_eq_true rfl) ?_
  have init : ∀ (n i : Nat) (b : Nat → Nat) (v3 v4 : Option Value), i + n = 28 → (∀ j, j < i → b j = 28) → (∀ j, 28 ≤ j → b j = 0) → ∀ Q : Option Value → sl_M → Prop, (∀ v2 v3 v4, sl_V YX5_measureBack none 2 0 0 Q 22 [some (.ref 23), some (.int (nI s)), v2, v3, v4] [] (ld_set rn e rk kn ar re nu (fun p => if p < 28 then 28 else 0) M)) → sl_V YX5_measureBack none 2 0 0 Q 2 [some (.ref 23), some (.int (nI s)), some (.int (nI i)), v3, v4] [] (ld_set rn e rk kn ar re nu b M) := by
    intro n
    induction n with
    | zero =>
      intro i b v3 v4 hi h1 h2 Q hk
      have e1 : b = fun p => if p < 28 then 28 else 0 := funext fun j => by
        by_cases g : j < 28
        · rw [if_pos g]; exact h1 j (by omega)
        · rw [if_neg g]; exact h2 j (by omega)
      subst e1
      refine slv_iload_n eX5_measureBack_2 rfl ?_
      refine slv_bipush (v := nI 28) eX5_measureBack_3 (by decide) ?_
      refine slv_icmp_geN eX5_measureBack_5 (by omega) (by omega) (fun h5 => ?_) (fun h5 => absurd h5 (by omega))
      exact hk _ _ _
    | succ n ih =>
      intro i b v3 v4 hi h1 h2 Q hk
      refine slv_iload_n eX5_measureBack_2 rfl ?_
      refine slv_bipush (v := nI 28) eX5_measureBack_3 (by decide) ?_
      refine slv_icmp_geN eX5_measureBack_5 (by omega) (by omega) (fun h5 => absurd h5 (by omega)) (fun h5 => ?_)
      refine slv_aload_n eX5_measureBack_8 rfl ?_
      refine slv_getf eX5_measureBack_9 fX5_27 (by repeat (first | assumption | exact sl_up_eq | refine sl_up_ne (by first | decide | omega) ?_)) rfl ?_
      refine slv_iload_n eX5_measureBack_12 rfl ?_
      refine slv_bipush (v := nI 28) eX5_measureBack_13 (by decide) ?_
      refine slv_iastN eX5_measureBack_15 (by repeat (first | assumption | exact sl_up_eq | refine sl_up_ne (by first | decide | omega) ?_)) (by omega) (by decide) ?_
      rw [ld_u29]
      refine slv_iincN (lv' := [_, _, _, _, _]) eX5_measureBack_16 rfl (by decide) rfl ?_
      refine slv_goto eX5_measureBack_19 ?_
      refine ih (i + 1) _ _ _ (by omega) (fun j hj => ?_) (fun j hj => ?_) Q hk
      · by_cases q : j = i
        · rw [q, sl_u_eq]
        · rw [sl_u_ne q]; exact h1 j (by omega)
      · rw [sl_u_ne (by omega)]; exact h2 j hj
  have inner : ∀ (n p far : Nat) (b : Nat → Nat) (gr : Bool), p + n = 28 → 1 ≤ far → far < 28 → (∀ p, b p ≤ 28) → ∀ Q : Option Value → sl_M → Prop, (∀ v4, sl_V YX5_measureBack none 2 0 0 Q 96 [some (.ref 23), some (.int (nI s)), some (.int (sl_bi (lk_b1 ar far n p (b, gr)).2)), some (.int (nI far)), v4] [] (ld_set rn e rk kn ar re nu (lk_b1 ar far n p (b, gr)).1 M)) → sl_V YX5_measureBack none 2 0 0 Q 48 [some (.ref 23), some (.int (nI s)), some (.int (sl_bi gr)), some (.int (nI far)), some (.int (nI p))] [] (ld_set rn e rk kn ar re nu b M) := by
    intro n
    induction n with
    | zero =>
      intro p far b gr hp h1 h2 hb Q hk
      refine slv_iload eX5_measureBack_48 rfl ?_
      refine slv_bipush (v := nI 28) eX5_measureBack_50 (by decide) ?_
      refine slv_icmp_geN eX5_measureBack_52 (by omega) (by omega) (fun h52 => ?_) (fun h52 => absurd h52 (by omega))
      exact hk _
    | succ n ih =>
      intro p far b gr hp h1 h2 hb Q hk
      have hbp := hb p
      have hln := c_X5_leastNext (ld_of (rn := rn) (e := e) (rk := rk) (kn := kn) (ar := ar) (re := re) (nu := nu) (ba := b) (M := M)) (fun p _ => by have := hb p; omega) (k := p) (far := far - 1) (by omega) (by omega)
      have hio : sl_io (lk_ln ar b p (far - 1)) = -1 ↔ lk_ln ar b p (far - 1) = none := sl_io_ne (fun k hk => by have := lk_ln_lt hk; omega)
      refine slv_iload eX5_measureBack_48 rfl ?_
      refine slv_bipush (v := nI 28) eX5_measureBack_50 (by decide) ?_
      refine slv_icmp_geN eX5_measureBack_52 (by omega) (by omega) (fun h52 => absurd h52 (by omega)) (fun h52 => ?_)
      refine slv_aload_n eX5_measureBack_55 rfl ?_
      refine slv_getf eX5_measureBack_56 fX5_27 (by repeat (first | assumption | exact sl_up_eq | refine sl_up_ne (by first | decide | omega) ?_)) rfl ?_
      refine slv_iload eX5_measureBack_59 rfl ?_
      refine slv_ialdN eX5_measureBack_61 (by repeat (first | assumption | exact sl_up_eq | refine sl_up_ne (by first | decide | omega) ?_)) (by omega) (by decide) ?_
      refine slv_bipush (v := nI 28) eX5_measureBack_62 (by decide) ?_
      refine slv_icmp_neN eX5_measureBack_64 (by omega) (by omega) (fun h64 => ?_) (fun h64 => ?_)
      · try rw [ld_u29]
        refine slv_iincN (lv' := [_, _, _, _, _]) eX5_measureBack_90 rfl (by decide) rfl ?_
        refine slv_goto eX5_measureBack_93 ?_
        first | (rw [hio] at h77; refine ih (p + 1) far b gr (by omega) h1 h2 hb Q ?_; simp only [lk_b1, sl_fo, h77, Option.isSome_none, Bool.and_false, cond_false] at hk; exact hk) | (rw [hio] at h77; have q : (lk_ln ar b p (far - 1)).isSome = true := Option.isSome_iff_ne_none.mpr h77; refine ih (p + 1) far _ true (by omega) h1 h2 (fun j => by by_cases z : j = p; (rw [z, sl_u_eq]; omega); (rw [sl_u_ne z]; exact hb j)) Q ?_; simp only [lk_b1, sl_fo, q, decide_eq_true h64, Bool.and_self, cond_true] at hk; exact hk) | (refine ih (p + 1) far b gr (by omega) h1 h2 hb Q ?_; simp only [lk_b1, sl_fo, decide_eq_false h64, Bool.false_and, cond_false] at hk; exact hk)
      · refine slv_aload_n eX5_measureBack_67 rfl ?_
        refine slv_iload eX5_measureBack_68 rfl ?_
        refine slv_iload_n eX5_measureBack_70 rfl ?_
        refine slv_iconst (v := nI 1) eX5_measureBack_71 (by decide) ?_
        refine slv_isubN eX5_measureBack_72 (by omega) ?_
        refine slv_rV (As := [_, _]) eX5_measureBack_73 lX5_87 rfl rfl (by repeat (first | assumption | exact sl_up_eq | refine sl_up_ne (by first | decide | omega) ?_)) rfl hln (by decide) (Nat.le_of_ble_eq_true rfl) ?_
        refine slv_iconst (v := (-1)) eX5_measureBack_76 (by decide) ?_
        refine slv_icmp_eq eX5_measureBack_77 (fun h77 => ?_) (fun h77 => ?_)
        · try rw [ld_u29]
          refine slv_iincN (lv' := [_, _, _, _, _]) eX5_measureBack_90 rfl (by decide) rfl ?_
          refine slv_goto eX5_measureBack_93 ?_
          first | (rw [hio] at h77; refine ih (p + 1) far b gr (by omega) h1 h2 hb Q ?_; simp only [lk_b1, sl_fo, h77, Option.isSome_none, Bool.and_false, cond_false] at hk; exact hk) | (rw [hio] at h77; have q : (lk_ln ar b p (far - 1)).isSome = true := Option.isSome_iff_ne_none.mpr h77; refine ih (p + 1) far _ true (by omega) h1 h2 (fun j => by by_cases z : j = p; (rw [z, sl_u_eq]; omega); (rw [sl_u_ne z]; exact hb j)) Q ?_; simp only [lk_b1, sl_fo, q, decide_eq_true h64, Bool.and_self, cond_true] at hk; exact hk) | (refine ih (p + 1) far b gr (by omega) h1 h2 hb Q ?_; simp only [lk_b1, sl_fo, decide_eq_false h64, Bool.false_and, cond_false] at hk; exact hk)
        · refine slv_aload_n eX5_measureBack_80 rfl ?_
          refine slv_getf eX5_measureBack_81 fX5_27 (by repeat (first | assumption | exact sl_up_eq | refine sl_up_ne (by first | decide | omega) ?_)) rfl ?_
          refine slv_iload eX5_measureBack_84 rfl ?_
          refine slv_iload_n eX5_measureBack_86 rfl ?_
          refine slv_iastN eX5_measureBack_87 (by repeat (first | assumption | exact sl_up_eq | refine sl_up_ne (by first | decide | omega) ?_)) (by omega) (by decide) ?_
          refine slv_iconst (v := nI 1) eX5_measureBack_88 (by decide) ?_
          refine slv_istore_n (i := 2) (lv' := [_, _, _, _, _]) eX5_measureBack_89 rfl (by decide) rfl ?_
          try rw [ld_u29]
          refine slv_iincN (lv' := [_, _, _, _, _]) eX5_measureBack_90 rfl (by decide) rfl ?_
          refine slv_goto eX5_measureBack_93 ?_
          first | (rw [hio] at h77; refine ih (p + 1) far b gr (by omega) h1 h2 hb Q ?_; simp only [lk_b1, sl_fo, h77, Option.isSome_none, Bool.and_false, cond_false] at hk; exact hk) | (rw [hio] at h77; have q : (lk_ln ar b p (far - 1)).isSome = true := Option.isSome_iff_ne_none.mpr h77; refine ih (p + 1) far _ true (by omega) h1 h2 (fun j => by by_cases z : j = p; (rw [z, sl_u_eq]; omega); (rw [sl_u_ne z]; exact hb j)) Q ?_; simp only [lk_b1, sl_fo, q, decide_eq_true h64, Bool.and_self, cond_true] at hk; exact hk) | (refine ih (p + 1) far b gr (by omega) h1 h2 hb Q ?_; simp only [lk_b1, sl_fo, decide_eq_false h64, Bool.false_and, cond_false] at hk; exact hk)
  have outer : ∀ (n far : Nat) (b : Nat → Nat) (gr : Bool) (v4 : Option Value), far + n = 28 → 1 ≤ far → (∀ p, b p ≤ 28) → ∀ Q : Option Value → sl_M → Prop, Q none (ld_set rn e rk kn ar re nu (lk_bo ar n far b gr) M) → sl_V YX5_measureBack none 2 0 0 Q 33 [some (.ref 23), some (.int (nI s)), some (.int (sl_bi gr)), some (.int (nI far)), v4] [] (ld_set rn e rk kn ar re nu b M) := by
    intro n
    induction n with
    | zero =>
      intro far b gr v4 hf h1 hb Q hQ
      refine slv_iload_n eX5_measureBack_33 rfl ?_
      refine slv_bipush (v := nI 28) eX5_measureBack_34 (by decide) ?_
      refine slv_icmp_geN eX5_measureBack_36 (by omega) (by omega) (fun h36 => ?_) (fun h36 => absurd h36 (by omega))
      refine slv_vret eX5_measureBack_102 rfl ?_
      exact hQ
    | succ n ih =>
      intro far b gr v4 hf h1 hb Q hQ
      refine slv_iload_n eX5_measureBack_33 rfl ?_
      refine slv_bipush (v := nI 28) eX5_measureBack_34 (by decide) ?_
      refine slv_icmp_geN eX5_measureBack_36 (by omega) (by omega) (fun h36 => absurd h36 (by omega)) (fun h36 => ?_)
      refine slv_iload_n eX5_measureBack_39 rfl ?_
      refine slv_if_eqB eX5_measureBack_40 (fun h40 => ?_) (fun h40 => ?_)
      · refine slv_vret eX5_measureBack_102 rfl ?_
        simp only [lk_bo, h40, cond_false] at hQ
        exact hQ
      · refine slv_iconst (v := nI 0) eX5_measureBack_43 (by decide) ?_
        refine slv_istore_n (i := 2) (lv' := [_, _, _, _, _]) eX5_measureBack_44 rfl (by decide) rfl ?_
        refine slv_iconst (v := nI 0) eX5_measureBack_45 (by decide) ?_
        refine slv_istore (lv' := [_, _, _, _, _]) eX5_measureBack_46 (by decide) rfl ?_
        simp only [lk_bo, h40, cond_true] at hQ
        refine inner 28 0 far b false (by omega) h1 (by omega) hb Q (fun v4 => ?_)
        refine slv_iincN (lv' := [_, _, _, _, _]) eX5_measureBack_96 rfl (by decide) rfl ?_
        refine slv_goto eX5_measureBack_99 ?_
        exact ih (far + 1) _ _ _ (by omega) (by omega) (lk_b1_lt (by omega) 28 0 _ hb) Q hQ
  have e0 : sl_u (fun p => if p < 28 then 28 else 0) s 0 = fun p => if p = s then 0 else if p < 28 then 28 else 0 := rfl
  rw [← ld_self h]
  refine slv_iconst (v := nI 0) eX5_measureBack_0 (by decide) ?_
  refine slv_istore_n (i := 2) (lv' := [_, _, _, _, _]) eX5_measureBack_1 rfl (by decide) rfl ?_
  refine init 28 0 ba _ _ (by omega) (fun j hj => by omega) hz _ (fun v2 v3 v4 => ?_)
  refine slv_aload_n eX5_measureBack_22 rfl ?_
  refine slv_getf eX5_measureBack_23 fX5_27 (by repeat (first | assumption | exact sl_up_eq | refine sl_up_ne (by first | decide | omega) ?_)) rfl ?_
  refine slv_iload_n eX5_measureBack_26 rfl ?_
  refine slv_iconst (v := nI 0) eX5_measureBack_27 (by decide) ?_
  refine slv_iastN eX5_measureBack_28 (by repeat (first | assumption | exact sl_up_eq | refine sl_up_ne (by first | decide | omega) ?_)) (by omega) (by decide) ?_
  rw [ld_u29, e0]
  refine slv_iconst (v := nI 1) eX5_measureBack_29 (by decide) ?_
  refine slv_istore_n (i := 2) (lv' := [_, _, _, _, _]) eX5_measureBack_30 rfl (by decide) rfl ?_
  refine slv_iconst (v := nI 1) eX5_measureBack_31 (by decide) ?_
  refine slv_istore_n (i := 3) (lv' := [_, _, _, _, _]) eX5_measureBack_32 rfl (by decide) rfl ?_
  refine outer 27 1 _ true _ (by omega) (by omega) (fun p => by split; omega; split <;> omega) _ ⟨rfl, ?_⟩
  rw [ld_self h]; rfl
/-- the way round -/
def lk_wr (ar : Nat → Int32) (ba : Nat → Nat) (s : Nat) : Nat → Nat → Nat
  | 0, _ => 0
  | n + 1, i => cond (lk_ln ar ba s i).isSome (i + 1) (lk_wr ar ba s n (i + 1))
theorem lk_wr_le {ar : Nat → Int32} {ba : Nat → Nat} {s : Nat} (n : Nat) : ∀ i, lk_wr ar ba s n i ≤ i + n := by
  induction n with
  | zero => intro i; exact Nat.zero_le _
  | succ n ih =>
    intro i
    rw [lk_wr]
    cases (lk_ln ar ba s i).isSome
    · have := ih (i + 1); simp only [cond_false]; omega
    · simp only [cond_true]; omega
set_option maxRecDepth 100000 in
theorem c_X5_wayRound (h : ld_at rn e rk kn ar re nu ba M) (hb : ∀ p, p < 28 → ba p < 1000) {s : Nat} (hs : s < 28) : sl_R YX5_wayRound 2 [.ref 23, .int (nI s)] M (some (.int (nI (lk_wr ar ba s 28 0)))) M := by
  have h' := h
  obtain ⟨a23, a24, a25, a26, a27, a28, a29⟩ := h
  refine sl_T.of_V (lv := [_, _, _]) (by decide) rfl (Nat.le_of_ble_eq_true rfl) ?_
  have loop : ∀ n i : Nat, i + n = 28 → ∀ Q : Option Value → sl_M → Prop, Q (some (.int (nI (lk_wr ar ba s n i)))) M → sl_V YX5_wayRound none 2 0 0 Q 2 [some (.ref 23), some (.int (nI s)), some (.int (nI i))] [] M := by
    intro n
    induction n with
    | zero =>
      intro i hi Q hQ
      refine slv_iload_n eX5_wayRound_2 rfl ?_
      refine slv_bipush (v := nI 28) eX5_wayRound_3 (by decide) ?_
      refine slv_icmp_geN eX5_wayRound_5 (by omega) (by omega) (fun h5 => ?_) (fun h5 => absurd h5 (by omega))
      refine slv_iconst (v := nI 0) eX5_wayRound_28 (by decide) ?_
      refine slv_iret eX5_wayRound_29 rfl ?_
      exact hQ
    | succ n ih =>
      intro i hi Q hQ
      have hio : sl_io (lk_ln ar ba s i) = -1 ↔ lk_ln ar ba s i = none := sl_io_ne (fun k hk => by have := lk_ln_lt hk; omega)
      refine slv_iload_n eX5_wayRound_2 rfl ?_
      refine slv_bipush (v := nI 28) eX5_wayRound_3 (by decide) ?_
      refine slv_icmp_geN eX5_wayRound_5 (by omega) (by omega) (fun h5 => absurd h5 (by omega)) (fun h5 => ?_)
      refine slv_aload_n eX5_wayRound_8 rfl ?_
      refine slv_iload_n eX5_wayRound_9 rfl ?_
      refine slv_iload_n eX5_wayRound_10 rfl ?_
      refine slv_rV (As := [_, _]) eX5_wayRound_11 lX5_87 rfl rfl (by repeat (first | assumption | exact sl_up_eq | refine sl_up_ne (by first | decide | omega) ?_)) rfl (c_X5_leastNext h' hb hs (by omega)) (by decide) (Nat.le_of_ble_eq_true rfl) ?_
      refine slv_iconst (v := (-1)) eX5_wayRound_14 (by decide) ?_
      refine slv_icmp_eq eX5_wayRound_15 (fun h15 => ?_) (fun h15 => ?_)
      · refine slv_iincN (lv' := [_, _, _]) eX5_wayRound_22 rfl (by decide) rfl ?_
        refine slv_goto eX5_wayRound_25 ?_
        rw [hio] at h15
        refine ih (i + 1) (by omega) Q ?_
        rw [lk_wr, h15] at hQ
        exact hQ
      · refine slv_iload_n eX5_wayRound_18 rfl ?_
        refine slv_iconst (v := nI 1) eX5_wayRound_19 (by decide) ?_
        refine slv_iaddN eX5_wayRound_20 ?_
        refine slv_iret eX5_wayRound_21 rfl ?_
        rw [hio] at h15
        rw [lk_wr, Option.isSome_iff_ne_none.mpr h15] at hQ
        exact hQ
  refine slv_iconst (v := nI 0) eX5_wayRound_0 (by decide) ?_
  refine slv_istore_n (i := 2) (lv' := [_, _, _]) eX5_wayRound_1 rfl (by decide) rfl ?_
  exact loop 28 0 (by omega) _ ⟨rfl, rfl⟩
/-- the ring's knots -/
def lk_wk (ar : Nat → Int32) (ba : Nat → Nat) (len : Nat) : Nat → Nat → Option Nat → (Nat → Nat) → (Nat → Nat)
  | 0, _, _, rk => rk
  | _ + 1, _, none, rk => rk
  | n + 1, i, some k, rk => lk_wk ar ba len n (i + 1) (lk_ln ar ba k (len - 1 - i)) (sl_u rk i k)
def lk_rl (ar : Nat → Int32) (s : Nat) : Nat := lk_wr ar (lk_bk ar s) s 28 0
set_option maxRecDepth 100000 in
theorem c_X5_walkRing (h : ld_at rn e rk kn ar re nu ba M) (hz : ∀ p, 28 ≤ p → ba p = 0) {s : Nat} (hs : s < 28) : sl_R YX5_walkRing 3 [.ref 23, .int (nI s)] M none (ld_set (lk_rl ar s) e (lk_wk ar (lk_bk ar s) (lk_rl ar s) (lk_rl ar s) 0 (some s) rk) kn ar re nu (lk_bk ar s) M) := by
  have hb : ∀ p, p < 28 → lk_bk ar s p < 1000 := fun p _ => by have := lk_bk_lt ar s p; omega
  have hle : lk_rl ar s ≤ 28 := by have := lk_wr_le (ar := ar) (ba := lk_bk ar s) (s := s) 28 0; unfold lk_rl; omega
  refine sl_T.of_V (lv := [_, _, _, _, _]) (by decide) rfl (Nat.le_of_ble_eq_true rfl) ?_
  have loop : ∀ (n i : Nat) (o : Option Nat) (rk : Nat → Nat), i + n = lk_rl ar s → (∀ k, o = some k → k < 28) → ∀ Q : Option Value → sl_M → Prop, Q none (ld_set (lk_rl ar s) e (lk_wk ar (lk_bk ar s) (lk_rl ar s) n i o rk) kn ar re nu (lk_bk ar s) M) → sl_V YX5_walkRing none 3 0 0 Q 16 [some (.ref 23), some (.int (nI s)), some (.int (nI (lk_rl ar s))), some (.int (sl_io o)), some (.int (nI i))] [] (ld_set rn e rk kn ar re nu (lk_bk ar s) M) := by
    intro n
    induction n with
    | zero =>
      intro i o rk hi ho Q hQ
      refine slv_iload eX5_walkRing_16 rfl ?_
      refine slv_iload_n eX5_walkRing_18 rfl ?_
      refine slv_icmp_geN eX5_walkRing_19 (by omega) (by omega) (fun h19 => ?_) (fun h19 => absurd h19 (by omega))
      refine slv_aload_n eX5_walkRing_53 rfl ?_
      refine slv_iload_n eX5_walkRing_54 rfl ?_
      refine slv_putf (fs' := [_, _, _, _, _, _, _, _]) eX5_walkRing_55 fX5_50 (by repeat (first | assumption | exact sl_up_eq | refine sl_up_ne (by first | decide | omega) ?_)) (Nat.le_of_ble_eq_true rfl) rfl rfl rfl ?_
      rw [ld_u23]
      refine slv_vret eX5_walkRing_58 rfl ?_
      exact hQ
    | succ n ih =>
      intro i o rk hi ho Q hQ
      have hio : sl_io o = -1 ↔ o = none := sl_io_ne (fun k hk => by have := ho k hk; omega)
      cases o with
      | none =>
        refine slv_iload eX5_walkRing_16 rfl ?_
        refine slv_iload_n eX5_walkRing_18 rfl ?_
        refine slv_icmp_geN eX5_walkRing_19 (by omega) (by omega) (fun h19 => absurd h19 (by omega)) (fun h19 => ?_)
        refine slv_iload_n eX5_walkRing_22 rfl ?_
        refine slv_iconst (v := (-1)) eX5_walkRing_23 (by decide) ?_
        refine slv_icmp_eq eX5_walkRing_24 (fun h24 => ?_) (fun h24 => absurd rfl h24)
        refine slv_aload_n eX5_walkRing_53 rfl ?_
        refine slv_iload_n eX5_walkRing_54 rfl ?_
        refine slv_putf (fs' := [_, _, _, _, _, _, _, _]) eX5_walkRing_55 fX5_50 (by repeat (first | assumption | exact sl_up_eq | refine sl_up_ne (by first | decide | omega) ?_)) (Nat.le_of_ble_eq_true rfl) rfl rfl rfl ?_
        rw [ld_u23]
        refine slv_vret eX5_walkRing_58 rfl ?_
        exact hQ
      | some k =>
        have hk := ho k rfl
        have hio' : ¬ sl_io (some k) = -1 := fun z => by rw [hio] at z; cases z
        have c1 := c_X5_leastNext (ld_of (rn := rn) (e := e) (rk := sl_u rk i k) (kn := kn) (ar := ar) (re := re) (nu := nu) (ba := lk_bk ar s) (M := M)) hb (k := k) (far := lk_rl ar s - 1 - i) hk (by omega)
        refine slv_iload eX5_walkRing_16 rfl ?_
        refine slv_iload_n eX5_walkRing_18 rfl ?_
        refine slv_icmp_geN eX5_walkRing_19 (by omega) (by omega) (fun h19 => absurd h19 (by omega)) (fun h19 => ?_)
        refine slv_iload_n eX5_walkRing_22 rfl ?_
        refine slv_iconst (v := (-1)) eX5_walkRing_23 (by decide) ?_
        refine slv_icmp_eq eX5_walkRing_24 (fun h24 => absurd h24 hio') (fun h24 => ?_)
        refine slv_aload_n eX5_walkRing_27 rfl ?_
        refine slv_getf eX5_walkRing_28 fX5_11 (by repeat (first | assumption | exact sl_up_eq | refine sl_up_ne (by first | decide | omega) ?_)) rfl ?_
        refine slv_iload eX5_walkRing_31 rfl ?_
        refine slv_iload_n eX5_walkRing_33 rfl ?_
        refine slv_iastN (x := k) eX5_walkRing_34 (by repeat (first | assumption | exact sl_up_eq | refine sl_up_ne (by first | decide | omega) ?_)) (by omega) (by decide) ?_
        rw [ld_u24]
        refine slv_aload_n eX5_walkRing_35 rfl ?_
        refine slv_iload_n eX5_walkRing_36 rfl ?_
        refine slv_iload_n eX5_walkRing_37 rfl ?_
        refine slv_iconst (v := nI 1) eX5_walkRing_38 (by decide) ?_
        refine slv_isubN eX5_walkRing_39 (by omega) ?_
        refine slv_iload eX5_walkRing_40 rfl ?_
        refine slv_isubN eX5_walkRing_42 (by omega) ?_
        refine slv_rV (As := [_, _]) eX5_walkRing_43 lX5_87 rfl rfl (by repeat (first | assumption | exact sl_up_eq | refine sl_up_ne (by first | decide | omega) ?_)) rfl c1 (by decide) (Nat.le_of_ble_eq_true rfl) ?_
        refine slv_istore_n (i := 3) (lv' := [_, _, _, _, _]) eX5_walkRing_46 rfl (by decide) rfl ?_
        refine slv_iincN (lv' := [_, _, _, _, _]) eX5_walkRing_47 rfl (by decide) rfl ?_
        refine slv_goto eX5_walkRing_50 ?_
        exact ih (i + 1) _ _ (by omega) (fun q hq => lk_ln_lt hq) Q hQ
  refine slv_mem (ld_self h).symm ?_
  refine slv_aload_n eX5_walkRing_0 rfl ?_
  refine slv_iload_n eX5_walkRing_1 rfl ?_
  refine slv_rV (As := [_]) eX5_walkRing_2 lX5_80 rfl rfl (by repeat (first | assumption | exact sl_up_eq | refine sl_up_ne (by first | decide | omega) ?_)) rfl (c_X5_measureBack ld_of hz hs) (by decide) (Nat.le_of_ble_eq_true rfl) ?_
  refine slv_mem ld_ss ?_
  refine slv_aload_n eX5_walkRing_5 rfl ?_
  refine slv_iload_n eX5_walkRing_6 rfl ?_
  refine slv_rV (As := [_]) eX5_walkRing_7 lX5_83 rfl rfl (by repeat (first | assumption | exact sl_up_eq | refine sl_up_ne (by first | decide | omega) ?_)) rfl (c_X5_wayRound ld_of hb hs) (by decide) (Nat.le_of_ble_eq_true rfl) ?_
  refine slv_istore_n (i := 2) (lv' := [_, _, _, _, _]) eX5_walkRing_10 rfl (by decide) rfl ?_
  refine slv_iload_n eX5_walkRing_11 rfl ?_
  refine slv_istore_n (i := 3) (lv' := [_, _, _, _, _]) eX5_walkRing_12 rfl (by decide) rfl ?_
  refine slv_iconst (v := nI 0) eX5_walkRing_13 (by decide) ?_
  refine slv_istore (lv' := [_, _, _, _, _]) eX5_walkRing_14 (by decide) rfl ?_
  refine loop (lk_rl ar s) 0 (some s) rk (by omega) (fun k hk => by cases hk; exact hs) _ ?_
  exact ⟨rfl, rfl⟩
theorem lk_rl_le (ar : Nat → Int32) (s : Nat) : lk_rl ar s ≤ 28 := by
  have := lk_wr_le (ar := ar) (ba := lk_bk ar s) (s := s) 28 0
  unfold lk_rl
  omega
theorem lk_rl_lt (ar : Nat → Int32) (s : Nat) : lk_rl ar s < 2147483648 := Nat.lt_of_le_of_lt (lk_rl_le ar s) (by decide)
/-- looking for the ring: how long, its knots, the ways back -/
def lk_fr (ar re : Nat → Int32) : Nat → Nat → Nat × (Nat → Nat) × (Nat → Nat) → Nat × (Nat → Nat) × (Nat → Nat)
  | 0, _, q => q
  | n + 1, i, q => cond (decide (q.1 = 0)) (lk_fr ar re n (i + 1) (cond (sl_bt (re i) i) (lk_rl ar i, lk_wk ar (lk_bk ar i) (lk_rl ar i) (lk_rl ar i) 0 (some i) q.2.1, lk_bk ar i) q)) q
theorem lk_bo_z {ar : Nat → Int32} (n : Nat) : ∀ (far : Nat) (ba : Nat → Nat) (gr : Bool), (∀ p, 28 ≤ p → ba p = 0) → ∀ p, 28 ≤ p → lk_bo ar n far ba gr p = 0 := by
  have h1 : ∀ (far n i : Nat) (q : (Nat → Nat) × Bool), i + n ≤ 28 → (∀ p, 28 ≤ p → q.1 p = 0) → ∀ p, 28 ≤ p → (lk_b1 ar far n i q).1 p = 0 := by
    intro far n
    induction n with
    | zero => intro i q _ h; exact h
    | succ n ih =>
      intro i q hi h
      refine ih (i + 1) _ (by omega) ?_
      intro p hp
      show (cond (decide (q.1 i = 28) && (lk_ln ar q.1 i (far - 1)).isSome) (sl_u q.1 i far, true) q).1 p = 0
      cases (decide (q.1 i = 28) && (lk_ln ar q.1 i (far - 1)).isSome)
      · exact h p hp
      · show sl_u q.1 i far p = 0
        rw [sl_u_ne (by omega)]; exact h p hp
  induction n with
  | zero => intro far ba gr h; exact h
  | succ n ih =>
    intro far ba gr h
    cases gr
    · exact h
    · exact ih (far + 1) _ _ (h1 far 28 0 _ (by omega) h)
theorem lk_bk_z (ar : Nat → Int32) {s : Nat} (hs : s < 28) : ∀ p, 28 ≤ p → lk_bk ar s p = 0 := lk_bo_z 27 1 _ _ (fun p hp => by rw [if_neg (by omega), if_neg (by omega)])
set_option maxRecDepth 100000 in
theorem c_X5_findRing (h : ld_at rn e rk kn ar re nu ba M) (hz : ∀ p, 28 ≤ p → ba p = 0) : sl_R YX5_findRing 4 [.ref 23] M none (ld_set (lk_fr ar re 28 0 (0, rk, ba)).1 e (lk_fr ar re 28 0 (0, rk, ba)).2.1 kn ar re nu (lk_fr ar re 28 0 (0, rk, ba)).2.2 M) := by
  refine sl_T.of_V (lv := [_, _]) (by decide) rfl (Nat.le_of_ble_eq_true rfl) ?_
  have loop : ∀ (n i rn : Nat) (rk ba : Nat → Nat), i + n = 28 → rn < 2147483648 → (∀ p, 28 ≤ p → ba p = 0) → ∀ Q : Option Value → sl_M → Prop, Q none (ld_set (lk_fr ar re n i (rn, rk, ba)).1 e (lk_fr ar re n i (rn, rk, ba)).2.1 kn ar re nu (lk_fr ar re n i (rn, rk, ba)).2.2 M) → sl_V YX5_findRing none 4 0 0 Q 7 [some (.ref 23), some (.int (nI i))] [] (ld_set rn e rk kn ar re nu ba M) := by
    intro n
    induction n with
    | zero =>
      intro i rn rk ba hi hq hz Q hQ
      refine slv_iload_n eX5_findRing_7 rfl ?_
      refine slv_bipush (v := nI 28) eX5_findRing_8 (by decide) ?_
      refine slv_icmp_geN eX5_findRing_10 (by omega) (by omega) (fun h10 => ?_) (fun h10 => absurd h10 (by omega))
      refine slv_vret eX5_findRing_44 rfl ?_
      exact hQ
    | succ n ih =>
      intro i rn rk ba hi hq hz Q hQ
      have hi2 : i + 1 + n = 28 := by omega
      have hi3 : i < 28 := by omega
      refine slv_iload_n eX5_findRing_7 rfl ?_
      refine slv_bipush (v := nI 28) eX5_findRing_8 (by decide) ?_
      refine slv_icmp_geN eX5_findRing_10 (by omega) (by omega) (fun h10 => absurd h10 (by omega)) (fun h10 => ?_)
      refine slv_aload_n eX5_findRing_13 rfl ?_
      refine slv_getf eX5_findRing_14 fX5_50 (by repeat (first | assumption | exact sl_up_eq | refine sl_up_ne (by first | decide | omega) ?_)) rfl ?_
      refine slv_if_neN eX5_findRing_17 (by omega) (fun h17 => ?_) (fun h17 => ?_)
      · refine slv_vret eX5_findRing_44 rfl ?_
        simp only [lk_fr, decide_eq_false h17, cond_false] at hQ
        exact hQ
      · refine slv_aload_n eX5_findRing_20 rfl ?_
        refine slv_getf eX5_findRing_21 fX5_21 (by repeat (first | assumption | exact sl_up_eq | refine sl_up_ne (by first | decide | omega) ?_)) rfl ?_
        refine slv_iload_n eX5_findRing_24 rfl ?_
        refine slv_ialdN eX5_findRing_25 (by repeat (first | assumption | exact sl_up_eq | refine sl_up_ne (by first | decide | omega) ?_)) (by omega) (by decide) ?_
        refine slv_iload_n eX5_findRing_26 rfl ?_
        refine slv_rS (As := [_, _]) eX5_findRing_27 lX5_72 rfl rfl (c_X5_has _ _ _) (by decide) (Nat.le_of_ble_eq_true rfl) ?_
        refine slv_if_eqB eX5_findRing_30 (fun h30 => ?_) (fun h30 => ?_)
        · try refine slv_mem ld_ss ?_
          refine slv_iincN (lv' := [_, _]) eX5_findRing_38 rfl (by decide) rfl ?_
          refine slv_goto eX5_findRing_41 ?_
          simp only [lk_fr, decide_eq_true h17, h30, cond_true, cond_false] at hQ
          first | (have z : sl_bt (re i) i = false := h30; exact ih (i + 1) rn rk ba hi2 hq hz Q hQ) | (have z : sl_bt (re i) i = true := h30; exact ih (i + 1) (lk_rl ar i) (lk_wk ar (lk_bk ar i) (lk_rl ar i) (lk_rl ar i) 0 (some i) rk) (lk_bk ar i) hi2 (lk_rl_lt ar i) (lk_bk_z ar hi3) Q hQ)
        · refine slv_aload_n eX5_findRing_33 rfl ?_
          refine slv_iload_n eX5_findRing_34 rfl ?_
          refine slv_rV (As := [_]) eX5_findRing_35 lX5_76 rfl rfl (by repeat (first | assumption | exact sl_up_eq | refine sl_up_ne (by first | decide | omega) ?_)) rfl (c_X5_walkRing ld_of hz hi3) (by decide) (Nat.le_of_ble_eq_true rfl) ?_
          try refine slv_mem ld_ss ?_
          refine slv_iincN (lv' := [_, _]) eX5_findRing_38 rfl (by decide) rfl ?_
          refine slv_goto eX5_findRing_41 ?_
          simp only [lk_fr, decide_eq_true h17, h30, cond_true, cond_false] at hQ
          first | (have z : sl_bt (re i) i = false := h30; exact ih (i + 1) rn rk ba hi2 hq hz Q hQ) | (have z : sl_bt (re i) i = true := h30; exact ih (i + 1) (lk_rl ar i) (lk_wk ar (lk_bk ar i) (lk_rl ar i) (lk_rl ar i) 0 (some i) rk) (lk_bk ar i) hi2 (lk_rl_lt ar i) (lk_bk_z ar hi3) Q hQ)
  refine slv_mem (ld_self h).symm ?_
  refine slv_aload_n eX5_findRing_0 rfl ?_
  refine slv_iconst (v := nI 0) eX5_findRing_1 (by decide) ?_
  refine slv_putf (fs' := [_, _, _, _, _, _, _, _]) eX5_findRing_2 fX5_50 (by repeat (first | assumption | exact sl_up_eq | refine sl_up_ne (by first | decide | omega) ?_)) (Nat.le_of_ble_eq_true rfl) rfl rfl rfl ?_
  refine slv_mem (ld_u23 (rn' := 0) (e' := e)) ?_
  refine slv_iconst (v := nI 0) eX5_findRing_5 (by decide) ?_
  refine slv_istore_n (i := 1) (lv' := [_, _]) eX5_findRing_6 rfl (by decide) rfl ?_
  refine loop 28 0 0 rk ba (by omega) (by decide) hz _ ?_
  exact ⟨rfl, rfl⟩
end LAD

def sl_us (x n : Int32) : Int32 := (x.toUInt32 >>> (n.toUInt32 &&& Int32.toUInt32 31)).toInt32
def sl_bc0 (x : Int32) : Int32 := x - (sl_us x (nI 1) &&& 1431655765)
def sl_bc1 (a : Int32) : Int32 := (a &&& 858993459) + (sl_us a (nI 2) &&& 858993459)
def sl_bc2 (b : Int32) : Int32 := (b + sl_us b (nI 4)) &&& 252645135
def sl_bc3 (c : Int32) : Int32 := c + sl_us c (nI 8)
def sl_bc4 (c : Int32) : Int32 := c + sl_us c (nI 16)
def sl_bc (x : Int32) : Int32 := sl_bc4 (sl_bc3 (sl_bc2 (sl_bc1 (sl_bc0 x)))) &&& nI 63
set_option maxRecDepth 100000 in
theorem c_bitCount (M : sl_M) (x : Int32) : sl_R YJ6_bitCount_0f7a4 0 [.int x] M (some (.int (sl_bc x))) M := by
  refine sl_T.of_V (lv := [_]) (by decide) rfl (Nat.le_of_ble_eq_true rfl) ?_
  refine slv_iload_n eJ6_bitCount_0f7a4_0 rfl ?_
  refine slv_iload_n eJ6_bitCount_0f7a4_1 rfl ?_
  refine slv_iconst (v := nI 1) eJ6_bitCount_0f7a4_2 (by decide) ?_
  refine slv_iushr eJ6_bitCount_0f7a4_3 rfl ?_
  refine slv_ldcw eJ6_bitCount_0f7a4_4 kJ6_265 ?_
  refine slv_iand eJ6_bitCount_0f7a4_7 ?_
  refine slv_isub eJ6_bitCount_0f7a4_8 ?_
  refine slv_istore_n (i := 0) (lv' := [_]) eJ6_bitCount_0f7a4_9 rfl (by decide) rfl ?_
  refine slv_iload_n eJ6_bitCount_0f7a4_10 rfl ?_
  refine slv_ldcw eJ6_bitCount_0f7a4_11 kJ6_266 ?_
  refine slv_iand eJ6_bitCount_0f7a4_14 ?_
  refine slv_iload_n eJ6_bitCount_0f7a4_15 rfl ?_
  refine slv_iconst (v := nI 2) eJ6_bitCount_0f7a4_16 (by decide) ?_
  refine slv_iushr eJ6_bitCount_0f7a4_17 rfl ?_
  refine slv_ldcw eJ6_bitCount_0f7a4_18 kJ6_266 ?_
  refine slv_iand eJ6_bitCount_0f7a4_21 ?_
  refine slv_iadd eJ6_bitCount_0f7a4_22 ?_
  refine slv_istore_n (i := 0) (lv' := [_]) eJ6_bitCount_0f7a4_23 rfl (by decide) rfl ?_
  refine slv_iload_n eJ6_bitCount_0f7a4_24 rfl ?_
  refine slv_iload_n eJ6_bitCount_0f7a4_25 rfl ?_
  refine slv_iconst (v := nI 4) eJ6_bitCount_0f7a4_26 (by decide) ?_
  refine slv_iushr eJ6_bitCount_0f7a4_27 rfl ?_
  refine slv_iadd eJ6_bitCount_0f7a4_28 ?_
  refine slv_ldcw eJ6_bitCount_0f7a4_29 kJ6_267 ?_
  refine slv_iand eJ6_bitCount_0f7a4_32 ?_
  refine slv_istore_n (i := 0) (lv' := [_]) eJ6_bitCount_0f7a4_33 rfl (by decide) rfl ?_
  refine slv_iload_n eJ6_bitCount_0f7a4_34 rfl ?_
  refine slv_iload_n eJ6_bitCount_0f7a4_35 rfl ?_
  refine slv_bipush (v := nI 8) eJ6_bitCount_0f7a4_36 (by decide) ?_
  refine slv_iushr eJ6_bitCount_0f7a4_38 rfl ?_
  refine slv_iadd eJ6_bitCount_0f7a4_39 ?_
  refine slv_istore_n (i := 0) (lv' := [_]) eJ6_bitCount_0f7a4_40 rfl (by decide) rfl ?_
  refine slv_iload_n eJ6_bitCount_0f7a4_41 rfl ?_
  refine slv_iload_n eJ6_bitCount_0f7a4_42 rfl ?_
  refine slv_bipush (v := nI 16) eJ6_bitCount_0f7a4_43 (by decide) ?_
  refine slv_iushr eJ6_bitCount_0f7a4_45 rfl ?_
  refine slv_iadd eJ6_bitCount_0f7a4_46 ?_
  refine slv_istore_n (i := 0) (lv' := [_]) eJ6_bitCount_0f7a4_47 rfl (by decide) rfl ?_
  refine slv_iload_n eJ6_bitCount_0f7a4_48 rfl ?_
  refine slv_bipush (v := nI 63) eJ6_bitCount_0f7a4_49 (by decide) ?_
  refine slv_iand eJ6_bitCount_0f7a4_51 ?_
  refine slv_iret eJ6_bitCount_0f7a4_52 rfl ?_
  exact ⟨rfl, rfl⟩
/-- bit k of a set -/
def sl_bt (s : Int32) (k : Nat) : Bool := !(decide ((s >>> (nI k &&& 31)) &&& nI 1 = 0))
/-- one relation more -/
def rl_add (e : Nat) (s : Nat → Int32) (x y r : Nat) : Nat → Int32 := if x ≤ e ∧ y ≤ e then sl_u s (12 * x + y) (s (12 * x + y) ||| nI r) else s
set_option maxRecDepth 100000 in
theorem c_X10_addRelation {e : Nat} {l t s : Nat → Int32} {M : sl_M} (h : rl_at e l t s M) (he : e ≤ 11) {x y r : Nat} (hx : x < 1000) (hy : y < 1000) : sl_R YX10_addRelation 0 [.ref 19, .int (nI x), .int (nI y), .int (nI r)] M none (rl_set e l t (rl_add e s x y r) M) := by
  have h' := h
  obtain ⟨a19, a20, a21, a22⟩ := h
  refine sl_T.of_V (lv := [_, _, _, _]) (by decide) rfl (Nat.le_of_ble_eq_true rfl) ?_
  refine slv_iload_n eX10_addRelation_0 rfl ?_
  refine slv_aload_n eX10_addRelation_1 rfl ?_
  refine slv_getf eX10_addRelation_2 fX10_27 (by repeat (first | assumption | exact sl_up_eq | refine sl_up_ne (by first | decide | omega) ?_)) rfl ?_
  refine slv_icmp_gtN eX10_addRelation_5 (by omega) (by omega) (fun h5 => ?_) (fun h5 => ?_)
  · refine slv_vret eX10_addRelation_31 rfl ?_
    refine ⟨rfl, ?_⟩
    first | (rw [rl_add, if_neg (by omega)]; exact (rl_self h').symm) | (rw [rl_add, if_pos (by omega), ← rl_u22, rl_self h', Nat.mul_comm x 12])
  · refine slv_iload_n eX10_addRelation_8 rfl ?_
    refine slv_aload_n eX10_addRelation_9 rfl ?_
    refine slv_getf eX10_addRelation_10 fX10_27 (by repeat (first | assumption | exact sl_up_eq | refine sl_up_ne (by first | decide | omega) ?_)) rfl ?_
    refine slv_icmp_gtN eX10_addRelation_13 (by omega) (by omega) (fun h13 => ?_) (fun h13 => ?_)
    · refine slv_vret eX10_addRelation_31 rfl ?_
      refine ⟨rfl, ?_⟩
      first | (rw [rl_add, if_neg (by omega)]; exact (rl_self h').symm) | (rw [rl_add, if_pos (by omega), ← rl_u22, rl_self h', Nat.mul_comm x 12])
    · refine slv_aload_n eX10_addRelation_16 rfl ?_
      refine slv_getf eX10_addRelation_17 fX10_18 (by repeat (first | assumption | exact sl_up_eq | refine sl_up_ne (by first | decide | omega) ?_)) rfl ?_
      refine slv_iload_n eX10_addRelation_20 rfl ?_
      refine slv_bipush (v := nI 12) eX10_addRelation_21 (by decide) ?_
      refine slv_imulN eX10_addRelation_23 ?_
      refine slv_iload_n eX10_addRelation_24 rfl ?_
      refine slv_iaddN eX10_addRelation_25 ?_
      refine slv_dup2 eX10_addRelation_26 rfl rfl ?_
      refine slv_ialdN eX10_addRelation_27 (by repeat (first | assumption | exact sl_up_eq | refine sl_up_ne (by first | decide | omega) ?_)) (by omega) (by decide) ?_
      refine slv_iload_n eX10_addRelation_28 rfl ?_
      refine slv_ior eX10_addRelation_29 ?_
      refine slv_iastI eX10_addRelation_30 (by repeat (first | assumption | exact sl_up_eq | refine sl_up_ne (by first | decide | omega) ?_)) (by omega) (by decide) ?_
      refine slv_vret eX10_addRelation_31 rfl ?_
      refine ⟨rfl, ?_⟩
      first | (rw [rl_add, if_neg (by omega)]; exact (rl_self h').symm) | (rw [rl_add, if_pos (by omega), ← rl_u22, rl_self h', Nat.mul_comm x 12])
def rl_bel (e : Nat) (x : Nat) (b : Int32) (n i : Nat) (s : Nat → Int32) : Nat → Int32 := sl_fo (fun y s => cond (sl_bt b y) (rl_add e s x y 1) s) n i s
def rl_abv (e : Nat) (b : Int32) (y : Nat) (n i : Nat) (s : Nat → Int32) : Nat → Int32 := sl_fo (fun x s => cond (sl_bt b x) (rl_add e s x y 4) s) n i s
theorem sl_bt_f {s : Int32} {k : Nat} (h : (s >>> (nI k &&& 31)) &&& nI 1 = 0) : sl_bt s k = false := by simp [sl_bt, h]
theorem sl_bt_t {s : Int32} {k : Nat} (h : ¬ (s >>> (nI k &&& 31)) &&& nI 1 = 0) : sl_bt s k = true := by simp [sl_bt, h]
set_option maxRecDepth 100000 in
theorem c_X10_addBelow {e : Nat} {l t s : Nat → Int32} {M : sl_M} (h : rl_at e l t s M) (he : e ≤ 11) {x : Nat} (hx : x < 1000) (b : Int32) : sl_R YX10_addBelow 1 [.ref 19, .int (nI x), .int b] M none (rl_set e l t (rl_bel e x b e 0 s) M) := by
  refine sl_T.of_V (lv := [_, _, _, _]) (by decide) rfl (Nat.le_of_ble_eq_true rfl) ?_
  have loop : ∀ (n i : Nat) (s : Nat → Int32), i + n = e → ∀ Q : Option Value → sl_M → Prop, Q none (rl_set e l t (rl_bel e x b n i s) M) → sl_V YX10_addBelow none 1 0 0 Q 2 [some (.ref 19), some (.int (nI x)), some (.int b), some (.int (nI i))] [] (rl_set e l t s M) := by
    intro n
    induction n with
    | zero =>
      intro i s hi Q hQ
      refine slv_iload_n eX10_addBelow_2 rfl ?_
      refine slv_aload_n eX10_addBelow_3 rfl ?_
      refine slv_getf eX10_addBelow_4 fX10_27 (by repeat (first | assumption | exact sl_up_eq | refine sl_up_ne (by first | decide | omega) ?_)) rfl ?_
      refine slv_icmp_geN eX10_addBelow_7 (by omega) (by omega) (fun h7 => ?_) (fun h7 => absurd h7 (by omega))
      refine slv_vret eX10_addBelow_31 rfl ?_
      exact hQ
    | succ n ih =>
      intro i s hi Q hQ
      refine slv_iload_n eX10_addBelow_2 rfl ?_
      refine slv_aload_n eX10_addBelow_3 rfl ?_
      refine slv_getf eX10_addBelow_4 fX10_27 (by repeat (first | assumption | exact sl_up_eq | refine sl_up_ne (by first | decide | omega) ?_)) rfl ?_
      refine slv_icmp_geN eX10_addBelow_7 (by omega) (by omega) (fun h7 => absurd h7 (by omega)) (fun h7 => ?_)
      refine slv_iload_n eX10_addBelow_10 rfl ?_
      refine slv_iload_n eX10_addBelow_11 rfl ?_
      refine slv_ishr eX10_addBelow_12 ?_
      refine slv_iconst (v := nI 1) eX10_addBelow_13 (by decide) ?_
      refine slv_iand eX10_addBelow_14 ?_
      refine slv_if_eq eX10_addBelow_15 (fun h15 => ?_) (fun h15 => ?_)
      · try rw [rl_ss]
        refine slv_iincN (lv' := [_, _, _, _]) eX10_addBelow_25 rfl (by decide) rfl ?_
        refine slv_goto eX10_addBelow_28 ?_
        refine ih (i + 1) _ (by omega) Q ?_
        first | (have g := sl_bt_f h15; simp only [rl_bel, sl_fo, g, cond_false] at hQ; exact hQ) | (have g := sl_bt_t h15; simp only [rl_bel, sl_fo, g, cond_true] at hQ; exact hQ)
      · refine slv_aload_n eX10_addBelow_18 rfl ?_
        refine slv_iload_n eX10_addBelow_19 rfl ?_
        refine slv_iload_n eX10_addBelow_20 rfl ?_
        refine slv_iconst (v := nI 1) eX10_addBelow_21 (by decide) ?_
        refine slv_rV (As := [_, _, _]) eX10_addBelow_22 lX10_81 rfl rfl (by repeat (first | assumption | exact sl_up_eq | refine sl_up_ne (by first | decide | omega) ?_)) rfl (c_X10_addRelation rl_of he hx (by omega)) (by decide) (Nat.le_of_ble_eq_true rfl) ?_
        try rw [rl_ss]
        refine slv_iincN (lv' := [_, _, _, _]) eX10_addBelow_25 rfl (by decide) rfl ?_
        refine slv_goto eX10_addBelow_28 ?_
        refine ih (i + 1) _ (by omega) Q ?_
        first | (have g := sl_bt_f h15; simp only [rl_bel, sl_fo, g, cond_false] at hQ; exact hQ) | (have g := sl_bt_t h15; simp only [rl_bel, sl_fo, g, cond_true] at hQ; exact hQ)
  rw [← rl_self h]
  refine slv_iconst (v := nI 0) eX10_addBelow_0 (by decide) ?_
  refine slv_istore_n (i := 3) (lv' := [_, _, _, _]) eX10_addBelow_1 rfl (by decide) rfl ?_
  refine loop e 0 s (by omega) _ ⟨rfl, ?_⟩
  rw [rl_self h]
set_option maxRecDepth 100000 in
theorem c_X10_addAbove {e : Nat} {l t s : Nat → Int32} {M : sl_M} (h : rl_at e l t s M) (he : e ≤ 11) {y : Nat} (hy : y < 1000) (b : Int32) : sl_R YX10_addAbove 1 [.ref 19, .int b, .int (nI y)] M none (rl_set e l t (rl_abv e b y e 0 s) M) := by
  refine sl_T.of_V (lv := [_, _, _, _]) (by decide) rfl (Nat.le_of_ble_eq_true rfl) ?_
  have loop : ∀ (n i : Nat) (s : Nat → Int32), i + n = e → ∀ Q : Option Value → sl_M → Prop, Q none (rl_set e l t (rl_abv e b y n i s) M) → sl_V YX10_addAbove none 1 0 0 Q 2 [some (.ref 19), some (.int b), some (.int (nI y)), some (.int (nI i))] [] (rl_set e l t s M) := by
    intro n
    induction n with
    | zero =>
      intro i s hi Q hQ
      refine slv_iload_n eX10_addAbove_2 rfl ?_
      refine slv_aload_n eX10_addAbove_3 rfl ?_
      refine slv_getf eX10_addAbove_4 fX10_27 (by repeat (first | assumption | exact sl_up_eq | refine sl_up_ne (by first | decide | omega) ?_)) rfl ?_
      refine slv_icmp_geN eX10_addAbove_7 (by omega) (by omega) (fun h7 => ?_) (fun h7 => absurd h7 (by omega))
      refine slv_vret eX10_addAbove_31 rfl ?_
      exact hQ
    | succ n ih =>
      intro i s hi Q hQ
      refine slv_iload_n eX10_addAbove_2 rfl ?_
      refine slv_aload_n eX10_addAbove_3 rfl ?_
      refine slv_getf eX10_addAbove_4 fX10_27 (by repeat (first | assumption | exact sl_up_eq | refine sl_up_ne (by first | decide | omega) ?_)) rfl ?_
      refine slv_icmp_geN eX10_addAbove_7 (by omega) (by omega) (fun h7 => absurd h7 (by omega)) (fun h7 => ?_)
      refine slv_iload_n eX10_addAbove_10 rfl ?_
      refine slv_iload_n eX10_addAbove_11 rfl ?_
      refine slv_ishr eX10_addAbove_12 ?_
      refine slv_iconst (v := nI 1) eX10_addAbove_13 (by decide) ?_
      refine slv_iand eX10_addAbove_14 ?_
      refine slv_if_eq eX10_addAbove_15 (fun h15 => ?_) (fun h15 => ?_)
      · try rw [rl_ss]
        refine slv_iincN (lv' := [_, _, _, _]) eX10_addAbove_25 rfl (by decide) rfl ?_
        refine slv_goto eX10_addAbove_28 ?_
        refine ih (i + 1) _ (by omega) Q ?_
        first | (have g := sl_bt_f h15; simp only [rl_abv, sl_fo, g, cond_false] at hQ; exact hQ) | (have g := sl_bt_t h15; simp only [rl_abv, sl_fo, g, cond_true] at hQ; exact hQ)
      · refine slv_aload_n eX10_addAbove_18 rfl ?_
        refine slv_iload_n eX10_addAbove_19 rfl ?_
        refine slv_iload_n eX10_addAbove_20 rfl ?_
        refine slv_iconst (v := nI 4) eX10_addAbove_21 (by decide) ?_
        refine slv_rV (As := [_, _, _]) eX10_addAbove_22 lX10_81 rfl rfl (by repeat (first | assumption | exact sl_up_eq | refine sl_up_ne (by first | decide | omega) ?_)) rfl (c_X10_addRelation rl_of he (by omega) hy) (by decide) (Nat.le_of_ble_eq_true rfl) ?_
        try rw [rl_ss]
        refine slv_iincN (lv' := [_, _, _, _]) eX10_addAbove_25 rfl (by decide) rfl ?_
        refine slv_goto eX10_addAbove_28 ?_
        refine ih (i + 1) _ (by omega) Q ?_
        first | (have g := sl_bt_f h15; simp only [rl_abv, sl_fo, g, cond_false] at hQ; exact hQ) | (have g := sl_bt_t h15; simp only [rl_abv, sl_fo, g, cond_true] at hQ; exact hQ)
  rw [← rl_self h]
  refine slv_iconst (v := nI 0) eX10_addAbove_0 (by decide) ?_
  refine slv_istore_n (i := 3) (lv' := [_, _, _, _]) eX10_addAbove_1 rfl (by decide) rfl ?_
  refine loop e 0 s (by omega) _ ⟨rfl, ?_⟩
  rw [rl_self h]
set_option maxRecDepth 100000 in
theorem c_X10_between {e : Nat} {l t s : Nat → Int32} {M : sl_M} (h : rl_at e l t s M) {x y : Nat} (hx : x < 12) (hy : y < 12) : sl_R YX10_between 0 [.ref 19, .int (nI x), .int (nI y)] M (some (.int (s (12 * x + y)))) M := by
  obtain ⟨a19, a20, a21, a22⟩ := h
  refine sl_T.of_V (lv := [_, _, _]) (by decide) rfl (Nat.le_of_ble_eq_true rfl) ?_
  refine slv_aload_n eX10_between_0 rfl ?_
  refine slv_getf eX10_between_1 fX10_18 (by repeat (first | assumption | exact sl_up_eq | refine sl_up_ne (by first | decide | omega) ?_)) rfl ?_
  refine slv_iload_n eX10_between_4 rfl ?_
  refine slv_bipush (v := nI 12) eX10_between_5 (by decide) ?_
  refine slv_imulN eX10_between_7 ?_
  refine slv_iload_n eX10_between_8 rfl ?_
  refine slv_iaddN eX10_between_9 ?_
  refine slv_ialdN eX10_between_10 (by repeat (first | assumption | exact sl_up_eq | refine sl_up_ne (by first | decide | omega) ?_)) (by omega) (by decide) ?_
  refine slv_iret eX10_between_11 rfl ?_
  exact ⟨by rw [Nat.mul_comm], rfl⟩
set_option maxRecDepth 100000 in
theorem c_X10_countOf {e : Nat} {l t s : Nat → Int32} {M : sl_M} (h : rl_at e l t s M) (r : Int32) : sl_R YX10_countOf 0 [.ref 19, .int r] M (some (.int (nI (sl_ct (fun i => !(decide (s i &&& r = 0))) 144 0)))) M := by
  obtain ⟨a19, a20, a21, a22⟩ := h
  refine sl_T.of_V (lv := [_, _, _, _]) (by decide) rfl (Nat.le_of_ble_eq_true rfl) ?_
  have loop : ∀ n i a : Nat, i + n = 144 → ∀ Q : Option Value → sl_M → Prop, Q (some (.int (nI (a + sl_ct (fun i => !(decide (s i &&& r = 0))) n i)))) M → sl_V YX10_countOf none 0 0 0 Q 4 [some (.ref 19), some (.int r), some (.int (nI a)), some (.int (nI i))] [] M := by
    intro n
    induction n with
    | zero =>
      intro i a hi Q hQ
      refine slv_iload_n eX10_countOf_4 rfl ?_
      refine slv_sipush (v := nI 144) eX10_countOf_5 (by decide) ?_
      refine slv_icmp_geN eX10_countOf_8 (by omega) (by omega) (fun h8 => ?_) (fun h8 => absurd h8 (by omega))
      refine slv_iload_n eX10_countOf_31 rfl ?_
      refine slv_iret eX10_countOf_32 rfl ?_
      exact hQ
    | succ n ih =>
      intro i a hi Q hQ
      refine slv_iload_n eX10_countOf_4 rfl ?_
      refine slv_sipush (v := nI 144) eX10_countOf_5 (by decide) ?_
      refine slv_icmp_geN eX10_countOf_8 (by omega) (by omega) (fun h8 => absurd h8 (by omega)) (fun h8 => ?_)
      refine slv_aload_n eX10_countOf_11 rfl ?_
      refine slv_getf eX10_countOf_12 fX10_18 (by repeat (first | assumption | exact sl_up_eq | refine sl_up_ne (by first | decide | omega) ?_)) rfl ?_
      refine slv_iload_n eX10_countOf_15 rfl ?_
      refine slv_ialdN eX10_countOf_16 (by repeat (first | assumption | exact sl_up_eq | refine sl_up_ne (by first | decide | omega) ?_)) (by omega) (by decide) ?_
      refine slv_iload_n eX10_countOf_17 rfl ?_
      refine slv_iand eX10_countOf_18 ?_
      refine slv_if_eq eX10_countOf_19 (fun h19 => ?_) (fun h19 => ?_)
      · refine slv_iincN (lv' := [_, _, _, _]) eX10_countOf_25 rfl (by decide) rfl ?_
        refine slv_goto eX10_countOf_28 ?_
        refine ih (i + 1) _ (by omega) Q ?_
        first | (simp only [sl_ct, decide_eq_true h19, Bool.not_true, cond_false] at hQ; rw [Nat.zero_add] at hQ; exact hQ) | (simp only [sl_ct, decide_eq_false h19, Bool.not_false, cond_true] at hQ; rw [← Nat.add_assoc] at hQ; exact hQ)
      · refine slv_iincN (lv' := [_, _, _, _]) eX10_countOf_22 rfl (by decide) rfl ?_
        refine slv_iincN (lv' := [_, _, _, _]) eX10_countOf_25 rfl (by decide) rfl ?_
        refine slv_goto eX10_countOf_28 ?_
        refine ih (i + 1) _ (by omega) Q ?_
        first | (simp only [sl_ct, decide_eq_true h19, Bool.not_true, cond_false] at hQ; rw [Nat.zero_add] at hQ; exact hQ) | (simp only [sl_ct, decide_eq_false h19, Bool.not_false, cond_true] at hQ; rw [← Nat.add_assoc] at hQ; exact hQ)
  refine slv_iconst (v := nI 0) eX10_countOf_0 (by decide) ?_
  refine slv_istore_n (i := 2) (lv' := [_, _, _, _]) eX10_countOf_1 rfl (by decide) rfl ?_
  refine slv_iconst (v := nI 0) eX10_countOf_2 (by decide) ?_
  refine slv_istore_n (i := 3) (lv' := [_, _, _, _]) eX10_countOf_3 rfl (by decide) rfl ?_
  refine loop 144 0 0 (by omega) _ ⟨by rw [Nat.zero_add], rfl⟩
def sl_cl (v : Int32) : Bool := !(decide (sl_bc v ≤ nI 1))
set_option maxRecDepth 100000 in
theorem c_X10_isClash {e : Nat} {l t s : Nat → Int32} {M : sl_M} (h : rl_at e l t s M) {i : Nat} (hi : i < 144) : sl_R YX10_isClash 1 [.ref 19, .int (nI i)] M (some (.int (sl_bi (sl_cl (s i))))) M := by
  obtain ⟨a19, a20, a21, a22⟩ := h
  refine sl_T.of_V (lv := [_, _]) (by decide) rfl (Nat.le_of_ble_eq_true rfl) ?_
  refine slv_aload_n eX10_isClash_0 rfl ?_
  refine slv_getf eX10_isClash_1 fX10_18 (by repeat (first | assumption | exact sl_up_eq | refine sl_up_ne (by first | decide | omega) ?_)) rfl ?_
  refine slv_iload_n eX10_isClash_4 rfl ?_
  refine slv_ialdN eX10_isClash_5 (by repeat (first | assumption | exact sl_up_eq | refine sl_up_ne (by first | decide | omega) ?_)) (by omega) (by decide) ?_
  refine slv_rS (As := [_]) eX10_isClash_6 lX10_85 rfl rfl (c_bitCount M _) (by decide) (Nat.le_of_ble_eq_true rfl) ?_
  refine slv_iconst (v := nI 1) eX10_isClash_9 (by decide) ?_
  refine slv_icmp_le eX10_isClash_10 (fun h10 => ?_) (fun h10 => ?_)
  · refine slv_iconst (v := nI 0) eX10_isClash_17 (by decide) ?_
    refine slv_zret eX10_isClash_18 rfl rfl ?_
    exact ⟨by first | (rw [sl_cl, decide_eq_true h10]; rfl) | (rw [sl_cl, decide_eq_false h10]; rfl), rfl⟩
  · refine slv_iconst (v := nI 1) eX10_isClash_13 (by decide) ?_
    refine slv_goto eX10_isClash_14 ?_
    refine slv_zret eX10_isClash_18 rfl rfl ?_
    exact ⟨by first | (rw [sl_cl, decide_eq_true h10]; rfl) | (rw [sl_cl, decide_eq_false h10]; rfl), rfl⟩
set_option maxRecDepth 100000 in
theorem c_X10_clashCount {e : Nat} {l t s : Nat → Int32} {M : sl_M} (h : rl_at e l t s M) : sl_R YX10_clashCount 2 [.ref 19] M (some (.int (nI (sl_ct (fun i => sl_cl (s i)) 144 0)))) M := by
  have h' := h
  obtain ⟨a19, a20, a21, a22⟩ := h
  refine sl_T.of_V (lv := [_, _, _]) (by decide) rfl (Nat.le_of_ble_eq_true rfl) ?_
  have loop : ∀ n i a : Nat, i + n = 144 → ∀ Q : Option Value → sl_M → Prop, Q (some (.int (nI (a + sl_ct (fun i => sl_cl (s i)) n i)))) M → sl_V YX10_clashCount none 2 0 0 Q 4 [some (.ref 19), some (.int (nI a)), some (.int (nI i))] [] M := by
    intro n
    induction n with
    | zero =>
      intro i a hi Q hQ
      refine slv_iload_n eX10_clashCount_4 rfl ?_
      refine slv_sipush (v := nI 144) eX10_clashCount_5 (by decide) ?_
      refine slv_icmp_geN eX10_clashCount_8 (by omega) (by omega) (fun h8 => ?_) (fun h8 => absurd h8 (by omega))
      refine slv_iload_n eX10_clashCount_28 rfl ?_
      refine slv_iret eX10_clashCount_29 rfl ?_
      exact hQ
    | succ n ih =>
      intro i a hi Q hQ
      refine slv_iload_n eX10_clashCount_4 rfl ?_
      refine slv_sipush (v := nI 144) eX10_clashCount_5 (by decide) ?_
      refine slv_icmp_geN eX10_clashCount_8 (by omega) (by omega) (fun h8 => absurd h8 (by omega)) (fun h8 => ?_)
      refine slv_aload_n eX10_clashCount_11 rfl ?_
      refine slv_iload_n eX10_clashCount_12 rfl ?_
      refine slv_rV (As := [_]) eX10_clashCount_13 lX10_91 rfl rfl (by repeat (first | assumption | exact sl_up_eq | refine sl_up_ne (by first | decide | omega) ?_)) rfl (c_X10_isClash h' (by omega)) (by decide) (Nat.le_of_ble_eq_true rfl) ?_
      refine slv_if_eqB eX10_clashCount_16 (fun h16 => ?_) (fun h16 => ?_)
      · refine slv_iincN (lv' := [_, _, _]) eX10_clashCount_22 rfl (by decide) rfl ?_
        refine slv_goto eX10_clashCount_25 ?_
        refine ih (i + 1) _ (by omega) Q ?_
        simp only [sl_ct, h16, cond_true, cond_false] at hQ
        first | (rw [Nat.zero_add] at hQ; exact hQ) | (rw [← Nat.add_assoc] at hQ; exact hQ)
      · refine slv_iincN (lv' := [_, _, _]) eX10_clashCount_19 rfl (by decide) rfl ?_
        refine slv_iincN (lv' := [_, _, _]) eX10_clashCount_22 rfl (by decide) rfl ?_
        refine slv_goto eX10_clashCount_25 ?_
        refine ih (i + 1) _ (by omega) Q ?_
        simp only [sl_ct, h16, cond_true, cond_false] at hQ
        first | (rw [Nat.zero_add] at hQ; exact hQ) | (rw [← Nat.add_assoc] at hQ; exact hQ)
  refine slv_iconst (v := nI 0) eX10_clashCount_0 (by decide) ?_
  refine slv_istore_n (i := 1) (lv' := [_, _, _]) eX10_clashCount_1 rfl (by decide) rfl ?_
  refine slv_iconst (v := nI 0) eX10_clashCount_2 (by decide) ?_
  refine slv_istore_n (i := 2) (lv' := [_, _, _]) eX10_clashCount_3 rfl (by decide) rfl ?_
  refine loop 144 0 0 (by omega) _ ⟨by rw [Nat.zero_add], rfl⟩
/-- clash number k from place i on -/
def rl_clk (s : Nat → Int32) : Nat → Nat → Nat → Int32
  | 0, _, _ => -1
  | n + 1, i, k => cond (sl_cl (s i)) (cond (decide (k = 0)) (nI (i / 12 * 16 + i % 12)) (rl_clk s n (i + 1) (k - 1))) (rl_clk s n (i + 1) k)
theorem nI_div {a b : Nat} (ha : a < 2147483648) (hb : b < 2147483648) : nI a / nI b = nI (a / b) := by
  have h1 := nI_toInt (n := a) ha
  have h2 := nI_toInt (n := b) hb
  have h3 := nI_toInt (n := a / b) (Nat.lt_of_le_of_lt (Nat.div_le_self a b) ha)
  apply Int32.toInt_inj.mp
  rw [Int32.toInt_div_of_ne_left, h1, h2, h3]
  · exact (Int.ofNat_tdiv a b).symm
  · intro h
    have := congrArg Int32.toInt h
    rw [h1] at this
    have h4 : Int32.toInt Int32.minValue = -2147483648 := by decide
    omega
set_option maxRecDepth 100000 in
theorem c_X10_clashAt {e : Nat} {l t s : Nat → Int32} {M : sl_M} (h : rl_at e l t s M) {k : Nat} (hk : k < 2147483648) : sl_R YX10_clashAt 2 [.ref 19, .int (nI k)] M (some (.int (rl_clk s 144 0 k))) M := by
  have h' := h
  obtain ⟨a19, a20, a21, a22⟩ := h
  refine sl_T.of_V (lv := [_, _, _, _]) (by decide) rfl (Nat.le_of_ble_eq_true rfl) ?_
  have loop : ∀ n i a : Nat, i + n = 144 → a < 2147483648 → ∀ Q : Option Value → sl_M → Prop, Q (some (.int (rl_clk s n i a))) M → sl_V YX10_clashAt none 2 0 0 Q 4 [some (.ref 19), some (.int (nI k)), some (.int (nI a)), some (.int (nI i))] [] M := by
    intro n
    induction n with
    | zero =>
      intro i a hi ha Q hQ
      refine slv_iload_n eX10_clashAt_4 rfl ?_
      refine slv_sipush (v := nI 144) eX10_clashAt_5 (by decide) ?_
      refine slv_icmp_geN eX10_clashAt_8 (by omega) (by omega) (fun h8 => ?_) (fun h8 => absurd h8 (by omega))
      refine slv_iconst (v := (-1)) eX10_clashAt_45 (by decide) ?_
      refine slv_iret eX10_clashAt_46 rfl ?_
      exact hQ
    | succ n ih =>
      intro i a hi ha Q hQ
      have e1 : nI i / nI 12 * nI 16 + (nI i - nI i / nI 12 * nI 12) = nI (i / 12 * 16 + i % 12) := by
        rw [nI_div (by omega) (by decide), nI_mul, nI_mul, nI_sub (by omega), nI_add']
        congr 1; omega
      refine slv_iload_n eX10_clashAt_4 rfl ?_
      refine slv_sipush (v := nI 144) eX10_clashAt_5 (by decide) ?_
      refine slv_icmp_geN eX10_clashAt_8 (by omega) (by omega) (fun h8 => absurd h8 (by omega)) (fun h8 => ?_)
      refine slv_aload_n eX10_clashAt_11 rfl ?_
      refine slv_iload_n eX10_clashAt_12 rfl ?_
      refine slv_rV (As := [_]) eX10_clashAt_13 lX10_91 rfl rfl (by repeat (first | assumption | exact sl_up_eq | refine sl_up_ne (by first | decide | omega) ?_)) rfl (c_X10_isClash h' (by omega)) (by decide) (Nat.le_of_ble_eq_true rfl) ?_
      refine slv_if_eqB eX10_clashAt_16 (fun h16 => ?_) (fun h16 => ?_)
      · refine slv_iincN (lv' := [_, _, _, _]) eX10_clashAt_39 rfl (by decide) rfl ?_
        refine slv_goto eX10_clashAt_42 ?_
        refine ih (i + 1) _ (by omega) (by omega) Q ?_
        first | (simp only [rl_clk, h16, cond_false] at hQ; exact hQ) | (simp only [rl_clk, h16, cond_true, decide_eq_false h20, cond_false] at hQ; exact hQ)
      · refine slv_iload_n eX10_clashAt_19 rfl ?_
        refine slv_if_neN eX10_clashAt_20 (by omega) (fun h20 => ?_) (fun h20 => ?_)
        · refine slv_idecN (lv' := [_, _, _, _]) eX10_clashAt_36 rfl (by decide) (by omega) rfl ?_
          refine slv_iincN (lv' := [_, _, _, _]) eX10_clashAt_39 rfl (by decide) rfl ?_
          refine slv_goto eX10_clashAt_42 ?_
          refine ih (i + 1) _ (by omega) (by omega) Q ?_
          first | (simp only [rl_clk, h16, cond_false] at hQ; exact hQ) | (simp only [rl_clk, h16, cond_true, decide_eq_false h20, cond_false] at hQ; exact hQ)
        · refine slv_iload_n eX10_clashAt_23 rfl ?_
          refine slv_bipush (v := nI 12) eX10_clashAt_24 (by decide) ?_
          refine slv_idiv eX10_clashAt_26 (by decide) ?_
          refine slv_bipush (v := nI 16) eX10_clashAt_27 (by decide) ?_
          refine slv_imul eX10_clashAt_29 ?_
          refine slv_iload_n eX10_clashAt_30 rfl ?_
          refine slv_bipush (v := nI 12) eX10_clashAt_31 (by decide) ?_
          refine slv_irem eX10_clashAt_33 (by decide) ?_
          refine slv_iadd eX10_clashAt_34 ?_
          refine slv_iret eX10_clashAt_35 rfl ?_
          simp only [rl_clk, h16, cond_true, decide_eq_true h20] at hQ
          rw [e1]
          exact hQ
  refine slv_iload_n eX10_clashAt_0 rfl ?_
  refine slv_istore_n (i := 2) (lv' := [_, _, _, _]) eX10_clashAt_1 rfl (by decide) rfl ?_
  refine slv_iconst (v := nI 0) eX10_clashAt_2 (by decide) ?_
  refine slv_istore_n (i := 3) (lv' := [_, _, _, _]) eX10_clashAt_3 rfl (by decide) rfl ?_
  exact loop 144 0 k (by omega) hk _ ⟨rfl, rfl⟩

/-! what the floats' part must answer -/
def rr_neg (a : Int32) : Int32 := if isNaN32 a.toUInt32 = true then 2143289344 else a ^^^ (-2147483648)
def rr_ten (p : Nat) : UInt32 := if p = 1 then 1092616192 else if p = 2 then 1120403456 else 1148846080
def rr_all : Prop :=
  (∀ (M : sl_M) (a : Int32), sl_R YX8_negated 1 [.int a] M (some (.int (rr_neg a))) M) ∧
  (∀ (M : sl_M) (a b : Int32), sl_R YX8_sum 1 [.int a, .int b] M (some (.int (FP.fadd a.toUInt32 b.toUInt32).toInt32)) M) ∧
  (∀ (M : sl_M) (a b : Int32), sl_R YX8_product 1 [.int a, .int b] M (some (.int (FP.fmul a.toUInt32 b.toUInt32).toInt32)) M) ∧
  (∀ (M : sl_M) (a b : Int32), sl_R YX8_quotient 1 [.int a, .int b] M (some (.int (FP.fdiv a.toUInt32 b.toUInt32).toInt32)) M) ∧
  (∀ (M : sl_M) (a : Int32), sl_R YX8_toWhole 1 [.int a] M (some (.int (FP.f2i a.toUInt32))) M) ∧
  (∀ (M : sl_M) (a : Int32), sl_R YX8_ofWhole 1 [.int a] M (some (.int (FP.i2f a).toInt32)) M) ∧
  (∀ (M : sl_M) (d p : Nat), d < 10000000 → 1 ≤ p → p ≤ 3 → sl_R YX8_ofDigits 1 [.int (nI d), .int (nI p)] M (some (.int (FP.fdiv (FP.i2f (nI d)) (rr_ten p)).toInt32)) M) ∧
  (∀ (M : sl_M) (a : Int32), sl_R YX8_thirdOfWhole 1 [.int a] M (some (.long (FP.ddiv (FP.i2d a) 4613937818241073152).toInt64)) M) ∧
  (∀ (M : sl_M) (a : Int32), sl_R YX8_thirdOfReal 1 [.int a] M (some (.long (FP.ddiv (FP.f2d a.toUInt32) 4613937818241073152).toInt64)) M)
section RCK
variable {b : Nat} {r : Bool} {i : Int32} {M : sl_M}
set_option maxRecDepth 100000 in
theorem c_X9_set (h : rc_at b r i M) (x : Bool) (v : Int32) : sl_R YX9_set 0 [.ref b, .int (sl_bi x), .int v] M none (rc_set b x v M) := by
  refine sl_T.of_V (lv := [_, _, _]) (by decide) rfl (Nat.le_of_ble_eq_true rfl) ?_
  refine slv_mem (rc_self h).symm ?_
  refine slv_aload_n eX9_set_0 rfl ?_
  refine slv_iload_n eX9_set_1 rfl ?_
  refine slv_putf (fs' := [_, _]) eX9_set_2 fX9_9 (by repeat (first | assumption | exact sl_up_eq | refine sl_up_ne (by first | decide | omega) ?_)) (Nat.le_of_ble_eq_true rfl) (sl_bi_nar x) (sl_bi_fit x) rfl ?_
  refine slv_mem (rc_u0 (r' := x) (i' := i)) ?_
  refine slv_aload_n eX9_set_5 rfl ?_
  refine slv_iload_n eX9_set_6 rfl ?_
  refine slv_putf (fs' := [_, _]) eX9_set_7 fX9_15 (by repeat (first | assumption | exact sl_up_eq | refine sl_up_ne (by first | decide | omega) ?_)) (Nat.le_of_ble_eq_true rfl) rfl rfl rfl ?_
  refine slv_mem rc_u0 ?_
  refine slv_vret eX9_set_10 rfl ?_
  exact ⟨rfl, rfl⟩
def rr_ob (d : Nat) (x : Bool) : Bool := if d = 6 then false else if d = 7 then true else x
def rr_o1 (d : Nat) (x : Bool) (a : Int32) : Int32 := if d = 4 then (cond x (rr_neg a) (-a)) else if d = 6 then (cond x (FP.f2i a.toUInt32) a) else if d = 7 then (cond x a (FP.i2f a).toInt32) else a
set_option maxRecDepth 100000 in
theorem c_X9_changeOne (hR : rr_all) (h : rc_at b r i M) {d : Nat} (hd : d < 9) (x : Bool) (a : Int32) : sl_R YX9_changeOne 2 [.ref b, .int (nI d), .int (sl_bi x), .int a] M none (rc_set b (rr_ob d x) (rr_o1 d x a) M) := by
  obtain ⟨r1, r2, r3, r4, r5, r6, r7, r8, r9⟩ := hR
  have h0 := h
  refine sl_T.of_V (lv := [_, _, _, _]) (by decide) rfl (Nat.le_of_ble_eq_true rfl) ?_
  have sf : ∀ (M : sl_M) (v : Int32), rc_at b r i M → sl_R YX9_set 0 [.ref b, .int (nI 0), .int v] M none (rc_set b false v M) := fun M v h => c_X9_set h false v
  have st : ∀ (M : sl_M) (v : Int32), rc_at b r i M → sl_R YX9_set 0 [.ref b, .int (nI 1), .int v] M none (rc_set b true v M) := fun M v h => c_X9_set h true v
  have h1 : M b = _ := h
  refine slv_iload_n eX9_changeOne_0 rfl ?_
  refine slv_iconst (v := nI 4) eX9_changeOne_1 (by decide) ?_
  refine slv_icmp_neN eX9_changeOne_2 (by omega) (by omega) (fun h2 => ?_) (fun h2 => ?_)
  · refine slv_iload_n eX9_changeOne_26 rfl ?_
    refine slv_bipush (v := nI 6) eX9_changeOne_27 (by decide) ?_
    refine slv_icmp_neN eX9_changeOne_29 (by omega) (by omega) (fun h29 => ?_) (fun h29 => ?_)
    · refine slv_iload_n eX9_changeOne_52 rfl ?_
      refine slv_bipush (v := nI 7) eX9_changeOne_53 (by decide) ?_
      refine slv_icmp_neN eX9_changeOne_55 (by omega) (by omega) (fun h55 => ?_) (fun h55 => ?_)
      · refine slv_aload_n eX9_changeOne_78 rfl ?_
        refine slv_iload_n eX9_changeOne_79 rfl ?_
        refine slv_iload_n eX9_changeOne_80 rfl ?_
        refine slv_rV (As := [_, _]) eX9_changeOne_81 lX9_25 rfl rfl (by repeat (first | assumption | exact sl_up_eq | refine sl_up_ne (by first | decide | omega) ?_)) rfl (c_X9_set h0 x _) (by decide) (Nat.le_of_ble_eq_true rfl) ?_
        refine slv_vret eX9_changeOne_84 rfl ?_
        refine ⟨rfl, ?_⟩
        first | (have z : d = 4 := h2; subst z; rw [show x = _ from h8]; rfl) | (have z : d = 6 := h29; subst z; rw [show x = _ from h35]; rfl) | (have z : d = 7 := h55; subst z; rw [show x = _ from h61]; rfl) | (rw [rr_ob, rr_o1, if_neg h29, if_neg h55, if_neg h2, if_neg h29, if_neg h55])
      · refine slv_aload_n eX9_changeOne_58 rfl ?_
        refine slv_iconst (v := nI 1) eX9_changeOne_59 (by decide) ?_
        refine slv_iload_n eX9_changeOne_60 rfl ?_
        refine slv_if_eqB eX9_changeOne_61 (fun h61 => ?_) (fun h61 => ?_)
        · refine slv_iload_n eX9_changeOne_68 rfl ?_
          refine slv_rS (As := [_]) eX9_changeOne_69 lX9_32 rfl rfl (r6 M a) (by decide) (Nat.le_of_ble_eq_true rfl) ?_
          refine slv_rV (As := [_, _]) eX9_changeOne_72 lX9_25 rfl rfl (by repeat (first | assumption | exact sl_up_eq | refine sl_up_ne (by first | decide | omega) ?_)) rfl (st M _ h0) (by decide) (Nat.le_of_ble_eq_true rfl) ?_
          refine slv_goto eX9_changeOne_75 ?_
          refine slv_vret eX9_changeOne_84 rfl ?_
          refine ⟨rfl, ?_⟩
          first | (have z : d = 4 := h2; subst z; rw [show x = _ from h8]; rfl) | (have z : d = 6 := h29; subst z; rw [show x = _ from h35]; rfl) | (have z : d = 7 := h55; subst z; rw [show x = _ from h61]; rfl) | (rw [rr_ob, rr_o1, if_neg h29, if_neg h55, if_neg h2, if_neg h29, if_neg h55])
        · refine slv_iload_n eX9_changeOne_64 rfl ?_
          refine slv_goto eX9_changeOne_65 ?_
          refine slv_rV (As := [_, _]) eX9_changeOne_72 lX9_25 rfl rfl (by repeat (first | assumption | exact sl_up_eq | refine sl_up_ne (by first | decide | omega) ?_)) rfl (st M _ h0) (by decide) (Nat.le_of_ble_eq_true rfl) ?_
          refine slv_goto eX9_changeOne_75 ?_
          refine slv_vret eX9_changeOne_84 rfl ?_
          refine ⟨rfl, ?_⟩
          first | (have z : d = 4 := h2; subst z; rw [show x = _ from h8]; rfl) | (have z : d = 6 := h29; subst z; rw [show x = _ from h35]; rfl) | (have z : d = 7 := h55; subst z; rw [show x = _ from h61]; rfl) | (rw [rr_ob, rr_o1, if_neg h29, if_neg h55, if_neg h2, if_neg h29, if_neg h55])
    · refine slv_aload_n eX9_changeOne_32 rfl ?_
      refine slv_iconst (v := nI 0) eX9_changeOne_33 (by decide) ?_
      refine slv_iload_n eX9_changeOne_34 rfl ?_
      refine slv_if_eqB eX9_changeOne_35 (fun h35 => ?_) (fun h35 => ?_)
      · refine slv_iload_n eX9_changeOne_45 rfl ?_
        refine slv_rV (As := [_, _]) eX9_changeOne_46 lX9_25 rfl rfl (by repeat (first | assumption | exact sl_up_eq | refine sl_up_ne (by first | decide | omega) ?_)) rfl (sf M _ h0) (by decide) (Nat.le_of_ble_eq_true rfl) ?_
        refine slv_goto eX9_changeOne_49 ?_
        refine slv_vret eX9_changeOne_84 rfl ?_
        refine ⟨rfl, ?_⟩
        first | (have z : d = 4 := h2; subst z; rw [show x = _ from h8]; rfl) | (have z : d = 6 := h29; subst z; rw [show x = _ from h35]; rfl) | (have z : d = 7 := h55; subst z; rw [show x = _ from h61]; rfl) | (rw [rr_ob, rr_o1, if_neg h29, if_neg h55, if_neg h2, if_neg h29, if_neg h55])
      · refine slv_iload_n eX9_changeOne_38 rfl ?_
        refine slv_rS (As := [_]) eX9_changeOne_39 lX9_29 rfl rfl (r5 M a) (by decide) (Nat.le_of_ble_eq_true rfl) ?_
        refine slv_goto eX9_changeOne_42 ?_
        refine slv_rV (As := [_, _]) eX9_changeOne_46 lX9_25 rfl rfl (by repeat (first | assumption | exact sl_up_eq | refine sl_up_ne (by first | decide | omega) ?_)) rfl (sf M _ h0) (by decide) (Nat.le_of_ble_eq_true rfl) ?_
        refine slv_goto eX9_changeOne_49 ?_
        refine slv_vret eX9_changeOne_84 rfl ?_
        refine ⟨rfl, ?_⟩
        first | (have z : d = 4 := h2; subst z; rw [show x = _ from h8]; rfl) | (have z : d = 6 := h29; subst z; rw [show x = _ from h35]; rfl) | (have z : d = 7 := h55; subst z; rw [show x = _ from h61]; rfl) | (rw [rr_ob, rr_o1, if_neg h29, if_neg h55, if_neg h2, if_neg h29, if_neg h55])
  · refine slv_aload_n eX9_changeOne_5 rfl ?_
    refine slv_iload_n eX9_changeOne_6 rfl ?_
    refine slv_iload_n eX9_changeOne_7 rfl ?_
    refine slv_if_eqB eX9_changeOne_8 (fun h8 => ?_) (fun h8 => ?_)
    · refine slv_iload_n eX9_changeOne_18 rfl ?_
      refine slv_ineg eX9_changeOne_19 ?_
      refine slv_rV (As := [_, _]) eX9_changeOne_20 lX9_25 rfl rfl (by repeat (first | assumption | exact sl_up_eq | refine sl_up_ne (by first | decide | omega) ?_)) rfl (c_X9_set h0 x _) (by decide) (Nat.le_of_ble_eq_true rfl) ?_
      refine slv_goto eX9_changeOne_23 ?_
      refine slv_vret eX9_changeOne_84 rfl ?_
      refine ⟨rfl, ?_⟩
      first | (have z : d = 4 := h2; subst z; rw [show x = _ from h8]; rfl) | (have z : d = 6 := h29; subst z; rw [show x = _ from h35]; rfl) | (have z : d = 7 := h55; subst z; rw [show x = _ from h61]; rfl) | (rw [rr_ob, rr_o1, if_neg h29, if_neg h55, if_neg h2, if_neg h29, if_neg h55])
    · refine slv_iload_n eX9_changeOne_11 rfl ?_
      refine slv_rS (As := [_]) eX9_changeOne_12 lX9_19 rfl rfl (r1 M a) (by decide) (Nat.le_of_ble_eq_true rfl) ?_
      refine slv_goto eX9_changeOne_15 ?_
      refine slv_rV (As := [_, _]) eX9_changeOne_20 lX9_25 rfl rfl (by repeat (first | assumption | exact sl_up_eq | refine sl_up_ne (by first | decide | omega) ?_)) rfl (c_X9_set h0 x _) (by decide) (Nat.le_of_ble_eq_true rfl) ?_
      refine slv_goto eX9_changeOne_23 ?_
      refine slv_vret eX9_changeOne_84 rfl ?_
      refine ⟨rfl, ?_⟩
      first | (have z : d = 4 := h2; subst z; rw [show x = _ from h8]; rfl) | (have z : d = 6 := h29; subst z; rw [show x = _ from h35]; rfl) | (have z : d = 7 := h55; subst z; rw [show x = _ from h61]; rfl) | (rw [rr_ob, rr_o1, if_neg h29, if_neg h55, if_neg h2, if_neg h29, if_neg h55])
def rr_w (d : Nat) (a c : Int32) : Int32 := if d = 0 then a + c else if d = 1 then a - c else if d = 2 then a * c else if c = 0 then nI 0 else a / c
set_option maxRecDepth 100000 in
theorem c_X9_joinWholes (h : rc_at b r i M) {d : Nat} (hd : d < 9) (a c : Int32) : sl_R YX9_joinWholes 1 [.ref b, .int (nI d), .int a, .int c] M none (rc_set b false (rr_w d a c) M) := by
  have h0 := h
  refine sl_T.of_V (lv := [_, _, _, _]) (by decide) rfl (Nat.le_of_ble_eq_true rfl) ?_
  have sf : ∀ (M : sl_M) (v : Int32), rc_at b r i M → sl_R YX9_set 0 [.ref b, .int (nI 0), .int v] M none (rc_set b false v M) := fun M v h => c_X9_set h false v
  have h1 : M b = _ := h
  refine slv_iload_n eX9_joinWholes_0 rfl ?_
  refine slv_if_neN eX9_joinWholes_1 (by omega) (fun h1 => ?_) (fun h1 => ?_)
  · refine slv_iload_n eX9_joinWholes_15 rfl ?_
    refine slv_iconst (v := nI 1) eX9_joinWholes_16 (by decide) ?_
    refine slv_icmp_neN eX9_joinWholes_17 (by omega) (by omega) (fun h17 => ?_) (fun h17 => ?_)
    · refine slv_iload_n eX9_joinWholes_31 rfl ?_
      refine slv_iconst (v := nI 2) eX9_joinWholes_32 (by decide) ?_
      refine slv_icmp_neN eX9_joinWholes_33 (by omega) (by omega) (fun h33 => ?_) (fun h33 => ?_)
      · refine slv_aload_n eX9_joinWholes_47 rfl ?_
        refine slv_iconst (v := nI 0) eX9_joinWholes_48 (by decide) ?_
        refine slv_iload_n eX9_joinWholes_49 rfl ?_
        refine slv_if_ne eX9_joinWholes_50 (fun h50 => ?_) (fun h50 => ?_)
        · refine slv_iload_n eX9_joinWholes_57 rfl ?_
          refine slv_iload_n eX9_joinWholes_58 rfl ?_
          refine slv_idiv eX9_joinWholes_59 h50 ?_
          refine slv_rV (As := [_, _]) eX9_joinWholes_60 lX9_25 rfl rfl (by repeat (first | assumption | exact sl_up_eq | refine sl_up_ne (by first | decide | omega) ?_)) rfl (sf M _ h0) (by decide) (Nat.le_of_ble_eq_true rfl) ?_
          refine slv_vret eX9_joinWholes_63 rfl ?_
          refine ⟨rfl, ?_⟩
          first | (have z : d = 0 := h1; subst z; rfl) | (have z : d = 1 := h17; subst z; rfl) | (have z : d = 2 := h33; subst z; rfl) | (have z : c = 0 := h50; rw [rr_w, if_neg h1, if_neg h17, if_neg h33, if_pos z]) | (rw [rr_w, if_neg h1, if_neg h17, if_neg h33, if_neg h50])
        · refine slv_iconst (v := nI 0) eX9_joinWholes_53 (by decide) ?_
          refine slv_goto eX9_joinWholes_54 ?_
          refine slv_rV (As := [_, _]) eX9_joinWholes_60 lX9_25 rfl rfl (by repeat (first | assumption | exact sl_up_eq | refine sl_up_ne (by first | decide | omega) ?_)) rfl (sf M _ h0) (by decide) (Nat.le_of_ble_eq_true rfl) ?_
          refine slv_vret eX9_joinWholes_63 rfl ?_
          refine ⟨rfl, ?_⟩
          first | (have z : d = 0 := h1; subst z; rfl) | (have z : d = 1 := h17; subst z; rfl) | (have z : d = 2 := h33; subst z; rfl) | (have z : c = 0 := h50; rw [rr_w, if_neg h1, if_neg h17, if_neg h33, if_pos z]) | (rw [rr_w, if_neg h1, if_neg h17, if_neg h33, if_neg h50])
      · refine slv_aload_n eX9_joinWholes_36 rfl ?_
        refine slv_iconst (v := nI 0) eX9_joinWholes_37 (by decide) ?_
        refine slv_iload_n eX9_joinWholes_38 rfl ?_
        refine slv_iload_n eX9_joinWholes_39 rfl ?_
        refine slv_imul eX9_joinWholes_40 ?_
        refine slv_rV (As := [_, _]) eX9_joinWholes_41 lX9_25 rfl rfl (by repeat (first | assumption | exact sl_up_eq | refine sl_up_ne (by first | decide | omega) ?_)) rfl (sf M _ h0) (by decide) (Nat.le_of_ble_eq_true rfl) ?_
        refine slv_goto eX9_joinWholes_44 ?_
        refine slv_vret eX9_joinWholes_63 rfl ?_
        refine ⟨rfl, ?_⟩
        first | (have z : d = 0 := h1; subst z; rfl) | (have z : d = 1 := h17; subst z; rfl) | (have z : d = 2 := h33; subst z; rfl) | (have z : c = 0 := h50; rw [rr_w, if_neg h1, if_neg h17, if_neg h33, if_pos z]) | (rw [rr_w, if_neg h1, if_neg h17, if_neg h33, if_neg h50])
    · refine slv_aload_n eX9_joinWholes_20 rfl ?_
      refine slv_iconst (v := nI 0) eX9_joinWholes_21 (by decide) ?_
      refine slv_iload_n eX9_joinWholes_22 rfl ?_
      refine slv_iload_n eX9_joinWholes_23 rfl ?_
      refine slv_isub eX9_joinWholes_24 ?_
      refine slv_rV (As := [_, _]) eX9_joinWholes_25 lX9_25 rfl rfl (by repeat (first | assumption | exact sl_up_eq | refine sl_up_ne (by first | decide | omega) ?_)) rfl (sf M _ h0) (by decide) (Nat.le_of_ble_eq_true rfl) ?_
      refine slv_goto eX9_joinWholes_28 ?_
      refine slv_vret eX9_joinWholes_63 rfl ?_
      refine ⟨rfl, ?_⟩
      first | (have z : d = 0 := h1; subst z; rfl) | (have z : d = 1 := h17; subst z; rfl) | (have z : d = 2 := h33; subst z; rfl) | (have z : c = 0 := h50; rw [rr_w, if_neg h1, if_neg h17, if_neg h33, if_pos z]) | (rw [rr_w, if_neg h1, if_neg h17, if_neg h33, if_neg h50])
  · refine slv_aload_n eX9_joinWholes_4 rfl ?_
    refine slv_iconst (v := nI 0) eX9_joinWholes_5 (by decide) ?_
    refine slv_iload_n eX9_joinWholes_6 rfl ?_
    refine slv_iload_n eX9_joinWholes_7 rfl ?_
    refine slv_iadd eX9_joinWholes_8 ?_
    refine slv_rV (As := [_, _]) eX9_joinWholes_9 lX9_25 rfl rfl (by repeat (first | assumption | exact sl_up_eq | refine sl_up_ne (by first | decide | omega) ?_)) rfl (sf M _ h0) (by decide) (Nat.le_of_ble_eq_true rfl) ?_
    refine slv_goto eX9_joinWholes_12 ?_
    refine slv_vret eX9_joinWholes_63 rfl ?_
    refine ⟨rfl, ?_⟩
    first | (have z : d = 0 := h1; subst z; rfl) | (have z : d = 1 := h17; subst z; rfl) | (have z : d = 2 := h33; subst z; rfl) | (have z : c = 0 := h50; rw [rr_w, if_neg h1, if_neg h17, if_neg h33, if_pos z]) | (rw [rr_w, if_neg h1, if_neg h17, if_neg h33, if_neg h50])
def rr_r (d : Nat) (a c : Int32) : Int32 := if d = 0 then (FP.fadd a.toUInt32 c.toUInt32).toInt32 else if d = 1 then (FP.fadd a.toUInt32 (rr_neg c).toUInt32).toInt32 else if d = 2 then (FP.fmul a.toUInt32 c.toUInt32).toInt32 else (FP.fdiv a.toUInt32 c.toUInt32).toInt32
set_option maxRecDepth 100000 in
theorem c_X9_joinReals (hR : rr_all) (h : rc_at b r i M) {d : Nat} (hd : d < 9) (a c : Int32) : sl_R YX9_joinReals 2 [.ref b, .int (nI d), .int a, .int c] M none (rc_set b true (rr_r d a c) M) := by
  obtain ⟨r1, r2, r3, r4, r5, r6, r7, r8, r9⟩ := hR
  have h0 := h
  refine sl_T.of_V (lv := [_, _, _, _]) (by decide) rfl (Nat.le_of_ble_eq_true rfl) ?_
  have st : ∀ (M : sl_M) (v : Int32), rc_at b r i M → sl_R YX9_set 0 [.ref b, .int (nI 1), .int v] M none (rc_set b true v M) := fun M v h => c_X9_set h true v
  have h1 : M b = _ := h
  refine slv_iload_n eX9_joinReals_0 rfl ?_
  refine slv_if_neN eX9_joinReals_1 (by omega) (fun h1 => ?_) (fun h1 => ?_)
  · refine slv_iload_n eX9_joinReals_17 rfl ?_
    refine slv_iconst (v := nI 1) eX9_joinReals_18 (by decide) ?_
    refine slv_icmp_neN eX9_joinReals_19 (by omega) (by omega) (fun h19 => ?_) (fun h19 => ?_)
    · refine slv_iload_n eX9_joinReals_38 rfl ?_
      refine slv_iconst (v := nI 2) eX9_joinReals_39 (by decide) ?_
      refine slv_icmp_neN eX9_joinReals_40 (by omega) (by omega) (fun h40 => ?_) (fun h40 => ?_)
      · refine slv_aload_n eX9_joinReals_56 rfl ?_
        refine slv_iconst (v := nI 1) eX9_joinReals_57 (by decide) ?_
        refine slv_iload_n eX9_joinReals_58 rfl ?_
        refine slv_iload_n eX9_joinReals_59 rfl ?_
        refine slv_rS (As := [_, _]) eX9_joinReals_60 lX9_42 rfl rfl (r4 M _ _) (by decide) (Nat.le_of_ble_eq_true rfl) ?_
        refine slv_rV (As := [_, _]) eX9_joinReals_63 lX9_25 rfl rfl (by repeat (first | assumption | exact sl_up_eq | refine sl_up_ne (by first | decide | omega) ?_)) rfl (st M _ h0) (by decide) (Nat.le_of_ble_eq_true rfl) ?_
        refine slv_vret eX9_joinReals_66 rfl ?_
        refine ⟨rfl, ?_⟩
        first | (have z : d = 0 := h1; subst z; rfl) | (have z : d = 1 := h19; subst z; rfl) | (have z : d = 2 := h40; subst z; rfl) | (rw [rr_r, if_neg h1, if_neg h19, if_neg h40])
      · refine slv_aload_n eX9_joinReals_43 rfl ?_
        refine slv_iconst (v := nI 1) eX9_joinReals_44 (by decide) ?_
        refine slv_iload_n eX9_joinReals_45 rfl ?_
        refine slv_iload_n eX9_joinReals_46 rfl ?_
        refine slv_rS (As := [_, _]) eX9_joinReals_47 lX9_39 rfl rfl (r3 M _ _) (by decide) (Nat.le_of_ble_eq_true rfl) ?_
        refine slv_rV (As := [_, _]) eX9_joinReals_50 lX9_25 rfl rfl (by repeat (first | assumption | exact sl_up_eq | refine sl_up_ne (by first | decide | omega) ?_)) rfl (st M _ h0) (by decide) (Nat.le_of_ble_eq_true rfl) ?_
        refine slv_goto eX9_joinReals_53 ?_
        refine slv_vret eX9_joinReals_66 rfl ?_
        refine ⟨rfl, ?_⟩
        first | (have z : d = 0 := h1; subst z; rfl) | (have z : d = 1 := h19; subst z; rfl) | (have z : d = 2 := h40; subst z; rfl) | (rw [rr_r, if_neg h1, if_neg h19, if_neg h40])
    · refine slv_aload_n eX9_joinReals_22 rfl ?_
      refine slv_iconst (v := nI 1) eX9_joinReals_23 (by decide) ?_
      refine slv_iload_n eX9_joinReals_24 rfl ?_
      refine slv_iload_n eX9_joinReals_25 rfl ?_
      refine slv_rS (As := [_]) eX9_joinReals_26 lX9_19 rfl rfl (r1 M _) (by decide) (Nat.le_of_ble_eq_true rfl) ?_
      refine slv_rS (As := [_, _]) eX9_joinReals_29 lX9_35 rfl rfl (r2 M _ _) (by decide) (Nat.le_of_ble_eq_true rfl) ?_
      refine slv_rV (As := [_, _]) eX9_joinReals_32 lX9_25 rfl rfl (by repeat (first | assumption | exact sl_up_eq | refine sl_up_ne (by first | decide | omega) ?_)) rfl (st M _ h0) (by decide) (Nat.le_of_ble_eq_true rfl) ?_
      refine slv_goto eX9_joinReals_35 ?_
      refine slv_vret eX9_joinReals_66 rfl ?_
      refine ⟨rfl, ?_⟩
      first | (have z : d = 0 := h1; subst z; rfl) | (have z : d = 1 := h19; subst z; rfl) | (have z : d = 2 := h40; subst z; rfl) | (rw [rr_r, if_neg h1, if_neg h19, if_neg h40])
  · refine slv_aload_n eX9_joinReals_4 rfl ?_
    refine slv_iconst (v := nI 1) eX9_joinReals_5 (by decide) ?_
    refine slv_iload_n eX9_joinReals_6 rfl ?_
    refine slv_iload_n eX9_joinReals_7 rfl ?_
    refine slv_rS (As := [_, _]) eX9_joinReals_8 lX9_35 rfl rfl (r2 M _ _) (by decide) (Nat.le_of_ble_eq_true rfl) ?_
    refine slv_rV (As := [_, _]) eX9_joinReals_11 lX9_25 rfl rfl (by repeat (first | assumption | exact sl_up_eq | refine sl_up_ne (by first | decide | omega) ?_)) rfl (st M _ h0) (by decide) (Nat.le_of_ble_eq_true rfl) ?_
    refine slv_goto eX9_joinReals_14 ?_
    refine slv_vret eX9_joinReals_66 rfl ?_
    refine ⟨rfl, ?_⟩
    first | (have z : d = 0 := h1; subst z; rfl) | (have z : d = 1 := h19; subst z; rfl) | (have z : d = 2 := h40; subst z; rfl) | (rw [rr_r, if_neg h1, if_neg h19, if_neg h40])
end RCK
section ACT
variable {c : Nat} {o w : Nat → Int32} {M : sl_M}
set_option maxRecDepth 100000 in
theorem c_X0_clear (h : ac_at c o w M) : sl_R YX0_clear 0 [.ref 30] M none (ac_set 0 o w M) := by
  refine sl_T.of_V (lv := [_]) (by decide) rfl (Nat.le_of_ble_eq_true rfl) ?_
  refine slv_mem (ac_self h).symm ?_
  refine slv_aload_n eX0_clear_0 rfl ?_
  refine slv_iconst (v := nI 0) eX0_clear_1 (by decide) ?_
  refine slv_putf (fs' := [_, _, _]) eX0_clear_2 fX0_18 (by repeat (first | assumption | exact sl_up_eq | refine sl_up_ne (by first | decide | omega) ?_)) (Nat.le_of_ble_eq_true rfl) rfl rfl rfl ?_
  refine slv_mem (ac_u30 (c' := 0)) ?_
  refine slv_vret eX0_clear_5 rfl ?_
  exact ⟨rfl, rfl⟩
def ac_sh (f : Nat → Int32) : Nat → Int32 := va_cpy f f 1 0 9
def ac_kc (c : Nat) : Nat := if c < 10 then c + 1 else 10
def ac_kf (c : Nat) (f : Nat → Int32) (x : Int32) : Nat → Int32 := if c < 10 then sl_u f c x else sl_u (ac_sh f) 9 x
theorem ac_w1 : Cond.methodLink RX0 22 arraycopyName ∈ sl_g := sl_gt15 74 (by decide +kernel) rfl
theorem ac_w2 : Cond.native arraycopyName ∈ sl_g := sl_gt15 76 (by decide +kernel) rfl
theorem ac_w3 : Cond.static arraycopyName ∈ sl_g := sl_gt15 75 (by decide +kernel) rfl
theorem ac_w4 : Cond.initialized "java/lang/System" ∈ sl_g := sl_gt10 24 (by decide +kernel) rfl
set_option maxRecDepth 100000 in
theorem c_X0_keep (h : ac_at c o w M) (hc : c ≤ 10) (x y : Int32) : sl_R YX0_keep 1 [.ref 30, .int x, .int y] M none (ac_set (ac_kc c) (ac_kf c o x) (ac_kf c w y) M) := by
  refine sl_T.of_V (lv := [_, _, _]) (by decide) rfl (Nat.le_of_ble_eq_true rfl) ?_
  refine slv_mem (ac_self h).symm ?_
  have tail : ∀ (c : Nat) (o w : Nat → Int32) (Q : Option Value → sl_M → Prop), c < 10 → Q none (ac_set (c + 1) (sl_u o c x) (sl_u w c y) M) → sl_V YX0_keep none 1 0 0 Q 45 [some (.ref 30), some (.int x), some (.int y)] [] (ac_set c o w M) := by
    intro c o w Q hc hQ
    refine slv_aload_n eX0_keep_45 rfl ?_
    refine slv_getf eX0_keep_46 fX0_9 (by repeat (first | assumption | exact sl_up_eq | refine sl_up_ne (by first | decide | omega) ?_)) rfl ?_
    refine slv_aload_n eX0_keep_49 rfl ?_
    refine slv_getf eX0_keep_50 fX0_18 (by repeat (first | assumption | exact sl_up_eq | refine sl_up_ne (by first | decide | omega) ?_)) rfl ?_
    refine slv_iload_n eX0_keep_53 rfl ?_
    refine slv_iastI eX0_keep_54 (by repeat (first | assumption | exact sl_up_eq | refine sl_up_ne (by first | decide | omega) ?_)) (by omega) (by decide) ?_
    refine slv_mem ac_u31 ?_
    refine slv_aload_n eX0_keep_55 rfl ?_
    refine slv_getf eX0_keep_56 fX0_15 (by repeat (first | assumption | exact sl_up_eq | refine sl_up_ne (by first | decide | omega) ?_)) rfl ?_
    refine slv_aload_n eX0_keep_59 rfl ?_
    refine slv_getf eX0_keep_60 fX0_18 (by repeat (first | assumption | exact sl_up_eq | refine sl_up_ne (by first | decide | omega) ?_)) rfl ?_
    refine slv_iload_n eX0_keep_63 rfl ?_
    refine slv_iastI eX0_keep_64 (by repeat (first | assumption | exact sl_up_eq | refine sl_up_ne (by first | decide | omega) ?_)) (by omega) (by decide) ?_
    refine slv_mem ac_u32 ?_
    refine slv_aload_n eX0_keep_65 rfl ?_
    refine slv_dup eX0_keep_66 rfl ?_
    refine slv_getf eX0_keep_67 fX0_18 (by repeat (first | assumption | exact sl_up_eq | refine sl_up_ne (by first | decide | omega) ?_)) rfl ?_
    refine slv_iconst (v := nI 1) eX0_keep_70 (by decide) ?_
    refine slv_iaddN eX0_keep_71 ?_
    refine slv_putf (fs' := [_, _, _]) eX0_keep_72 fX0_18 (by repeat (first | assumption | exact sl_up_eq | refine sl_up_ne (by first | decide | omega) ?_)) (Nat.le_of_ble_eq_true rfl) rfl rfl rfl ?_
    refine slv_mem ac_u30 ?_
    refine slv_vret eX0_keep_75 rfl ?_
    exact hQ
  refine slv_aload_n eX0_keep_0 rfl ?_
  refine slv_getf eX0_keep_1 fX0_18 (by repeat (first | assumption | exact sl_up_eq | refine sl_up_ne (by first | decide | omega) ?_)) rfl ?_
  refine slv_bipush (v := nI 10) eX0_keep_4 (by decide) ?_
  refine slv_icmp_ltN eX0_keep_6 (by omega) (by omega) (fun h6 => ?_) (fun h6 => ?_)
  · refine tail _ _ _ _ (by omega) ?_
    exact ⟨rfl, by rw [ac_kc, ac_kf, ac_kf, if_pos h6, if_pos h6, if_pos h6]⟩
  · refine slv_aload_n eX0_keep_9 rfl ?_
    refine slv_getf eX0_keep_10 fX0_9 (by repeat (first | assumption | exact sl_up_eq | refine sl_up_ne (by first | decide | omega) ?_)) rfl ?_
    refine slv_iconst (v := nI 1) eX0_keep_13 (by decide) ?_
    refine slv_aload_n eX0_keep_14 rfl ?_
    refine slv_getf eX0_keep_15 fX0_9 (by repeat (first | assumption | exact sl_up_eq | refine sl_up_ne (by first | decide | omega) ?_)) rfl ?_
    refine slv_iconst (v := nI 0) eX0_keep_18 (by decide) ?_
    refine slv_bipush (v := nI 9) eX0_keep_19 (by decide) ?_
    refine slv_copyi eX0_keep_21 ac_w1 ac_w2 ac_w3 ac_w4 (by decide) (Nat.le_of_ble_eq_true rfl) (by repeat (first | assumption | exact sl_up_eq | refine sl_up_ne (by first | decide | omega) ?_)) (by repeat (first | assumption | exact sl_up_eq | refine sl_up_ne (by first | decide | omega) ?_)) (by decide) (by decide) (by decide) (by decide) (by decide) ?_
    refine slv_mem ac_u31 ?_
    refine slv_aload_n eX0_keep_24 rfl ?_
    refine slv_getf eX0_keep_25 fX0_15 (by repeat (first | assumption | exact sl_up_eq | refine sl_up_ne (by first | decide | omega) ?_)) rfl ?_
    refine slv_iconst (v := nI 1) eX0_keep_28 (by decide) ?_
    refine slv_aload_n eX0_keep_29 rfl ?_
    refine slv_getf eX0_keep_30 fX0_15 (by repeat (first | assumption | exact sl_up_eq | refine sl_up_ne (by first | decide | omega) ?_)) rfl ?_
    refine slv_iconst (v := nI 0) eX0_keep_33 (by decide) ?_
    refine slv_bipush (v := nI 9) eX0_keep_34 (by decide) ?_
    refine slv_copyi eX0_keep_36 ac_w1 ac_w2 ac_w3 ac_w4 (by decide) (Nat.le_of_ble_eq_true rfl) (by repeat (first | assumption | exact sl_up_eq | refine sl_up_ne (by first | decide | omega) ?_)) (by repeat (first | assumption | exact sl_up_eq | refine sl_up_ne (by first | decide | omega) ?_)) (by decide) (by decide) (by decide) (by decide) (by decide) ?_
    refine slv_mem ac_u32 ?_
    refine slv_aload_n eX0_keep_39 rfl ?_
    refine slv_bipush (v := nI 9) eX0_keep_40 (by decide) ?_
    refine slv_putf (fs' := [_, _, _]) eX0_keep_42 fX0_18 (by repeat (first | assumption | exact sl_up_eq | refine sl_up_ne (by first | decide | omega) ?_)) (Nat.le_of_ble_eq_true rfl) rfl rfl rfl ?_
    refine slv_mem (ac_u30 (c' := 9)) ?_
    refine tail 9 (ac_sh o) (ac_sh w) _ (by omega) ?_
    exact ⟨rfl, by rw [ac_kc, ac_kf, ac_kf, if_neg (Nat.not_lt.mpr h6), if_neg (Nat.not_lt.mpr h6), if_neg (Nat.not_lt.mpr h6)]⟩
end ACT

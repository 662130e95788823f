/-! the class's floats (X8): longBitsOf, sums, products, quotients, wholes, thirds -/
section RED
variable {X : Option (Nat × (Nat → Int32))} {kc ks : Nat} {Q : Option Value → sl_M → Prop} {M : sl_M} {x : UInt64} {m : Nat}
def re_l (n : Nat) : Int64 := Int64.ofNat n
theorem re_linc (n : Nat) : re_l n + 1 = re_l (n + 1) := by
  show Int64.ofNat n + Int64.ofNat 1 = _
  rw [← Int64.ofNat_add]
  rfl
theorem re_ldec {n : Nat} (h : 1 ≤ n) : re_l n - 1 = re_l (n - 1) := by
  have := re_linc (n - 1)
  rw [show n - 1 + 1 = n by omega] at this
  rw [← this, Int64.add_sub_cancel]
set_option maxRecDepth 100000 in
theorem re_l1 (hm : m < 2 ^ 53) : ∀ (n F i : Nat) (d : UInt64), i + n ≤ 390 → (1 ≤ n → 2 ^ 52 ≤ m) → PZ d (m * 2 ^ (1074 + n)) → (∀ (d' : UInt64) (z : Int32), PZ d' (m * 2 ^ 1074) → sl_V YX8_longBitsOf X 0 kc ks Q 52 [some (.double x), none, some (.double d'), none, some (.long (re_l (F + n))), none, some (.int z)] [] M) → sl_V YX8_longBitsOf X 0 kc ks Q 18 [some (.double x), none, some (.double d), none, some (.long (re_l F)), none, some (.int (nI i))] [] M := by
  intro n
  induction n with
  | zero =>
    intro F i d hi h1 hd kk
    have hc := re_lt (op := .l) hd re_c53 (Nat.mul_lt_mul_of_pos_right hm (Nat.two_pow_pos _))
    refine slv_iload eX8_longBitsOf_18 rfl ?_
    refine slv_sipush (v := nI 400) eX8_longBitsOf_20 (by decide) ?_
    refine slv_icmp_geN eX8_longBitsOf_23 (by omega) (by omega) (fun h23 => absurd h23 (by omega)) (fun h23 => ?_)
    refine slv_dload_n eX8_longBitsOf_26 rfl ?_
    refine slv_ldc2d eX8_longBitsOf_27 kX8_61 ?_
    refine slv_dcmp eX8_longBitsOf_30 ?_
    refine slv_if_lt eX8_longBitsOf_31 (fun h31 => ?_) (fun h31 => absurd hc h31)
    exact kk d _ hd
  | succ n ih =>
    intro F i d hi h1 hd kk
    have hc := re_nlt (re_ge (op := .l) hd re_c53 (by
      rw [show 1074 + (n + 1) = 1074 + n + 1 by omega, Nat.pow_succ, show (2 : Nat) ^ 53 * 2 ^ 1074 = 2 ^ 52 * (2 ^ 1074 * 2) by rw [← Nat.pow_succ, ← Nat.pow_add, ← Nat.pow_add]]
      exact Nat.mul_le_mul (h1 (by omega)) (Nat.mul_le_mul_right _ (Nat.pow_le_pow_right (by decide) (by omega)))))
    refine slv_iload eX8_longBitsOf_18 rfl ?_
    refine slv_sipush (v := nI 400) eX8_longBitsOf_20 (by decide) ?_
    refine slv_icmp_geN eX8_longBitsOf_23 (by omega) (by omega) (fun h23 => absurd h23 (by omega)) (fun h23 => ?_)
    refine slv_dload_n eX8_longBitsOf_26 rfl ?_
    refine slv_ldc2d eX8_longBitsOf_27 kX8_61 ?_
    refine slv_dcmp eX8_longBitsOf_30 ?_
    refine slv_if_lt eX8_longBitsOf_31 (fun h31 => absurd h31 hc) (fun h31 => ?_)
    refine slv_dload_n eX8_longBitsOf_34 rfl ?_
    refine slv_ldc2d eX8_longBitsOf_35 kX8_40 ?_
    refine slv_ddiv eX8_longBitsOf_38 (fun r38 a38 => ?_)
    refine slv_dstore_n (i := 2) (lv' := [_, _, _, _, _, _, _]) eX8_longBitsOf_39 rfl (by decide) rfl ?_
    refine slv_lload eX8_longBitsOf_40 rfl ?_
    refine slv_lconst (v := 1) eX8_longBitsOf_42 (by decide) ?_
    refine slv_ladd eX8_longBitsOf_43 ?_
    refine slv_top (w := .long (re_l (F + 1))) (by rw [re_linc]) ?_
    refine slv_lstore (lv' := [_, _, _, _, _, _, _]) eX8_longBitsOf_44 (by decide) rfl ?_
    refine slv_iincN (lv' := [_, _, _, _, _, _, _]) eX8_longBitsOf_46 rfl (by decide) rfl ?_
    refine slv_goto eX8_longBitsOf_49 ?_
    refine ih (F + 1) (i + 1) r38 (by omega) (fun _ => h1 (by omega)) (re_half (j := 1074 + n) hd (by omega) a38) (fun d' z hd' => ?_)
    rw [show F + 1 + n = F + (n + 1) by omega]
    exact kk d' z hd'
set_option maxRecDepth 100000 in
theorem re_l2 (hm : m < 2 ^ 53) (hm2 : 2 ^ 52 ≤ m) {e : Nat} : ∀ (n i : Nat) (d : UInt64), i + n ≤ 390 → PZ d (m * 2 ^ (1074 - n)) → (∀ (d' : UInt64) (z : Int32), PZ d' (m * 2 ^ 1074) → sl_V YX8_longBitsOf X 0 kc ks Q 89 [some (.double x), none, some (.double d'), none, some (.long (re_l e)), none, some (.int z)] [] M) → sl_V YX8_longBitsOf X 0 kc ks Q 55 [some (.double x), none, some (.double d), none, some (.long (re_l (e + n))), none, some (.int (nI i))] [] M := by
  intro n
  induction n with
  | zero =>
    intro i d hi hd kk
    have hc := re_ge (op := .g) hd re_c52 (Nat.mul_le_mul_right _ hm2)
    refine slv_iload eX8_longBitsOf_55 rfl ?_
    refine slv_sipush (v := nI 400) eX8_longBitsOf_57 (by decide) ?_
    refine slv_icmp_geN eX8_longBitsOf_60 (by omega) (by omega) (fun h60 => absurd h60 (by omega)) (fun h60 => ?_)
    refine slv_dload_n eX8_longBitsOf_63 rfl ?_
    refine slv_ldc2d eX8_longBitsOf_64 kX8_63 ?_
    refine slv_dcmp eX8_longBitsOf_67 ?_
    refine slv_if_ge eX8_longBitsOf_68 (fun h68 => ?_) (fun h68 => absurd hc h68)
    exact kk d _ hd
  | succ n ih =>
    intro i d hi hd kk
    have hc := re_nge (re_lt (op := .g) hd re_c52 (by
      refine Nat.lt_of_lt_of_le (Nat.mul_lt_mul_of_pos_right hm (Nat.two_pow_pos _)) ?_
      rw [← Nat.pow_add, ← Nat.pow_add]
      exact Nat.pow_le_pow_right (by decide) (by omega)))
    refine slv_iload eX8_longBitsOf_55 rfl ?_
    refine slv_sipush (v := nI 400) eX8_longBitsOf_57 (by decide) ?_
    refine slv_icmp_geN eX8_longBitsOf_60 (by omega) (by omega) (fun h60 => absurd h60 (by omega)) (fun h60 => ?_)
    refine slv_dload_n eX8_longBitsOf_63 rfl ?_
    refine slv_ldc2d eX8_longBitsOf_64 kX8_63 ?_
    refine slv_dcmp eX8_longBitsOf_67 ?_
    refine slv_if_ge eX8_longBitsOf_68 (fun h68 => absurd h68 hc) (fun h68 => ?_)
    refine slv_dload_n eX8_longBitsOf_71 rfl ?_
    refine slv_ldc2d eX8_longBitsOf_72 kX8_40 ?_
    refine slv_dmul eX8_longBitsOf_75 (fun r75 a75 => ?_)
    refine slv_dstore_n (i := 2) (lv' := [_, _, _, _, _, _, _]) eX8_longBitsOf_76 rfl (by decide) rfl ?_
    refine slv_lload eX8_longBitsOf_77 rfl ?_
    refine slv_lconst (v := 1) eX8_longBitsOf_79 (by decide) ?_
    refine slv_lsub eX8_longBitsOf_80 ?_
    refine slv_top (w := .long (re_l (e + n))) (by rw [re_ldec (by omega)]; rfl) ?_
    refine slv_lstore (lv' := [_, _, _, _, _, _, _]) eX8_longBitsOf_81 (by decide) rfl ?_
    refine slv_iincN (lv' := [_, _, _, _, _, _, _]) eX8_longBitsOf_83 rfl (by decide) rfl ?_
    refine slv_goto eX8_longBitsOf_86 ?_
    refine ih (i + 1) r75 (by omega) ?_ kk
    have h2 := re_dbl hd hm (by omega) (by omega) a75
    rw [show 1074 - (n + 1) + 1 = 1074 - n by omega] at h2
    exact h2
theorem re_lshl {k : Nat} (h : k < 2048) : (re_l k) <<< ((nI 52).toInt64 &&& 63) = re_l (k * 2 ^ 52) := by
  have : ∀ k, k < 2048 → (re_l k) <<< ((nI 52).toInt64 &&& 63) = re_l (k * 2 ^ 52) := by decide +kernel
  exact this k h
theorem re_ladd (a b : Nat) : re_l a + re_l b = re_l (a + b) := by
  show Int64.ofNat a + Int64.ofNat b = Int64.ofNat (a + b)
  rw [Int64.ofNat_add]
theorem re_lnI (f : UInt64) : re_l f.toNat = f.toInt64 := by
  apply Int64.toBitVec_inj.mp
  show (Int64.ofNat f.toNat).toBitVec = f.toBitVec
  rw [Int64.toBitVec_ofNat']
  apply BitVec.eq_of_toNat_eq
  rw [BitVec.toNat_ofNat]
  exact Nat.mod_eq_of_lt f.toNat_lt
set_option maxRecDepth 100000 in
theorem c_X8_longBitsOf (M : sl_M) {x : UInt64} {c : Nat} {q : Int} (h : FP.Core.val64 x = .fin false c q) (h1 : 2 ^ 52 ≤ c) (h2 : c < 2 ^ 53) (h3 : -300 ≤ q) (h4 : q ≤ 300) : sl_R YX8_longBitsOf 0 [.double x] M (some (.long x.toInt64)) M := by
  refine sl_T.of_V (lv := [_, _, _, _, _, _, _]) (by decide) rfl (Nat.le_of_ble_eq_true rfl) ?_
  have hb := dq_bits h h1
  rw [if_neg (by decide), Nat.zero_add] at hb
  have hz : PZ x (c * 2 ^ (q + 1074).toNat) := ⟨c, q, h, rfl⟩
  obtain ⟨e, he⟩ : ∃ e : Nat, (e : Int) = q + 1075 := ⟨(q + 1075).toNat, by omega⟩
  have e1 : (q + 1074).toNat = e - 1 := by omega
  rw [e1] at hb hz
  have hlast : re_l ((e - 1) * 2 ^ 52) + re_l c = x.toInt64 := by rw [re_ladd, ← hb, re_lnI]
  have hc0 : ¬ Op.cmpValue (FP.dcmp x FP.dconst0) .l = 0 := by
    rw [show FP.dcmp x FP.dconst0 = some (if c = 0 then .eq else if (false : Bool) = true then .lt else .gt) from dq_cmp0 h, if_neg (by omega)]
    show ¬ (1 : Int32) = 0
    decide
  have last : ∀ (d : UInt64) (z : Int32), PZ d (c * 2 ^ 1074) → sl_V YX8_longBitsOf none 0 0 0 (fun r1 M1 => r1 = some (.long x.toInt64) ∧ M1 = M) 89 [some (.double x), none, some (.double d), none, some (.long (re_l e)), none, some (.int z)] [] M := by
    intro d z hd
    have hi : FP.d2l d = re_l c := pz_d2l hd (by omega)
    have hs := re_lshl (k := e - 1) (by omega)
    refine slv_lload eX8_longBitsOf_89 rfl ?_
    refine slv_lconst (v := 1) eX8_longBitsOf_91 (by decide) ?_
    refine slv_lsub eX8_longBitsOf_92 ?_
    refine slv_top (w := .long (re_l (e - 1))) (by rw [re_ldec (by omega)]) ?_
    refine slv_bipush (v := nI 52) eX8_longBitsOf_93 (by decide) ?_
    refine slv_lshl eX8_longBitsOf_95 rfl ?_
    refine slv_dload_n eX8_longBitsOf_96 rfl ?_
    refine slv_d2l eX8_longBitsOf_97 ?_
    refine slv_ladd eX8_longBitsOf_98 ?_
    refine slv_lret eX8_longBitsOf_99 rfl ?_
    rw [hs, hi, hlast]
    exact ⟨rfl, rfl⟩
  have two : ∀ (d : UInt64) (z : Int32) (n : Nat), n ≤ 310 → PZ d (c * 2 ^ (1074 - n)) → sl_V YX8_longBitsOf none 0 0 0 (fun r1 M1 => r1 = some (.long x.toInt64) ∧ M1 = M) 52 [some (.double x), none, some (.double d), none, some (.long (re_l (e + n))), none, some (.int z)] [] M := by
    intro d z n hn hd
    refine slv_iconst (v := nI 0) eX8_longBitsOf_52 (by decide) ?_
    refine slv_istore (lv' := [_, _, _, _, _, _, _]) eX8_longBitsOf_53 (by decide) rfl ?_
    exact re_l2 h2 h1 n 0 d (by omega) hd last
  have one : sl_V YX8_longBitsOf none 0 0 0 (fun r1 M1 => r1 = some (.long x.toInt64) ∧ M1 = M) 18 [some (.double x), none, some (.double x), none, some (.long (re_l 1075)), none, some (.int (nI 0))] [] M := by
    by_cases hs : 1075 ≤ e
    · refine re_l1 h2 (e - 1075) 1075 0 x (by omega) (fun _ => h1) (by rw [show 1074 + (e - 1075) = e - 1 by omega]; exact hz) (fun d' z hd' => ?_)
      have := two d' z 0 (by omega) hd'
      rw [show e + 0 = 1075 + (e - 1075) by omega] at this
      exact this
    · have hc := re_lt (op := .l) hz re_c53 (Nat.lt_of_lt_of_le (Nat.mul_lt_mul_of_pos_right h2 (Nat.two_pow_pos _)) (Nat.mul_le_mul_left _ (Nat.pow_le_pow_right (by decide) (by omega))))
      have h5 := two x (nI 0) (1075 - e) (by omega) (by rw [show 1074 - (1075 - e) = e - 1 by omega]; exact hz)
      rw [show e + (1075 - e) = 1075 by omega] at h5
      refine slv_iload eX8_longBitsOf_18 rfl ?_
      refine slv_sipush (v := nI 400) eX8_longBitsOf_20 (by decide) ?_
      refine slv_icmp_ge eX8_longBitsOf_23 (fun h23 => ?_) (fun h23 => ?_)
      · exact h5
      · refine slv_dload_n eX8_longBitsOf_26 rfl ?_
        refine slv_ldc2d eX8_longBitsOf_27 kX8_61 ?_
        refine slv_dcmp eX8_longBitsOf_30 ?_
        refine slv_if_lt eX8_longBitsOf_31 (fun h31 => ?_) (fun h31 => absurd hc h31)
        exact h5
  refine slv_dload_n eX8_longBitsOf_0 rfl ?_
  refine slv_dconst0 eX8_longBitsOf_1 ?_
  refine slv_dcmp eX8_longBitsOf_2 ?_
  refine slv_if_ne eX8_longBitsOf_3 (fun h3 => ?_) (fun h3 => absurd h3 hc0)
  refine slv_dload_n eX8_longBitsOf_8 rfl ?_
  refine slv_dstore_n (i := 2) (lv' := [_, _, _, _, _, _, _]) eX8_longBitsOf_9 rfl (by decide) rfl ?_
  refine slv_ldc2 eX8_longBitsOf_10 kX8_59 ?_
  refine slv_top (w := .long (re_l 1075)) (by decide) ?_
  refine slv_lstore (lv' := [_, _, _, _, _, _, _]) eX8_longBitsOf_13 (by decide) rfl ?_
  refine slv_iconst (v := nI 0) eX8_longBitsOf_15 (by decide) ?_
  refine slv_istore (lv' := [_, _, _, _, _, _, _]) eX8_longBitsOf_16 (by decide) rfl ?_
  exact one
set_option maxRecDepth 100000 in
theorem c_X8_longBits0 (M : sl_M) : sl_R YX8_longBitsOf 0 [.double 0] M (some (.long 0)) M := by
  refine sl_T.of_V (lv := [_, _, _, _, _, _, _]) (by decide) rfl (Nat.le_of_ble_eq_true rfl) ?_
  have hc0 : Op.cmpValue (FP.dcmp 0 FP.dconst0) .l = 0 := by decide +kernel
  refine slv_dload_n eX8_longBitsOf_0 rfl ?_
  refine slv_dconst0 eX8_longBitsOf_1 ?_
  refine slv_dcmp eX8_longBitsOf_2 ?_
  refine slv_if_ne eX8_longBitsOf_3 (fun h3 => absurd hc0 h3) (fun h3 => ?_)
  refine slv_lconst (v := 0) eX8_longBitsOf_6 (by decide) ?_
  refine slv_lret eX8_longBitsOf_7 rfl ?_
  exact ⟨rfl, rfl⟩
end RED
section REE
variable {M : sl_M}
theorem re_and31 (a : Int32) : a &&& 2147483647 = nI (a.toUInt32.toNat % 2 ^ 31) := by
  apply Int32.toBitVec_inj.mp
  rw [Int32.toBitVec_and]
  apply BitVec.eq_of_toNat_eq
  rw [BitVec.toNat_and]
  show a.toBitVec.toNat &&& (2 ^ 31 - 1) = _
  rw [Nat.and_two_pow_sub_one_eq_mod]
  show _ = (Int32.ofNat _).toBitVec.toNat
  rw [Int32.toBitVec_ofNat', BitVec.toNat_ofNat]
  have : a.toBitVec.toNat < 2 ^ 32 := a.toBitVec.isLt
  show a.toUInt32.toNat % 2 ^ 31 = _
  omega
set_option maxRecDepth 100000 in
theorem c_X8_isNoNumber (M : sl_M) (a : Int32) : sl_R YX8_isNoNumber 0 [.int a] M (some (.int (sl_bi (decide (2139095040 < a.toUInt32.toNat % 2 ^ 31))))) M := by
  refine sl_T.of_V (lv := [_]) (by decide) rfl (Nat.le_of_ble_eq_true rfl) ?_
  have ha := re_and31 a
  refine slv_iload_n eX8_isNoNumber_0 rfl ?_
  refine slv_ldc eX8_isNoNumber_1 kX8_11 ?_
  refine slv_iand eX8_isNoNumber_3 ?_
  refine slv_top (w := .int (nI (a.toUInt32.toNat % 2 ^ 31))) (by rw [ha]) ?_
  refine slv_ldc eX8_isNoNumber_4 kX8_14 ?_
  refine slv_top (w := .int (nI 2139095040)) rfl ?_
  refine slv_icmp_leN eX8_isNoNumber_6 (by omega) (by omega) (fun h6 => ?_) (fun h6 => ?_)
  · refine slv_iconst (v := nI 0) eX8_isNoNumber_13 (by decide) ?_
    refine slv_zret eX8_isNoNumber_14 rfl rfl ?_
    first | (rw [decide_eq_false (by omega)]; exact ⟨rfl, rfl⟩) | (rw [decide_eq_true (by omega)]; exact ⟨rfl, rfl⟩)
  · refine slv_iconst (v := nI 1) eX8_isNoNumber_9 (by decide) ?_
    refine slv_goto eX8_isNoNumber_10 ?_
    refine slv_zret eX8_isNoNumber_14 rfl rfl ?_
    first | (rw [decide_eq_false (by omega)]; exact ⟨rfl, rfl⟩) | (rw [decide_eq_true (by omega)]; exact ⟨rfl, rfl⟩)
set_option maxRecDepth 100000 in
theorem c_X8_isInfinite (M : sl_M) (a : Int32) : sl_R YX8_isInfinite 0 [.int a] M (some (.int (sl_bi (decide (a.toUInt32.toNat % 2 ^ 31 = 2139095040))))) M := by
  refine sl_T.of_V (lv := [_]) (by decide) rfl (Nat.le_of_ble_eq_true rfl) ?_
  have ha := re_and31 a
  refine slv_iload_n eX8_isInfinite_0 rfl ?_
  refine slv_ldc eX8_isInfinite_1 kX8_11 ?_
  refine slv_iand eX8_isInfinite_3 ?_
  refine slv_top (w := .int (nI (a.toUInt32.toNat % 2 ^ 31))) (by rw [ha]) ?_
  refine slv_ldc eX8_isInfinite_4 kX8_14 ?_
  refine slv_top (w := .int (nI 2139095040)) rfl ?_
  refine slv_icmp_neN eX8_isInfinite_6 (by omega) (by omega) (fun h6 => ?_) (fun h6 => ?_)
  · refine slv_iconst (v := nI 0) eX8_isInfinite_13 (by decide) ?_
    refine slv_zret eX8_isInfinite_14 rfl rfl ?_
    first | (rw [decide_eq_false (by omega)]; exact ⟨rfl, rfl⟩) | (rw [decide_eq_true (by omega)]; exact ⟨rfl, rfl⟩)
  · refine slv_iconst (v := nI 1) eX8_isInfinite_9 (by decide) ?_
    refine slv_goto eX8_isInfinite_10 ?_
    refine slv_zret eX8_isInfinite_14 rfl rfl ?_
    first | (rw [decide_eq_false (by omega)]; exact ⟨rfl, rfl⟩) | (rw [decide_eq_true (by omega)]; exact ⟨rfl, rfl⟩)
set_option maxRecDepth 100000 in
theorem c_X8_isZero (M : sl_M) (a : Int32) : sl_R YX8_isZero 0 [.int a] M (some (.int (sl_bi (decide (a.toUInt32.toNat % 2 ^ 31 = 0))))) M := by
  refine sl_T.of_V (lv := [_]) (by decide) rfl (Nat.le_of_ble_eq_true rfl) ?_
  have ha := re_and31 a
  refine slv_iload_n eX8_isZero_0 rfl ?_
  refine slv_ldc eX8_isZero_1 kX8_11 ?_
  refine slv_iand eX8_isZero_3 ?_
  refine slv_top (w := .int (nI (a.toUInt32.toNat % 2 ^ 31))) (by rw [ha]) ?_
  refine slv_if_neN eX8_isZero_4 (by omega) (fun h4 => ?_) (fun h4 => ?_)
  · refine slv_iconst (v := nI 0) eX8_isZero_11 (by decide) ?_
    refine slv_zret eX8_isZero_12 rfl rfl ?_
    first | (rw [decide_eq_false (by omega)]; exact ⟨rfl, rfl⟩) | (rw [decide_eq_true (by omega)]; exact ⟨rfl, rfl⟩)
  · refine slv_iconst (v := nI 1) eX8_isZero_7 (by decide) ?_
    refine slv_goto eX8_isZero_8 ?_
    refine slv_zret eX8_isZero_12 rfl rfl ?_
    first | (rw [decide_eq_false (by omega)]; exact ⟨rfl, rfl⟩) | (rw [decide_eq_true (by omega)]; exact ⟨rfl, rfl⟩)
end REE

/-! the class's floats (X8): out of bits, into bits -/
section REA
theorem re_al32 {r y : UInt32} (h : alike32 r y = true) (hy : FP.Core.val32 y ≠ .nan) : r = y := by
  unfold alike32 at h
  rw [Bool.or_eq_true, Bool.and_eq_true] at h
  rcases h with h | ⟨-, h⟩
  · exact of_decide_eq_true h
  · exfalso
    apply hy
    refine fq_nan ?_
    have : (2139095040 : UInt32) < y &&& 2147483647 := of_decide_eq_true h
    have h2 := UInt32.lt_iff_toNat_lt.mp this
    rw [show (y &&& 2147483647) = fq_abs y from rfl, fq_absn] at h2
    exact h2
theorem re_al64 {r y : UInt64} (h : alike64 r y = true) (hy : FP.Core.val64 y ≠ .nan) : r = y := by
  unfold alike64 at h
  rw [Bool.or_eq_true, Bool.and_eq_true] at h
  rcases h with h | ⟨-, h⟩
  · exact of_decide_eq_true h
  · exfalso
    apply hy
    rw [isNaN64_iff, show (0x7fffffffffffffff : Nat) = 2 ^ 63 - 1 from rfl, Nat.and_two_pow_sub_one_eq_mod] at h
    rw [← FP.Core.dIsNaN_iff, FP.Core.isNaN_bits]
    exact h
theorem re_d2f {x : UInt64} (h : FP.Core.val64 x ≠ .nan) : FP.d2f x = FP.Core.d2f x := by
  unfold FP.d2f
  rw [if_neg]
  intro z
  exact h ((FP.Core.dIsNaN_iff x).mp z)
theorem re_f2d {x : UInt32} (h : FP.Core.val32 x ≠ .nan) : FP.f2d x = FP.Core.f2d x := by
  unfold FP.f2d
  rw [if_neg]
  intro z
  exact h ((FP.Core.fIsNaN_iff x).mp z)
theorem re_half {d r : UInt64} {m j : Nat} (h : PZ d (m * 2 ^ (j + 1))) (hj : 52 ≤ j) (ha : alike64 r (FP.ddiv d 4611686018427387904) = true) : PZ r (m * 2 ^ j) := by
  have e : m * 2 ^ (j + 1) = 2 * (m * 2 ^ j) := by rw [Nat.pow_succ, ← Nat.mul_assoc, Nat.mul_comm]
  rw [e] at h
  have h2 : PZ (FP.Core.ddiv d 4611686018427387904) (m * 2 ^ j) := pz_half h (by
    by_cases hm : m = 0
    · exact Or.inl (by rw [hm, Nat.zero_mul])
    · refine Or.inr (Nat.le_trans (Nat.pow_le_pow_right (by decide) hj) (Nat.le_mul_of_pos_left _ (Nat.pos_of_ne_zero hm))))
  rw [re_al64 ha (pz_ne h2)]
  exact h2
theorem re_dbl {d r : UInt64} {m j : Nat} (h : PZ d (m * 2 ^ j)) (hm : m < 2 ^ 53) (hj : 53 ≤ j) (hj2 : j ≤ 1900) (ha : alike64 r (FP.dmul d 4611686018427387904) = true) : PZ r (m * 2 ^ (j + 1)) := by
  have e : m * 2 ^ (j + 1) = 2 * (m * 2 ^ j) := by rw [Nat.pow_succ, ← Nat.mul_assoc, Nat.mul_comm]
  rw [e]
  have h2 : PZ (FP.Core.dmul d 4611686018427387904) (2 * (m * 2 ^ j)) := pz_double h (by
    by_cases hm : m = 0
    · exact Or.inl (by rw [hm, Nat.zero_mul])
    · refine Or.inr (Nat.le_trans (Nat.pow_le_pow_right (by decide) hj) (Nat.le_mul_of_pos_left _ (Nat.pos_of_ne_zero hm)))) (by
    refine Nat.lt_of_lt_of_le (Nat.mul_lt_mul_of_pos_right hm (Nat.two_pow_pos _)) ?_
    rw [← Nat.pow_add]
    exact Nat.pow_le_pow_right (by decide) (by omega))
  rw [re_al64 ha (pz_ne h2)]
  exact h2
theorem re_lt {d b : UInt64} {Y Z : Nat} {op : CmpOp} (h : PZ d Y) (g : PZ b Z) (hlt : Y < Z) : Op.cmpValue (FP.dcmp d b) op < 0 := by
  rw [show FP.dcmp d b = some (compare (Y : Int) (Z : Int)) from pz_cmp h g, FP.Core.compare_ite, if_pos (by omega)]
  show (-1 : Int32) < 0
  decide
theorem re_ge {d b : UInt64} {Y Z : Nat} {op : CmpOp} (h : PZ d Y) (g : PZ b Z) (hle : Z ≤ Y) : 0 ≤ Op.cmpValue (FP.dcmp d b) op := by
  rw [show FP.dcmp d b = some (compare (Y : Int) (Z : Int)) from pz_cmp h g, FP.Core.compare_ite, if_neg (by omega)]
  split
  · show (0 : Int32) ≤ 0
    decide
  · show (0 : Int32) ≤ 1
    decide
theorem re_nlt {x : Int32} (h : 0 ≤ x) : ¬ x < 0 := Int32.not_lt.mpr h
theorem re_nge {x : Int32} (h : x < 0) : ¬ 0 ≤ x := Int32.not_le.mpr h
theorem re_c24 : PZ 4715268809856909312 (2 ^ 24 * 2 ^ 1074) := ⟨2 ^ 52, -28, by decide +kernel, by
  rw [← Nat.pow_add, show ((-28 : Int) + 1074).toNat = 1046 from rfl, ← Nat.pow_add]⟩
theorem re_c23 : PZ 4710765210229538816 (2 ^ 23 * 2 ^ 1074) := ⟨2 ^ 52, -29, by decide +kernel, by
  rw [← Nat.pow_add, show ((-29 : Int) + 1074).toNat = 1045 from rfl, ← Nat.pow_add]⟩
theorem re_c53 : PZ 4845873199050653696 (2 ^ 53 * 2 ^ 1074) := ⟨2 ^ 52, 1, by decide +kernel, by
  rw [← Nat.pow_add, show ((1 : Int) + 1074).toNat = 1075 from rfl, ← Nat.pow_add]⟩
theorem re_c52 : PZ 4841369599423283200 (2 ^ 52 * 2 ^ 1074) := ⟨2 ^ 52, 0, by decide +kernel, by rw [show ((0 : Int) + 1074).toNat = 1074 from rfl]⟩
end REA
section REB
variable {X : Option (Nat × (Nat → Int32))} {kc ks : Nat} {Q : Option Value → sl_M → Prop} {M : sl_M} {a v1 v2 : Int32} {m : Nat}
set_option maxRecDepth 100000 in
theorem re_f1 : ∀ (n s j : Nat) (d : UInt64), s + n = 150 → 60 + n ≤ j → PZ d (m * 2 ^ j) → (∀ d' : UInt64, PZ d' (m * 2 ^ (j - n)) → sl_V YX8_floatOf X 0 kc ks Q 59 [some (.int a), some (.int v1), some (.int v2), some (.double d'), none, some (.int (nI 150))] [] M) → sl_V YX8_floatOf X 0 kc ks Q 39 [some (.int a), some (.int v1), some (.int v2), some (.double d), none, some (.int (nI s))] [] M := by
  intro n
  induction n with
  | zero =>
    intro s j d hs hj hd kk
    obtain rfl : s = 150 := by omega
    refine slv_iload eX8_floatOf_39 rfl ?_
    refine slv_sipush (v := nI 150) eX8_floatOf_41 (by decide) ?_
    refine slv_icmp_geN eX8_floatOf_44 (by omega) (by omega) (fun h44 => ?_) (fun h44 => absurd h44 (by omega))
    exact kk d hd
  | succ n ih =>
    intro s j d hs hj hd kk
    refine slv_iload eX8_floatOf_39 rfl ?_
    refine slv_sipush (v := nI 150) eX8_floatOf_41 (by decide) ?_
    refine slv_icmp_geN eX8_floatOf_44 (by omega) (by omega) (fun h44 => absurd h44 (by omega)) (fun h44 => ?_)
    refine slv_dload_n eX8_floatOf_47 rfl ?_
    refine slv_ldc2d eX8_floatOf_48 kX8_40 ?_
    refine slv_ddiv eX8_floatOf_51 (fun r51 a51 => ?_)
    refine slv_dstore_n (i := 3) (lv' := [_, _, _, _, _, _]) eX8_floatOf_52 rfl (by decide) rfl ?_
    refine slv_iincN (lv' := [_, _, _, _, _, _]) eX8_floatOf_53 rfl (by decide) rfl ?_
    refine slv_goto eX8_floatOf_56 ?_
    refine ih (s + 1) (j - 1) r51 (by omega) (by omega) (re_half (j := j - 1) (by rw [show j - 1 + 1 = j by omega]; exact hd) (by omega) a51) (fun d' hd' => kk d' ?_)
    rw [show j - (n + 1) = j - 1 - n by omega]
    exact hd'
set_option maxRecDepth 100000 in
theorem re_f2 (hm : m < 2 ^ 53) : ∀ (n s j : Nat) (d : UInt64), s = 150 + n → n ≤ 200 → 53 ≤ j → j + n ≤ 1900 → PZ d (m * 2 ^ j) → (∀ d' : UInt64, PZ d' (m * 2 ^ (j + n)) → sl_V YX8_floatOf X 0 kc ks Q 79 [some (.int a), some (.int v1), some (.int v2), some (.double d'), none, some (.int (nI 150))] [] M) → sl_V YX8_floatOf X 0 kc ks Q 59 [some (.int a), some (.int v1), some (.int v2), some (.double d), none, some (.int (nI s))] [] M := by
  intro n
  induction n with
  | zero =>
    intro s j d hs hn hj hj2 hd kk
    obtain rfl : s = 150 := by omega
    refine slv_iload eX8_floatOf_59 rfl ?_
    refine slv_sipush (v := nI 150) eX8_floatOf_61 (by decide) ?_
    refine slv_icmp_leN eX8_floatOf_64 (by omega) (by omega) (fun h64 => ?_) (fun h64 => absurd h64 (by omega))
    exact kk d hd
  | succ n ih =>
    intro s j d hs hn hj hj2 hd kk
    refine slv_iload eX8_floatOf_59 rfl ?_
    refine slv_sipush (v := nI 150) eX8_floatOf_61 (by decide) ?_
    refine slv_icmp_leN eX8_floatOf_64 (by omega) (by omega) (fun h64 => absurd h64 (by omega)) (fun h64 => ?_)
    refine slv_dload_n eX8_floatOf_67 rfl ?_
    refine slv_ldc2d eX8_floatOf_68 kX8_40 ?_
    refine slv_dmul eX8_floatOf_71 (fun r71 a71 => ?_)
    refine slv_dstore_n (i := 3) (lv' := [_, _, _, _, _, _]) eX8_floatOf_72 rfl (by decide) rfl ?_
    refine slv_idecN (lv' := [_, _, _, _, _, _]) eX8_floatOf_73 rfl (by decide) (by omega) rfl ?_
    refine slv_goto eX8_floatOf_76 ?_
    refine ih (s - 1) (j + 1) r71 (by omega) (by omega) (by omega) (by omega) (re_dbl hd hm (by omega) (by omega) a71) (fun d' hd' => kk d' ?_)
    rw [show j + (n + 1) = j + 1 + n by omega]
    exact hd'
theorem re_neg {d : UInt64} {Z : Nat} (h : PZ d Z) (hz : Z ≠ 0) : FP.Core.val64 (FP.Core.dsub 0 d) = FP.Core.negate (FP.Core.val64 d) := by
  obtain ⟨c, q, h1, h2⟩ := h
  have hc : c ≠ 0 := fun e => hz (by rw [← h2, e, Nat.zero_mul])
  have hf := FP.Core.val64_fits d
  rw [h1] at hf
  have k2 := hf.2.1
  rw [qmin64] at k2
  rw [FP.Core.val64_dsub, h1, dq_z0]
  show FP.Core.round FP.Core.b64 (.fin (FP.Core.sumSign false true (FP.Core.sumUnits false 0 (-1074) true c q (min (-1074) q))) (FP.Core.sumUnits false 0 (-1074) true c q (min (-1074) q)).natAbs (min (-1074) q)) = .fin true c q
  have e0 : min (-1074) q = -1074 := by omega
  have e1 : FP.Core.sumUnits false 0 (-1074) true c q (-1074) = -((c * 2 ^ (q - -1074).toNat : Nat) : Int) := by
    show ((0 * _ : Nat) : Int) + -((c * 2 ^ (q - -1074).toNat : Nat) : Int) = _
    rw [Nat.zero_mul]
    omega
  rw [e0, e1]
  have hp : 0 < c * 2 ^ (q - -1074).toNat := Nat.mul_pos (Nat.pos_of_ne_zero hc) (Nat.two_pow_pos _)
  have e2 : FP.Core.sumSign false true (-((c * 2 ^ (q - -1074).toNat : Nat) : Int)) = true := by
    unfold FP.Core.sumSign
    rw [if_neg (by omega), decide_eq_true (by omega)]
  rw [e2, Int.natAbs_neg, Int.natAbs_natCast]
  refine FP.Core.roundRatio_exact FP.Core.good_b64 (by decide) (FP.Core.negate_fits (d := .fin false c q) hf) ?_
  rw [Nat.mul_one, show ((-1074 : Int) - q).toNat = 0 by omega, Nat.pow_zero, Nat.mul_one]
theorem re_fld (a : Int32) : (a >>> (nI 23 &&& 31)) &&& 255 = nI (a.toUInt32.toNat / 2 ^ 23 % 256) := by
  apply Int32.toBitVec_inj.mp
  rw [show (nI 23 &&& 31) = (23 : Int32) by decide]
  rw [Int32.toBitVec_and, Int32.toBitVec_shiftRight]
  apply BitVec.eq_of_toNat_eq
  rw [BitVec.toNat_and]
  have e : a.toBitVec.sshiftRight' ((23 : Int32).toBitVec.smod 32) = a.toBitVec.sshiftRight 23 := by
    rw [BitVec.sshiftRight_eq', show ((23 : Int32).toBitVec.smod 32).toNat = 23 by decide]
  rw [e, BitVec.toNat_sshiftRight]
  have hl : a.toBitVec.toNat < 2 ^ 32 := a.toBitVec.isLt
  show (if _ then _ else _) &&& (2 ^ 8 - 1) = (Int32.ofNat _).toBitVec.toNat
  rw [Nat.and_two_pow_sub_one_eq_mod, Int32.toBitVec_ofNat', BitVec.toNat_ofNat, Nat.shiftRight_eq_div_pow, Nat.shiftRight_eq_div_pow]
  have k1 : ∀ N : Nat, N < 4294967296 → (4294967295 - (4294967295 - N) / 8388608) % 256 = N / 8388608 % 256 % 4294967296 := by intro N hN; omega
  have k2 : ∀ N : Nat, N < 4294967296 → N / 8388608 % 256 = N / 8388608 % 256 % 4294967296 := by intro N hN; omega
  split
  · exact k1 _ hl
  · exact k2 _ hl
theorem re_dig (a : Int32) : a &&& 8388607 = nI (a.toUInt32.toNat % 2 ^ 23) := by
  apply Int32.toBitVec_inj.mp
  rw [Int32.toBitVec_and]
  apply BitVec.eq_of_toNat_eq
  rw [BitVec.toNat_and]
  show a.toBitVec.toNat &&& (2 ^ 23 - 1) = _
  rw [Nat.and_two_pow_sub_one_eq_mod]
  show _ = (Int32.ofNat _).toBitVec.toNat
  rw [Int32.toBitVec_ofNat', BitVec.toNat_ofNat]
  have : a.toBitVec.toNat < 2 ^ 32 := a.toBitVec.isLt
  show a.toUInt32.toNat % 2 ^ 23 = _
  omega
theorem re_sg (a : Int32) : (0 ≤ a) ↔ a.toUInt32.toNat < 2 ^ 31 := by
  rw [Int32.le_iff_toInt_le]
  show (0 : Int) ≤ a.toBitVec.toInt ↔ a.toBitVec.toNat < 2 ^ 31
  rw [BitVec.toInt_eq_toNat_cond]
  have hl : a.toBitVec.toNat < 2 ^ 32 := a.toBitVec.isLt
  split <;> omega
theorem re_pz0 {d : UInt64} (h : PZ d 0) : d = 0 := by
  obtain ⟨c, q, h1, h2⟩ := h
  have hc : c = 0 := (Nat.mul_eq_zero.mp h2).resolve_right (Nat.ne_of_gt (Nat.two_pow_pos _))
  subst hc
  have hf := FP.Core.val64_fits d
  rw [h1] at hf
  have k4 := hf.2.2.2
  rw [qmin64, tails64] at k4
  have hq : q = -1074 := k4.resolve_right (by decide)
  subst hq
  exact FP.Core.val64_inj (by rw [h1]; exact fun z => by cases z) (h1.trans dq_z0.symm)
/-- what comes out of floatOf -/
theorem re_fin {a : Int32} {d : UInt64} (h : a.toUInt32.toNat % 2 ^ 31 < 2139095040) (hd : PZ d (fq_m (a.toUInt32.toNat % 2 ^ 31) * 2 ^ (924 + fq_e (a.toUInt32.toNat % 2 ^ 31)))) : FP.Core.d2f d = fq_abs a.toUInt32 := by
  have hv := fq_fin (a := fq_abs a.toUInt32) (by rw [fq_absn]; omega)
  rw [show decide (2 ^ 31 ≤ (fq_abs a.toUInt32).toNat) = false from fq_sgn_abs _, fq_absn, show a.toUInt32.toNat % 2 ^ 31 % 2 ^ 31 = a.toUInt32.toNat % 2 ^ 31 by omega] at hv
  refine pz_d2f hd hv ?_
  have := fq_e1 (a.toUInt32.toNat % 2 ^ 31)
  rw [show (((fq_e (a.toUInt32.toNat % 2 ^ 31) : Int) - 150) + 1074).toNat = 924 + fq_e (a.toUInt32.toNat % 2 ^ 31) by omega]
theorem re_finp {a : Int32} {d : UInt64} {r : UInt32} (h : a.toUInt32.toNat % 2 ^ 31 < 2139095040) (h0 : 0 ≤ a) (hd : PZ d (fq_m (a.toUInt32.toNat % 2 ^ 31) * 2 ^ (924 + fq_e (a.toUInt32.toNat % 2 ^ 31)))) (hr : alike32 r (FP.d2f d) = true) : r = fq_g a.toUInt32 := by
  have h1 := (re_sg a).mp h0
  have e := re_fin h hd
  have hab : fq_abs a.toUInt32 = a.toUInt32 := UInt32.toNat_inj.mp (by rw [fq_absn]; omega)
  rw [hab] at e
  have hg : fq_g a.toUInt32 = a.toUInt32 := by
    unfold fq_g
    rw [if_neg]
    intro z
    rw [z] at h1
    exact absurd h1 (by decide)
  rw [hg, ← e]
  rw [re_d2f (pz_ne hd)] at hr
  refine re_al32 hr ?_
  rw [e, fq_fin h]
  exact fun z => by cases z
theorem re_finn {a : Int32} {d r : UInt64} {x : UInt32} (h : a.toUInt32.toNat % 2 ^ 31 < 2139095040) (h0 : ¬ 0 ≤ a) (hd : PZ d (fq_m (a.toUInt32.toNat % 2 ^ 31) * 2 ^ (924 + fq_e (a.toUInt32.toNat % 2 ^ 31)))) (hr : alike64 r (FP.dsub FP.dconst0 d) = true) (hx : alike32 x (FP.d2f r) = true) : x = fq_g a.toUInt32 := by
  have h1 : 2 ^ 31 ≤ a.toUInt32.toNat := Nat.le_of_not_lt (fun z => h0 ((re_sg a).mpr z))
  have hlt := a.toUInt32.toNat_lt
  by_cases hm : fq_m (a.toUInt32.toNat % 2 ^ 31) = 0
  · rw [hm, Nat.zero_mul] at hd
    have hd0 := re_pz0 hd
    subst hd0
    have e1 : FP.dsub FP.dconst0 0 = 0 := by decide +kernel
    rw [e1] at hr
    have hr0 := re_al64 hr (by rw [dq_z0]; exact fun z => by cases z)
    subst hr0
    have e2 : FP.d2f 0 = 0 := by decide +kernel
    rw [e2] at hx
    have hx0 := re_al32 hx (by rw [fq_z0]; exact fun z => by cases z)
    subst hx0
    have := fq_m0.mp hm
    unfold fq_g
    rw [if_pos (UInt32.toNat_inj.mp (show a.toUInt32.toNat = 2 ^ 31 by omega))]
  · have hz : fq_m (a.toUInt32.toNat % 2 ^ 31) * 2 ^ (924 + fq_e (a.toUInt32.toNat % 2 ^ 31)) ≠ 0 := fun z => (Nat.mul_eq_zero.mp z).elim hm (Nat.ne_of_gt (Nat.two_pow_pos _))
    have hn := re_neg hd hz
    have hv : FP.Core.val64 (FP.dsub FP.dconst0 d) ≠ .nan := by
      rw [show FP.dsub FP.dconst0 d = FP.Core.dsub 0 d from rfl, hn]
      obtain ⟨c, q, h1, -⟩ := hd
      rw [h1]
      exact fun z => by cases z
    have hr0 := re_al64 hr hv
    subst hr0
    have e : FP.Core.val32 (FP.Core.d2f (FP.Core.dsub 0 d)) = FP.Core.val32 a.toUInt32 := by
      rw [FP.Core.val32_d2f, hn, ← FP.Core.negate_round, ← FP.Core.val32_d2f, re_fin h hd, fq_absv (a := a.toUInt32) (by omega), if_pos h1]
    have hnn : FP.Core.val32 a.toUInt32 ≠ .nan := by rw [fq_fin h]; exact fun z => by cases z
    have e2 : FP.Core.d2f (FP.Core.dsub 0 d) = a.toUInt32 := (FP.Core.val32_inj hnn e.symm).symm
    rw [re_d2f hv, show FP.Core.d2f (FP.dsub FP.dconst0 d) = a.toUInt32 from e2] at hx
    rw [re_al32 hx hnn]
    unfold fq_g
    rw [if_neg]
    intro z
    apply hm
    rw [fq_m0, z]
    rfl
set_option maxRecDepth 100000 in
theorem c_X8_floatOf (M : sl_M) {a : Int32} (h : a.toUInt32.toNat % 2 ^ 31 < 2139095040) : sl_R YX8_floatOf 0 [.int a] M (some (.float (fq_g a.toUInt32))) M := by
  refine sl_T.of_V (lv := [_, _, _, _, _, _]) (by decide) rfl (Nat.le_of_ble_eq_true rfl) ?_
  have hlt := a.toUInt32.toNat_lt
  obtain ⟨n, hn⟩ : ∃ n, n = a.toUInt32.toNat := ⟨_, rfl⟩
  obtain ⟨E, hE⟩ : ∃ E, E = n / 2 ^ 23 % 256 := ⟨_, rfl⟩
  obtain ⟨D, hD⟩ : ∃ D, D = n % 2 ^ 23 := ⟨_, rfl⟩
  have hE255 : E ≤ 254 := by omega
  have fin : ∀ d : UInt64, PZ d (fq_m (n % 2 ^ 31) * 2 ^ (924 + fq_e (n % 2 ^ 31))) → sl_V YX8_floatOf none 0 0 0 (fun r1 M1 => r1 = some (.float (fq_g a.toUInt32)) ∧ M1 = M) 79 [some (.int a), some (.int (nI E)), some (.int (nI D)), some (.double d), none, some (.int (nI 150))] [] M := by
    intro d hd
    rw [hn] at hd
    refine slv_iload_n eX8_floatOf_79 rfl ?_
    refine slv_if_ge eX8_floatOf_80 (fun h80 => ?_) (fun h80 => ?_)
    · refine slv_dload_n eX8_floatOf_89 rfl ?_
      refine slv_d2f eX8_floatOf_90 (fun r90 a90 => ?_)
      refine slv_fret eX8_floatOf_91 rfl ?_
      first | (have e := re_finp h h80 hd a90; subst e; exact ⟨rfl, rfl⟩) | (have e := re_finn h h80 hd a85 a90; subst e; exact ⟨rfl, rfl⟩)
    · refine slv_dconst0 eX8_floatOf_83 ?_
      refine slv_dload_n eX8_floatOf_84 rfl ?_
      refine slv_dsub eX8_floatOf_85 (fun r85 a85 => ?_)
      refine slv_goto eX8_floatOf_86 ?_
      refine slv_d2f eX8_floatOf_90 (fun r90 a90 => ?_)
      refine slv_fret eX8_floatOf_91 rfl ?_
      first | (have e := re_finp h h80 hd a90; subst e; exact ⟨rfl, rfl⟩) | (have e := re_finn h h80 hd a85 a90; subst e; exact ⟨rfl, rfl⟩)
  have mid : ∀ (m s : Nat) (d : UInt64), m < 2 ^ 53 → 1 ≤ s → s ≤ 254 → fq_m (n % 2 ^ 31) = m → fq_e (n % 2 ^ 31) = s → PZ d (m * 2 ^ 1074) → sl_V YX8_floatOf none 0 0 0 (fun r1 M1 => r1 = some (.float (fq_g a.toUInt32)) ∧ M1 = M) 39 [some (.int a), some (.int (nI E)), some (.int (nI D)), some (.double d), none, some (.int (nI s))] [] M := by
    intro m s d hm h1 h2 e1 e2 hd
    rw [e1, e2] at fin
    by_cases hs : s ≤ 150
    · refine re_f1 (150 - s) s 1074 d (by omega) (by omega) hd (fun d' hd' => ?_)
      refine re_f2 hm 0 150 (1074 - (150 - s)) d' rfl (by omega) (by omega) (by omega) hd' (fun d2 hd2 => fin d2 ?_)
      rw [show 924 + s = 1074 - (150 - s) + 0 by omega]
      exact hd2
    · refine slv_iload eX8_floatOf_39 rfl ?_
      refine slv_sipush (v := nI 150) eX8_floatOf_41 (by decide) ?_
      refine slv_icmp_geN eX8_floatOf_44 (by omega) (by omega) (fun h44 => ?_) (fun h44 => absurd h44 (by omega))
      refine re_f2 hm (s - 150) s 1074 d (by omega) (by omega) (by omega) (by omega) hd (fun d2 hd2 => fin d2 ?_)
      rw [show 924 + s = 1074 + (s - 150) by omega]
      exact hd2
  have hA : (a >>> (nI 23 &&& 31)) &&& nI 255 = nI E := by rw [hE, hn]; exact re_fld a
  have hB : a &&& 8388607 = nI D := by rw [hD, hn]; exact re_dig a
  have hm2 : E = 0 → fq_m (n % 2 ^ 31) = D ∧ fq_e (n % 2 ^ 31) = 1 := by
    intro z
    unfold fq_m fq_e
    rw [if_pos (by omega), if_pos (by omega)]
    omega
  have hm3 : ¬ E = 0 → fq_m (n % 2 ^ 31) = D + 8388608 ∧ fq_e (n % 2 ^ 31) = E := by
    intro z
    unfold fq_m fq_e
    rw [if_neg (by omega), if_neg (by omega)]
    omega
  have hi : ∀ k : Nat, k < 2 ^ 31 → PZ (FP.i2d (nI k)) (k * 2 ^ 1074) := by
    intro k hk
    have e : (nI k).toInt = (k : Int) := Int32.toInt_ofNat_of_lt hk
    have := pz_i2d (n := nI k) (by omega)
    rw [e] at this
    exact this
  refine slv_iload_n eX8_floatOf_0 rfl ?_
  refine slv_bipush (v := nI 23) eX8_floatOf_1 (by decide) ?_
  refine slv_ishr eX8_floatOf_3 ?_
  refine slv_sipush (v := nI 255) eX8_floatOf_4 (by decide) ?_
  refine slv_iand eX8_floatOf_7 ?_
  refine slv_top (w := .int (nI E)) (by rw [hA]) ?_
  refine slv_istore_n (i := 1) (lv' := [_, _, _, _, _, _]) eX8_floatOf_8 rfl (by decide) rfl ?_
  refine slv_iload_n eX8_floatOf_9 rfl ?_
  refine slv_ldc eX8_floatOf_10 kX8_38 ?_
  refine slv_iand eX8_floatOf_12 ?_
  refine slv_top (w := .int (nI D)) (by rw [hB]) ?_
  refine slv_istore_n (i := 2) (lv' := [_, _, _, _, _, _]) eX8_floatOf_13 rfl (by decide) rfl ?_
  refine slv_iload_n eX8_floatOf_14 rfl ?_
  refine slv_if_neN eX8_floatOf_15 (by omega) (fun h15 => ?_) (fun h15 => ?_)
  · refine slv_iload_n eX8_floatOf_22 rfl ?_
    refine slv_ldc eX8_floatOf_23 kX8_39 ?_
    refine slv_top (w := .int (nI 8388608)) rfl ?_
    refine slv_iaddN eX8_floatOf_25 ?_
    refine slv_i2d eX8_floatOf_26 ?_
    refine slv_dstore_n (i := 3) (lv' := [_, _, _, _, _, _]) eX8_floatOf_27 rfl (by decide) rfl ?_
    refine slv_iload_n eX8_floatOf_28 rfl ?_
    refine slv_if_neN eX8_floatOf_29 (by omega) (fun h29 => ?_) (fun h29 => ?_)
    · refine slv_iload_n eX8_floatOf_36 rfl ?_
      refine slv_istore (lv' := [_, _, _, _, _, _]) eX8_floatOf_37 (by decide) rfl ?_
      first | exact absurd h29 h15 | exact absurd h15 h29 | exact mid _ _ _ (by omega) (by omega) (by omega) (hm2 h15).1 (hm2 h15).2 (hi _ (by omega)) | exact mid _ _ _ (by omega) (by omega) (by omega) (hm3 h15).1 (hm3 h15).2 (hi _ (by omega))
    · refine slv_iconst (v := nI 1) eX8_floatOf_32 (by decide) ?_
      refine slv_goto eX8_floatOf_33 ?_
      refine slv_istore (lv' := [_, _, _, _, _, _]) eX8_floatOf_37 (by decide) rfl ?_
      first | exact absurd h29 h15 | exact absurd h15 h29 | exact mid _ _ _ (by omega) (by omega) (by omega) (hm2 h15).1 (hm2 h15).2 (hi _ (by omega)) | exact mid _ _ _ (by omega) (by omega) (by omega) (hm3 h15).1 (hm3 h15).2 (hi _ (by omega))
  · refine slv_iload_n eX8_floatOf_18 rfl ?_
    refine slv_goto eX8_floatOf_19 ?_
    refine slv_i2d eX8_floatOf_26 ?_
    refine slv_dstore_n (i := 3) (lv' := [_, _, _, _, _, _]) eX8_floatOf_27 rfl (by decide) rfl ?_
    refine slv_iload_n eX8_floatOf_28 rfl ?_
    refine slv_if_neN eX8_floatOf_29 (by omega) (fun h29 => ?_) (fun h29 => ?_)
    · refine slv_iload_n eX8_floatOf_36 rfl ?_
      refine slv_istore (lv' := [_, _, _, _, _, _]) eX8_floatOf_37 (by decide) rfl ?_
      first | exact absurd h29 h15 | exact absurd h15 h29 | exact mid _ _ _ (by omega) (by omega) (by omega) (hm2 h15).1 (hm2 h15).2 (hi _ (by omega)) | exact mid _ _ _ (by omega) (by omega) (by omega) (hm3 h15).1 (hm3 h15).2 (hi _ (by omega))
    · refine slv_iconst (v := nI 1) eX8_floatOf_32 (by decide) ?_
      refine slv_goto eX8_floatOf_33 ?_
      refine slv_istore (lv' := [_, _, _, _, _, _]) eX8_floatOf_37 (by decide) rfl ?_
      first | exact absurd h29 h15 | exact absurd h15 h29 | exact mid _ _ _ (by omega) (by omega) (by omega) (hm2 h15).1 (hm2 h15).2 (hi _ (by omega)) | exact mid _ _ _ (by omega) (by omega) (by omega) (hm3 h15).1 (hm3 h15).2 (hi _ (by omega))
end REB

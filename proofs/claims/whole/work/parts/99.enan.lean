/-! a NaN that arithmetic makes has one pattern of bits -/
theorem can_of32 {d : FP.Core.Datum} (h : FP.Core.fits FP.Core.b32 d) : fl_b (FP.Core.of32 d) = (FP.Core.of32 d).toInt32 := by
  unfold fl_b
  by_cases hn : isNaN32 (FP.Core.of32 d) = true
  · rw [if_pos hn]
    have e := (nan_val _).mp hn
    rw [FP.Core.val32_of32 h] at e
    rw [e]
    decide +kernel
  · rw [if_neg hn]
theorem fl_add (x y : UInt32) : fl_b (FP.fadd x y) = (FP.fadd x y).toInt32 := can_of32 (FP.Core.round_fits FP.Core.good_b32 (FP.Core.exactSum (FP.Core.val32 x) (FP.Core.val32 y)))
theorem fl_mul (x y : UInt32) : fl_b (FP.fmul x y) = (FP.fmul x y).toInt32 := can_of32 (FP.Core.round_fits FP.Core.good_b32 (FP.Core.exactProduct (FP.Core.val32 x) (FP.Core.val32 y)))
theorem fl_div (x y : UInt32) : fl_b (FP.fdiv x y) = (FP.fdiv x y).toInt32 := can_of32 (FP.Core.quotient_fits FP.Core.good_b32 (FP.Core.val32 x) (FP.Core.val32 y))
theorem fl_sub (x y : UInt32) : fl_b (FP.fsub x y) = (FP.fadd x (FP.Core.fneg y)).toInt32 := by
  rw [show FP.fsub x y = FP.fadd x (FP.Core.fneg y) from FP.Core.fsub_eq x y]
  exact fl_add x _
theorem fl_i2f (x : Int32) : fl_b (FP.i2f x) = (FP.i2f x).toInt32 := by
  unfold fl_b
  rw [if_neg]
  intro h
  have e := (FP.Core.fIsNaN_iff _).mpr ((nan_val _).mp h)
  have e2 := FP.Core.FFin.notNaN (FP.Core.i2f_fin x)
  rw [show FP.Core.fIsNaN (FP.i2f x) = false from e2] at e
  cases e
/-- what a float's bits are when they come from arithmetic is never a signalling NaN -/
theorem fl_b_q (x : UInt32) (h : isNaN32 x = true → True) : vn_sni2f (fl_b x) = false := by
  unfold fl_b
  by_cases hn : isNaN32 x = true
  · rw [if_pos hn]
    decide +kernel
  · rw [if_neg hn]
    unfold vn_sni2f
    rw [show x.toInt32.toUInt32 = x from rfl]
    have : ¬ (x &&& 0x7fffffff > 0x7f800000) := fun q => hn (by unfold isNaN32; exact decide_eq_true q)
    rw [decide_eq_false this]
    rfl

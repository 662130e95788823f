/-! the sign of a float turned -/
theorem nan_xor (x : UInt32) : isNaN32 (x ^^^ 0x80000000) = isNaN32 x := by
  have h : (x ^^^ 0x80000000) &&& 0x7fffffff = x &&& 0x7fffffff := by
    apply UInt32.toBitVec_inj.mp
    show (x.toBitVec ^^^ 0x80000000#32) &&& 0x7fffffff#32 = x.toBitVec &&& 0x7fffffff#32
    apply BitVec.eq_of_getLsbD_eq
    intro i hi
    have hc : ∀ i, i < 32 → ((0x80000000#32).getLsbD i && (0x7fffffff#32).getLsbD i) = false := by decide
    have := hc i hi
    rw [BitVec.getLsbD_and, BitVec.getLsbD_and, BitVec.getLsbD_xor]
    revert this
    generalize (0x80000000#32).getLsbD i = p
    generalize (0x7fffffff#32).getLsbD i = q
    generalize x.toBitVec.getLsbD i = z
    cases p <;> cases q <;> cases z <;> decide
  unfold isNaN32
  rw [h]
theorem fl_neg (a : Int32) : fl_b (FP.fneg a.toUInt32) = rr_neg a := by
  unfold fl_b rr_neg
  rw [show FP.fneg a.toUInt32 = a.toUInt32 ^^^ 0x80000000 from rfl, nan_xor]
  rfl

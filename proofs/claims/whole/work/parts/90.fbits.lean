/-! the bits of a float -/
/-- a contract of a method for whom the natives' table has no row, though her class has some -/
theorem sl_T.of_VF {Y : sl_Y} {d mc ms : Nat} {Q : Option Value → sl_M → Prop} {As : List Value} {M : sl_M} {lv : List (Option Value)} (hy : plainFor Y.1 = true) (he : sl_ent Y.2.2.1 As = lv) (hlen : (sl_ea As).length ≤ Y.2.2.1)
    (h : sl_V Y none d mc ms Q 0 lv [] M) : sl_T Y d mc ms Q As M := by
  subst he
  intro l D dA ad n sz hn hno
  refine MetFree.of_bodySF (code := Y.2.1) (maxLocals := Y.2.2.1) (ret := Y.2.2.2) hy ?_ ?_
  · intro args s m h hn
    obtain ⟨meth, c, h1, h2, h3, h4, h5, h6, -, -⟩ := Cond.code_spec hn (atoms_spec (ws := sl_ws Y) h _ List.mem_cons_self)
    exact ⟨meth, c, h1, h2, h3, h4, h5, h6⟩
  intro p e s m args below meth c s₁ B hml hv _
  obtain ⟨rfl, hsz, hP, hK, hD0, hstr⟩ := hv
  subst hsz
  have hts := atoms_spec (ws := sl_ws Y) B.pre
  have hown : s.vm.findClass Y.1.cls = some m.cls := findClass_of_methodNamed B.named
  have hl := lv_entry (As.map (sl_v ad)) (n := Y.2.2.1) (by rw [sl_ea_len]; exact hlen)
  have hh0 : s₁.heap = s.heap := by rw [B.state]; rfl
  have X0 : Stand p l e (headSpec (sl_ws Y) (sl_rm d mc ms)).room (s.setDrawn s.drawn) m (As.map (sl_v ad)).toArray below meth c s₁ [] 0 0 := Stand.of_body B
  rw [lg_entry_eq]
  generalize (lg_sl (As.map (sl_v ad)) ++ List.replicate (Y.2.2.1 - (lg_sl (As.map (sl_v ad))).length) Slot.unset).toArray = ls at hl ⊢
  obtain ⟨t, a1, d, hd, o, b1, b2, b3, b4⟩ := h p l e _ s m _ below meth c s.heap [] 0 0 mc ms D dA ad ad n n _ s.drawn ls
    ⟨⟨B.exec, B.bytes, B.returns, hml, B.notSynchronized, hown, fun w hw => hts w (List.mem_cons_of_mem _ hw), (name_of_methodNamed B.named B.method).1⟩,
     ⟨Nat.le_refl d, Nat.le_refl (40 * d), Nat.zero_add _, Nat.zero_add _, Nat.le_refl mc, Nat.le_refl ms⟩,
     ⟨hK, hP, hD0.self, va_S.rf, fun q g => Or.inr g⟩,
     ⟨Drawn.sameBut.refl _ _, hl.1, hl.2.1, fun i v g => hl.2.2 _ (sl_ent_get ad g)⟩,
     ⟨fun _ _ => rfl, Nat.le_refl n, hn, hno⟩, ⟨hstr, fun _ => ⟨rfl, rfl⟩, fun L xs g => by cases g⟩⟩ s₁ hh0 X0
  exact ⟨t, o, a1, b1, b2, d, hd, b3, b4⟩
theorem fb_w1 : Cond.methodLink RJxf58ca 74 ⟨"java/lang/Float", "floatToRawIntBits", "(F)I"⟩ ∈ sl_g := sl_gt18 30 (by decide +kernel) rfl
theorem fb_w2 : Cond.native ⟨"java/lang/Float", "floatToRawIntBits", "(F)I"⟩ ∈ sl_g := sl_gt18 32 (by decide +kernel) rfl
theorem fb_w3 : Cond.static ⟨"java/lang/Float", "floatToRawIntBits", "(F)I"⟩ ∈ sl_g := sl_gt18 31 (by decide +kernel) rfl
theorem fb_w4 : Cond.initialized "java/lang/Float" ∈ sl_g := sl_gt10 22 (by decide +kernel) rfl
theorem nan_val (x : UInt32) : isNaN32 x = true ↔ FP.Core.val32 x = .nan := by
  rw [← FP.Core.fIsNaN_iff, FP.Core.isNaN_bits32, isNaN32_iff]
  rw [show (0x7fffffff : Nat) = 2 ^ 31 - 1 from rfl, Nat.and_two_pow_sub_one_eq_mod]
theorem nan_cmp (x : UInt32) : Op.cmpValue (FP.fcmp x x) .l = 0 ↔ isNaN32 x = false := by
  cases h : isNaN32 x with
  | true =>
    have e : FP.fcmp x x = none := (FP.Core.fcmp_none x x).mpr (Or.inl ((nan_val x).mp h))
    rw [e]
    decide
  | false =>
    have e : FP.fcmp x x = some .eq := FP.Core.fcmp_self (fun q => by rw [(nan_val x).mpr q] at h; cases h)
    rw [e]
    decide
/-- the bits of a float, one NaN for all -/
def fl_b (x : UInt32) : Int32 := if isNaN32 x = true then 2143289344 else x.toInt32
theorem fl_b_alike {x y : UInt32} (h : alike32 x y = true) : fl_b x = fl_b y := by
  unfold alike32 at h
  rcases Bool.or_eq_true _ _ ▸ h with h | h
  · rw [of_decide_eq_true h]
  · rw [Bool.and_eq_true] at h
    unfold fl_b
    rw [if_pos h.1, if_pos h.2]
set_option maxRecDepth 100000 in
theorem c_isNaN (M : sl_M) (x : UInt32) : sl_R YJxf58ca_isNaN_12338 0 [.float x] M (some (.int (sl_bi (isNaN32 x)))) M := by
  have h := nan_cmp x
  refine sl_T.of_VF (lv := [_]) (by decide +kernel) rfl (Nat.le_of_ble_eq_true rfl) ?_
  refine slv_fload_n eJxf58ca_isNaN_12338_0 rfl ?_
  refine slv_fload_n eJxf58ca_isNaN_12338_1 rfl ?_
  refine slv_fcmp eJxf58ca_isNaN_12338_2 ?_
  refine slv_if_eq eJxf58ca_isNaN_12338_3 (fun h3 => ?_) (fun h3 => ?_)
  · refine slv_iconst (v := nI 0) eJxf58ca_isNaN_12338_10 (by decide) ?_
    refine slv_zret eJxf58ca_isNaN_12338_11 rfl rfl ?_
    refine ⟨?_, rfl⟩
    first | (rw [h.mp h3]; rfl) | (rw [show isNaN32 x = true from Bool.not_eq_false _ ▸ (fun q => h3 (h.mpr q))]; rfl)
  · refine slv_iconst (v := nI 1) eJxf58ca_isNaN_12338_6 (by decide) ?_
    refine slv_goto eJxf58ca_isNaN_12338_7 ?_
    refine slv_zret eJxf58ca_isNaN_12338_11 rfl rfl ?_
    refine ⟨?_, rfl⟩
    first | (rw [h.mp h3]; rfl) | (rw [show isNaN32 x = true from Bool.not_eq_false _ ▸ (fun q => h3 (h.mpr q))]; rfl)
set_option maxRecDepth 100000 in
theorem c_fbits (M : sl_M) (x : UInt32) : sl_R YJxf58ca_floatToIntBits_5c35a 1 [.float x] M (some (.int (fl_b x))) M := by
  have h := c_isNaN M x
  refine sl_T.of_VF (lv := [_]) (by decide +kernel) rfl (Nat.le_of_ble_eq_true rfl) ?_
  unfold fl_b
  cases hn : isNaN32 x with
  | true =>
    rw [hn] at h
    refine slv_fload_n eJxf58ca_floatToIntBits_5c35a_0 rfl ?_
    refine slv_rS (As := [_]) eJxf58ca_floatToIntBits_5c35a_1 lJxf58ca_59 rfl rfl h (by decide) (Nat.le_of_ble_eq_true rfl) ?_
    refine slv_if_neB eJxf58ca_floatToIntBits_5c35a_4 (fun h4 => ?_) (fun h4 => absurd h4 (by decide))
    refine slv_ldc eJxf58ca_floatToIntBits_5c35a_12 kJxf58ca_77 ?_
    refine slv_iret eJxf58ca_floatToIntBits_5c35a_14 rfl ?_
    exact ⟨rfl, rfl⟩
  | false =>
    rw [hn] at h
    refine slv_fload_n eJxf58ca_floatToIntBits_5c35a_0 rfl ?_
    refine slv_rS (As := [_]) eJxf58ca_floatToIntBits_5c35a_1 lJxf58ca_59 rfl rfl h (by decide) (Nat.le_of_ble_eq_true rfl) ?_
    refine slv_if_neB eJxf58ca_floatToIntBits_5c35a_4 (fun h4 => absurd h4 (by decide)) (fun h4 => ?_)
    refine slv_fload_n eJxf58ca_floatToIntBits_5c35a_7 rfl ?_
    refine slv_f2bits eJxf58ca_floatToIntBits_5c35a_8 fb_w1 fb_w2 fb_w3 fb_w4 (by decide) (Nat.le_of_ble_eq_true rfl) ?_
    refine slv_iret eJxf58ca_floatToIntBits_5c35a_11 rfl ?_
    exact ⟨rfl, rfl⟩

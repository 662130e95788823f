/-! the law: barren, the loop -/
/-- the barren name asked for -/
def ba_o (sn : Bool) (g : sg_T) (x : Int32) : Option Nat := cond sn (bn_r g x (sg_names g) 0 0) none
/-- what the law's barren must come to -/
def ba_all (mB sB : Nat) : Prop := ∀ (X : Option (Nat × (Nat → Int32))) (kc ks : Nat) (Q : Option Value → sl_M → Prop) (lv : List (Option Value)) (fd db sb : Nat) (sn tl : Bool) (lf lt : Nat) (lp : Int32) (g : sg_T) (M : sl_M) (z : Nat → Int64) (x : Int32), (db = 2 ∨ db = 10) → sg_at db g M → sg_ok g → ob_at fd db sb sn tl lf lt lp M → M 113 = .inl (.long, 1, .inr (.inl z)) → (∀ i k : Nat, lv[i]? = some (some (.ref k)) → M k ≠ sl_no ∨ sl_X ≤ k) → (∀ (r : Option Value) (M' : sl_M), (match ba_o sn g x with
    | none => r = some (.int (nI 1)) ∧ M' = M
    | some n => r = some (.int (nI 0)) ∧ M' = sl_up M 113 (.inl (.long, 1, .inr (.inl (sl_u z 0 (nI n).toInt64))))) → sl_V YL_law X 70 kc ks Q 1032 lv (sl_ret r []) M') → sl_V YL_law X 70 (mB + kc) (sB + ks) Q 1029 lv [.ref 113, .int x, .ref 0] M
theorem bn_lt {g : sg_T} {x : Int32} : ∀ (m i k n : Nat), bn_r g x m i k = some n → n < i + m := by
  intro m
  induction m with
  | zero => intro i k n h; cases h
  | succ m ih =>
    intro i k n h
    rw [bn_r] at h
    cases hb : sg_bn g i with
    | false => rw [hb] at h; have := ih (i + 1) k n h; omega
    | true =>
      rw [hb] at h
      simp only [cond_true] at h
      split at h
      · have := Option.some.inj h; omega
      · have := ih (i + 1) (k + 1) n h; omega
section LWB
variable {L : Nat} {xs : Nat → Int32} {kc ks i mB sB : Nat} {Q : Option Value → sl_M → Prop} {M : sl_M} {z5 z6 : Option Value}
theorem lwI_0 {C : cT} {v : Nat → Int32} {w : Int64} {a : Nat → Nat → Int32} {nm : Nat → Int64} (hA : clA C M) (hK : clK C) (hR : lwR C v a) (y : Int32) (hS : rf_S v w a nm M = M) (h113 : ∃ z : Nat → Int64, M 113 = .inl (.long, 1, .inr (.inl z))) : lwI (rf_S (sl_u v 0 y) w a nm M) :=
  ⟨C, sl_u v 0 y, w, a, nm, clA_lo hK.1 hA (fun k hk => rf_lo hk), rf_rf, h113.imp (fun z hz => (rf_hi (by decide)).trans hz), hK, lwR_q (k := C.lt) (p := C.lp) hR (rqF_0 v a y) hR.1.1 hR.1.2.1⟩
set_option maxRecDepth 100000 in
theorem lo_barren (hB : ba_all mB sB) (hI : lwI M) (hi : i + 6 ≤ L) (hL : L ≤ 3072) (h5 : z5 = none ∨ ∃ x, z5 = some (.int x)) (h6 : z6 = none ∨ ∃ x, z6 = some (.int x)) (fin : ∀ M' x y, lwI M' → sl_V YL_law (some (L, xs)) 70 kc ks Q 1115 [some (.ref (sl_X + 500)), some (.ref 0), some (.ref 68), some (.ref 113), some (.int (nI i)), some (.int x), some (.int y)] [] M') : sl_V YL_law (some (L, xs)) 70 (mB + kc) (sB + ks) Q 1021 [some (.ref (sl_X + 500)), some (.ref 0), some (.ref 68), some (.ref 113), some (.int (nI i)), z5, z6] [] M := by
  obtain ⟨C, v, w, a, nm, hA, hS, ⟨z, h113⟩, hK, hR⟩ := hI
  have hX := fun e => lwR_x hK hR e
  have hok := hK.2.2.1.1
  have k0 : M 0 = _ := hA.1
  have k68 : M 68 = .inr (11, rf_c v w) := by rw [← hS]; exact rf_68
  have hno : ∀ (j : Nat) (x : sl_E), M j = x → sl_tag x ≠ 100 → M j ≠ sl_no := fun j x e t q => t (by rw [← e, q]; rfl)
  refine slv_aload_n eL_law_1021 rfl ?_
  refine slv_aload_n eL_law_1022 rfl ?_
  refine slv_iload eL_law_1023 rfl ?_
  refine slv_iconst (v := nI 1) eL_law_1025 (by decide) ?_
  refine slv_iaddN eL_law_1026 ?_
  refine slv_sldN eL_law_1027 rfl (by omega) (by omega) ?_
  refine slv_aload_n eL_law_1028 rfl ?_
  refine hB _ _ _ _ _ C.fd C.db C.sb C.sn C.tl C.lf C.lt C.lp C.g M z (xs (i + 1)) (by have := hK.1; omega) hA.2.2.1 hok hA.1 h113 (fun j k hk => ?_) ?_
  · have hk' : k = 0 ∨ k = 68 ∨ k = 113 ∨ sl_X ≤ k := by
      match j, hk with
      | 0, hk => right; right; right; have e := Value.ref.inj (Option.some.inj (Option.some.inj hk)); rw [← e]; exact Nat.le_add_right _ _
      | 1, hk => left; exact (Value.ref.inj (Option.some.inj (Option.some.inj hk))).symm
      | 2, hk => right; left; exact (Value.ref.inj (Option.some.inj (Option.some.inj hk))).symm
      | 3, hk => right; right; left; exact (Value.ref.inj (Option.some.inj (Option.some.inj hk))).symm
      | 4, hk => cases Option.some.inj (Option.some.inj hk)
      | 5, hk =>
        have hk5 : z5 = some (.ref k) := Option.some.inj hk
        rcases h5 with e | ⟨x, e⟩
        · rw [e] at hk5; cases hk5
        · rw [e] at hk5; cases hk5
      | 6, hk =>
        have hk6 : z6 = some (.ref k) := Option.some.inj hk
        rcases h6 with e | ⟨x, e⟩
        · rw [e] at hk6; cases hk6
        · rw [e] at hk6; cases hk6
      | n + 7, hk => cases hk
    rcases hk' with e | e | e | e
    · left; rw [e]; exact hno 0 _ k0 (by show (11 : Nat) ≠ 100; decide)
    · left; rw [e]; exact hno 68 _ k68 (by show (12 : Nat) ≠ 100; decide)
    · left; rw [e]; exact hno 113 _ h113 (by show (0 : Nat) ≠ 100; decide)
    · right; exact e
  intro r1 M1 hP1
  have hBr := fun M => c_X12_barren (v := v) (w := w) (a := a) (nm := nm) (M := M) hR.1.2.2.2.2.2.1 hok (fun e => (hX e).1) (xs (i + 1))
  change ∀ M, sl_R YX12_barren 3 [.ref 68, .int (xs (i + 1))] (rf_S v w a nm M) (some (.int (nI ((ba_o C.sn C.g (xs (i + 1))).getD 0)))) (rf_S (sl_u v 0 (nI (if ba_o C.sn C.g (xs (i + 1)) = none then 1 else 0))) w a nm M) at hBr
  cases hb : ba_o C.sn C.g (xs (i + 1)) with
  | none =>
    simp only [hb] at hP1 hBr
    obtain ⟨rfl, rfl⟩ := hP1
    have hBr1 := hBr M1
    rw [hS, if_pos trivial] at hBr1
    have hTh := c_X12_thrown (v := sl_u v 0 (nI 1)) (w := w) (a := a) (nm := nm) (M := M1)
    have k68' : rf_S (sl_u v 0 (nI 1)) w a nm M1 68 = .inr (11, rf_c (sl_u v 0 (nI 1)) w) := rf_68
    have hI2 := lwI_0 hA hK hR (nI 1) hS ⟨z, h113⟩
    generalize rf_S (sl_u v 0 (nI 1)) w a nm M1 = M2 at *
    refine slv_istore eL_law_1032 (by decide) rfl ?_
    refine slv_aload_n eL_law_1034 rfl ?_
    refine slv_aload_n eL_law_1035 rfl ?_
    refine slv_iload eL_law_1036 rfl ?_
    refine slv_iconst (v := nI 1) eL_law_1038 (by decide) ?_
    refine slv_iaddN eL_law_1039 ?_
    refine slv_sldN eL_law_1040 rfl (by omega) (by omega) ?_
    refine slv_rV (As := [_]) eL_law_1041 lL_157 rfl rfl k68 rfl hBr1 (by decide) (Nat.le_of_ble_eq_true rfl) ?_
    refine slv_istore eL_law_1044 (by decide) rfl ?_
    refine slv_aload_n eL_law_1046 rfl ?_
    refine slv_rV (As := []) eL_law_1047 lL_158 rfl rfl k68' rfl hTh (by decide) (Nat.le_of_ble_eq_true rfl) ?_
    refine slv_iload eL_law_1050 rfl ?_
    refine slv_icmp_eq eL_law_1052 (fun _ => ?_) (fun h => absurd rfl h)
    refine slv_iload eL_law_1057 rfl ?_
    refine slv_if_ne eL_law_1059 (fun _ => ?_) (fun h => absurd h (by decide))
    refine slv_goto eL_law_1074 ?_
    exact fin M2 _ _ hI2
  | some n =>
    simp only [hb] at hP1 hBr
    obtain ⟨rfl, rfl⟩ := hP1
    have hS1 : rf_S v w a nm (sl_up M 113 (.inl (.long, 1, .inr (.inl (sl_u z 0 (nI n).toInt64))))) = sl_up M 113 (.inl (.long, 1, .inr (.inl (sl_u z 0 (nI n).toInt64)))) := rf_keep hS (fun k _ q => up_out (by omega))
    have hA1 := clA_lo hK.1 hA (M' := sl_up M 113 (.inl (.long, 1, .inr (.inl (sl_u z 0 (nI n).toInt64))))) (fun k q => up_out (by omega))
    have h113' : sl_up M 113 (.inl (.long, 1, .inr (.inl (sl_u z 0 (nI n).toInt64)))) 113 = .inl (.long, 1, .inr (.inl (sl_u z 0 (nI n).toInt64))) := sl_up_eq
    have k68b : sl_up M 113 (.inl (.long, 1, .inr (.inl (sl_u z 0 (nI n).toInt64)))) 68 = .inr (11, rf_c v w) := (up_out (by decide)).trans k68
    generalize sl_up M 113 (.inl (.long, 1, .inr (.inl (sl_u z 0 (nI n).toInt64)))) = M1 at *
    have hBr1 := hBr M1
    rw [hS1, if_neg (by intro q; cases q)] at hBr1
    have hTh := c_X12_thrown (v := sl_u v 0 (nI 0)) (w := w) (a := a) (nm := nm) (M := M1)
    have k68' : rf_S (sl_u v 0 (nI 0)) w a nm M1 68 = .inr (11, rf_c (sl_u v 0 (nI 0)) w) := rf_68
    have hI2 := lwI_0 hA1 hK hR (nI 0) hS1 ⟨_, h113'⟩
    have k113' : rf_S (sl_u v 0 (nI 0)) w a nm M1 113 = .inl (.long, 1, .inr (.inl (sl_u z 0 (nI n).toInt64))) := (rf_hi (by decide)).trans h113'
    generalize rf_S (sl_u v 0 (nI 0)) w a nm M1 = M2 at *
    refine slv_istore eL_law_1032 (by decide) rfl ?_
    refine slv_aload_n eL_law_1034 rfl ?_
    refine slv_aload_n eL_law_1035 rfl ?_
    refine slv_iload eL_law_1036 rfl ?_
    refine slv_iconst (v := nI 1) eL_law_1038 (by decide) ?_
    refine slv_iaddN eL_law_1039 ?_
    refine slv_sldN eL_law_1040 rfl (by omega) (by omega) ?_
    refine slv_rV (As := [_]) eL_law_1041 lL_157 rfl rfl k68b rfl hBr1 (by decide) (Nat.le_of_ble_eq_true rfl) ?_
    refine slv_istore eL_law_1044 (by decide) rfl ?_
    refine slv_aload_n eL_law_1046 rfl ?_
    refine slv_rV (As := []) eL_law_1047 lL_158 rfl rfl k68' rfl hTh (by decide) (Nat.le_of_ble_eq_true rfl) ?_
    refine slv_iload eL_law_1050 rfl ?_
    refine slv_icmp_eq eL_law_1052 (fun _ => ?_) (fun h => absurd rfl h)
    refine slv_iload eL_law_1057 rfl ?_
    refine slv_if_ne eL_law_1059 (fun h => absurd rfl h) (fun _ => ?_)
    refine slv_aload_n eL_law_1062 rfl ?_
    refine slv_iconst (v := nI 0) eL_law_1063 (by decide) ?_
    refine slv_laldN eL_law_1064 k113' (by decide) (by decide) ?_
    refine slv_iload eL_law_1065 rfl ?_
    refine slv_i2l eL_law_1067 rfl ?_
    refine slv_lcmp eL_law_1068 ?_
    refine slv_if_eq eL_law_1069 (fun _ => ?_) (fun h => absurd ?_ h)
    · refine slv_goto eL_law_1074 ?_
      exact fin M2 _ _ hI2
    · exact lg_same _
end LWB

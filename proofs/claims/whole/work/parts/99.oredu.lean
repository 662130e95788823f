/-! the reference reduces: the node laid, the stack shortened -/
theorem fl_b_b (x : UInt32) : fl_b (fl_b x).toUInt32 = fl_b x := by
  unfold fl_b
  by_cases h : isNaN32 x = true
  · rw [if_pos h]; decide
  · rw [if_neg h, UInt32.toUInt32_toInt32, if_neg h]
theorem rH_F {D : nd_T} {H : hn_T} {vm : Nat} {v v' : Nat → Int32} {a a' : Nat → Nat → Int32} (h : rH D H vm v a) (hv : ∀ k, k ∈ [77, 78] → v' k = v k) (ha : ∀ k, k ∈ [67, 68, 76, 69] → a' k = a k) : rH D H vm v' a' := by
  unfold rH at *
  rw [hv 77 (by decide), hv 78 (by decide), ha 67 (by decide), ha 68 (by decide), ha 76 (by decide), ha 69 (by decide)]
  exact h
abbrev rdV : List Nat := [61, 64, 65, 66]
abbrev rdA : List Nat := [54, 58, 55, 59, 70, 56, 60, 57, 71, 72, 73, 74, 75]
theorem rdR_F {E : rx_T} {S : rd_T} {v v' : Nat → Int32} {a a' : Nat → Nat → Int32} (h : rdR E S v a) (hv : ∀ k, k ∈ rdV → v' k = v k) (ha : ∀ k, k ∈ rdA → a' k = a k) : rdR E S v' a' := by
  unfold rdR at *
  rw [hv 61 (by decide), hv 64 (by decide), hv 65 (by decide), hv 66 (by decide), ha 54 (by decide), ha 58 (by decide), ha 55 (by decide), ha 59 (by decide), ha 70 (by decide), ha 56 (by decide), ha 60 (by decide), ha 57 (by decide), ha 71 (by decide), ha 72 (by decide), ha 73 (by decide), ha 74 (by decide), ha 75 (by decide)]
  exact h
/-- what reducing leaves -/
def re_a0 (a : Nat → Nat → Int32) (c fr : Nat) (x : Int32) (b : Bool) : Nat → Nat → Int32 := sl_u (sl_u (sl_u (sl_u a 58 (sl_u (a 58) (fr - 1) (sl_bi true))) 55 (sl_u (a 55) (fr - 1) x)) 59 (sl_u (a 59) (fr - 1) (sl_bi b))) 70 (sl_u (a 70) (fr - 1) (nI c))
def re_a1 (a : Nat → Nat → Int32) (D : nd_T) (H : hn_T) (c : Nat) (x : Int32) (b : Bool) (r : Nat) : Nat → Nat → Int32 := sl_u (ln_a a D H c x (sl_bi b)) 57 (sl_u (a 57) c (nI r))
def re_v1 (v : Nat → Int32) (c sp : Nat) : Nat → Int32 := sl_u (sl_u v 65 (nI (c + 1))) 64 (nI (sp + 1))
section RRD
variable {v : Nat → Int32} {w : Int64} {a : Nat → Nat → Int32} {nm : Nat → Int64} {M : sl_M} {Q : Option Value → sl_M → Prop} {D : nd_T} {H : hn_T} {vm c sp r fr : Nat} {x : Int32} {b : Bool}
set_option maxRecDepth 100000 in
theorem re_185 {l1 l2 : Option Value} (hc : c < 60) (hm : v 65 = nI c) (hsp : v 64 = nI sp) (hsp2 : sp < 1000) (hr : r < 12) (hH : rH D H vm v a) (hvm : vm ≤ 2) (h1 : ∀ k, H.1 = some k → k < c) (h2 : ∀ k, H.2.1 = some k → k < c) (hD : ∀ k, k < c → a 73 k = nI (nd_de D k) ∧ nd_de D k < 1000) (hx : v 79 = x) (hb : v 80 = sl_bi b) (hQ : Q none (rf_S (re_v1 v c sp) w (re_a1 a D H c x b r) nm M)) : sl_V YX12_reduces none 6 0 0 Q 185 [some (.ref 68), l1, l2, some (.int (nI r))] [] (rf_S v w a nm M) := by
  have hLN := c_X12_laysNode (w := w) (nm := nm) (M := M) (c := c) (by omega) hH hvm h1 h2 hD hx hb
  refine slv_aload_n eX12_reduces_185 rfl ?_
  refine slv_aload_n eX12_reduces_186 rfl ?_
  refine slr_gi eX12_reduces_187 fX12_447 rfl (by repeat (first | exact sl_u_eq | assumption | apply rf_ne (by decide) | exact rfl)) ?_
  refine slv_rV (As := [_]) eX12_reduces_190 lX12_486 rfl rfl rf_68 rfl hLN (by decide) (Nat.le_of_ble_eq_true rfl) ?_
  refine slv_aload_n eX12_reduces_193 rfl ?_
  refine slr_ga (p := 99) eX12_reduces_194 fX12_107 rfl ?_
  refine slv_aload_n eX12_reduces_197 rfl ?_
  refine slr_gi eX12_reduces_198 fX12_447 rfl (by repeat (first | exact sl_u_eq | assumption | apply rf_ne (by decide) | exact rfl)) ?_
  refine slv_iload_n eX12_reduces_201 rfl ?_
  refine slr_iastX (k := 57) (p := 99) (len := 122) eX12_reduces_202 rfl (by repeat (first | exact sl_u_eq | assumption | apply rf_ne (by decide) | exact rfl)) (by omega) (by decide) (rf_t57 _ _ _ _ _) ?_
  refine slv_aload_n eX12_reduces_203 rfl ?_
  refine slv_dup eX12_reduces_204 rfl ?_
  refine slr_gi eX12_reduces_205 fX12_447 rfl (by repeat (first | exact sl_u_eq | assumption | apply rf_ne (by decide) | exact rfl)) ?_
  refine slv_iconst (v := nI 1) eX12_reduces_208 (by decide) ?_
  refine slv_iaddN eX12_reduces_209 ?_
  refine slr_pi eX12_reduces_210 fX12_447 (Nat.le_of_ble_eq_true rfl) rf_s65 ?_
  refine slv_aload_n eX12_reduces_213 rfl ?_
  refine slv_dup eX12_reduces_214 rfl ?_
  refine slr_gi eX12_reduces_215 fX12_444 rfl (by repeat (first | exact sl_u_eq | assumption | apply rf_ne (by decide) | exact rfl)) ?_
  refine slv_iconst (v := nI 1) eX12_reduces_218 (by decide) ?_
  refine slv_iaddN eX12_reduces_219 ?_
  refine slr_pi eX12_reduces_220 fX12_444 (Nat.le_of_ble_eq_true rfl) rf_s64 ?_
  refine slv_vret eX12_reduces_223 rfl ?_
  exact hQ
set_option maxRecDepth 100000 in
theorem re_132 {l1 : Option Value} (hf1 : 1 ≤ fr) (hf2 : fr ≤ 15) (hc : c < 60) (hm : v 65 = nI c) (hsp : v 64 = nI sp) (hsp2 : sp < 1000) (hr : r < 12) (hH : rH D H vm v a) (hvm : vm ≤ 2) (h1 : ∀ k, H.1 = some k → k < c) (h2 : ∀ k, H.2.1 = some k → k < c) (hD : ∀ k, k < c → a 73 k = nI (nd_de D k) ∧ nd_de D k < 1000) (hx : v 79 = x) (hb : v 80 = sl_bi b) (hQ : Q none (rf_S (re_v1 (sl_u v 61 (nI (fr - 1))) c sp) w (re_a1 (re_a0 a c fr x b) D H c x b r) nm M)) : sl_V YX12_reduces none 6 0 0 Q 132 [some (.ref 68), l1, some (.int (nI fr)), some (.int (nI r))] [] (rf_S v w a nm M) := by
  have hH' : rH D H vm (sl_u v 61 (nI (fr - 1))) (re_a0 a c fr x b) := by
    refine rH_F hH (fun k hk => sl_u_ne (fun e => ?_)) (fun k hk => ?_)
    · rw [e] at hk; exact absurd hk (by decide)
    · unfold re_a0
      rw [sl_u_ne (fun e => absurd hk (by rw [e]; decide)), sl_u_ne (fun e => absurd hk (by rw [e]; decide)), sl_u_ne (fun e => absurd hk (by rw [e]; decide)), sl_u_ne (fun e => absurd hk (by rw [e]; decide))]
  have fin := re_185 (l1 := l1) (l2 := some (.int (nI fr))) (v := sl_u v 61 (nI (fr - 1))) (a := re_a0 a c fr x b) (w := w) (nm := nm) (M := M) (Q := Q) (r := r) (sp := sp) hc hm hsp hsp2 hr hH' hvm h1 h2 hD hx hb hQ
  refine slv_aload_n eX12_reduces_132 rfl ?_
  refine slr_ga (p := 100) eX12_reduces_133 fX12_110 rfl ?_
  refine slv_iload_n eX12_reduces_136 rfl ?_
  refine slv_iconst (v := nI 1) eX12_reduces_137 (by decide) ?_
  refine slv_isubN eX12_reduces_138 (by omega) ?_
  refine slv_iconst (v := nI 1) eX12_reduces_139 (by decide) ?_
  refine slr_zastX (k := 58) (p := 100) (len := 16) eX12_reduces_140 rfl (by repeat (first | exact sl_u_eq | assumption | apply rf_ne (by decide) | exact rfl)) (by omega) (by decide) (sl_nar_bi true) (rf_t58 _ _ _ _ _) ?_
  refine slv_aload_n eX12_reduces_141 rfl ?_
  refine slr_ga (p := 97) eX12_reduces_142 fX12_101 rfl ?_
  refine slv_iload_n eX12_reduces_145 rfl ?_
  refine slv_iconst (v := nI 1) eX12_reduces_146 (by decide) ?_
  refine slv_isubN eX12_reduces_147 (by omega) ?_
  refine slv_aload_n eX12_reduces_148 rfl ?_
  refine slr_gi eX12_reduces_149 fX12_480 rfl hx ?_
  refine slr_iastX (k := 55) (p := 97) (len := 16) eX12_reduces_152 rfl (by repeat (first | exact sl_u_eq | assumption | apply rf_ne (by decide) | exact rfl)) (by omega) (by decide) (rf_t55 _ _ _ _ _) ?_
  refine slv_aload_n eX12_reduces_153 rfl ?_
  refine slr_ga (p := 101) eX12_reduces_154 fX12_113 rfl ?_
  refine slv_iload_n eX12_reduces_157 rfl ?_
  refine slv_iconst (v := nI 1) eX12_reduces_158 (by decide) ?_
  refine slv_isubN eX12_reduces_159 (by omega) ?_
  refine slv_aload_n eX12_reduces_160 rfl ?_
  refine slr_gi eX12_reduces_161 fX12_483 rfl hb ?_
  refine slr_zastX (k := 59) (p := 101) (len := 16) eX12_reduces_164 rfl (by repeat (first | exact sl_u_eq | assumption | apply rf_ne (by decide) | exact rfl)) (by omega) (by decide) (sl_nar_bi b) (rf_t59 _ _ _ _ _) ?_
  refine slv_aload_n eX12_reduces_165 rfl ?_
  refine slv_iload_n eX12_reduces_166 rfl ?_
  refine slv_iconst (v := nI 1) eX12_reduces_167 (by decide) ?_
  refine slv_isubN eX12_reduces_168 (by omega) ?_
  refine slr_pi eX12_reduces_169 fX12_438 (Nat.le_of_ble_eq_true rfl) rf_s61 ?_
  refine slv_aload_n eX12_reduces_172 rfl ?_
  refine slr_ga (p := 106) eX12_reduces_173 fX12_128 rfl ?_
  refine slv_aload_n eX12_reduces_176 rfl ?_
  refine slr_gi eX12_reduces_177 fX12_438 rfl (by repeat (first | exact sl_u_eq | assumption | apply rf_ne (by decide) | exact rfl)) ?_
  refine slv_aload_n eX12_reduces_180 rfl ?_
  refine slr_gi eX12_reduces_181 fX12_447 rfl (by repeat (first | exact sl_u_eq | assumption | apply rf_ne (by decide) | exact rfl)) ?_
  refine slr_iastX (k := 70) (p := 106) (len := 16) eX12_reduces_184 rfl (by repeat (first | exact sl_u_eq | assumption | apply rf_ne (by decide) | exact rfl)) (by omega) (by decide) (rf_t70 _ _ _ _ _) ?_
  exact fin
end RRD

/-! the reference reads -/
def rsF (v : Nat → Int32) (a : Nat → Nat → Int32) (v' : Nat → Int32) (a' : Nat → Nat → Int32) : Prop := (∀ k, k ∉ [61, 64, 65, 77, 78, 79, 80, 62, 63, 66] → v' k = v k) ∧ ∀ k, k ∉ [67, 68, 76, 69, 58, 55, 59, 70, 71, 72, 73, 74, 75, 57, 54, 56, 60] → a' k = a k
theorem rsF_t {v v1 v2 : Nat → Int32} {a a1 a2 : Nat → Nat → Int32} (h : rsF v a v1 a1) (h2 : rsF v1 a1 v2 a2) : rsF v a v2 a2 := ⟨fun k hk => (h2.1 k hk).trans (h.1 k hk), fun k hk => (h2.2 k hk).trans (h.2 k hk)⟩
theorem reF_s {v v1 : Nat → Int32} {a a1 : Nat → Nat → Int32} (h : reF v a v1 a1) : rsF v a v1 a1 := by
  refine ⟨fun k hk => h.1 k (fun q => hk ?_), fun k hk => h.2 k (fun q => hk ?_)⟩
  · simp only [List.mem_cons, List.mem_nil_iff, or_false] at q ⊢
    omega
  · simp only [List.mem_cons, List.mem_nil_iff, or_false] at q ⊢
    omega
theorem rsF_l {v v1 : Nat → Int32} {a a1 : Nat → Nat → Int32} (h : rsF v a v1 a1) {Lv La : List Nat} (h1 : ∀ k, k ∈ Lv → k ∉ [61, 64, 65, 77, 78, 79, 80, 62, 63, 66]) (h2 : ∀ k, k ∈ La → k ∉ [67, 68, 76, 69, 58, 55, 59, 70, 71, 72, 73, 74, 75, 57, 54, 56, 60]) : (∀ k, k ∈ Lv → v1 k = v k) ∧ ∀ k, k ∈ La → a1 k = a k := ⟨fun k hk => h.1 k (h1 k hk), fun k hk => h.2 k (h2 k hk)⟩
theorem rd_run_en {E : rx_T} {S : rd_T} (h : rd_en S = true) (n : Nat) : rd_run E n S = S := by
  cases n with
  | zero => rfl
  | succ n => rw [rd_run, h]; rfl
theorem rf_f1 {v : Nat → Int32} {a : Nat → Nat → Int32} {x y : Int32} : rsF v a (sl_u (sl_u v 63 x) 62 y) a := ⟨fun k hk => by rw [sl_u_ne (fun e => hk (by rw [e]; decide)), sl_u_ne (fun e => hk (by rw [e]; decide))], fun _ _ => rfl⟩
theorem rf_f0 {v : Nat → Int32} {a : Nat → Nat → Int32} {x : Int32} : rsF v a (sl_u v 63 x) a := ⟨fun k hk => by rw [sl_u_ne (fun e => hk (by rw [e]; decide))], fun _ _ => rfl⟩
section RSR
variable {v : Nat → Int32} {w : Int64} {a : Nat → Nat → Int32} {nm : Nat → Int64} {M : sl_M} {Q : Option Value → sl_M → Prop} {E : rx_T} {S : rd_T} {how : Nat}
set_option maxRecDepth 100000 in
theorem rs_end {k : Nat} {l1 l2 l3 l4 l5 : Option Value} (hk : k ≠ 0) (hk2 : k < 100) (hf : v 62 = nI k) (hQ : Q none (rf_S v w a nm M)) : sl_V YX12_reads none 7 0 0 Q 44 [some (.ref 68), l1, l2, l3, l4, l5] [] (rf_S v w a nm M) := by
  refine slv_aload_n eX12_reads_44 rfl ?_
  refine slr_gi eX12_reads_45 fX12_441 rfl (by repeat (first | exact sl_u_eq | assumption | apply rf_ne (by decide) | exact rfl)) ?_
  refine slv_if_neN eX12_reads_48 (by omega) (fun h48 => ?_) (fun h48 => absurd h48 (by omega))
  refine slv_vret eX12_reads_200 rfl ?_
  exact hQ
set_option maxRecDepth 100000 in
theorem rs_124 {x y : Nat} {o : Int32} {l2 l5 : Option Value} (hh : how < 2) (hRl : sl_R YX12_relates_ 1 [.ref 68, .int (nI x), .int (nI y), .int (nI how)] (rf_S v w a nm M) (some (.int o)) (rf_S v w a nm M)) (hk : sl_V YX12_reads none 7 0 0 Q 143 [some (.ref 68), some (.int (nI how)), l2, some (.int (nI y)), some (.int (nI x)), some (.int o)] [] (rf_S v w a nm M)) : sl_V YX12_reads none 7 0 0 Q 124 [some (.ref 68), some (.int (nI how)), l2, some (.int (nI y)), some (.int (nI x)), l5] [] (rf_S v w a nm M) := by
  rcases (show how = 0 ∨ how = 1 by omega) with q | q <;> subst q
  · refine slv_aload_n eX12_reads_124 rfl ?_
    refine slv_iload eX12_reads_125 rfl ?_
    refine slv_iload_n eX12_reads_127 rfl ?_
    refine slv_iload_n eX12_reads_128 rfl ?_
    refine slv_iconst (v := nI 1) eX12_reads_129 (by decide) ?_
    refine slv_icmp_neN eX12_reads_130 (by omega) (by omega) (fun h130 => ?_) (fun h130 => absurd h130 (by omega))
    refine slv_iconst (v := nI 0) eX12_reads_137 (by decide) ?_
    refine slv_rV (As := [_, _, _]) eX12_reads_138 lX12_456 rfl rfl rf_68 rfl hRl (by decide) (Nat.le_of_ble_eq_true rfl) ?_
    refine slv_istore (lv' := [_, _, _, _, _, _]) eX12_reads_141 (by decide) rfl ?_
    exact hk
  · refine slv_aload_n eX12_reads_124 rfl ?_
    refine slv_iload eX12_reads_125 rfl ?_
    refine slv_iload_n eX12_reads_127 rfl ?_
    refine slv_iload_n eX12_reads_128 rfl ?_
    refine slv_iconst (v := nI 1) eX12_reads_129 (by decide) ?_
    refine slv_icmp_neN eX12_reads_130 (by omega) (by omega) (fun h130 => absurd h130 (by omega)) (fun h130 => ?_)
    refine slv_iconst (v := nI 1) eX12_reads_133 (by decide) ?_
    refine slv_goto eX12_reads_134 ?_
    refine slv_rV (As := [_, _, _]) eX12_reads_138 lX12_456 rfl rfl rf_68 rfl hRl (by decide) (Nat.le_of_ble_eq_true rfl) ?_
    refine slv_istore (lv' := [_, _, _, _, _, _]) eX12_reads_141 (by decide) rfl ?_
    exact hk
set_option maxRecDepth 100000 in
theorem rs_175 {l2 l3 l4 l5 : Option Value} {P : Option Value → sl_M → Prop} (hh : how < 2) (hRe : sl_T YX12_reduces 6 0 0 P [.ref 68, .int (nI how)] (rf_S v w a nm M)) (hk : ∀ o M', P o M' → o = none ∧ sl_V YX12_reads none 7 0 0 Q 44 [some (.ref 68), some (.int (nI how)), l2, l3, l4, l5] [] M') : sl_V YX12_reads none 7 0 0 Q 175 [some (.ref 68), some (.int (nI how)), l2, l3, l4, l5] [] (rf_S v w a nm M) := by
  rcases (show how = 0 ∨ how = 1 by omega) with q | q <;> subst q
  · refine slv_aload_n eX12_reads_175 rfl ?_
    refine slv_iload_n eX12_reads_176 rfl ?_
    refine slv_iconst (v := nI 1) eX12_reads_177 (by decide) ?_
    refine slv_icmp_neN eX12_reads_178 (by omega) (by omega) (fun h178 => ?_) (fun h178 => absurd h178 (by omega))
    refine slv_iconst (v := nI 0) eX12_reads_185 (by decide) ?_
    refine slv_callV (As := [_]) eX12_reads_186 lX12_462 rfl rfl rf_68 rfl hRe (by decide) (Nat.le_of_ble_eq_true rfl) (Nat.zero_add _).symm (Nat.zero_add _).symm (Or.inl rfl) ?_
    intro o M' hP
    obtain ⟨rfl, hk⟩ := hk o M' hP
    refine slv_goto eX12_reads_189 ?_
    refine slv_goto eX12_reads_197 ?_
    exact hk
  · refine slv_aload_n eX12_reads_175 rfl ?_
    refine slv_iload_n eX12_reads_176 rfl ?_
    refine slv_iconst (v := nI 1) eX12_reads_177 (by decide) ?_
    refine slv_icmp_neN eX12_reads_178 (by omega) (by omega) (fun h178 => absurd h178 (by omega)) (fun h178 => ?_)
    refine slv_iconst (v := nI 1) eX12_reads_181 (by decide) ?_
    refine slv_goto eX12_reads_182 ?_
    refine slv_callV (As := [_]) eX12_reads_186 lX12_462 rfl rfl rf_68 rfl hRe (by decide) (Nat.le_of_ble_eq_true rfl) (Nat.zero_add _).symm (Nat.zero_add _).symm (Or.inl rfl) ?_
    intro o M' hP
    obtain ⟨rfl, hk⟩ := hk o M' hP
    refine slv_goto eX12_reads_189 ?_
    refine slv_goto eX12_reads_197 ?_
    exact hk
set_option maxRecDepth 100000 in
theorem rs_155 {nx : Nat} {l3 l4 l5 : Option Value} {P : Option Value → sl_M → Prop} (hn : nx < 1000) (hSt : sl_T YX12_stacks 0 0 0 P [.ref 68, .int (nI nx)] (rf_S v w a nm M)) (hk : ∀ o M', P o M' → ∃ b, o = some (.int (sl_bi b)) ∧ sl_V YX12_reads none 7 0 0 Q 44 [some (.ref 68), some (.int (nI how)), some (.int (nI (cond b (nx + 1) nx))), l3, l4, l5] [] M') : sl_V YX12_reads none 7 0 0 Q 155 [some (.ref 68), some (.int (nI how)), some (.int (nI nx)), l3, l4, l5] [] (rf_S v w a nm M) := by
  refine slv_aload_n eX12_reads_155 rfl ?_
  refine slv_iload_n eX12_reads_156 rfl ?_
  refine slv_callV (As := [_]) eX12_reads_157 lX12_459 rfl rfl rf_68 rfl hSt (by decide) (Nat.le_of_ble_eq_true rfl) (Nat.zero_add _).symm (Nat.zero_add _).symm (Or.inl rfl) ?_
  intro o M' hP
  obtain ⟨b, rfl, hk⟩ := hk o M' hP
  skip
  cases b with
  | true =>
    refine slv_if_eqB eX12_reads_160 (fun h160 => absurd h160 (by decide)) (fun h160 => ?_)
    refine slv_iincN (lv' := [_, _, _, _, _, _]) eX12_reads_163 rfl (by decide) rfl ?_
    refine slv_goto eX12_reads_166 ?_
    refine slv_goto eX12_reads_197 ?_
    exact hk
  | false =>
    refine slv_if_eqB eX12_reads_160 (fun h160 => ?_) (fun h160 => absurd h160 (by decide))
    refine slv_goto eX12_reads_197 ?_
    exact hk
end RSR

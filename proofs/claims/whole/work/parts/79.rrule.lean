/-! the reference reads a rule -/
def rfr (v : Nat → Int32) (a : Nat → Nat → Int32) (v' : Nat → Int32) (a' : Nat → Nat → Int32) : Prop := (∀ k, k ∉ [17, 18, 19, 30, 31, 32, 33, 34] → v' k = v k) ∧ (∀ k, k ∉ [8, 9, 10, 11, 12] → a' k = a k)
theorem rfr_t {v v1 v2 : Nat → Int32} {a a1 a2 : Nat → Nat → Int32} (h : rfr v a v1 a1) (h2 : rfr v1 a1 v2 a2) : rfr v a v2 a2 := ⟨fun k hk => (h2.1 k hk).trans (h.1 k hk), fun k hk => (h2.2 k hk).trans (h.2 k hk)⟩
theorem rfr_fl (v : Nat → Int32) (a : Nat → Nat → Int32) (k : Nat) : rfr v a (sl_u (sl_u v 34 (nI k)) 31 (nI 0)) a := by
  refine ⟨fun j hj => ?_, fun _ _ => rfl⟩
  rw [sl_u_ne (fun e => hj (by rw [e]; decide)), sl_u_ne (fun e => hj (by rw [e]; decide))]
theorem rfr_nx {v v1 : Nat → Int32} (a : Nat → Nat → Int32) (h : ∀ k, k ∉ [30, 31, 32, 33] → v1 k = v k) : rfr v a v1 a := ⟨fun k hk => h k (fun q => hk (by revert q; simp; omega)), fun _ _ => rfl⟩
def rRq (f : Nat → Int32) (ln : Nat) (M : sl_M) (C : gr_T × sg_T) (v : Nat → Int32) (a : Nat → Nat → Int32) (Q : Option Value → sl_M → Prop) : Prop := ∀ v' w' a' nm' C', rst f ln C C' → rfr v a v' a' → ((rOK ln 7 C' v' w' a' nm' ∧ gr_hd C'.1 = gr_hd C.1 ∧ sg_kind C'.2 = sg_kind C.2) ∨ rBAD C' v') → Q none (rf_S v' w' a' nm' M)
theorem rRq_t {f : Nat → Int32} {ln : Nat} {M : sl_M} {C C1 : gr_T × sg_T} {v v1 : Nat → Int32} {a a1 : Nat → Nat → Int32} {Q : Option Value → sl_M → Prop} (h : rRq f ln M C v a Q) (h1 : rst f ln C C1) (h2 : rfr v a v1 a1) (h3 : gr_hd C1.1 = gr_hd C.1) (h4 : sg_kind C1.2 = sg_kind C.2) : rRq f ln M C1 v1 a1 Q := by
  intro v' w' a' nm' C' q1 q2 q3
  refine h v' w' a' nm' C' (rst_t h1 q1) (rfr_t h2 q2) ?_
  rcases q3 with ⟨b1, b2, b3⟩ | q
  · exact Or.inl ⟨b1, b2.trans h3, b3.trans h4⟩
  · exact Or.inr q
theorem gsp_56 {g : sg_T} (h : gsp 5 g) : gsp 6 g := by
  obtain ⟨a1, a2, a3, a4, a5, a6⟩ := h
  obtain ⟨b1, b2, b3, b4, b5⟩ := a6 (by omega) (by omega)
  exact ⟨a1, a2, a3, a4, a5, fun _ _ => ⟨b1, b2, b3, fun q => by omega, fun _ => b5 (by omega)⟩⟩
theorem rm_t_v2 {ln : Nat} {R : gr_T} {v v' : Nat → Int32} {w : Int64} (h : rm_t ln R v w) (hv : ∀ k, k ∉ [17, 18, 19, 20] → v' k = v k) : rm_t ln R v' w := by
  obtain ⟨h1, h2, h3, h4, h5, h6, h7⟩ := h
  exact ⟨(hv _ (by decide)).trans h1, (hv _ (by decide)).trans h2, (hv _ (by decide)).trans h3, (hv _ (by decide)).trans h4, (hv _ (by decide)).trans h5, h6, fun q => (hv _ (by decide)).trans (h7 q)⟩
theorem rm_g_de {g : sg_T} {v v' : Nat → Int32} {a a' : Nat → Nat → Int32} {nm : Nat → Int64} {d : Nat} (hg : rm_g g v a nm) (hi : rm_i g a) (e0 : v' 17 = nI (sg_rules g + 1)) (e1 : v' 18 = v 18) (e2 : v' 19 = v 19) (h1 : a' 8 = sl_u (a 8) (sg_rules g) (nI (sg_heads g (sg_rules g)))) (h2 : a' 10 = sl_u (a 10) (sg_rules g) (nI (sg_lens g (sg_rules g)))) (h3 : a' 11 = sl_u (a 11) (sg_rules g) (nI d)) (h4 : a' 9 = a 9) (h5 : a' 12 = a 12) : rm_g (gp_de g d) v' a' nm := by
  obtain ⟨g1, g2, g3, g4, g5, g6, g7⟩ := hg
  refine ⟨e0, e1.trans g2, e2.trans g3, fun r hr => ?_, fun r i hr hi' => ?_, fun t ht => ?_, g7⟩
  · have hr' : r < sg_rules g + 1 := hr
    rw [h1, h2, h3]
    show _ = nI (sg_heads g r) ∧ _ = nI (sg_lens g r) ∧ _ = nI (sl_u (sg_deeds g) (sg_rules g) d r)
    by_cases e : r = sg_rules g
    · rw [e, sl_u_eq, sl_u_eq, sl_u_eq, sl_u_eq]
      exact ⟨rfl, rfl, rfl⟩
    · rw [sl_u_ne e, sl_u_ne e, sl_u_ne e, sl_u_ne e]
      exact g4 r (by omega)
  · have hr' : r < sg_rules g + 1 := hr
    have hi2 : i < sg_lens g r := hi'
    rw [h4]
    show _ = nI (sg_it g r i)
    by_cases e : r = sg_rules g
    · rw [e] at hi2 ⊢
      exact hi i hi2
    · exact g5 r i (by omega) hi2
  · rw [h5]
    exact g6 t ht
theorem rm_g_hl {g : sg_T} {v : Nat → Int32} {a : Nat → Nat → Int32} {nm : Nat → Int64} {k : Nat} (hg : rm_g g v a nm) : rm_g (gp_hl g k) v a nm := by
  obtain ⟨g1, g2, g3, g4, g5, g6, g7⟩ := hg
  have eL : ∀ r, r < sg_rules g → sg_lens (gp_hl g k) r = sg_lens g r := fun r hr => sl_u_ne (by omega)
  refine ⟨g1, g2, g3, fun r hr => ?_, fun r i hr hi => ?_, g6, g7⟩
  · have hr' : r < sg_rules g := hr
    obtain ⟨q1, q2, q3⟩ := g4 r hr'
    refine ⟨q1.trans ?_, q2.trans ?_, q3⟩
    · show _ = nI (sl_u (sg_heads g) (sg_rules g) k r)
      rw [sl_u_ne (by omega)]
    · rw [eL r hr']
  · have hr' : r < sg_rules g := hr
    rw [eL r hr'] at hi
    exact g5 r i hr' hi
section RRU
variable {v : Nat → Int32} {w : Int64} {a : Nat → Nat → Int32} {nm : Nat → Int64} {M : sl_M} {f : Nat → Int32} {ln : Nat} {R : gr_T} {g : sg_T} {Q : Option Value → sl_M → Prop}
set_option maxRecDepth 100000 in
theorem rm_needsB (hS : st_all) {k : Nat} (hk : 0 < k) (hk2 : k < 100) (h34 : v 34 = nI k) (h31 : v 31 = nI 0) : sl_R YX12_needs 7 [.ref 68, .ref (sl_X + 2 * 6)] (rf_S v w a nm M) none (rf_S v w a nm M) := by
  refine sl_T.of_V (lv := [_, _]) (by decide) rfl (Nat.le_of_ble_eq_true rfl) ?_
  refine slv_aload_n eX12_needs_0 rfl ?_
  refine slv_aload_n eX12_needs_1 rfl ?_
  refine slv_rV (As := [_]) eX12_needs_2 lX12_212 rfl rfl rf_68 rfl (rm_isHereB hS h31 (j := 6) (by decide) (by decide)) (by decide) (Nat.le_of_ble_eq_true rfl) ?_
  refine slv_if_neB eX12_needs_5 (fun h5 => absurd h5 (by decide)) (fun h5 => ?_)
  refine slv_aload_n eX12_needs_8 rfl ?_
  refine slv_iconst (v := nI 1) eX12_needs_9 (by decide) ?_
  refine slv_rV (As := [_]) eX12_needs_10 lX12_216 rfl rfl rf_68 rfl (c_X12_flawB hk hk2 h34 h31 1) (by decide) (Nat.le_of_ble_eq_true rfl) ?_
  refine slv_aload_n eX12_needs_13 rfl ?_
  refine slv_rV (As := []) eX12_needs_14 lX12_220 rfl rfl rf_68 rfl (c_X12_nextB hk hk2 h34) (by decide) (Nat.le_of_ble_eq_true rfl) ?_
  refine slv_vret eX12_needs_17 rfl ?_
  exact ⟨rfl, rfl⟩
set_option maxRecDepth 100000 in
theorem rb136 {k : Nat} (hk : 0 < k) (hk2 : k < 100) (h34 : v 34 = nI k) (hQ : Q none (rf_S v w a nm M)) {l1 l2 l3 : Option Value} : sl_V YX12_readRule none 9 0 0 Q 136 [some (.ref 68), l1, l2, l3] [] (rf_S v w a nm M) := by
  refine slv_aload_n eX12_readRule_136 rfl ?_
  refine slv_rV (As := []) eX12_readRule_137 lX12_220 rfl rfl rf_68 rfl (c_X12_nextB hk hk2 h34) (by decide) (Nat.le_of_ble_eq_true rfl) ?_
  refine slv_aload_n eX12_readRule_140 rfl ?_
  refine slr_gi eX12_readRule_141 fX12_165 rfl (by repeat (first | exact sl_u_eq | assumption | apply rf_ne (by decide) | exact rfl)) ?_
  refine slv_if_leN eX12_readRule_144 (by omega) (fun h144 => absurd h144 (by omega)) (fun h144 => ?_)
  refine slv_vret eX12_readRule_147 rfl ?_
  exact hQ
set_option maxRecDepth 100000 in
theorem rb115 {k : Nat} (hk : 0 < k) (hk2 : k < 100) (h34 : v 34 = nI k) (hQ : Q none (rf_S v w a nm M)) {l1 l2 l3 : Option Value} : sl_V YX12_readRule none 9 0 0 Q 115 [some (.ref 68), l1, l2, l3] [] (rf_S v w a nm M) := by
  refine slv_aload_n eX12_readRule_115 rfl ?_
  refine slr_gi eX12_readRule_116 fX12_165 rfl (by repeat (first | exact sl_u_eq | assumption | apply rf_ne (by decide) | exact rfl)) ?_
  refine slv_if_neN eX12_readRule_119 (by omega) (fun h119 => ?_) (fun h119 => absurd h119 (by omega))
  exact rb136 hk hk2 h34 hQ
set_option maxRecDepth 100000 in
theorem rb76 (hS : st_all) {k n : Nat} (hk : 0 < k) (hk2 : k < 100) (h34 : v 34 = nI k) (h31 : v 31 = nI 0) (hn : n < 6) (hQ : Q none (rf_S v w a nm M)) {l3 : Option Value} {b1 : Int32} : sl_V YX12_readRule none 9 0 0 Q 76 [some (.ref 68), some (.int b1), some (.int (nI n)), l3] [] (rf_S v w a nm M) := by
  refine slv_aload_n eX12_readRule_76 rfl ?_
  refine slr_gi eX12_readRule_77 fX12_165 rfl (by repeat (first | exact sl_u_eq | assumption | apply rf_ne (by decide) | exact rfl)) ?_
  refine slv_if_neN eX12_readRule_80 (by omega) (fun h80 => ?_) (fun h80 => absurd h80 (by omega))
  refine slv_iincN (lv' := [_, _, _, _]) eX12_readRule_103 rfl (by decide) rfl ?_
  refine slv_aload_n eX12_readRule_106 rfl ?_
  refine slv_rV (As := []) eX12_readRule_107 lX12_220 rfl rfl rf_68 rfl (c_X12_nextB hk hk2 h34) (by decide) (Nat.le_of_ble_eq_true rfl) ?_
  refine slv_aload_n eX12_readRule_110 rfl ?_
  refine slv_rV (As := []) eX12_readRule_111 lX12_277 rfl rfl rf_68 rfl (rm_deedHereB hS hk hk2 h34 h31) (by decide) (Nat.le_of_ble_eq_true rfl) ?_
  refine slv_istore_n (i := 3) (lv' := [_, _, _, _]) eX12_readRule_114 rfl (by decide) rfl ?_
  exact rb115 hk hk2 h34 hQ
set_option maxRecDepth 100000 in
theorem rb69 (hS : st_all) {k : Nat} (hk : 0 < k) (hk2 : k < 100) (h34 : v 34 = nI k) (h31 : v 31 = nI 0) (hQ : Q none (rf_S v w a nm M)) {l2 l3 : Option Value} {b1 : Int32} : sl_V YX12_readRule none 9 0 0 Q 69 [some (.ref 68), some (.int b1), l2, l3] [] (rf_S v w a nm M) := by
  refine slv_iconst (v := nI 0) eX12_readRule_69 (by decide) ?_
  refine slv_istore_n (i := 2) (lv' := [_, _, _, _]) eX12_readRule_70 rfl (by decide) rfl ?_
  refine slv_aload_n eX12_readRule_71 rfl ?_
  refine slv_iconst (v := nI 0) eX12_readRule_72 (by decide) ?_
  refine slv_rV (As := [_]) eX12_readRule_73 lX12_274 rfl rfl rf_68 rfl (rm_readItemB hS hk hk2 h34 h31 (n := 0) (by omega)) (by decide) (Nat.le_of_ble_eq_true rfl) ?_
  exact rb76 hS hk hk2 h34 h31 (n := 0) (by omega) hQ
set_option maxRecDepth 100000 in
theorem rb59 (hS : st_all) {k : Nat} (hk : 0 < k) (hk2 : k < 100) (h34 : v 34 = nI k) (h31 : v 31 = nI 0) (hQ : Q none (rf_S v w a nm M)) {l2 l3 : Option Value} {b1 : Int32} : sl_V YX12_readRule none 9 0 0 Q 59 [some (.ref 68), some (.int b1), l2, l3] [] (rf_S v w a nm M) := by
  refine slv_aload_n eX12_readRule_59 rfl ?_
  refine slv_rV (As := []) eX12_readRule_60 lX12_220 rfl rfl rf_68 rfl (c_X12_nextB hk hk2 h34) (by decide) (Nat.le_of_ble_eq_true rfl) ?_
  refine slv_aload_n eX12_readRule_63 rfl ?_
  refine slv_ldcS (tx := "is") 6 eX12_readRule_64 (by decide +kernel) ?_
  refine slv_rV (As := [_]) eX12_readRule_66 lX12_270 rfl rfl rf_68 rfl (rm_needsB hS hk hk2 h34 h31) (by decide) (Nat.le_of_ble_eq_true rfl) ?_
  exact rb69 hS hk hk2 h34 h31 hQ
set_option maxRecDepth 100000 in
theorem rb43 (hS : st_all) {k : Nat} (hk : 0 < k) (hk2 : k < 100) (h34 : v 34 = nI k) (h31 : v 31 = nI 0) (hQ : Q none (rf_S v w a nm M)) {l1 l2 l3 : Option Value} : sl_V YX12_readRule none 9 0 0 Q 43 [some (.ref 68), l1, l2, l3] [] (rf_S v w a nm M) := by
  refine slv_aload_n eX12_readRule_43 rfl ?_
  refine slr_gi eX12_readRule_44 fX12_165 rfl (by repeat (first | exact sl_u_eq | assumption | apply rf_ne (by decide) | exact rfl)) ?_
  refine slv_if_leN eX12_readRule_47 (by omega) (fun h47 => absurd h47 (by omega)) (fun h47 => ?_)
  refine slv_iconst (v := nI 0) eX12_readRule_50 (by decide) ?_
  refine slv_goto eX12_readRule_51 ?_
  refine slv_istore_n (i := 1) (lv' := [_, _, _, _]) eX12_readRule_58 rfl (by decide) rfl ?_
  exact rb59 hS hk hk2 h34 h31 hQ
set_option maxRecDepth 100000 in
theorem rb27 (hS : st_all) {k : Nat} (hk : 0 < k) (hk2 : k < 100) (h34 : v 34 = nI k) (h31 : v 31 = nI 0) (hQ : Q none (rf_S v w a nm M)) {l1 l2 l3 : Option Value} : sl_V YX12_readRule none 9 0 0 Q 27 [some (.ref 68), l1, l2, l3] [] (rf_S v w a nm M) := by
  refine slv_aload_n eX12_readRule_27 rfl ?_
  refine slv_rV (As := []) eX12_readRule_28 lX12_220 rfl rfl rf_68 rfl (c_X12_nextB hk hk2 h34) (by decide) (Nat.le_of_ble_eq_true rfl) ?_
  refine slv_aload_n eX12_readRule_31 rfl ?_
  refine slv_rV (As := []) eX12_readRule_32 lX12_264 rfl rfl rf_68 rfl (rm_isNameB h31) (by decide) (Nat.le_of_ble_eq_true rfl) ?_
  refine slv_if_neB eX12_readRule_35 (fun h35 => absurd h35 (by decide)) (fun h35 => ?_)
  refine slv_aload_n eX12_readRule_38 rfl ?_
  refine slv_iconst (v := nI 1) eX12_readRule_39 (by decide) ?_
  refine slv_rV (As := [_]) eX12_readRule_40 lX12_216 rfl rfl rf_68 rfl (c_X12_flawB hk hk2 h34 h31 1) (by decide) (Nat.le_of_ble_eq_true rfl) ?_
  exact rb43 hS hk hk2 h34 h31 hQ
end RRU

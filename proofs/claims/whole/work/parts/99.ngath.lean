/-! the gathering, with as many values as items say -/
def h100 (H : hn_T) : Nat := sl_ct (fun j => decide (H.2.2.2 j = 100)) H.2.2.1 0
def hnI (H : hn_T) : Prop := (H.1 = none → h100 H = 0) ∧ (H.2.1 = none → h100 H ≤ 1)
theorem ct_put (it : Nat → Nat) (n x : Nat) : sl_ct (fun j => decide (sl_u it n x j = 100)) (n + 1) 0 = sl_ct (fun j => decide (it j = 100)) n 0 + cond (decide (x = 100)) 1 0 := by
  rw [sl_ct_app]
  congr 1
  · exact sl_ct_congr n 0 (fun k _ hk => by rw [sl_u_ne (by omega)])
  · show cond (decide (sl_u it n x (0 + n) = 100)) 1 0 + 0 = _
    rw [Nat.zero_add, sl_u_eq, Nat.add_zero]
theorem h100_it {H : hn_T} {x : Nat} (hn : H.2.2.1 < 31) (hx : x ≠ 100) : h100 (H.1, H.2.1, hn_an H.2.2.1, hn_ai H.2.2.1 H.2.2.2 x) = h100 H := by
  unfold h100
  simp only
  rw [hn_an1 hn, hn_ai1 hn, ct_put, decide_eq_false hx]
  rfl
theorem h100_tv {H : hn_T} {k : Nat} (hn : H.2.2.1 < 31) : h100 (hn_tv (some k) H) = h100 H + 1 := by
  show sl_ct (fun j => decide (hn_ai H.2.2.1 H.2.2.2 100 j = 100)) (hn_an H.2.2.1) 0 = _
  rw [hn_an1 hn, hn_ai1 hn, ct_put]
  rfl
theorem hnI_it {H : hn_T} {x : Nat} (hn : H.2.2.1 < 31) (hx : x ≠ 100) (h : hnI H) : hnI (H.1, H.2.1, hn_an H.2.2.1, hn_ai H.2.2.1 H.2.2.2 x) := by
  unfold hnI
  rw [h100_it hn hx]
  exact h
theorem hnI_tv {H : hn_T} {o : Option Nat} (hn : H.2.2.1 < 31) (h : hnI H) : hnI (hn_tv o H) := by
  cases o with
  | none => exact h
  | some k =>
    unfold hnI
    rw [h100_tv hn]
    cases h1 : H.1 with
    | none =>
      refine ⟨fun q => ?_, fun _ => by have := h.1 h1; omega⟩
      have q' : hn_v1 (some k) H.1 = none := q
      rw [h1] at q'
      cases q'
    | some j =>
      refine ⟨fun q => ?_, fun q => ?_⟩
      · have q' : hn_v1 (some k) H.1 = none := q
        rw [h1] at q'
        cases q'
      · have q' : hn_v2 (some k) H.1 H.2.1 = none := q
        rw [h1] at q'
        cases h2 : H.2.1 with
        | none => rw [h2] at q'; cases q'
        | some z => rw [h2] at q'; cases q'
/-- what the gathering keeps -/
theorem hn_gt_I {stk : Nat → Nat} {beh : Nat → Option Nat} : ∀ (m i : Nat) (H : hn_T), (∀ j, i ≤ j → j < i + m → stk j < 12) → H.2.2.1 + 2 * m ≤ 31 → hnI H → hnI (hn_gt stk beh m i H) ∧ H.2.2.1 + m ≤ (hn_gt stk beh m i H).2.2.1 ∧ (hn_gt stk beh m i H).2.2.1 ≤ H.2.2.1 + 2 * m ∧ (∀ j, j < H.2.2.1 → (hn_gt stk beh m i H).2.2.2 j = H.2.2.2 j) ∧ (0 < m → (hn_gt stk beh m i H).2.2.2 H.2.2.1 = stk i) := by
  intro m
  induction m with
  | zero => intro i H _ _ h; exact ⟨h, Nat.le_refl _, Nat.le_refl _, fun _ _ => rfl, fun q => by omega⟩
  | succ m ih =>
    intro i H hs hn h
    have hn31 : H.2.2.1 < 31 := by omega
    have hx : stk i ≠ 100 := by have := hs i (Nat.le_refl i) (by omega); omega
    have hgo : hn_gt stk beh (m + 1) i H = hn_gt stk beh m (i + 1) (hn_tv (beh i) (H.1, H.2.1, hn_an H.2.2.1, hn_ai H.2.2.1 H.2.2.2 (stk i))) := rfl
    rw [hgo]
    have h1 := hnI_it hn31 hx h
    have hn2 : (hn_an H.2.2.1) < 31 := by rw [hn_an1 hn31]; omega
    have h2 := hnI_tv (o := beh i) (H := (H.1, H.2.1, hn_an H.2.2.1, hn_ai H.2.2.1 H.2.2.2 (stk i))) hn2 h1
    have b1 : hn_vn (beh i) (hn_an H.2.2.1) ≤ H.2.2.1 + 2 := by
      have := hn_vn_2 (o := beh i) hn2
      rw [hn_an1 hn31] at this ⊢
      omega
    have b2 : H.2.2.1 + 1 ≤ hn_vn (beh i) (hn_an H.2.2.1) := by
      cases beh i with
      | none => show _ ≤ hn_an H.2.2.1; rw [hn_an1 hn31]; exact Nat.le_refl _
      | some k => show _ ≤ hn_an (hn_an H.2.2.1); rw [hn_an1 hn2, hn_an1 hn31]; omega
    have b3 : ∀ j, j < H.2.2.1 + 1 → hn_vi (beh i) (hn_an H.2.2.1) (hn_ai H.2.2.1 H.2.2.2 (stk i)) j = sl_u H.2.2.2 H.2.2.1 (stk i) j := by
      intro j hj
      cases beh i with
      | none => show hn_ai H.2.2.1 H.2.2.2 (stk i) j = _; rw [hn_ai1 hn31]
      | some k =>
        show hn_ai (hn_an H.2.2.1) (hn_ai H.2.2.1 H.2.2.2 (stk i)) 100 j = _
        rw [hn_ai1 hn2, hn_ai1 hn31, hn_an1 hn31, sl_u_ne (by omega)]
    obtain ⟨c1, c2, c3, c4, c5⟩ := ih (i + 1) (hn_tv (beh i) (H.1, H.2.1, hn_an H.2.2.1, hn_ai H.2.2.1 H.2.2.2 (stk i))) (fun j q1 q2 => hs j (by omega) (by omega)) (by show hn_vn (beh i) (hn_an H.2.2.1) + 2 * m ≤ 31; omega) h2
    have c2' : hn_vn (beh i) (hn_an H.2.2.1) + m ≤ _ := c2
    have c3' : _ ≤ hn_vn (beh i) (hn_an H.2.2.1) + 2 * m := c3
    refine ⟨c1, by omega, by omega, fun j hj => ?_, fun _ => ?_⟩
    · rw [c4 j (by show j < hn_vn (beh i) (hn_an H.2.2.1); omega)]
      show hn_vi (beh i) (hn_an H.2.2.1) (hn_ai H.2.2.1 H.2.2.2 (stk i)) j = _
      rw [b3 j (by omega), sl_u_ne (by omega)]
    · rw [c4 _ (by show H.2.2.1 < hn_vn (beh i) (hn_an H.2.2.1); omega)]
      show hn_vi (beh i) (hn_an H.2.2.1) (hn_ai H.2.2.1 H.2.2.2 (stk i)) H.2.2.1 = _
      rw [b3 _ (by omega), sl_u_eq]
section RGU
variable {w : Int64} {nm : Nat → Int64} {M : sl_M} {S : rd_T} {fr : Nat} {b1 : Int32}
set_option maxRecDepth 100000 in
theorem c_X12_takesValue_n {v : Nat → Int32} {a : Nat → Nat → Int32} {i : Nat} (hi : i < 16) (h1 : a 58 i = sl_bi false) : sl_R YX12_takesValue 0 [.ref 68, .int (nI i)] (rf_S v w a nm M) none (rf_S v w a nm M) := by
  refine sl_T.of_V (lv := [_, _]) (by decide) rfl (Nat.le_of_ble_eq_true rfl) ?_
  refine slv_aload_n eX12_takesValue_0 rfl ?_
  refine slr_ga (p := 100) eX12_takesValue_1 fX12_110 rfl ?_
  refine slv_iload_n eX12_takesValue_4 rfl ?_
  refine slr_zaldX (k := 58) (p := 100) (len := 16) eX12_takesValue_5 rfl (by repeat (first | exact sl_u_eq | assumption | apply rf_ne (by decide) | exact rfl)) (by omega) (by decide) h1 ?_
  refine slv_if_neB eX12_takesValue_6 (fun h6 => absurd h6 (by decide)) (fun h6 => ?_)
  refine slv_vret eX12_takesValue_9 rfl ?_
  exact ⟨rfl, rfl⟩
set_option maxRecDepth 100000 in
theorem rg_L2 (htp : rd_tp S ≤ 15) (hst : ∀ i, i < 16 → rd_stk S i < 12) (hfr : 1 ≤ fr) : ∀ (m i : Nat) (H : hn_T) (vm : Nat) (v : Nat → Int32) (a : Nat → Nat → Int32), i + m = rd_tp S + 1 → fr ≤ i → rH (rd_nd S) H vm v a → H.2.2.1 ≤ 2 * (i - fr) + 1 → vm ≤ i - fr + 1 → vm ≤ h100 H → rsk S v a → ∀ Q : Option Value → sl_M → Prop, (∀ v' a' vm' z, rH (rd_nd S) (hn_gt (rd_stk S) (rd_beh S) m i H) vm' v' a' → vm' ≤ h100 (hn_gt (rd_stk S) (rd_beh S) m i H) → rhF v a v' a' → sl_V YX12_reduces none 6 0 0 Q 102 [some (.ref 68), some (.int b1), some (.int (nI fr)), z] [] (rf_S v' w a' nm M)) → sl_V YX12_reduces none 6 0 0 Q 58 [some (.ref 68), some (.int b1), some (.int (nI fr)), some (.int (nI i))] [] (rf_S v w a nm M) := by
  intro m
  induction m with
  | zero =>
    intro i H vm v a hi hf hH hn hvm hv hk Q hQ
    have k1 := hk.1
    refine slv_iload_n eX12_reduces_58 rfl ?_
    refine slv_aload_n eX12_reduces_59 rfl ?_
    refine slr_gi eX12_reduces_60 fX12_438 rfl (by repeat (first | exact sl_u_eq | assumption | apply rf_ne (by decide) | exact rfl)) ?_
    refine slv_icmp_gtN eX12_reduces_63 (by omega) (by omega) (fun h63 => ?_) (fun h63 => absurd h63 (by omega))
    exact hQ v a vm _ hH hv ⟨fun _ _ => rfl, fun _ _ => rfl⟩
  | succ m ih =>
    intro i H vm v a hi hf hH hn hvm hv hk Q hQ
    have k1 := hk.1
    obtain ⟨c1, c2, c3⟩ := hk.2 i (by omega)
    obtain ⟨⟨e1, e2⟩, e3, e4, e5, e6⟩ := hH
    have hn31 : H.2.2.1 < 31 := by omega
    have hx : rd_stk S i ≠ 100 := by have := hst i (by omega); omega
    have hF1 : rhF v a (sl_u v 77 (nI (H.2.2.1 + 1))) (sl_u a 67 (sl_u (a 67) H.2.2.1 (nI (rd_stk S i)))) := ⟨fun k hk => sl_u_ne (fun e => hk (by rw [e]; decide)), fun k hk => sl_u_ne (fun e => hk (by rw [e]; decide))⟩
    have hH1 : rH (rd_nd S) (H.1, H.2.1, hn_an H.2.2.1, hn_ai H.2.2.1 H.2.2.2 (rd_stk S i)) vm (sl_u v 77 (nI (H.2.2.1 + 1))) (sl_u a 67 (sl_u (a 67) H.2.2.1 (nI (rd_stk S i)))) := by
      rw [hn_an1 hn31, hn_ai1 hn31]
      refine ⟨⟨rfl, e2⟩, fun j hj => ?_, e4, e5, e6⟩
      have hj' : j < H.2.2.1 + 1 := hj
      show sl_u (a 67) H.2.2.1 (nI (rd_stk S i)) j = nI (sl_u H.2.2.2 H.2.2.1 (rd_stk S i) j)
      by_cases e : j = H.2.2.1
      · rw [e, sl_u_eq, sl_u_eq]
      · rw [sl_u_ne e, sl_u_ne e]
        exact e3 j (by omega)
    have hk1 := rsk_F hk hF1
    obtain ⟨d1, d2, d3⟩ := hk1.2 i (by omega)
    have hgo : hn_gt (rd_stk S) (rd_beh S) (m + 1) i H = hn_gt (rd_stk S) (rd_beh S) m (i + 1) (hn_tv (rd_beh S i) (H.1, H.2.1, hn_an H.2.2.1, hn_ai H.2.2.1 H.2.2.2 (rd_stk S i))) := rfl
    rw [hgo] at hQ
    have hnn : hn_vn (rd_beh S i) (hn_an H.2.2.1) ≤ 2 * (i + 1 - fr) + 1 := by
      rw [hn_an1 hn31]
      have := hn_vn_2 (o := rd_beh S i) (n := H.2.2.1 + 1) (by omega)
      omega
    have hc := h100_it (H := H) hn31 hx
    cases hb : rd_beh S i with
    | none =>
      rw [hb] at d2 hQ hnn
      have hTV := c_X12_takesValue_n (w := w) (nm := nm) (M := M) (i := i) (v := sl_u v 77 (nI (H.2.2.1 + 1))) (a := sl_u a 67 (sl_u (a 67) H.2.2.1 (nI (rd_stk S i)))) (by omega) d2
      refine slv_iload_n eX12_reduces_58 rfl ?_
      refine slv_aload_n eX12_reduces_59 rfl ?_
      refine slr_gi eX12_reduces_60 fX12_438 rfl (by repeat (first | exact sl_u_eq | assumption | apply rf_ne (by decide) | exact rfl)) ?_
      refine slv_icmp_gtN eX12_reduces_63 (by omega) (by omega) (fun h63 => absurd h63 (by omega)) (fun h63 => ?_)
      refine slv_aload_n eX12_reduces_66 rfl ?_
      refine slr_ga (p := 103) eX12_reduces_67 fX12_119 rfl ?_
      refine slv_aload_n eX12_reduces_70 rfl ?_
      refine slr_gi eX12_reduces_71 fX12_466 rfl (by repeat (first | exact sl_u_eq | assumption | apply rf_ne (by decide) | exact rfl)) ?_
      refine slv_aload_n eX12_reduces_74 rfl ?_
      refine slr_ga (p := 96) eX12_reduces_75 fX12_98 rfl ?_
      refine slv_iload_n eX12_reduces_78 rfl ?_
      refine slr_ialdX (k := 54) (p := 96) (len := 16) eX12_reduces_79 rfl (by repeat (first | exact sl_u_eq | assumption | apply rf_ne (by decide) | exact rfl)) (by omega) (by decide) c1 ?_
      refine slr_iastX (k := 67) (p := 103) (len := 33) eX12_reduces_80 rfl (by repeat (first | exact sl_u_eq | assumption | apply rf_ne (by decide) | exact rfl)) (by omega) (by decide) (rf_t67 _ _ _ _ _) ?_
      refine slv_aload_n eX12_reduces_81 rfl ?_
      refine slv_dup eX12_reduces_82 rfl ?_
      refine slr_gi eX12_reduces_83 fX12_466 rfl (by repeat (first | exact sl_u_eq | assumption | apply rf_ne (by decide) | exact rfl)) ?_
      refine slv_iconst (v := nI 1) eX12_reduces_86 (by decide) ?_
      refine slv_iaddN eX12_reduces_87 ?_
      refine slr_pi eX12_reduces_88 fX12_466 (Nat.le_of_ble_eq_true rfl) rf_s77 ?_
      refine slv_aload_n eX12_reduces_91 rfl ?_
      refine slv_iload_n eX12_reduces_92 rfl ?_
      refine slv_rV (As := [_]) eX12_reduces_93 lX12_472 rfl rfl rf_68 rfl hTV (by decide) (Nat.le_of_ble_eq_true rfl) ?_
      refine slv_iincN (lv' := [_, _, _, _]) eX12_reduces_96 rfl (by decide) rfl ?_
      refine slv_goto eX12_reduces_99 ?_
      exact ih (i + 1) _ vm _ _ (by omega) (by omega) hH1 hnn (by omega) (by rw [hc]; exact hv) hk1 Q (fun v' a' vm' z q1 q2 q3 => hQ v' a' vm' z q1 q2 (rhF_t hF1 q3))
    | some kk =>
      rw [hb] at d2 d3 hQ hnn
      have hTV := c_X12_takesValue (w := w) (nm := nm) (M := M) (i := i) (o := some kk) (by omega) d2 d3 hH1 (by simp only; rw [hn_an1 hn31]; omega) (by omega)
      have hc2 := h100_tv (H := (H.1, H.2.1, hn_an H.2.2.1, hn_ai H.2.2.1 H.2.2.2 (rd_stk S i))) (k := kk) (by simp only; rw [hn_an1 hn31]; omega)
      refine slv_iload_n eX12_reduces_58 rfl ?_
      refine slv_aload_n eX12_reduces_59 rfl ?_
      refine slr_gi eX12_reduces_60 fX12_438 rfl (by repeat (first | exact sl_u_eq | assumption | apply rf_ne (by decide) | exact rfl)) ?_
      refine slv_icmp_gtN eX12_reduces_63 (by omega) (by omega) (fun h63 => absurd h63 (by omega)) (fun h63 => ?_)
      refine slv_aload_n eX12_reduces_66 rfl ?_
      refine slr_ga (p := 103) eX12_reduces_67 fX12_119 rfl ?_
      refine slv_aload_n eX12_reduces_70 rfl ?_
      refine slr_gi eX12_reduces_71 fX12_466 rfl (by repeat (first | exact sl_u_eq | assumption | apply rf_ne (by decide) | exact rfl)) ?_
      refine slv_aload_n eX12_reduces_74 rfl ?_
      refine slr_ga (p := 96) eX12_reduces_75 fX12_98 rfl ?_
      refine slv_iload_n eX12_reduces_78 rfl ?_
      refine slr_ialdX (k := 54) (p := 96) (len := 16) eX12_reduces_79 rfl (by repeat (first | exact sl_u_eq | assumption | apply rf_ne (by decide) | exact rfl)) (by omega) (by decide) c1 ?_
      refine slr_iastX (k := 67) (p := 103) (len := 33) eX12_reduces_80 rfl (by repeat (first | exact sl_u_eq | assumption | apply rf_ne (by decide) | exact rfl)) (by omega) (by decide) (rf_t67 _ _ _ _ _) ?_
      refine slv_aload_n eX12_reduces_81 rfl ?_
      refine slv_dup eX12_reduces_82 rfl ?_
      refine slr_gi eX12_reduces_83 fX12_466 rfl (by repeat (first | exact sl_u_eq | assumption | apply rf_ne (by decide) | exact rfl)) ?_
      refine slv_iconst (v := nI 1) eX12_reduces_86 (by decide) ?_
      refine slv_iaddN eX12_reduces_87 ?_
      refine slr_pi eX12_reduces_88 fX12_466 (Nat.le_of_ble_eq_true rfl) rf_s77 ?_
      refine slv_aload_n eX12_reduces_91 rfl ?_
      refine slv_iload_n eX12_reduces_92 rfl ?_
      refine slv_callV (As := [_]) eX12_reduces_93 lX12_472 rfl rfl rf_68 rfl hTV (by decide) (Nat.le_of_ble_eq_true rfl) (Nat.zero_add _).symm (Nat.zero_add _).symm (Or.inl rfl) ?_
      rintro _ _ ⟨rfl, v2, a2, vm2, rfl, hH2, hF2, hv2⟩
      refine slv_iincN (lv' := [_, _, _, _]) eX12_reduces_96 rfl (by decide) rfl ?_
      refine slv_goto eX12_reduces_99 ?_
      exact ih (i + 1) _ vm2 v2 a2 (by omega) (by omega) hH2 hnn (by omega) (by rw [hc2, hc]; omega) (rsk_F hk1 hF2) Q (fun v' a' vm' z q1 q2 q3 => hQ v' a' vm' z q1 q2 (rhF_t (rhF_t hF1 hF2) q3))
end RGU

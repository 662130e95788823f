/-! the reference's grammar -/
section RGN
variable {v : Nat → Int32} {w : Int64} {a : Nat → Nat → Int32} {nm : Nat → Int64} {M : sl_M} {f : Nat → Int32} {ln : Nat} {R : gr_T} {g : sg_T}
theorem sl_bt_z (r : Nat) (hr : r < 32) : sl_bt (nI 0) r = false := by
  have : ∀ r, r < 32 → sl_bt (nI 0) r = false := by decide +kernel
  exact this r hr
theorem rf_G_same {v' : Nat → Int32} {a' : Nat → Nat → Int32} (h : rf_G g v a) (hv : ∀ k, k ∈ [14, 15, 16, 22, 23] → v' k = v k) (ha : ∀ k, k ∈ [3, 4, 5, 6, 7] → a' k = a k) : rf_G g v' a' := by
  obtain ⟨h1, h2, h3, h4, h5, h6, h7⟩ := h
  refine ⟨(hv _ (by decide)).trans h1, (hv _ (by decide)).trans h2, (hv _ (by decide)).trans h3, (hv _ (by decide)).trans h4, fun r hr => ?_, fun r i hr hi => ?_, fun t ht => ?_⟩
  · rw [ha 3 (by decide), ha 5 (by decide), ha 6 (by decide), hv 23 (by decide)]
    exact h5 r hr
  · rw [ha 4 (by decide)]
    exact h6 r i hr hi
  · rw [ha 7 (by decide)]
    exact h7 t ht
set_option maxRecDepth 100000 in
theorem c_X12_takesOver (hg : rm_g g v a nm) (hkd : v 20 = nI (sg_kind g)) (hok : sg_ok g) (hs : sg_str g) (hput : ∀ r, sg_put g r = false) (hz : rf_z0 a) : sl_T YX12_takesOver 4 0 0 (fun r M' => r = none ∧ ∃ v' a', M' = rf_S v' w a' nm M ∧ (∀ k, k ∉ [21, 14, 15, 16, 22, 23, 26, 53, 44] → v' k = v k) ∧ (∀ k, k ∉ [3, 5, 6, 4, 7, 36, 37, 38, 39, 40, 41, 42, 43, 45] → a' k = a k) ∧ v' 21 = sl_bi true ∧ v' 26 = nI 0 ∧ v' 23 = nI 0 ∧ v' 53 = nI 0 ∧ rf_G g v' a' ∧ rf_laid g v' a') [.ref 68] (rf_S v w a nm M) := by
  have hr12 : sg_rules g ≤ 12 := hok.2.1
  have ht11 : sg_terms g ≤ 11 := hok.2.2.2.1
  obtain ⟨g1, g2, g3, g4, g5, g6, g7⟩ := hg
  refine sl_T.of_V (lv := [_, _]) (by decide) rfl (Nat.le_of_ble_eq_true rfl) ?_
  refine slv_aload_n eX12_takesOver_0 rfl ?_
  refine slv_iconst (v := nI 1) eX12_takesOver_1 (by decide) ?_
  refine slr_pz eX12_takesOver_2 fX12_317 (Nat.le_of_ble_eq_true rfl) rfl rfl rf_s21 ?_
  refine slv_aload_n eX12_takesOver_5 rfl ?_
  refine slv_aload_n eX12_takesOver_6 rfl ?_
  refine slr_gi eX12_takesOver_7 fX12_239 rfl (by repeat (first | exact sl_u_eq | assumption | apply rf_ne (by decide) | exact rfl)) ?_
  refine slr_pi eX12_takesOver_10 fX12_311 (Nat.le_of_ble_eq_true rfl) rf_s14 ?_
  refine slv_aload_n eX12_takesOver_13 rfl ?_
  refine slv_aload_n eX12_takesOver_14 rfl ?_
  refine slr_gi eX12_takesOver_15 fX12_233 rfl (by repeat (first | exact sl_u_eq | assumption | apply rf_ne (by decide) | exact rfl)) ?_
  refine slr_pi eX12_takesOver_18 fX12_321 (Nat.le_of_ble_eq_true rfl) rf_s15 ?_
  refine slv_aload_n eX12_takesOver_21 rfl ?_
  refine slv_aload_n eX12_takesOver_22 rfl ?_
  refine slr_gi eX12_takesOver_23 fX12_236 rfl (by repeat (first | exact sl_u_eq | assumption | apply rf_ne (by decide) | exact rfl)) ?_
  refine slr_pi eX12_takesOver_26 fX12_324 (Nat.le_of_ble_eq_true rfl) rf_s16 ?_
  refine slv_aload_n eX12_takesOver_29 rfl ?_
  refine slv_aload_n eX12_takesOver_30 rfl ?_
  refine slr_gi eX12_takesOver_31 fX12_242 rfl (by repeat (first | exact sl_u_eq | assumption | apply rf_ne (by decide) | exact rfl)) ?_
  refine slr_pi eX12_takesOver_34 fX12_327 (Nat.le_of_ble_eq_true rfl) rf_s22 ?_
  refine slv_iconst (v := nI 0) eX12_takesOver_37 (by decide) ?_
  refine slv_istore_n (i := 1) (lv' := [_, _]) eX12_takesOver_38 rfl (by decide) rfl ?_
  refine rt_L1 12 0 a (by omega) _ (fun a1 z1 hc1 => ?_)
  refine slv_iconst (v := nI 0) eX12_takesOver_87 (by decide) ?_
  refine slv_istore_n (i := 1) (lv' := [_, _]) eX12_takesOver_88 rfl (by decide) rfl ?_
  refine rt_L2 60 0 a1 (by omega) _ (fun a2 z2 hc2 => ?_)
  refine slv_iconst (v := nI 0) eX12_takesOver_113 (by decide) ?_
  refine slv_istore_n (i := 1) (lv' := [_, _]) eX12_takesOver_114 rfl (by decide) rfl ?_
  refine rt_L3 11 0 a2 (by omega) _ (fun a3 z3 hc3 => ?_)
  have e12 : ∀ k, k ∉ [3, 5, 6] → a1 k = a k := hc1.1
  have e23 : ∀ k, k ∉ [4] → a2 k = a1 k := hc2.1
  have e34 : ∀ k, k ∉ [7] → a3 k = a2 k := hc3.1
  have hh : ∀ j, j < 12 → a3 3 j = a 8 j := fun j hj => by
    rw [e34 _ (by decide), e23 _ (by decide)]; exact (hc1.2 (3, 8) (by decide)).1 j (Nat.zero_le j) hj
  have hcn : ∀ j, j < 12 → a3 5 j = a 10 j := fun j hj => by
    rw [e34 _ (by decide), e23 _ (by decide)]; exact (hc1.2 (5, 10) (by decide)).1 j (Nat.zero_le j) hj
  have hdd : ∀ j, j < 12 → a3 6 j = a 11 j := fun j hj => by
    rw [e34 _ (by decide), e23 _ (by decide)]; exact (hc1.2 (6, 11) (by decide)).1 j (Nat.zero_le j) hj
  have hii : ∀ j, j < 60 → a3 4 j = a 9 j := fun j hj => by
    rw [e34 _ (by decide), (hc2.2 (4, 9) (by decide)).1 j (Nat.zero_le j) hj]
    show a1 9 j = _
    rw [e12 _ (by decide)]
  have hss : ∀ j, j < 11 → a3 7 j = a 12 j := fun j hj => by
    rw [(hc3.2 (7, 12) (by decide)).1 j (Nat.zero_le j) hj]
    show a2 12 j = _
    rw [e23 _ (by decide), e12 _ (by decide)]
  have hall : ∀ k, k ∉ [3, 5, 6, 4, 7] → a3 k = a k := fun k hk => by
    rw [e34 k (fun q => hk (by revert q; simp; omega)), e23 k (fun q => hk (by revert q; simp; omega)), e12 k (fun q => hk (by revert q; simp; omega))]
  generalize hv2 : sl_u (sl_u (sl_u (sl_u (sl_u (sl_u (sl_u (sl_u v 21 (nI 1)) 14 (nI (sg_rules g))) 15 (nI (sg_names g))) 16 (nI (sg_terms g))) 22 (nI (sg_kind g))) 23 (nI 0)) 26 (nI 0)) 53 (nI 0) = v2
  have hvx : ∀ k, k ∉ [21, 14, 15, 16, 22, 23, 26, 53] → v2 k = v k := fun k hk => by
    rw [← hv2, sl_u_ne (fun e => hk (by rw [e]; decide)), sl_u_ne (fun e => hk (by rw [e]; decide)), sl_u_ne (fun e => hk (by rw [e]; decide)), sl_u_ne (fun e => hk (by rw [e]; decide)), sl_u_ne (fun e => hk (by rw [e]; decide)), sl_u_ne (fun e => hk (by rw [e]; decide)), sl_u_ne (fun e => hk (by rw [e]; decide)), sl_u_ne (fun e => hk (by rw [e]; decide))]
  have hG : rf_G g v2 a3 := by
    rw [← hv2]
    refine ⟨rfl, rfl, rfl, rfl, fun r hr => ⟨?_, ?_, ?_, ?_⟩, fun r i hr hi => ?_, fun t ht => ?_⟩
    · exact (hh r (by omega)).trans (g4 r hr).1
    · exact (hcn r (by omega)).trans (g4 r hr).2.1
    · exact (hdd r (by omega)).trans (g4 r hr).2.2
    · rw [hput r]
      exact sl_bt_z r (by omega)
    · have := (hok.2.2.2.2.2.1 r (by omega)).2.2
      exact (hii (5 * r + i) (by omega)).trans (g5 r i hr hi)
    · exact (hss t (by omega)).trans (g6 t ht)
  have hLy := c_X12_lays (w := w) (nm := nm) (M := M) hok hs hG (by rw [hall _ (by decide), hall _ (by decide)]; exact hz.1) (by rw [hall _ (by decide)]; exact hz.2)
  have hL8 : v2 21 = sl_bi true ∧ v2 26 = nI 0 ∧ v2 23 = nI 0 ∧ v2 53 = nI 0 := by
    rw [← hv2]
    exact ⟨rfl, rfl, rfl, rfl⟩
  refine slv_aload_n eX12_takesOver_139 rfl ?_
  refine slv_iconst (v := nI 0) eX12_takesOver_140 (by decide) ?_
  refine slr_pi eX12_takesOver_141 fX12_330 (Nat.le_of_ble_eq_true rfl) rf_s23 ?_
  refine slv_aload_n eX12_takesOver_144 rfl ?_
  refine slv_iconst (v := nI 0) eX12_takesOver_145 (by decide) ?_
  refine slr_pi eX12_takesOver_146 fX12_333 (Nat.le_of_ble_eq_true rfl) rf_s26 ?_
  refine slv_aload_n eX12_takesOver_149 rfl ?_
  refine slv_iconst (v := nI 0) eX12_takesOver_150 (by decide) ?_
  refine slr_pz eX12_takesOver_151 fX12_336 (Nat.le_of_ble_eq_true rfl) rfl rfl rf_s53 ?_
  refine slv_mem (M' := rf_S v2 w a3 nm M) (by rw [← hv2]) ?_
  refine slv_aload_n eX12_takesOver_154 rfl ?_
  refine slv_callV (As := []) eX12_takesOver_155 lX12_339 rfl rfl rf_68 rfl hLy (by decide) (Nat.le_of_ble_eq_true rfl) (Nat.zero_add _).symm (Nat.zero_add _).symm (Or.inl rfl) ?_
  rintro _ _ ⟨rfl, v3, a4, rfl, q1, q2, q3, q4, q5, q6⟩
  refine slv_vret eX12_takesOver_158 rfl ?_
  refine ⟨rfl, v3, a4, rfl, fun k hk => ?_, fun k hk => ?_, ?_, ?_, ?_, ?_, ?_, q3, q4, q5, q6⟩
  · rw [q1 k (fun q => hk (by revert q; simp; omega)), hvx k (fun q => hk (by revert q; simp; omega))]
  · rw [q2 k (fun q => hk (by revert q; simp; omega)), hall k (fun q => hk (by revert q; simp; omega))]
  · exact (q1 _ (by decide)).trans hL8.1
  · exact (q1 _ (by decide)).trans hL8.2.1
  · exact (q1 _ (by decide)).trans hL8.2.2.1
  · exact (q1 _ (by decide)).trans hL8.2.2.2
  · exact rf_G_same hG (fun k hk => q1 k (fun q => by revert hk q; simp; omega)) (fun k hk => q2 k (fun q => by revert hk q; simp; omega))
end RGN

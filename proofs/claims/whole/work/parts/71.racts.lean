/-! the reference: aside, undo -/
/-- all is laid over g -/
def rf_laid (g : sg_T) (v : Nat → Int32) (a : Nat → Nat → Int32) : Prop := a 36 = (rl_LT g).1 ∧ a 37 = (rl_LT g).2 ∧ a 38 = rl_S g ∧ ∀ rk ba, rf_K (lk_F (rl_S g) (sg_terms g) rk ba).1 (lk_F (rl_S g) (sg_terms g) rk ba).2.1 (lk_K (rl_S g) (sg_terms g)) (lk_N (rl_S g) (sg_terms g) (lk_F (rl_S g) (sg_terms g) rk ba).1) v a
/-- nothing beyond the rows -/
def rf_z0 (a : Nat → Nat → Int32) : Prop := (∀ i, 6 ≤ i → a 36 i = nI 0 ∧ a 37 i = nI 0) ∧ ∀ i, 144 ≤ i → a 38 i = nI 0
theorem rf_Kv {rn : Nat} {rk kn nu : Nat → Nat} {v v' : Nat → Int32} {a : Nat → Nat → Int32} (h : rf_K rn rk kn nu v a) (hv : v' 44 = v 44) : rf_K rn rk kn nu v' a := ⟨hv.trans h.1, h.2⟩
theorem sl_bt_xor (x y : Int32) (k : Nat) (hk : k < 32) : sl_bt (x ^^^ y) k = (sl_bt x k != sl_bt y k) := by
  rw [sl_bt_g _ k hk, sl_bt_g _ k hk, sl_bt_g _ k hk, Int32.toBitVec_xor, BitVec.getLsbD_xor]
theorem bt_tog (x : Int32) {r k : Nat} (hr : r < 32) (hk : k < 32) : sl_bt (x ^^^ (nI 1 <<< (nI r &&& 31))) k = if k = r then !(sl_bt x r) else sl_bt x k := by
  rw [sl_bt_xor _ _ k hk, sl_bt_1 r hr k hk]
  by_cases h : k = r
  · subst h
    rw [if_pos rfl, decide_eq_true rfl]
    cases sl_bt x k <;> rfl
  · rw [if_neg h, decide_eq_false h]
    cases sl_bt x k <;> rfl
section RAS
variable {v : Nat → Int32} {w : Int64} {a : Nat → Nat → Int32} {nm : Nat → Int64} {M : sl_M} {g : sg_T} {sn : Bool}
/-- what is left when rules went aside or came back -/
def rf_moved (g : sg_T) (v : Nat → Int32) (a : Nat → Nat → Int32) (vk : List Nat) (ak : List Nat) (v' : Nat → Int32) (a' : Nat → Nat → Int32) : Prop :=
  (∀ k, k ∉ 0 :: 1 :: 2 :: 44 :: 53 :: vk → v' k = v k) ∧ v' 0 = nI 0 ∧ v' 1 = nI 0 ∧ v' 2 = -1 ∧ v' 53 = nI 0 ∧ (∀ k, k ∉ 36 :: 37 :: 38 :: 39 :: 40 :: 41 :: 42 :: 43 :: 45 :: ak → a' k = a k) ∧ rf_laid g v' a'
set_option maxRecDepth 100000 in
theorem c_X12_aside {c : Nat} (h21 : v 21 = sl_bi sn) (hok : sg_ok g) (hs : sn = true → sg_str g) (hG : sn = true → rf_G g v a) (hz : rf_z0 a) (hc : c ≤ 10) (h26 : v 26 = nI c) (x y : Int32) : sl_T YX12_aside 4 0 0 (fun r M' => r = some (.int (an_aside sn g x y).1) ∧ match do_aside sn g x y with
    | none => M' = rf_S (rf_an v (an_aside sn g x y).2) w a nm M
    | some (k, j) => ∃ v' a', M' = rf_S v' w a' nm M ∧ rf_moved (sg_pt g (sl_u (sg_put g) k (decide (j = 1)))) v a [23, 26] [24, 25] v' a' ∧ v' 23 = v 23 ^^^ (nI 1 <<< (nI k &&& 31)) ∧ v' 26 = nI (ac_kc c) ∧ a' 24 = ac_kf c (a 24) (v 22) ∧ a' 25 = ac_kf c (a 25) (v 23)) [.ref 68, .int x, .int y] (rf_S v w a nm M) := by
  have hr12 : sg_rules g ≤ 12 := hok.2.1
  have hR := c_X12_isRule (v := sl_u v 0 (nI 0)) (w := w) (a := a) (nm := nm) (M := M) (n := sg_rules g) ((sl_u_ne (by decide)).trans h21) (fun q => (sl_u_ne (by decide)).trans (hG q).1) (by omega) x
  refine sl_T.of_V (lv := [_, _, _]) (by decide) rfl (Nat.le_of_ble_eq_true rfl) ?_
  unfold an_aside do_aside
  cases hq : sl_vr sn x (sg_rules g) with
  | none =>
    rw [hq] at hR
    refine slv_aload_n eX12_aside_0 rfl ?_
    refine slv_iconst (v := nI 0) eX12_aside_1 (by decide) ?_
    refine slr_pi eX12_aside_2 fX12_149 (Nat.le_of_ble_eq_true rfl) rf_s0 ?_
    refine slv_aload_n eX12_aside_5 rfl ?_
    refine slv_iload_n eX12_aside_6 rfl ?_
    refine slv_rV (As := [_]) eX12_aside_7 lX12_345 rfl rfl rf_68 rfl hR (by decide) (Nat.le_of_ble_eq_true rfl) ?_
    refine slv_if_neB eX12_aside_10 (fun h10 => absurd h10 (by decide)) (fun h10 => ?_)
    refine slv_aload_n eX12_aside_13 rfl ?_
    refine slv_iconst (v := nI 1) eX12_aside_14 (by decide) ?_
    refine slv_rV (As := [_]) eX12_aside_15 lX12_155 rfl rfl rf_68 rfl (c_X12_refused 1) (by decide) (Nat.le_of_ble_eq_true rfl) ?_
    refine slv_iret eX12_aside_18 rfl ?_
    exact ⟨rfl, rfl⟩
  | some k =>
    rw [hq] at hR
    obtain ⟨hsn, hx, hk⟩ := vr_some hq
    subst hsn hx
    have hG1 := hG rfl
    have hSv := rf_sv (w := w) (nm := nm) (M := M) (rf_G0 hG1 (nI 0)) hk
    have hJ := c_X12_in1 (rf_S (sl_u v 0 (nI 0)) w a nm M) y (n := 1) (by omega)
    simp only
    cases hv : sl_vi y 2 with
    | none =>
      rw [hv] at hJ
      refine slv_aload_n eX12_aside_0 rfl ?_
      refine slv_iconst (v := nI 0) eX12_aside_1 (by decide) ?_
      refine slr_pi eX12_aside_2 fX12_149 (Nat.le_of_ble_eq_true rfl) rf_s0 ?_
      refine slv_aload_n eX12_aside_5 rfl ?_
      refine slv_iload_n eX12_aside_6 rfl ?_
      refine slv_rV (As := [_]) eX12_aside_7 lX12_345 rfl rfl rf_68 rfl hR (by decide) (Nat.le_of_ble_eq_true rfl) ?_
      refine slv_if_neB eX12_aside_10 (fun h10 => ?_) (fun h10 => absurd h10 sl_tf)
      refine slv_iload_n eX12_aside_19 rfl ?_
      refine slv_iconst (v := nI 0) eX12_aside_20 (by decide) ?_
      refine slv_iconst (v := nI 1) eX12_aside_21 (by decide) ?_
      refine slv_rS (As := [_, _, _]) eX12_aside_22 lX12_180 rfl rfl hJ (by decide) (Nat.le_of_ble_eq_true rfl) ?_
      refine slv_if_neB eX12_aside_25 (fun h25 => absurd h25 (by decide)) (fun h25 => ?_)
      refine slv_aload_n eX12_aside_28 rfl ?_
      refine slv_iconst (v := nI 2) eX12_aside_29 (by decide) ?_
      refine slv_rV (As := [_]) eX12_aside_30 lX12_155 rfl rfl rf_68 rfl (c_X12_refused 2) (by decide) (Nat.le_of_ble_eq_true rfl) ?_
      refine slv_iret eX12_aside_33 rfl ?_
      exact ⟨rfl, rfl⟩
    | some j =>
      rw [hv] at hJ
      obtain ⟨hy, hj⟩ := vi_some hv
      subst hy
      simp only
      by_cases hp : sg_put g k = decide (j = 1)
      · rw [if_pos hp, if_pos hp]
        rcases (show j = 0 ∨ j = 1 by omega) with q | q <;> subst q
        · rw [hp] at hSv
          refine slv_aload_n eX12_aside_0 rfl ?_
          refine slv_iconst (v := nI 0) eX12_aside_1 (by decide) ?_
          refine slr_pi eX12_aside_2 fX12_149 (Nat.le_of_ble_eq_true rfl) rf_s0 ?_
          refine slv_aload_n eX12_aside_5 rfl ?_
          refine slv_iload_n eX12_aside_6 rfl ?_
          refine slv_rV (As := [_]) eX12_aside_7 lX12_345 rfl rfl rf_68 rfl hR (by decide) (Nat.le_of_ble_eq_true rfl) ?_
          refine slv_if_neB eX12_aside_10 (fun h10 => ?_) (fun h10 => absurd h10 sl_tf)
          refine slv_iload_n eX12_aside_19 rfl ?_
          refine slv_iconst (v := nI 0) eX12_aside_20 (by decide) ?_
          refine slv_iconst (v := nI 1) eX12_aside_21 (by decide) ?_
          refine slv_rS (As := [_, _, _]) eX12_aside_22 lX12_180 rfl rfl hJ (by decide) (Nat.le_of_ble_eq_true rfl) ?_
          refine slv_if_neB eX12_aside_25 (fun h25 => ?_) (fun h25 => absurd h25 sl_tf)
          refine slv_aload_n eX12_aside_34 rfl ?_
          refine slv_iload_n eX12_aside_35 rfl ?_
          refine slv_rV (As := [_]) eX12_aside_36 lX12_348 rfl rfl rf_68 rfl hSv (by decide) (Nat.le_of_ble_eq_true rfl) ?_
          refine slv_iload_n eX12_aside_39 rfl ?_
          refine slv_if_ne eX12_aside_40 (fun h40 => absurd rfl h40) (fun h40 => ?_)
          refine slv_iconst (v := nI 1) eX12_aside_43 (by decide) ?_
          refine slv_goto eX12_aside_44 ?_
          refine slv_icmp_ne eX12_aside_48 (fun h48 => absurd rfl h48) (fun h48 => ?_)
          refine slv_aload_n eX12_aside_51 rfl ?_
          refine slv_iconst (v := nI 5) eX12_aside_52 (by decide) ?_
          refine slv_rV (As := [_]) eX12_aside_53 lX12_155 rfl rfl rf_68 rfl (c_X12_refused 5) (by decide) (Nat.le_of_ble_eq_true rfl) ?_
          refine slv_iret eX12_aside_56 rfl ?_
          exact ⟨rfl, rfl⟩
        · rw [hp] at hSv
          refine slv_aload_n eX12_aside_0 rfl ?_
          refine slv_iconst (v := nI 0) eX12_aside_1 (by decide) ?_
          refine slr_pi eX12_aside_2 fX12_149 (Nat.le_of_ble_eq_true rfl) rf_s0 ?_
          refine slv_aload_n eX12_aside_5 rfl ?_
          refine slv_iload_n eX12_aside_6 rfl ?_
          refine slv_rV (As := [_]) eX12_aside_7 lX12_345 rfl rfl rf_68 rfl hR (by decide) (Nat.le_of_ble_eq_true rfl) ?_
          refine slv_if_neB eX12_aside_10 (fun h10 => ?_) (fun h10 => absurd h10 sl_tf)
          refine slv_iload_n eX12_aside_19 rfl ?_
          refine slv_iconst (v := nI 0) eX12_aside_20 (by decide) ?_
          refine slv_iconst (v := nI 1) eX12_aside_21 (by decide) ?_
          refine slv_rS (As := [_, _, _]) eX12_aside_22 lX12_180 rfl rfl hJ (by decide) (Nat.le_of_ble_eq_true rfl) ?_
          refine slv_if_neB eX12_aside_25 (fun h25 => ?_) (fun h25 => absurd h25 sl_tf)
          refine slv_aload_n eX12_aside_34 rfl ?_
          refine slv_iload_n eX12_aside_35 rfl ?_
          refine slv_rV (As := [_]) eX12_aside_36 lX12_348 rfl rfl rf_68 rfl hSv (by decide) (Nat.le_of_ble_eq_true rfl) ?_
          refine slv_iload_n eX12_aside_39 rfl ?_
          refine slv_if_ne eX12_aside_40 (fun h40 => ?_) (fun h40 => absurd h40 (by decide))
          refine slv_iconst (v := nI 0) eX12_aside_47 (by decide) ?_
          refine slv_icmp_ne eX12_aside_48 (fun h48 => absurd rfl h48) (fun h48 => ?_)
          refine slv_aload_n eX12_aside_51 rfl ?_
          refine slv_iconst (v := nI 5) eX12_aside_52 (by decide) ?_
          refine slv_rV (As := [_]) eX12_aside_53 lX12_155 rfl rfl rf_68 rfl (c_X12_refused 5) (by decide) (Nat.le_of_ble_eq_true rfl) ?_
          refine slv_iret eX12_aside_56 rfl ?_
          exact ⟨rfl, rfl⟩
      · rw [if_neg hp, if_neg hp]
        have hpn : (!(sg_put g k)) = decide (j = 1) := by
          cases h1 : sg_put g k <;> cases h2 : decide (j = 1) <;> simp_all
        have hRm := c_X12_remembers (v := sl_u v 0 (nI 0)) (w := w) (a := a) (nm := nm) (M := M) hc h26
        have hok' : sg_ok (sg_pt g (sl_u (sg_put g) k (decide (j = 1)))) := sg_pt_ok hok
        have hs' : sg_str (sg_pt g (sl_u (sg_put g) k (decide (j = 1)))) := hs rfl
        have hG' : rf_G (sg_pt g (sl_u (sg_put g) k (decide (j = 1)))) (sl_u (rm_v c (sl_u v 0 (nI 0))) 23 (v 23 ^^^ (nI 1 <<< (nI k &&& 31)))) (rm_a c (sl_u v 0 (nI 0)) a) := by
          obtain ⟨g1, g2, g3, g4, g5, g6, g7⟩ := hG1
          refine ⟨g1, g2, g3, g4, fun r hr => ?_, g6, g7⟩
          obtain ⟨r1, r2, r3, r4⟩ := g5 r hr
          refine ⟨r1, r2, r3, ?_⟩
          rw [sl_u_eq, bt_tog _ (by omega) (by have : r < sg_rules g := hr; omega)]
          show _ = sl_u (sg_put g) k (decide (j = 1)) r
          by_cases e : r = k
          · subst e
            rw [if_pos rfl, sl_u_eq, r4, hpn]
          · rw [if_neg e, sl_u_ne e, r4]
        have hLy := c_X12_lays (w := w) (nm := nm) (M := M) hok' hs' hG' hz.1 hz.2
        have hAm := fun v1 a1 (h : rf_G (sg_pt g (sl_u (sg_put g) k (decide (j = 1)))) v1 a1) => c_X12_asideMany (w := w) (nm := nm) (M := M) hok' h
        have fin : ∀ (v1 : Nat → Int32) (a1 : Nat → Nat → Int32), (∀ q, q ∉ [44] → v1 q = (sl_u (rm_v c (sl_u v 0 (nI 0))) 23 (v 23 ^^^ (nI 1 <<< (nI k &&& 31)))) q) → (∀ q, q ∉ [36, 37, 38, 39, 40, 41, 42, 43, 45] → a1 q = (rm_a c (sl_u v 0 (nI 0)) a) q) → rf_laid (sg_pt g (sl_u (sg_put g) k (decide (j = 1)))) v1 a1 → ∀ Q : Option Value → sl_M → Prop, (∀ v' a', rf_moved (sg_pt g (sl_u (sg_put g) k (decide (j = 1)))) v a [23, 26] [24, 25] v' a' ∧ v' 23 = v 23 ^^^ (nI 1 <<< (nI k &&& 31)) ∧ v' 26 = nI (ac_kc c) ∧ a' 24 = ac_kf c (a 24) (v 22) ∧ a' 25 = ac_kf c (a 25) (v 23) → Q (some (.int (an_ok (nI (sl_ct (sl_u (sg_put g) k (decide (j = 1))) (sg_rules g) 0))).1)) (rf_S v' w a' nm M)) → sl_V YX12_aside none 4 0 0 Q 77 [some (.ref 68), some (.int (nI k)), some (.int (nI j))] [] (rf_S v1 w a1 nm M) := by
          intro v1 a1 hv1 ha1 hl1 Q hQ
          have hG1' : rf_G (sg_pt g (sl_u (sg_put g) k (decide (j = 1)))) v1 a1 := by
            obtain ⟨g1, g2, g3, g4, g5, g6, g7⟩ := hG'
            refine ⟨(hv1 _ (by decide)).trans g1, (hv1 _ (by decide)).trans g2, (hv1 _ (by decide)).trans g3, (hv1 _ (by decide)).trans g4, fun r hr => ?_, fun r i hr hi => (congrFun (ha1 _ (by decide)) _).trans (g6 r i hr hi), fun t ht => (congrFun (ha1 _ (by decide)) _).trans (g7 t ht)⟩
            obtain ⟨r1, r2, r3, r4⟩ := g5 r hr
            exact ⟨(congrFun (ha1 _ (by decide)) _).trans r1, (congrFun (ha1 _ (by decide)) _).trans r2, (congrFun (ha1 _ (by decide)) _).trans r3, by rw [hv1 _ (by decide)]; exact r4⟩
          refine slv_aload_n eX12_aside_77 rfl ?_
          refine slv_aload_n eX12_aside_78 rfl ?_
          refine slv_rV (As := []) eX12_aside_79 lX12_560 rfl rfl rf_68 rfl (hAm v1 a1 hG1') (by decide) (Nat.le_of_ble_eq_true rfl) ?_
          refine slv_rV (As := [_]) eX12_aside_82 lX12_314 rfl rfl rf_68 rfl (c_X12_good _) (by decide) (Nat.le_of_ble_eq_true rfl) ?_
          refine slv_iret eX12_aside_85 rfl ?_
          refine hQ _ _ ⟨⟨fun q hq => ?_, ?_, (sl_u_ne (by decide)).trans sl_u_eq, sl_u_eq, ?_, fun q hq => ?_, ?_⟩, ?_, ?_, ?_, ?_⟩
          · simp only [List.mem_cons, List.not_mem_nil, not_or, or_false] at hq
            unfold rf_gd
            rw [sl_u_ne (by omega), sl_u_ne (by omega), hv1 q (by simp; omega)]
            unfold rm_v
            rw [sl_u_ne (by omega), sl_u_ne (by omega), sl_u_ne (by omega), sl_u_ne (by omega)]
          · exact (sl_u_ne (by decide)).trans ((sl_u_ne (by decide)).trans (hv1 _ (by decide)))
          · exact (sl_u_ne (by decide)).trans ((sl_u_ne (by decide)).trans (hv1 _ (by decide)))
          · simp only [List.mem_cons, List.not_mem_nil, not_or, or_false] at hq
            rw [ha1 q (by simp; omega)]
            unfold rm_a
            rw [sl_u_ne (by omega), sl_u_ne (by omega)]
          · exact ⟨hl1.1, hl1.2.1, hl1.2.2.1, fun rk ba => rf_Kv (hl1.2.2.2 rk ba) rfl⟩
          · exact (sl_u_ne (by decide)).trans ((sl_u_ne (by decide)).trans (hv1 _ (by decide)))
          · exact (sl_u_ne (by decide)).trans ((sl_u_ne (by decide)).trans (hv1 _ (by decide)))
          · exact ha1 _ (by decide)
          · exact ha1 _ (by decide)
        rcases (show j = 0 ∨ j = 1 by omega) with q | q <;> subst q
        · rw [hpn] at hSv
          refine slv_aload_n eX12_aside_0 rfl ?_
          refine slv_iconst (v := nI 0) eX12_aside_1 (by decide) ?_
          refine slr_pi eX12_aside_2 fX12_149 (Nat.le_of_ble_eq_true rfl) rf_s0 ?_
          refine slv_aload_n eX12_aside_5 rfl ?_
          refine slv_iload_n eX12_aside_6 rfl ?_
          refine slv_rV (As := [_]) eX12_aside_7 lX12_345 rfl rfl rf_68 rfl hR (by decide) (Nat.le_of_ble_eq_true rfl) ?_
          refine slv_if_neB eX12_aside_10 (fun h10 => ?_) (fun h10 => absurd h10 sl_tf)
          refine slv_iload_n eX12_aside_19 rfl ?_
          refine slv_iconst (v := nI 0) eX12_aside_20 (by decide) ?_
          refine slv_iconst (v := nI 1) eX12_aside_21 (by decide) ?_
          refine slv_rS (As := [_, _, _]) eX12_aside_22 lX12_180 rfl rfl hJ (by decide) (Nat.le_of_ble_eq_true rfl) ?_
          refine slv_if_neB eX12_aside_25 (fun h25 => ?_) (fun h25 => absurd h25 sl_tf)
          refine slv_aload_n eX12_aside_34 rfl ?_
          refine slv_iload_n eX12_aside_35 rfl ?_
          refine slv_rV (As := [_]) eX12_aside_36 lX12_348 rfl rfl rf_68 rfl hSv (by decide) (Nat.le_of_ble_eq_true rfl) ?_
          refine slv_iload_n eX12_aside_39 rfl ?_
          refine slv_if_ne eX12_aside_40 (fun h40 => absurd rfl h40) (fun h40 => ?_)
          refine slv_iconst (v := nI 1) eX12_aside_43 (by decide) ?_
          refine slv_goto eX12_aside_44 ?_
          refine slv_icmp_ne eX12_aside_48 (fun h48 => ?_) (fun h48 => absurd h48 (by decide))
          refine slv_aload_n eX12_aside_57 rfl ?_
          refine slv_rV (As := []) eX12_aside_58 lX12_557 rfl rfl rf_68 rfl hRm (by decide) (Nat.le_of_ble_eq_true rfl) ?_
          refine slv_aload_n eX12_aside_61 rfl ?_
          refine slv_dup eX12_aside_62 rfl ?_
          refine slr_gi eX12_aside_63 fX12_330 rfl (by repeat (first | exact sl_u_eq | assumption | apply rf_ne (by decide) | exact rfl)) ?_
          refine slv_iconst (v := nI 1) eX12_aside_66 (by decide) ?_
          refine slv_iload_n eX12_aside_67 rfl ?_
          refine slv_ishl eX12_aside_68 ?_
          refine slv_ixor eX12_aside_69 ?_
          refine slr_pi eX12_aside_70 fX12_330 (Nat.le_of_ble_eq_true rfl) rf_s23 ?_
          refine slv_aload_n eX12_aside_73 rfl ?_
          refine slv_callV (As := []) eX12_aside_74 lX12_339 rfl rfl rf_68 rfl hLy (by decide) (Nat.le_of_ble_eq_true rfl) (Nat.zero_add _).symm (Nat.zero_add _).symm (Or.inl rfl) ?_
          rintro _ _ ⟨rfl, v1, a1, rfl, hv1, ha1, hl1⟩
          exact fin v1 a1 hv1 ha1 hl1 _ (fun v' a' h => ⟨rfl, v', a', rfl, h⟩)
        · rw [hpn] at hSv
          refine slv_aload_n eX12_aside_0 rfl ?_
          refine slv_iconst (v := nI 0) eX12_aside_1 (by decide) ?_
          refine slr_pi eX12_aside_2 fX12_149 (Nat.le_of_ble_eq_true rfl) rf_s0 ?_
          refine slv_aload_n eX12_aside_5 rfl ?_
          refine slv_iload_n eX12_aside_6 rfl ?_
          refine slv_rV (As := [_]) eX12_aside_7 lX12_345 rfl rfl rf_68 rfl hR (by decide) (Nat.le_of_ble_eq_true rfl) ?_
          refine slv_if_neB eX12_aside_10 (fun h10 => ?_) (fun h10 => absurd h10 sl_tf)
          refine slv_iload_n eX12_aside_19 rfl ?_
          refine slv_iconst (v := nI 0) eX12_aside_20 (by decide) ?_
          refine slv_iconst (v := nI 1) eX12_aside_21 (by decide) ?_
          refine slv_rS (As := [_, _, _]) eX12_aside_22 lX12_180 rfl rfl hJ (by decide) (Nat.le_of_ble_eq_true rfl) ?_
          refine slv_if_neB eX12_aside_25 (fun h25 => ?_) (fun h25 => absurd h25 sl_tf)
          refine slv_aload_n eX12_aside_34 rfl ?_
          refine slv_iload_n eX12_aside_35 rfl ?_
          refine slv_rV (As := [_]) eX12_aside_36 lX12_348 rfl rfl rf_68 rfl hSv (by decide) (Nat.le_of_ble_eq_true rfl) ?_
          refine slv_iload_n eX12_aside_39 rfl ?_
          refine slv_if_ne eX12_aside_40 (fun h40 => ?_) (fun h40 => absurd h40 (by decide))
          refine slv_iconst (v := nI 0) eX12_aside_47 (by decide) ?_
          refine slv_icmp_ne eX12_aside_48 (fun h48 => ?_) (fun h48 => absurd h48 (by decide))
          refine slv_aload_n eX12_aside_57 rfl ?_
          refine slv_rV (As := []) eX12_aside_58 lX12_557 rfl rfl rf_68 rfl hRm (by decide) (Nat.le_of_ble_eq_true rfl) ?_
          refine slv_aload_n eX12_aside_61 rfl ?_
          refine slv_dup eX12_aside_62 rfl ?_
          refine slr_gi eX12_aside_63 fX12_330 rfl (by repeat (first | exact sl_u_eq | assumption | apply rf_ne (by decide) | exact rfl)) ?_
          refine slv_iconst (v := nI 1) eX12_aside_66 (by decide) ?_
          refine slv_iload_n eX12_aside_67 rfl ?_
          refine slv_ishl eX12_aside_68 ?_
          refine slv_ixor eX12_aside_69 ?_
          refine slr_pi eX12_aside_70 fX12_330 (Nat.le_of_ble_eq_true rfl) rf_s23 ?_
          refine slv_aload_n eX12_aside_73 rfl ?_
          refine slv_callV (As := []) eX12_aside_74 lX12_339 rfl rfl rf_68 rfl hLy (by decide) (Nat.le_of_ble_eq_true rfl) (Nat.zero_add _).symm (Nat.zero_add _).symm (Or.inl rfl) ?_
          rintro _ _ ⟨rfl, v1, a1, rfl, hv1, ha1, hl1⟩
          exact fin v1 a1 hv1 ha1 hl1 _ (fun v' a' h => ⟨rfl, v', a', rfl, h⟩)
set_option maxRecDepth 100000 in
theorem c_X12_undo {c : Nat} {g' : sg_T} (h21 : v 21 = sl_bi sn) (hok : sg_ok g') (hs : 0 < c → sg_str g') (hn : sn = false → c = 0) (hG : 0 < c → rf_G g' (sl_u (sl_u v 22 (a 24 (c - 1))) 23 (a 25 (c - 1))) a) (hz : rf_z0 a) (hc : c ≤ 10) (h26 : v 26 = nI c) : sl_T YX12_undo 4 0 0 (fun r M' => r = some (.int (sl_bi (decide (0 < c)))) ∧ if 0 < c then ∃ v' a', M' = rf_S v' w a' nm M ∧ rf_moved g' v a [22, 23, 26] [] v' a' ∧ v' 22 = a 24 (c - 1) ∧ v' 23 = a 25 (c - 1) ∧ v' 26 = nI (c - 1) else M' = rf_S (rf_an v 1) w a nm M) [.ref 68] (rf_S v w a nm M) := by
  refine sl_T.of_V (lv := [_]) (by decide) rfl (Nat.le_of_ble_eq_true rfl) ?_
  by_cases h0 : 0 < c
  · have hsn : sn = true := by
      cases sn with
      | true => rfl
      | false => have := hn rfl; omega
    subst hsn
    simp only [if_pos h0, decide_eq_true h0]
    have hG' : rf_G g' (sl_u (sl_u (sl_u (sl_u (sl_u v 0 (nI 0)) 26 (nI (c - 1))) 22 (a 24 (c - 1))) 23 (a 25 (c - 1))) 53 (nI 0)) a := hG h0
    have hLy := c_X12_lays (w := w) (nm := nm) (M := M) hok (hs h0) hG' hz.1 hz.2
    refine slv_aload_n eX12_undo_0 rfl ?_
    refine slv_iconst (v := nI 0) eX12_undo_1 (by decide) ?_
    refine slr_pi eX12_undo_2 fX12_149 (Nat.le_of_ble_eq_true rfl) rf_s0 ?_
    refine slv_aload_n eX12_undo_5 rfl ?_
    refine slr_gi eX12_undo_6 fX12_317 rfl (by repeat (first | exact sl_u_eq | assumption | apply rf_ne (by decide) | exact rfl)) ?_
    refine slv_if_eqB eX12_undo_9 (fun h9 => absurd h9 (by decide)) (fun h9 => ?_)
    refine slv_aload_n eX12_undo_12 rfl ?_
    refine slr_gi eX12_undo_13 fX12_333 rfl (by repeat (first | exact sl_u_eq | assumption | apply rf_ne (by decide) | exact rfl)) ?_
    refine slv_if_neN eX12_undo_16 (by omega) (fun h16 => ?_) (fun h16 => absurd h16 (by omega))
    refine slv_aload_n eX12_undo_27 rfl ?_
    refine slv_dup eX12_undo_28 rfl ?_
    refine slr_gi eX12_undo_29 fX12_333 rfl (by repeat (first | exact sl_u_eq | assumption | apply rf_ne (by decide) | exact rfl)) ?_
    refine slv_iconst (v := nI 1) eX12_undo_32 (by decide) ?_
    refine slv_isubN eX12_undo_33 (by omega) ?_
    refine slr_pi eX12_undo_34 fX12_333 (Nat.le_of_ble_eq_true rfl) rf_s26 ?_
    refine slv_aload_n eX12_undo_37 rfl ?_
    refine slv_aload_n eX12_undo_38 rfl ?_
    refine slr_ga (p := 80) eX12_undo_39 fX12_48 rfl ?_
    refine slv_aload_n eX12_undo_42 rfl ?_
    refine slr_gi eX12_undo_43 fX12_333 rfl (by repeat (first | exact sl_u_eq | assumption | apply rf_ne (by decide) | exact rfl)) ?_
    refine slr_ialdX (k := 24) (p := 80) (len := 10) eX12_undo_46 rfl (by repeat (first | exact sl_u_eq | assumption | apply rf_ne (by decide) | exact rfl)) (by omega) (by decide) rfl ?_
    refine slr_pi eX12_undo_47 fX12_327 (Nat.le_of_ble_eq_true rfl) rf_s22 ?_
    refine slv_aload_n eX12_undo_50 rfl ?_
    refine slv_aload_n eX12_undo_51 rfl ?_
    refine slr_ga (p := 81) eX12_undo_52 fX12_51 rfl ?_
    refine slv_aload_n eX12_undo_55 rfl ?_
    refine slr_gi eX12_undo_56 fX12_333 rfl (by repeat (first | exact sl_u_eq | assumption | apply rf_ne (by decide) | exact rfl)) ?_
    refine slr_ialdX (k := 25) (p := 81) (len := 10) eX12_undo_59 rfl (by repeat (first | exact sl_u_eq | assumption | apply rf_ne (by decide) | exact rfl)) (by omega) (by decide) rfl ?_
    refine slr_pi eX12_undo_60 fX12_330 (Nat.le_of_ble_eq_true rfl) rf_s23 ?_
    refine slv_aload_n eX12_undo_63 rfl ?_
    refine slv_iconst (v := nI 0) eX12_undo_64 (by decide) ?_
    refine slr_pz eX12_undo_65 fX12_336 (Nat.le_of_ble_eq_true rfl) rfl rfl rf_s53 ?_
    refine slv_aload_n eX12_undo_68 rfl ?_
    refine slv_callV (As := []) eX12_undo_69 lX12_339 rfl rfl rf_68 rfl hLy (by decide) (Nat.le_of_ble_eq_true rfl) (Nat.zero_add _).symm (Nat.zero_add _).symm (Or.inl rfl) ?_
    rintro _ _ ⟨rfl, v1, a1, rfl, hv1, ha1, hl1⟩
    refine slv_aload_n eX12_undo_72 rfl ?_
    refine slv_iconst (v := nI 0) eX12_undo_73 (by decide) ?_
    refine slv_rV (As := [_]) eX12_undo_74 lX12_314 rfl rfl rf_68 rfl (c_X12_good _) (by decide) (Nat.le_of_ble_eq_true rfl) ?_
    refine slv_pop eX12_undo_77 rfl ?_
    refine slv_iconst (v := nI 1) eX12_undo_78 (by decide) ?_
    refine slv_zret eX12_undo_79 rfl rfl ?_
    refine ⟨rfl, _, _, rfl, ⟨fun q hq => ?_, ?_, (sl_u_ne (by decide)).trans sl_u_eq, sl_u_eq, ?_, fun q hq => ?_, ?_⟩, ?_, ?_, ?_⟩
    · simp only [List.mem_cons, List.not_mem_nil, not_or, or_false] at hq
      unfold rf_gd
      rw [sl_u_ne (by omega), sl_u_ne (by omega), hv1 q (by simp; omega), sl_u_ne (by omega), sl_u_ne (by omega), sl_u_ne (by omega), sl_u_ne (by omega), sl_u_ne (by omega)]
    · exact (sl_u_ne (by decide)).trans ((sl_u_ne (by decide)).trans (hv1 _ (by decide)))
    · exact (sl_u_ne (by decide)).trans ((sl_u_ne (by decide)).trans (hv1 _ (by decide)))
    · simp only [List.mem_cons, List.not_mem_nil, not_or, or_false] at hq
      exact ha1 q (by simp; omega)
    · exact ⟨hl1.1, hl1.2.1, hl1.2.2.1, fun rk ba => rf_Kv (hl1.2.2.2 rk ba) rfl⟩
    · exact (sl_u_ne (by decide)).trans ((sl_u_ne (by decide)).trans (hv1 _ (by decide)))
    · exact (sl_u_ne (by decide)).trans ((sl_u_ne (by decide)).trans (hv1 _ (by decide)))
    · exact (sl_u_ne (by decide)).trans ((sl_u_ne (by decide)).trans (hv1 _ (by decide)))
  · simp only [if_neg h0, decide_eq_false h0]
    have hc0 : c = 0 := by omega
    subst hc0
    cases sn with
    | false =>
      refine slv_aload_n eX12_undo_0 rfl ?_
      refine slv_iconst (v := nI 0) eX12_undo_1 (by decide) ?_
      refine slr_pi eX12_undo_2 fX12_149 (Nat.le_of_ble_eq_true rfl) rf_s0 ?_
      refine slv_aload_n eX12_undo_5 rfl ?_
      refine slr_gi eX12_undo_6 fX12_317 rfl (by repeat (first | exact sl_u_eq | assumption | apply rf_ne (by decide) | exact rfl)) ?_
      refine slv_if_eqB eX12_undo_9 (fun h9 => ?_) (fun h9 => absurd h9 (by decide))
      refine slv_aload_n eX12_undo_19 rfl ?_
      refine slv_iconst (v := nI 1) eX12_undo_20 (by decide) ?_
      refine slv_rV (As := [_]) eX12_undo_21 lX12_155 rfl rfl rf_68 rfl (c_X12_refused 1) (by decide) (Nat.le_of_ble_eq_true rfl) ?_
      refine slv_pop eX12_undo_24 rfl ?_
      refine slv_iconst (v := nI 0) eX12_undo_25 (by decide) ?_
      refine slv_zret eX12_undo_26 rfl rfl ?_
      exact ⟨rfl, rfl⟩
    | true =>
      refine slv_aload_n eX12_undo_0 rfl ?_
      refine slv_iconst (v := nI 0) eX12_undo_1 (by decide) ?_
      refine slr_pi eX12_undo_2 fX12_149 (Nat.le_of_ble_eq_true rfl) rf_s0 ?_
      refine slv_aload_n eX12_undo_5 rfl ?_
      refine slr_gi eX12_undo_6 fX12_317 rfl (by repeat (first | exact sl_u_eq | assumption | apply rf_ne (by decide) | exact rfl)) ?_
      refine slv_if_eqB eX12_undo_9 (fun h9 => absurd h9 (by decide)) (fun h9 => ?_)
      refine slv_aload_n eX12_undo_12 rfl ?_
      refine slr_gi eX12_undo_13 fX12_333 rfl (by repeat (first | exact sl_u_eq | assumption | apply rf_ne (by decide) | exact rfl)) ?_
      refine slv_if_neN eX12_undo_16 (by omega) (fun h16 => absurd h16 (fun q => q rfl)) (fun h16 => ?_)
      refine slv_aload_n eX12_undo_19 rfl ?_
      refine slv_iconst (v := nI 1) eX12_undo_20 (by decide) ?_
      refine slv_rV (As := [_]) eX12_undo_21 lX12_155 rfl rfl rf_68 rfl (c_X12_refused 1) (by decide) (Nat.le_of_ble_eq_true rfl) ?_
      refine slv_pop eX12_undo_24 rfl ?_
      refine slv_iconst (v := nI 0) eX12_undo_25 (by decide) ?_
      refine slv_zret eX12_undo_26 rfl rfl ?_
      exact ⟨rfl, rfl⟩
end RAS

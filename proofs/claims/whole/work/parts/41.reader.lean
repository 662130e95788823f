theorem gm_ok {R : gr_T} {g : sg_T} (h : sg_ok g) : sg_ok (gm_s R g).2 ∧ sg_rules (gm_s R g).2 = sg_rules g ∧ sg_lens (gm_s R g).2 = sg_lens g ∧ ∀ k, gm_o R g = some k → k < 6 := by
  have hn6 : sg_names g ≤ 6 := h.2.2.1
  have hk : ∀ k, gm_k g (gr_wd R) = some k → k < 6 := fun k hk => by have := sl_fn_lt _ _ _ hk; omega
  unfold gm_s gm_o
  cases ho : gm_k g (gr_wd R) with
  | some k => exact ⟨h, rfl, rfl, fun j hj => (Option.some.inj hj) ▸ hk k ho⟩
  | none =>
    simp only
    by_cases h6 : sg_names g < 6
    · rw [if_pos h6, if_pos h6]
      obtain ⟨a1, a2, a3, a4, a5, a6, a7, a8⟩ := h
      exact ⟨⟨a1, a2, h6, a4, a5, a6, a7, a8⟩, rfl, rfl, fun j hj => (Option.some.inj hj) ▸ h6⟩
    · rw [if_neg h6, if_neg h6]
      exact ⟨h, rfl, rfl, fun j hj => by cases hj⟩
theorem gt_ok {R : gr_T} {g : sg_T} {x : Nat} (hx : x < 256) (h : sg_ok g) : sg_ok (gt_s R g x).2 ∧ sg_rules (gt_s R g x).2 = sg_rules g ∧ sg_lens (gt_s R g x).2 = sg_lens g ∧ ∀ k, gt_o g x = some k → k < 11 := by
  have hn6 : sg_terms g ≤ 11 := h.2.2.2.1
  have hk : ∀ k, gt_k g x = some k → k < 11 := fun k hk => by have := sl_fn_lt _ _ _ hk; omega
  unfold gt_s gt_o
  cases ho : gt_k g x with
  | some k => exact ⟨h, rfl, rfl, fun j hj => (Option.some.inj hj) ▸ hk k ho⟩
  | none =>
    simp only
    by_cases h6 : sg_terms g < 11
    · rw [if_pos h6, if_pos h6]
      obtain ⟨a1, a2, a3, a4, a5, a6, a7, a8⟩ := h
      refine ⟨⟨a1, a2, a3, h6, ?_, a6, a7, a8⟩, rfl, rfl, fun j hj => (Option.some.inj hj) ▸ h6⟩
      intro i hi
      show sl_u _ _ _ i < 256
      unfold sl_u; split
      · exact hx
      · exact a5 i hi
    · rw [if_neg h6, if_neg h6]
      exact ⟨h, rfl, rfl, fun j hj => by cases hj⟩
section GRF
variable {b ln : Nat} {R : gr_T} {g : sg_T} {M : sl_M}
set_option maxRecDepth 100000 in
theorem c_X3_takeHead (hS : st_all) (hb : b = 2 ∨ b = 10) (ht : gr_tk R ≤ 4) (hok : sg_ok g) (hr : sg_rules g < 12) : sl_R YX3_takeHead 7 [.ref 18] (gp_S b ln R g M) none (gp_S b ln (gp_head R g).1 (gp_head R g).2 M) := by
  have hW := c_X3_isNameWord (b := b) (ln := ln) (g := g) (M := M) hS ht
  have hm := c_X3_meetName (ln := ln) (R := R) (M := M) hb hok
  obtain ⟨o1, o2, o3, o4⟩ := gm_ok (R := R) hok
  unfold gp_head
  generalize gm_o R g = o at hm o4
  generalize gm_s R g = q at hm o1 o2 o3
  generalize gr_nw R = nw at hW
  have hr' : sg_rules q.2 < 12 := by omega
  refine sl_T.of_V (lv := [_, _]) (by decide) rfl (Nat.le_of_ble_eq_true rfl) ?_
  cases o with
  | none =>
    change sl_R YX3_meetName 1 _ _ (some (.int (-1))) _ at hm
    refine slv_aload_n eX3_takeHead_0 rfl ?_
    refine slv_rV (As := []) eX3_takeHead_1 lX3_160 rfl rfl (by repeat (first | assumption | exact sl_up_eq | refine sl_up_ne (by first | decide | omega) ?_)) rfl hW (by decide) (Nat.le_of_ble_eq_true rfl) ?_
    refine slv_if_neB eX3_takeHead_4 (fun h4 => ?_) (fun h4 => ?_)
    · refine slv_aload_n eX3_takeHead_13 rfl ?_
      refine slv_rV (As := []) eX3_takeHead_14 lX3_164 rfl rfl (by repeat (first | assumption | exact sl_up_eq | refine sl_up_ne (by first | decide | omega) ?_)) rfl hm (by decide) (Nat.le_of_ble_eq_true rfl) ?_
      refine slv_istore_n (i := 1) (lv' := [_, _]) eX3_takeHead_17 rfl (by decide) rfl ?_
      refine slv_iload_n eX3_takeHead_18 rfl ?_
      refine slv_iconst (v := (-1)) eX3_takeHead_19 (by decide) ?_
      refine slv_icmp_eq eX3_takeHead_20 (fun h20 => ?_) (fun h20 => absurd rfl h20)
      refine slv_vret eX3_takeHead_60 rfl ?_
      have z : nw = _ := h4
      subst z
      exact ⟨rfl, rfl⟩
    · refine slv_aload_n eX3_takeHead_7 rfl ?_
      refine slv_iconst (v := nI 1) eX3_takeHead_8 (by decide) ?_
      refine slv_rV (As := [_]) eX3_takeHead_9 lX3_90 rfl rfl (by repeat (first | assumption | exact sl_up_eq | refine sl_up_ne (by first | decide | omega) ?_)) rfl (c_X3_failWith 1) (by decide) (Nat.le_of_ble_eq_true rfl) ?_
      refine slv_vret eX3_takeHead_12 rfl ?_
      have z : nw = _ := h4
      subst z
      exact ⟨rfl, rfl⟩
  | some k =>
    have hk := o4 k rfl
    change sl_R YX3_meetName 1 _ _ (some (.int (nI k))) _ at hm
    refine slv_aload_n eX3_takeHead_0 rfl ?_
    refine slv_rV (As := []) eX3_takeHead_1 lX3_160 rfl rfl (by repeat (first | assumption | exact sl_up_eq | refine sl_up_ne (by first | decide | omega) ?_)) rfl hW (by decide) (Nat.le_of_ble_eq_true rfl) ?_
    refine slv_if_neB eX3_takeHead_4 (fun h4 => ?_) (fun h4 => ?_)
    · refine slv_aload_n eX3_takeHead_13 rfl ?_
      refine slv_rV (As := []) eX3_takeHead_14 lX3_164 rfl rfl (by repeat (first | assumption | exact sl_up_eq | refine sl_up_ne (by first | decide | omega) ?_)) rfl hm (by decide) (Nat.le_of_ble_eq_true rfl) ?_
      refine slv_istore_n (i := 1) (lv' := [_, _]) eX3_takeHead_17 rfl (by decide) rfl ?_
      refine slv_iload_n eX3_takeHead_18 rfl ?_
      refine slv_iconst (v := (-1)) eX3_takeHead_19 (by decide) ?_
      refine slv_icmp_eq eX3_takeHead_20 (fun h20 => absurd h20 (nI_neg1 (by omega))) (fun h20 => ?_)
      refine slv_aload_n eX3_takeHead_23 rfl ?_
      refine slv_getf eX3_takeHead_24 fX3_22 (by repeat (first | assumption | exact sl_up_eq | refine sl_up_ne (by first | decide | omega) ?_)) rfl ?_
      refine slv_getf eX3_takeHead_27 fX3_167 (by repeat (first | assumption | exact sl_up_eq | refine sl_up_ne (by first | decide | omega) ?_)) rfl ?_
      refine slv_aload_n eX3_takeHead_30 rfl ?_
      refine slv_getf eX3_takeHead_31 fX3_22 (by repeat (first | assumption | exact sl_up_eq | refine sl_up_ne (by first | decide | omega) ?_)) rfl ?_
      refine slv_getf eX3_takeHead_34 fX3_123 (by repeat (first | assumption | exact sl_up_eq | refine sl_up_ne (by first | decide | omega) ?_)) rfl ?_
      refine slv_iload_n eX3_takeHead_37 rfl ?_
      refine slv_iastN eX3_takeHead_38 (by repeat (first | assumption | exact sl_up_eq | refine sl_up_ne (by first | decide | omega) ?_)) (by omega) (by decide) ?_
      refine slv_mem (gp_u3 hb) ?_
      refine slv_aload_n eX3_takeHead_39 rfl ?_
      refine slv_getf eX3_takeHead_40 fX3_22 (by repeat (first | assumption | exact sl_up_eq | refine sl_up_ne (by first | decide | omega) ?_)) rfl ?_
      refine slv_getf eX3_takeHead_43 fX3_170 (by repeat (first | assumption | exact sl_up_eq | refine sl_up_ne (by first | decide | omega) ?_)) rfl ?_
      refine slv_aload_n eX3_takeHead_46 rfl ?_
      refine slv_getf eX3_takeHead_47 fX3_22 (by repeat (first | assumption | exact sl_up_eq | refine sl_up_ne (by first | decide | omega) ?_)) rfl ?_
      refine slv_getf eX3_takeHead_50 fX3_123 (by repeat (first | assumption | exact sl_up_eq | refine sl_up_ne (by first | decide | omega) ?_)) rfl ?_
      refine slv_iconst (v := nI 0) eX3_takeHead_53 (by decide) ?_
      refine slv_iastN eX3_takeHead_54 (by repeat (first | assumption | exact sl_up_eq | refine sl_up_ne (by first | decide | omega) ?_)) (by omega) (by decide) ?_
      refine slv_mem (gp_u5 hb) ?_
      refine slv_aload_n eX3_takeHead_55 rfl ?_
      refine slv_iconst (v := nI 3) eX3_takeHead_56 (by decide) ?_
      refine slv_putf (fs' := [_, _, _, _, _, _, _, _, _, _, _, _, _]) eX3_takeHead_57 fX3_31 (by repeat (first | assumption | exact sl_up_eq | refine sl_up_ne (by first | decide | omega) ?_)) (Nat.le_of_ble_eq_true rfl) rfl rfl rfl ?_
      refine slv_mem gr_u18 ?_
      refine slv_vret eX3_takeHead_60 rfl ?_
      have z : nw = _ := h4
      subst z
      exact ⟨rfl, rfl⟩
    · refine slv_aload_n eX3_takeHead_7 rfl ?_
      refine slv_iconst (v := nI 1) eX3_takeHead_8 (by decide) ?_
      refine slv_rV (As := [_]) eX3_takeHead_9 lX3_90 rfl rfl (by repeat (first | assumption | exact sl_up_eq | refine sl_up_ne (by first | decide | omega) ?_)) rfl (c_X3_failWith 1) (by decide) (Nat.le_of_ble_eq_true rfl) ?_
      refine slv_vret eX3_takeHead_12 rfl ?_
      have z : nw = _ := h4
      subst z
      exact ⟨rfl, rfl⟩
set_option maxRecDepth 100000 in
theorem c_X3_takeIs (hS : st_all) (ht : gr_tk R ≤ 4) : sl_R YX3_takeIs 6 [.ref 18] (gp_S b ln R g M) none (gp_S b ln (gp_is R) g M) := by
  have hw := fun j hj => gr_isW (b := b) (ln := ln) (R := R) (g := g) (M := M) hS ht j hj
  refine sl_T.of_V (lv := [_]) (by decide) rfl (Nat.le_of_ble_eq_true rfl) ?_
  refine slv_aload_n eX3_takeIs_0 rfl ?_
  refine slv_ldcS (tx := "is") 6 eX3_takeIs_1 (by decide +kernel) ?_
  refine slv_rV (As := [_]) eX3_takeIs_3 lX3_117 rfl rfl (by repeat (first | assumption | exact sl_up_eq | refine sl_up_ne (by first | decide | omega) ?_)) rfl (hw 6 (by decide)) (by decide) (Nat.le_of_ble_eq_true rfl) ?_
  refine slv_if_eqB eX3_takeIs_6 (fun h6 => ?_) (fun h6 => ?_)
  · refine slv_aload_n eX3_takeIs_17 rfl ?_
    refine slv_iconst (v := nI 1) eX3_takeIs_18 (by decide) ?_
    refine slv_rV (As := [_]) eX3_takeIs_19 lX3_90 rfl rfl (by repeat (first | assumption | exact sl_up_eq | refine sl_up_ne (by first | decide | omega) ?_)) rfl (c_X3_failWith 1) (by decide) (Nat.le_of_ble_eq_true rfl) ?_
    refine slv_vret eX3_takeIs_22 rfl ?_
    refine ⟨rfl, ?_⟩
    unfold gp_is
    rw [h6]
    rfl
  · refine slv_aload_n eX3_takeIs_9 rfl ?_
    refine slv_iconst (v := nI 4) eX3_takeIs_10 (by decide) ?_
    refine slv_putf (fs' := [_, _, _, _, _, _, _, _, _, _, _, _, _]) eX3_takeIs_11 fX3_31 (by repeat (first | assumption | exact sl_up_eq | refine sl_up_ne (by first | decide | omega) ?_)) (Nat.le_of_ble_eq_true rfl) rfl rfl rfl ?_
    refine slv_mem gr_u18 ?_
    refine slv_goto eX3_takeIs_14 ?_
    refine slv_vret eX3_takeIs_22 rfl ?_
    refine ⟨rfl, ?_⟩
    unfold gp_is
    rw [h6]
    rfl
set_option maxRecDepth 100000 in
theorem c_X3_addItem (hb : b = 2 ∨ b = 10) (hr : sg_rules g < 12) (hl : sg_lens g (sg_rules g) < 5) (x : Nat) : sl_R YX3_addItem 0 [.ref 18, .int (nI x)] (gp_S b ln R g M) none (gp_S b ln (gr_to 5 R) (gp_ai g x) M) := by
  refine sl_T.of_V (lv := [_, _, _]) (by decide) rfl (Nat.le_of_ble_eq_true rfl) ?_
  refine slv_aload_n eX3_addItem_0 rfl ?_
  refine slv_getf eX3_addItem_1 fX3_22 (by repeat (first | assumption | exact sl_up_eq | refine sl_up_ne (by first | decide | omega) ?_)) rfl ?_
  refine slv_getf eX3_addItem_4 fX3_123 (by repeat (first | assumption | exact sl_up_eq | refine sl_up_ne (by first | decide | omega) ?_)) rfl ?_
  refine slv_istore_n (i := 2) (lv' := [_, _, _]) eX3_addItem_7 rfl (by decide) rfl ?_
  refine slv_aload_n eX3_addItem_8 rfl ?_
  refine slv_getf eX3_addItem_9 fX3_22 (by repeat (first | assumption | exact sl_up_eq | refine sl_up_ne (by first | decide | omega) ?_)) rfl ?_
  refine slv_getf eX3_addItem_12 fX3_192 (by repeat (first | assumption | exact sl_up_eq | refine sl_up_ne (by first | decide | omega) ?_)) rfl ?_
  refine slv_iload_n eX3_addItem_15 rfl ?_
  refine slv_iconst (v := nI 5) eX3_addItem_16 (by decide) ?_
  refine slv_imulN eX3_addItem_17 ?_
  refine slv_aload_n eX3_addItem_18 rfl ?_
  refine slv_getf eX3_addItem_19 fX3_22 (by repeat (first | assumption | exact sl_up_eq | refine sl_up_ne (by first | decide | omega) ?_)) rfl ?_
  refine slv_getf eX3_addItem_22 fX3_170 (by repeat (first | assumption | exact sl_up_eq | refine sl_up_ne (by first | decide | omega) ?_)) rfl ?_
  refine slv_iload_n eX3_addItem_25 rfl ?_
  refine slv_ialdN eX3_addItem_26 (by repeat (first | assumption | exact sl_up_eq | refine sl_up_ne (by first | decide | omega) ?_)) (by omega) (by decide) ?_
  refine slv_iaddN eX3_addItem_27 ?_
  refine slv_iload_n eX3_addItem_28 rfl ?_
  refine slv_iastN (x := x) eX3_addItem_29 (by repeat (first | assumption | exact sl_up_eq | refine sl_up_ne (by first | decide | omega) ?_)) (by omega) (by decide) ?_
  refine slv_mem (gp_u6 hb) ?_
  refine slv_aload_n eX3_addItem_30 rfl ?_
  refine slv_getf eX3_addItem_31 fX3_22 (by repeat (first | assumption | exact sl_up_eq | refine sl_up_ne (by first | decide | omega) ?_)) rfl ?_
  refine slv_getf eX3_addItem_34 fX3_170 (by repeat (first | assumption | exact sl_up_eq | refine sl_up_ne (by first | decide | omega) ?_)) rfl ?_
  refine slv_iload_n eX3_addItem_37 rfl ?_
  refine slv_dup2 eX3_addItem_38 rfl rfl ?_
  refine slv_ialdN eX3_addItem_39 (by repeat (first | assumption | exact sl_up_eq | refine sl_up_ne (by first | decide | omega) ?_)) (by omega) (by decide) ?_
  refine slv_iconst (v := nI 1) eX3_addItem_40 (by decide) ?_
  refine slv_iaddN eX3_addItem_41 ?_
  refine slv_iastN eX3_addItem_42 (by repeat (first | assumption | exact sl_up_eq | refine sl_up_ne (by first | decide | omega) ?_)) (by omega) (by decide) ?_
  refine slv_mem (gp_u5 hb) ?_
  refine slv_aload_n eX3_addItem_43 rfl ?_
  refine slv_iconst (v := nI 5) eX3_addItem_44 (by decide) ?_
  refine slv_putf (fs' := [_, _, _, _, _, _, _, _, _, _, _, _, _]) eX3_addItem_45 fX3_31 (by repeat (first | assumption | exact sl_up_eq | refine sl_up_ne (by first | decide | omega) ?_)) (Nat.le_of_ble_eq_true rfl) rfl rfl rfl ?_
  refine slv_mem gr_u18 ?_
  refine slv_vret eX3_addItem_48 rfl ?_
  exact ⟨rfl, rfl⟩
set_option maxRecDepth 100000 in
theorem c_X3_takeNameItem (hb : b = 2 ∨ b = 10) (hok : sg_ok g) (hr : sg_rules g < 12) : sl_R YX3_takeNameItem 2 [.ref 18] (gp_S b ln R g M) none (gp_S b ln (gp_ni R g).1 (gp_ni R g).2 M) := by
  have hm := c_X3_meetName (ln := ln) (R := R) (M := M) hb hok
  obtain ⟨o1, o2, o3, o4⟩ := gm_ok (R := R) hok
  have hl5 : sg_lens g (sg_rules g) ≤ 5 := (hok.2.2.2.2.2.1 _ hr).2.2
  have hI := fun h1 : 0 < sg_lens g (sg_rules g) => c_X2_itemAt (gp_sg (ln := ln) (R := R) (g := g) (M := M) hb) hr (show sg_lens g (sg_rules g) - 1 < 5 by omega)
  have hit := fun h1 : 0 < sg_lens g (sg_rules g) => sg_it_lt hok hr (show sg_lens g (sg_rules g) - 1 < 5 by omega)
  have hF := fun k => c_X3_failWith (b := b) (ln := ln) (R := R) (g := g) (M := M) k
  have e3 : ∀ h1 : 0 < sg_lens g (sg_rules g), sg_nm (sg_it g (sg_rules g) (sg_lens g (sg_rules g) - 1)) = true → gp_ni R g = (gr_fl 3 R, g) := fun h1 h2 => by rw [gp_ni, decide_eq_true h1, h2]; rfl
  have en : (¬ 0 < sg_lens g (sg_rules g)) ∨ sg_nm (sg_it g (sg_rules g) (sg_lens g (sg_rules g) - 1)) = false → gp_ni R g = (if sg_lens g (sg_rules g) < 5 then gp_jo (gm_o R g) (gm_s R g) 100 else (gr_fl 4 R, g)) := by
    rintro (h | h)
    · rw [gp_ni, decide_eq_false h]; rfl
    · rw [gp_ni, h, Bool.and_false]; rfl
  generalize gp_ni R g = W at e3 en ⊢
  generalize gm_o R g = o at hm o4 en
  generalize gm_s R g = q at hm o1 o2 o3 en
  have hr' : sg_rules q.2 < 12 := by omega
  have hA := fun (h : sg_lens g (sg_rules g) < 5) (k : Nat) => c_X3_addItem (ln := ln) (R := q.1) (M := M) hb hr' (show sg_lens q.2 (sg_rules q.2) < 5 by rw [o2, o3]; exact h) (100 + k)
  refine sl_T.of_V (lv := [_, _, _]) (by decide) rfl (Nat.le_of_ble_eq_true rfl) ?_
  have tail : ((¬ 0 < sg_lens g (sg_rules g)) ∨ sg_nm (sg_it g (sg_rules g) (sg_lens g (sg_rules g) - 1)) = false) → sl_V YX3_takeNameItem none 2 0 0 (fun r M1 => r = none ∧ M1 = gp_S b ln W.1 W.2 M) 51 [some (.ref 18), some (.int (nI (sg_lens g (sg_rules g)))), none] [] (gp_S b ln R g M) := by
    intro hn
    have e := en hn
    cases o with
    | none =>
      change sl_R YX3_meetName 1 _ _ (some (.int (-1))) _ at hm
      refine slv_iload_n eX3_takeNameItem_51 rfl ?_
      refine slv_iconst (v := nI 5) eX3_takeNameItem_52 (by decide) ?_
      refine slv_icmp_ltN eX3_takeNameItem_53 (by omega) (by omega) (fun h53 => ?_) (fun h53 => ?_)
      · refine slv_aload_n eX3_takeNameItem_64 rfl ?_
        refine slv_rV (As := []) eX3_takeNameItem_65 lX3_164 rfl rfl (by repeat (first | assumption | exact sl_up_eq | refine sl_up_ne (by first | decide | omega) ?_)) rfl hm (by decide) (Nat.le_of_ble_eq_true rfl) ?_
        refine slv_istore_n (i := 2) (lv' := [_, _, _]) eX3_takeNameItem_68 rfl (by decide) rfl ?_
        refine slv_iload_n eX3_takeNameItem_69 rfl ?_
        refine slv_iconst (v := (-1)) eX3_takeNameItem_70 (by decide) ?_
        refine slv_icmp_eq eX3_takeNameItem_71 (fun h71 => ?_) (fun h71 => absurd rfl h71)
        refine slv_vret eX3_takeNameItem_82 rfl ?_
        refine ⟨rfl, ?_⟩
        first | (rw [if_pos h53] at e; rw [e]; rfl) | (rw [if_neg (Nat.not_lt.mpr h53)] at e; rw [e])
      · refine slv_aload_n eX3_takeNameItem_56 rfl ?_
        refine slv_iconst (v := nI 4) eX3_takeNameItem_57 (by decide) ?_
        refine slv_rV (As := [_]) eX3_takeNameItem_58 lX3_90 rfl rfl (by repeat (first | assumption | exact sl_up_eq | refine sl_up_ne (by first | decide | omega) ?_)) rfl (hF 4) (by decide) (Nat.le_of_ble_eq_true rfl) ?_
        refine slv_goto eX3_takeNameItem_61 ?_
        refine slv_vret eX3_takeNameItem_82 rfl ?_
        refine ⟨rfl, ?_⟩
        first | (rw [if_pos h53] at e; rw [e]; rfl) | (rw [if_neg (Nat.not_lt.mpr h53)] at e; rw [e])
    | some k =>
      have hk := o4 k rfl
      change sl_R YX3_meetName 1 _ _ (some (.int (nI k))) _ at hm
      refine slv_iload_n eX3_takeNameItem_51 rfl ?_
      refine slv_iconst (v := nI 5) eX3_takeNameItem_52 (by decide) ?_
      refine slv_icmp_ltN eX3_takeNameItem_53 (by omega) (by omega) (fun h53 => ?_) (fun h53 => ?_)
      · refine slv_aload_n eX3_takeNameItem_64 rfl ?_
        refine slv_rV (As := []) eX3_takeNameItem_65 lX3_164 rfl rfl (by repeat (first | assumption | exact sl_up_eq | refine sl_up_ne (by first | decide | omega) ?_)) rfl hm (by decide) (Nat.le_of_ble_eq_true rfl) ?_
        refine slv_istore_n (i := 2) (lv' := [_, _, _]) eX3_takeNameItem_68 rfl (by decide) rfl ?_
        refine slv_iload_n eX3_takeNameItem_69 rfl ?_
        refine slv_iconst (v := (-1)) eX3_takeNameItem_70 (by decide) ?_
        refine slv_icmp_eq eX3_takeNameItem_71 (fun h71 => absurd h71 (nI_neg1 (by omega))) (fun h71 => ?_)
        refine slv_aload_n eX3_takeNameItem_74 rfl ?_
        refine slv_bipush (v := nI 100) eX3_takeNameItem_75 (by decide) ?_
        refine slv_iload_n eX3_takeNameItem_77 rfl ?_
        refine slv_iaddN eX3_takeNameItem_78 ?_
        refine slv_rV (As := [_]) eX3_takeNameItem_79 lX3_186 rfl rfl (by repeat (first | assumption | exact sl_up_eq | refine sl_up_ne (by first | decide | omega) ?_)) rfl (hA h53 k) (by decide) (Nat.le_of_ble_eq_true rfl) ?_
        refine slv_vret eX3_takeNameItem_82 rfl ?_
        refine ⟨rfl, ?_⟩
        first | (rw [if_pos h53] at e; rw [e]; rfl) | (rw [if_neg (Nat.not_lt.mpr h53)] at e; rw [e])
      · refine slv_aload_n eX3_takeNameItem_56 rfl ?_
        refine slv_iconst (v := nI 4) eX3_takeNameItem_57 (by decide) ?_
        refine slv_rV (As := [_]) eX3_takeNameItem_58 lX3_90 rfl rfl (by repeat (first | assumption | exact sl_up_eq | refine sl_up_ne (by first | decide | omega) ?_)) rfl (hF 4) (by decide) (Nat.le_of_ble_eq_true rfl) ?_
        refine slv_goto eX3_takeNameItem_61 ?_
        refine slv_vret eX3_takeNameItem_82 rfl ?_
        refine ⟨rfl, ?_⟩
        first | (rw [if_pos h53] at e; rw [e]; rfl) | (rw [if_neg (Nat.not_lt.mpr h53)] at e; rw [e])
  refine slv_aload_n eX3_takeNameItem_0 rfl ?_
  refine slv_getf eX3_takeNameItem_1 fX3_22 (by repeat (first | assumption | exact sl_up_eq | refine sl_up_ne (by first | decide | omega) ?_)) rfl ?_
  refine slv_getf eX3_takeNameItem_4 fX3_170 (by repeat (first | assumption | exact sl_up_eq | refine sl_up_ne (by first | decide | omega) ?_)) rfl ?_
  refine slv_aload_n eX3_takeNameItem_7 rfl ?_
  refine slv_getf eX3_takeNameItem_8 fX3_22 (by repeat (first | assumption | exact sl_up_eq | refine sl_up_ne (by first | decide | omega) ?_)) rfl ?_
  refine slv_getf eX3_takeNameItem_11 fX3_123 (by repeat (first | assumption | exact sl_up_eq | refine sl_up_ne (by first | decide | omega) ?_)) rfl ?_
  refine slv_ialdN eX3_takeNameItem_14 (by repeat (first | assumption | exact sl_up_eq | refine sl_up_ne (by first | decide | omega) ?_)) (by omega) (by decide) ?_
  refine slv_istore_n (i := 1) (lv' := [_, _, _]) eX3_takeNameItem_15 rfl (by decide) rfl ?_
  refine slv_iload_n eX3_takeNameItem_16 rfl ?_
  refine slv_if_leN eX3_takeNameItem_17 (by omega) (fun h17 => ?_) (fun h17 => ?_)
  · first | exact tail (Or.inr h40) | exact tail (Or.inl (by omega))
  · refine slv_aload_n eX3_takeNameItem_20 rfl ?_
    refine slv_getf eX3_takeNameItem_21 fX3_22 (by repeat (first | assumption | exact sl_up_eq | refine sl_up_ne (by first | decide | omega) ?_)) rfl ?_
    refine slv_aload_n eX3_takeNameItem_24 rfl ?_
    refine slv_getf eX3_takeNameItem_25 fX3_22 (by repeat (first | assumption | exact sl_up_eq | refine sl_up_ne (by first | decide | omega) ?_)) rfl ?_
    refine slv_getf eX3_takeNameItem_28 fX3_123 (by repeat (first | assumption | exact sl_up_eq | refine sl_up_ne (by first | decide | omega) ?_)) rfl ?_
    refine slv_iload_n eX3_takeNameItem_31 rfl ?_
    refine slv_iconst (v := nI 1) eX3_takeNameItem_32 (by decide) ?_
    refine slv_isubN eX3_takeNameItem_33 (by omega) ?_
    refine slv_rV (As := [_, _]) eX3_takeNameItem_34 lX3_179 rfl rfl (by repeat (first | assumption | exact sl_up_eq | refine sl_up_ne (by first | decide | omega) ?_)) rfl (hI h17) (by decide) (Nat.le_of_ble_eq_true rfl) ?_
    refine slv_rS (As := [_]) eX3_takeNameItem_37 lX3_183 rfl rfl (c_X2_isName _ _ (hit h17)) (by decide) (Nat.le_of_ble_eq_true rfl) ?_
    refine slv_if_eqB eX3_takeNameItem_40 (fun h40 => ?_) (fun h40 => ?_)
    · first | exact tail (Or.inr h40) | exact tail (Or.inl (by omega))
    · refine slv_aload_n eX3_takeNameItem_43 rfl ?_
      refine slv_iconst (v := nI 3) eX3_takeNameItem_44 (by decide) ?_
      refine slv_rV (As := [_]) eX3_takeNameItem_45 lX3_90 rfl rfl (by repeat (first | assumption | exact sl_up_eq | refine sl_up_ne (by first | decide | omega) ?_)) rfl (hF 3) (by decide) (Nat.le_of_ble_eq_true rfl) ?_
      refine slv_goto eX3_takeNameItem_48 ?_
      refine slv_vret eX3_takeNameItem_82 rfl ?_
      refine ⟨rfl, ?_⟩
      rw [e3 h17 h40]
set_option maxRecDepth 100000 in
theorem c_X3_takeTerminalItem (hb : b = 2 ∨ b = 10) (hok : sg_ok g) (hr : sg_rules g < 12) {x : Nat} (hx : x < 256) : sl_R YX3_takeTerminalItem 2 [.ref 18, .int (nI x)] (gp_S b ln R g M) none (gp_S b ln (gp_ti R g x).1 (gp_ti R g x).2 M) := by
  have hm := c_X3_meetTerminal (ln := ln) (R := R) (M := M) hb hok x
  obtain ⟨o1, o2, o3, o4⟩ := gt_ok (R := R) hx hok
  have hl5 : sg_lens g (sg_rules g) ≤ 5 := (hok.2.2.2.2.2.1 _ hr).2.2
  have hF := fun k => c_X3_failWith (b := b) (ln := ln) (R := R) (g := g) (M := M) k
  unfold gp_ti
  generalize gt_o g x = o at hm o4
  generalize gt_s R g x = q at hm o1 o2 o3
  have hr' : sg_rules q.2 < 12 := by omega
  have hA := fun (h : sg_lens g (sg_rules g) < 5) (k : Nat) => c_X3_addItem (ln := ln) (R := q.1) (M := M) hb hr' (show sg_lens q.2 (sg_rules q.2) < 5 by rw [o2, o3]; exact h) k
  refine sl_T.of_V (lv := [_, _, _]) (by decide) rfl (Nat.le_of_ble_eq_true rfl) ?_
  cases o with
  | none =>
    change sl_R YX3_meetTerminal 1 _ _ (some (.int (-1))) _ at hm
    refine slv_aload_n eX3_takeTerminalItem_0 rfl ?_
    refine slv_getf eX3_takeTerminalItem_1 fX3_22 (by repeat (first | assumption | exact sl_up_eq | refine sl_up_ne (by first | decide | omega) ?_)) rfl ?_
    refine slv_getf eX3_takeTerminalItem_4 fX3_170 (by repeat (first | assumption | exact sl_up_eq | refine sl_up_ne (by first | decide | omega) ?_)) rfl ?_
    refine slv_aload_n eX3_takeTerminalItem_7 rfl ?_
    refine slv_getf eX3_takeTerminalItem_8 fX3_22 (by repeat (first | assumption | exact sl_up_eq | refine sl_up_ne (by first | decide | omega) ?_)) rfl ?_
    refine slv_getf eX3_takeTerminalItem_11 fX3_123 (by repeat (first | assumption | exact sl_up_eq | refine sl_up_ne (by first | decide | omega) ?_)) rfl ?_
    refine slv_ialdN eX3_takeTerminalItem_14 (by repeat (first | assumption | exact sl_up_eq | refine sl_up_ne (by first | decide | omega) ?_)) (by omega) (by decide) ?_
    refine slv_iconst (v := nI 5) eX3_takeTerminalItem_15 (by decide) ?_
    refine slv_icmp_ltN eX3_takeTerminalItem_16 (by omega) (by omega) (fun h16 => ?_) (fun h16 => ?_)
    · refine slv_aload_n eX3_takeTerminalItem_25 rfl ?_
      refine slv_iload_n eX3_takeTerminalItem_26 rfl ?_
      refine slv_rV (As := [_]) eX3_takeTerminalItem_27 lX3_189 rfl rfl (by repeat (first | assumption | exact sl_up_eq | refine sl_up_ne (by first | decide | omega) ?_)) rfl hm (by decide) (Nat.le_of_ble_eq_true rfl) ?_
      refine slv_istore_n (i := 2) (lv' := [_, _, _]) eX3_takeTerminalItem_30 rfl (by decide) rfl ?_
      refine slv_iload_n eX3_takeTerminalItem_31 rfl ?_
      refine slv_iconst (v := (-1)) eX3_takeTerminalItem_32 (by decide) ?_
      refine slv_icmp_eq eX3_takeTerminalItem_33 (fun h33 => ?_) (fun h33 => absurd rfl h33)
      refine slv_vret eX3_takeTerminalItem_41 rfl ?_
      refine ⟨rfl, ?_⟩
      first | (rw [if_pos h16]; rfl) | rw [if_neg (Nat.not_lt.mpr h16)]
    · refine slv_aload_n eX3_takeTerminalItem_19 rfl ?_
      refine slv_iconst (v := nI 4) eX3_takeTerminalItem_20 (by decide) ?_
      refine slv_rV (As := [_]) eX3_takeTerminalItem_21 lX3_90 rfl rfl (by repeat (first | assumption | exact sl_up_eq | refine sl_up_ne (by first | decide | omega) ?_)) rfl (hF 4) (by decide) (Nat.le_of_ble_eq_true rfl) ?_
      refine slv_vret eX3_takeTerminalItem_24 rfl ?_
      refine ⟨rfl, ?_⟩
      first | (rw [if_pos h16]; rfl) | rw [if_neg (Nat.not_lt.mpr h16)]
  | some k =>
    have hk := o4 k rfl
    change sl_R YX3_meetTerminal 1 _ _ (some (.int (nI k))) _ at hm
    refine slv_aload_n eX3_takeTerminalItem_0 rfl ?_
    refine slv_getf eX3_takeTerminalItem_1 fX3_22 (by repeat (first | assumption | exact sl_up_eq | refine sl_up_ne (by first | decide | omega) ?_)) rfl ?_
    refine slv_getf eX3_takeTerminalItem_4 fX3_170 (by repeat (first | assumption | exact sl_up_eq | refine sl_up_ne (by first | decide | omega) ?_)) rfl ?_
    refine slv_aload_n eX3_takeTerminalItem_7 rfl ?_
    refine slv_getf eX3_takeTerminalItem_8 fX3_22 (by repeat (first | assumption | exact sl_up_eq | refine sl_up_ne (by first | decide | omega) ?_)) rfl ?_
    refine slv_getf eX3_takeTerminalItem_11 fX3_123 (by repeat (first | assumption | exact sl_up_eq | refine sl_up_ne (by first | decide | omega) ?_)) rfl ?_
    refine slv_ialdN eX3_takeTerminalItem_14 (by repeat (first | assumption | exact sl_up_eq | refine sl_up_ne (by first | decide | omega) ?_)) (by omega) (by decide) ?_
    refine slv_iconst (v := nI 5) eX3_takeTerminalItem_15 (by decide) ?_
    refine slv_icmp_ltN eX3_takeTerminalItem_16 (by omega) (by omega) (fun h16 => ?_) (fun h16 => ?_)
    · refine slv_aload_n eX3_takeTerminalItem_25 rfl ?_
      refine slv_iload_n eX3_takeTerminalItem_26 rfl ?_
      refine slv_rV (As := [_]) eX3_takeTerminalItem_27 lX3_189 rfl rfl (by repeat (first | assumption | exact sl_up_eq | refine sl_up_ne (by first | decide | omega) ?_)) rfl hm (by decide) (Nat.le_of_ble_eq_true rfl) ?_
      refine slv_istore_n (i := 2) (lv' := [_, _, _]) eX3_takeTerminalItem_30 rfl (by decide) rfl ?_
      refine slv_iload_n eX3_takeTerminalItem_31 rfl ?_
      refine slv_iconst (v := (-1)) eX3_takeTerminalItem_32 (by decide) ?_
      refine slv_icmp_eq eX3_takeTerminalItem_33 (fun h33 => absurd h33 (nI_neg1 (by omega))) (fun h33 => ?_)
      refine slv_aload_n eX3_takeTerminalItem_36 rfl ?_
      refine slv_iload_n eX3_takeTerminalItem_37 rfl ?_
      refine slv_rV (As := [_]) eX3_takeTerminalItem_38 lX3_186 rfl rfl (by repeat (first | assumption | exact sl_up_eq | refine sl_up_ne (by first | decide | omega) ?_)) rfl (hA h16 k) (by decide) (Nat.le_of_ble_eq_true rfl) ?_
      refine slv_vret eX3_takeTerminalItem_41 rfl ?_
      refine ⟨rfl, ?_⟩
      first | (rw [if_pos h16, gp_jo]; simp only [Nat.zero_add]; done) | (rw [if_pos h16]; show _ = gp_S b ln (gr_to 5 q.1) (gp_ai q.2 (0 + k)) M; rw [Nat.zero_add]) | rw [if_neg (Nat.not_lt.mpr h16)]
    · refine slv_aload_n eX3_takeTerminalItem_19 rfl ?_
      refine slv_iconst (v := nI 4) eX3_takeTerminalItem_20 (by decide) ?_
      refine slv_rV (As := [_]) eX3_takeTerminalItem_21 lX3_90 rfl rfl (by repeat (first | assumption | exact sl_up_eq | refine sl_up_ne (by first | decide | omega) ?_)) rfl (hF 4) (by decide) (Nat.le_of_ble_eq_true rfl) ?_
      refine slv_vret eX3_takeTerminalItem_24 rfl ?_
      refine ⟨rfl, ?_⟩
      first | (rw [if_pos h16, gp_jo]; simp only [Nat.zero_add]; done) | (rw [if_pos h16]; show _ = gp_S b ln (gr_to 5 q.1) (gp_ai q.2 (0 + k)) M; rw [Nat.zero_add]) | rw [if_neg (Nat.not_lt.mpr h16)]
end GRF

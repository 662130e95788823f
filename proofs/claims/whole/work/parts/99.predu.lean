/-! the reference reduces: what holds while a formula is read, a step of reducing -/
def rdE (E : rx_T) : Prop := sg_ok (rx_g E) ∧ sg_str (rx_g E) ∧ rx_tc E ≤ 60 ∧ (∀ j, j < rx_tc E → rx_sg E j < 256 ∧ (rx_sg E j = 0 → rx_rl E j = true → fl_b (rx_bt E j).toUInt32 = rx_bt E j)) ∧ ro_g (sg_terms (rx_g E)) (rx_o E)
def rdI (E : rx_T) (S : rd_T) : Prop := rd_ok E S ∧ nd_c (rd_nd S) + rd_tp S ≤ rd_nx S ∧ rd_sp S = rd_nx S + nd_c (rd_nd S) ∧ rd_stk S 0 = sg_terms (rx_g E) ∧ (∀ i, 1 ≤ i → i ≤ rd_tp S → rd_stk S i < sg_terms (rx_g E) ∧ rd_tok S i < rx_tc E ∧ gt_k (rx_g E) (rx_sg E (rd_tok S i)) = some (rd_stk S i)) ∧ ∀ k, k < nd_c (rd_nd S) → nd_rl (rd_nd S) k = true → fl_b (nd_bi (rd_nd S) k).toUInt32 = nd_bi (rd_nd S) k
def reF (v : Nat → Int32) (a : Nat → Nat → Int32) (v' : Nat → Int32) (a' : Nat → Nat → Int32) : Prop := (∀ k, k ∉ [61, 64, 65, 77, 78, 79, 80, 62] → v' k = v k) ∧ ∀ k, k ∉ [67, 68, 76, 69, 58, 55, 59, 70, 71, 72, 73, 74, 75, 57] → a' k = a k
theorem rdR_red {E : rx_T} {S : rd_T} {v : Nat → Int32} {a : Nat → Nat → Int32} {fr r : Nat} {H : hn_T} {V2 : Bool × Int32} (hR : rdR E S v a) (hk : rd_ok E S) (h1 : 1 ≤ fr) (h2 : fr ≤ rd_tp S) : rdR E (rd_red3 E S fr H r (0, V2)) (re_v1 (sl_u v 61 (nI (fr - 1))) (nd_c (rd_nd S)) (rd_sp S)) (re_a1 (re_a0 a (nd_c (rd_nd S)) fr V2.2 V2.1) (rd_nd S) H (nd_c (rd_nd S)) V2.2 V2.1 r) := by
  obtain ⟨⟨r1, r2, r3, r4⟩, r5, r6, r7⟩ := hR
  have e : rd_red3 E S fr H r (0, V2) = ((rd_fa S, rd_pl S, rd_sp S + 1, rd_mo S, rd_nx S, rd_en S, fr - 1), (rd_stk S, rd_tok S, sl_u (rd_beh S) (fr - 1) (some (nd_c (rd_nd S)))), nd_add (rd_nd S) r H.1 H.2.1 V2, H, V2) := if_pos rfl
  rw [e]
  have hlt : ∀ i k, i ≤ rd_tp S → rd_beh S i = some k → k < nd_c (rd_nd S) := hk.2.2.2.2.2.2.2.1
  refine ⟨⟨rfl, rfl, rfl, r4⟩, fun i hi => ?_, fun i g1 g2 g3 => ?_, fun k hk => ?_⟩
  · have hi' : i ≤ fr - 1 := hi
    show a 54 i = nI (rd_stk S i) ∧ sl_u (a 58) (fr - 1) (sl_bi true) i = sl_bi (sl_u (rd_beh S) (fr - 1) (some (nd_c (rd_nd S))) i).isSome ∧ ∀ k, sl_u (rd_beh S) (fr - 1) (some (nd_c (rd_nd S))) i = some k → sl_u (a 55) (fr - 1) V2.2 i = sl_u (nd_bi (rd_nd S)) (nd_c (rd_nd S)) V2.2 k ∧ sl_u (a 59) (fr - 1) (sl_bi V2.1) i = sl_bi (sl_u (nd_rl (rd_nd S)) (nd_c (rd_nd S)) V2.1 k) ∧ sl_u (a 70) (fr - 1) (nI (nd_c (rd_nd S))) i = nI k
    obtain ⟨p1, p2, p3⟩ := r5 i (by omega)
    by_cases q : i = fr - 1
    · rw [q, sl_u_eq, sl_u_eq, sl_u_eq, sl_u_eq, sl_u_eq]
      refine ⟨by rw [← q]; exact p1, rfl, fun k hk => ?_⟩
      have : nd_c (rd_nd S) = k := Option.some.inj hk
      rw [← this, sl_u_eq, sl_u_eq]
      exact ⟨rfl, rfl, rfl⟩
    · rw [sl_u_ne q, sl_u_ne q, sl_u_ne q, sl_u_ne q, sl_u_ne q]
      refine ⟨p1, p2, fun k hk => ?_⟩
      have := hlt i k (by omega) hk
      rw [sl_u_ne (by omega), sl_u_ne (by omega)]
      exact p3 k hk
  · have g2' : i ≤ fr - 1 := g2
    exact r6 i g1 (by omega) g3
  · have hk' : k < nd_c (rd_nd S) + 1 := hk
    show sl_u (a 57) (nd_c (rd_nd S)) (nI r) k = nI (sl_u (nd_ru (rd_nd S)) (nd_c (rd_nd S)) r k) ∧ sl_u (a 71) (nd_c (rd_nd S)) (sl_nd H.1) k = sl_nd (sl_u (nd_fi (rd_nd S)) (nd_c (rd_nd S)) H.1 k) ∧ sl_u (a 72) (nd_c (rd_nd S)) (sl_nd H.2.1) k = sl_nd (sl_u (nd_se (rd_nd S)) (nd_c (rd_nd S)) H.2.1 k) ∧ sl_u (a 73) (nd_c (rd_nd S)) (nI (1 + max (no_g (nd_de (rd_nd S)) H.1) (no_g (nd_de (rd_nd S)) H.2.1))) k = nI (sl_u (nd_de (rd_nd S)) (nd_c (rd_nd S)) (1 + max (no_g (nd_de (rd_nd S)) H.1) (no_g (nd_de (rd_nd S)) H.2.1)) k) ∧ sl_u (a 74) (nd_c (rd_nd S)) V2.2 k = sl_u (nd_bi (rd_nd S)) (nd_c (rd_nd S)) V2.2 k ∧ sl_u (a 75) (nd_c (rd_nd S)) (sl_bi V2.1) k = sl_bi (sl_u (nd_rl (rd_nd S)) (nd_c (rd_nd S)) V2.1 k)
    by_cases q : k = nd_c (rd_nd S)
    · rw [q]
      simp only [sl_u_eq, and_self]
    · rw [sl_u_ne q, sl_u_ne q, sl_u_ne q, sl_u_ne q, sl_u_ne q, sl_u_ne q, sl_u_ne q, sl_u_ne q, sl_u_ne q, sl_u_ne q, sl_u_ne q, sl_u_ne q]
      exact r7 k (by omega)
/-- what the rule that fits says of the items -/
theorem rm_facts {g : sg_T} {H : hn_T} {r : Nat} (hs : sg_str g) (h : rd_rule g H = some r) : r < sg_rules g ∧ (sg_deeds g r ≠ 8 → h100 H = if sg_deeds g r ≤ 3 then 2 else 1) ∧ (sg_deeds g r = 8 → h100 H = 0 ∧ H.2.2.1 = 1 ∧ sg_signs g (H.2.2.2 0) = 0) := by
  obtain ⟨a1, a2, a3⟩ := sl_fn_lt _ _ _ h
  rw [Bool.and_eq_true, Bool.and_eq_true] at a3
  have a4 := a3.2.2
  unfold hn_mt at a4
  rw [Bool.and_eq_true] at a4
  have hl := of_decide_eq_true a4.1
  have hall : ∀ i, i < H.2.2.1 → H.2.2.2 i = cond (sg_nm (sg_it g r i)) 100 (sg_it g r i) := by
    intro i hi
    by_cases q : H.2.2.2 i = cond (sg_nm (sg_it g r i)) 100 (sg_it g r i)
    · exact q
    · have := (sl_ex_iff (p := fun i => !(decide (H.2.2.2 i = cond (sg_nm (sg_it g r i)) 100 (sg_it g r i)))) H.2.2.1 0).mpr ⟨i, by omega, by omega, by show (!(decide _)) = true; rw [decide_eq_false q]; rfl⟩
      rw [this] at a4
      cases a4.2
  have hct : h100 H = sl_ct (fun i => sg_nm (sg_it g r i)) (sg_lens g r) 0 := by
    rw [hl]
    refine sl_ct_congr _ 0 (fun i _ hi => ?_)
    rw [hall i (by omega)]
    cases hq : sg_nm (sg_it g r i) with
    | true => rfl
    | false =>
      have := of_decide_eq_false hq
      exact decide_eq_false (by show ¬ sg_it g r i = 100; omega)
  have hr : r < sg_rules g := by omega
  have hd := hs.2.2.2.1 r hr
  refine ⟨hr, fun q => by rw [hct]; exact hd.2 q, fun q => ?_⟩
  obtain ⟨b1, b2, b3⟩ := hd.1 q
  have h0 : H.2.2.2 0 = sg_it g r 0 := by
    rw [hall 0 (by omega), show sg_nm (sg_it g r 0) = false from decide_eq_false (by omega)]
    rfl
  refine ⟨?_, by omega, by rw [h0]; exact b3⟩
  rw [hct, b1]
  show cond (sg_nm (sg_it g r 0)) 1 0 + 0 = 0
  rw [show sg_nm (sg_it g r 0) = false from decide_eq_false (by omega)]
  rfl
/-- what was gathered -/
theorem rd_gat_I {E : rx_T} {S : rd_T} {fr : Nat} (hk : rd_ok E S) (h1 : 1 ≤ fr) (h2 : fr ≤ rd_tp S) : hnI (rd_gat S fr) ∧ (∃ j, j < (rd_gat S fr).2.2.1 ∧ (rd_gat S fr).2.2.2 j < 100) ∧ ((rd_gat S fr).2.2.1 = 1 → (rd_gat S fr).2.2.2 0 = rd_stk S fr) := by
  have ht : rd_tp S ≤ 15 := hk.2.1
  have hs : ∀ i, i < 16 → rd_stk S i < 12 := hk.2.2.2.2.1
  have hn0 : hn_vn (rd_beh S (fr - 1)) 0 ≤ 1 := hn_vn_2 (by omega)
  have hi0 : hnI (hn_tv (rd_beh S (fr - 1)) (none, none, 0, (rd_hn S).2.2.2)) := hnI_tv (by show 0 < 31; omega) ⟨fun _ => rfl, fun _ => Nat.zero_le 1⟩
  have hg : rd_gat S fr = hn_gt (rd_stk S) (rd_beh S) (rd_tp S + 1 - fr) fr (hn_tv (rd_beh S (fr - 1)) (none, none, 0, (rd_hn S).2.2.2)) := rfl
  obtain ⟨c1, c2, c3, c4, c5⟩ := hn_gt_I (stk := rd_stk S) (beh := rd_beh S) (rd_tp S + 1 - fr) fr (hn_tv (rd_beh S (fr - 1)) (none, none, 0, (rd_hn S).2.2.2)) (fun j q1 q2 => hs j (by omega)) (by show hn_vn (rd_beh S (fr - 1)) 0 + 2 * (rd_tp S + 1 - fr) ≤ 31; omega) hi0
  rw [← hg] at c1 c2 c3 c4 c5
  have c2' : hn_vn (rd_beh S (fr - 1)) 0 + (rd_tp S + 1 - fr) ≤ (rd_gat S fr).2.2.1 := c2
  have c5' := c5 (by omega)
  refine ⟨c1, ⟨hn_vn (rd_beh S (fr - 1)) 0, ?_, ?_⟩, fun q => ?_⟩
  · omega
  · rw [show (rd_gat S fr).2.2.2 (hn_vn (rd_beh S (fr - 1)) 0) = rd_stk S fr from c5']
    have := hs fr (by omega)
    omega
  · have z : hn_vn (rd_beh S (fr - 1)) 0 = 0 := by omega
    rw [← c5']
    show _ = (rd_gat S fr).2.2.2 (hn_vn (rd_beh S (fr - 1)) 0)
    rw [z]
section RRE
variable {v : Nat → Int32} {w : Int64} {a : Nat → Nat → Int32} {nm : Nat → Int64} {M : sl_M} {Q : Option Value → sl_M → Prop} {E : rx_T} {S : rd_T} {fr vm : Nat} {b1 : Int32}
set_option maxRecDepth 100000 in
theorem re_102 {l3 : Option Value} (hE : rdE E) (hI : rdI E S) (hG : rf_G (rx_g E) v a) (hf : v 62 = nI 0) (hfa : rd_fa S = 0) (hc60 : nd_c (rd_nd S) < 60) (hR : rdR E S v a) (h1 : 1 ≤ fr) (h2 : fr ≤ rd_tp S) (hH : rH (rd_nd S) (rd_gat S fr) vm v a) (hvm : vm ≤ h100 (rd_gat S fr)) (hQ : ∀ v' a', rdR E (rd_red2 E S fr (rd_gat S fr)) v' a' → v' 62 = nI (rd_fa (rd_red2 E S fr (rd_gat S fr))) → reF v a v' a' → Q none (rf_S v' w a' nm M)) : sl_V YX12_reduces none 6 0 0 Q 102 [some (.ref 68), some (.int b1), some (.int (nI fr)), l3] [] (rf_S v w a nm M) := by
  obtain ⟨hok, hstr, htc, htk, hro⟩ := hE
  obtain ⟨hrk, hcn, hsp, hs0, hsi, hcan⟩ := hI
  obtain ⟨q1, q2, q3, q4, q5⟩ := rd_gat_ok hrk h1 h2
  obtain ⟨p1, p2, p3⟩ := rd_gat_I hrk h1 h2
  have htp : rd_tp S ≤ 15 := hrk.2.1
  have hRO := c_X12_ruleOf (w := w) (nm := nm) (M := M) hok hG hH.1.1 hH.2.1 q3 (fun j hj => q4 j (by omega)) p2
  have hr12 : sg_rules (rx_g E) ≤ 12 := hok.2.1
  cases hru : rd_rule (rx_g E) (rd_gat S fr) with
  | none =>
    rw [hru] at hRO
    have hz := hQ (sl_u v 62 (nI 4)) a
    unfold rd_red2 at hz
    rw [hru] at hz
    have hz := hz (rdR_F hR (fun k hk => sl_u_ne (fun e => by rw [e] at hk; exact absurd hk (by decide))) (fun _ _ => rfl)) sl_u_eq ⟨fun k hk => sl_u_ne (fun e => hk (by rw [e]; decide)), fun _ _ => rfl⟩
    refine slv_aload_n eX12_reduces_102 rfl ?_
    refine slv_rV (As := []) eX12_reduces_103 lX12_475 rfl rfl rf_68 rfl hRO (by decide) (Nat.le_of_ble_eq_true rfl) ?_
    refine slv_istore_n (i := 3) (lv' := [_, _, _, _]) eX12_reduces_106 rfl (by decide) rfl ?_
    refine slv_iload_n eX12_reduces_107 rfl ?_
    refine slv_iconst (v := (-1)) eX12_reduces_108 (by decide) ?_
    refine slv_icmp_ne eX12_reduces_109 (fun h109 => absurd rfl h109) (fun h109 => ?_)
    refine slv_aload_n eX12_reduces_112 rfl ?_
    refine slv_iconst (v := nI 4) eX12_reduces_113 (by decide) ?_
    refine slr_pi eX12_reduces_114 fX12_441 (Nat.le_of_ble_eq_true rfl) rf_s62 ?_
    refine slv_vret eX12_reduces_117 rfl ?_
    exact hz
  | some r =>
    rw [hru] at hRO
    obtain ⟨f1, f2, f3⟩ := rm_facts hstr hru
    obtain ⟨hh1, hh2, hh3⟩ := hok.2.2.2.2.2.1 r (by omega)
    have hdeed := (hG.2.2.2.2.1 r f1).2.2.1
    have c8 : sg_deeds (rx_g E) r = 8 → a 56 fr = (rx_rl E (rd_tok S fr), rx_bt E (rd_tok S fr)).2 ∧ a 60 fr = sl_bi (rx_rl E (rd_tok S fr), rx_bt E (rd_tok S fr)).1 := fun q => by
      obtain ⟨g1, g2, g3⟩ := f3 q
      rw [p3 g2] at g3
      obtain ⟨t1, t2, t3⟩ := hsi fr h1 h2
      have t4 := (sl_fn_lt _ _ _ t3).2.2
      have t5 : nI (sg_signs (rx_g E) (rd_stk S fr)) = nI (rx_sg E (rd_tok S fr)) := of_decide_eq_true t4
      have t6 := (htk _ t2).1
      rw [g3] at t5
      have t7 := (nI_inj (by omega) (by omega)).mp t5
      exact hR.2.2.1 fr h1 h2 t7.symm
    have c1 : sg_deeds (rx_g E) r ≠ 8 → ∃ x, (rd_gat S fr).1 = some x := fun q => by
      cases hx : (rd_gat S fr).1 with
      | some x => exact ⟨x, rfl⟩
      | none =>
        have g1 := p1.1 hx
        have g2 := f2 q
        rw [g1] at g2
        split at g2 <;> omega
    have c2 : sg_deeds (rx_g E) r ≤ 3 → ∃ x, (rd_gat S fr).2.1 = some x := fun q => by
      cases hx : (rd_gat S fr).2.1 with
      | some x => exact ⟨x, rfl⟩
      | none =>
        have g1 := p1.2 hx
        have g2 := f2 (by omega)
        rw [if_pos q] at g2
        omega
    have hv2 : vm ≤ 2 := by
      by_cases q : sg_deeds (rx_g E) r = 8
      · have := (f3 q).1; omega
      · have g2 := f2 q
        split at g2 <;> omega
    have hcan2 : ∀ x, (rd_gat S fr).1 = some x ∨ (rd_gat S fr).2.1 = some x → nd_rl (rd_nd S) x = true → fl_b (nd_bi (rd_nd S) x).toUInt32 = nd_bi (rd_nd S) x := fun x hx => by
      rcases hx with hx | hx
      · exact hcan x (q1 x hx)
      · exact hcan x (q2 x hx)
    have hDO := c_X12_does (v := v) (w := w) (a := a) (nm := nm) (M := M) (r := r) (fr := fr) (tv := (rx_rl E (rd_tok S fr), rx_bt E (rd_tok S fr))) (r0 := rd_rc S) hh2 hok.1 hG.2.2.2.1 hf (by omega) (by omega) hdeed hH c8 c1 c2 hcan2
    have hred : rd_red2 E S fr (rd_gat S fr) = rd_red3 E S fr (rd_gat S fr) r (rd_mv (sg_kind (rx_g E)) (sg_deeds (rx_g E) r) (rx_rl E (rd_tok S fr), rx_bt E (rd_tok S fr)) (nd_rl (rd_nd S)) (nd_bi (rd_nd S)) (rd_gat S fr).1 (rd_gat S fr).2.1 (rd_rc S)) := by unfold rd_red2; rw [hru]
    rw [hred] at hQ
    have hV := rd_mv_lt (sg_kind (rx_g E)) (sg_deeds (rx_g E) r) (rx_rl E (rd_tok S fr), rx_bt E (rd_tok S fr)) (nd_rl (rd_nd S)) (nd_bi (rd_nd S)) (rd_gat S fr).1 (rd_gat S fr).2.1 (rd_rc S)
    generalize rd_mv (sg_kind (rx_g E)) (sg_deeds (rx_g E) r) (rx_rl E (rd_tok S fr), rx_bt E (rd_tok S fr)) (nd_rl (rd_nd S)) (nd_bi (rd_nd S)) (rd_gat S fr).1 (rd_gat S fr).2.1 (rd_rc S) = V at hDO hQ hV
    have b108 : (nI r) ≠ -1 := nI_neg1 (by omega)
    have aft : ∀ v2 : Nat → Int32, (∀ j, j ∉ [79, 80, 62] → v2 j = v j) → v2 62 = nI V.1 → (V.1 = 0 → v2 80 = sl_bi V.2.1 ∧ v2 79 = V.2.2) → sl_V YX12_reduces none 6 0 0 Q 124 [some (.ref 68), some (.int b1), some (.int (nI fr)), some (.int (nI r))] [] (rf_S v2 w a nm M) := by
      intro v2 e1 e2 e3
      have hF0 : ∀ k, k ∈ rdV → v2 k = v k := fun k hk => e1 k (fun q => by
        simp only [List.mem_cons, List.mem_nil_iff, or_false] at q hk
        omega)
      have hR2 := rdR_F (a' := a) hR hF0 (fun _ _ => rfl)
      by_cases hV0 : V.1 = 0
      · obtain ⟨m1, m2⟩ := e3 hV0
        have hH2 := rH_F (a' := a) hH (fun k hk => e1 k (fun q => by
          simp only [List.mem_cons, List.mem_nil_iff, or_false] at q hk
          omega)) (fun _ _ => rfl)
        have hz := hQ (re_v1 (sl_u v2 61 (nI (fr - 1))) (nd_c (rd_nd S)) (rd_sp S)) (re_a1 (re_a0 a (nd_c (rd_nd S)) fr V.2.2 V.2.1) (rd_nd S) (rd_gat S fr) (nd_c (rd_nd S)) V.2.2 V.2.1 r)
        have hVe : V = (0, V.2) := by rw [← hV0]
        rw [hVe] at hz
        have hz := hz (rdR_red hR2 hrk h1 h2) (by
          rw [show rd_fa (rd_red3 E S fr (rd_gat S fr) r (0, V.2)) = rd_fa S by unfold rd_red3; rw [if_pos rfl], hfa, ← hV0]
          exact e2) ⟨fun k hk => by
            unfold re_v1
            rw [sl_u_ne (fun e => hk (by rw [e]; decide)), sl_u_ne (fun e => hk (by rw [e]; decide)), sl_u_ne (fun e => hk (by rw [e]; decide))]
            refine e1 k (fun q => hk ?_)
            simp only [List.mem_cons, List.mem_nil_iff, or_false] at q ⊢
            omega, fun k hk => by
            unfold re_a1 re_a0 ln_a
            rw [sl_u_ne (fun e => hk (by rw [e]; decide)), sl_u_ne (fun e => hk (by rw [e]; decide)), sl_u_ne (fun e => hk (by rw [e]; decide)), sl_u_ne (fun e => hk (by rw [e]; decide)), sl_u_ne (fun e => hk (by rw [e]; decide)), sl_u_ne (fun e => hk (by rw [e]; decide)), sl_u_ne (fun e => hk (by rw [e]; decide)), sl_u_ne (fun e => hk (by rw [e]; decide)), sl_u_ne (fun e => hk (by rw [e]; decide)), sl_u_ne (fun e => hk (by rw [e]; decide))]⟩
        have hde : ∀ k, k < nd_c (rd_nd S) → a 73 k = nI (nd_de (rd_nd S) k) ∧ nd_de (rd_nd S) k < 1000 := fun k hk => ⟨(hR.2.2.2 k hk).2.2.2.1, by
          have : nd_de (rd_nd S) k ≤ k + 1 := hrk.2.2.2.2.2.2.2.2.1 k (by omega)
          omega⟩
        have hnx : rd_nx S ≤ rx_tc E := hrk.1
        refine slv_aload_n eX12_reduces_124 rfl ?_
        refine slr_gi eX12_reduces_125 fX12_441 rfl (by repeat (first | exact sl_u_eq | assumption | apply rf_ne (by decide) | exact rfl)) ?_
        refine slv_if_leN eX12_reduces_128 (by omega) (fun h128 => ?_) (fun h128 => absurd h128 (by omega))
        exact re_132 h1 (by omega) hc60 hR2.1.2.2.1 hR2.1.2.1 (by omega) (by omega) hH2 hv2 q1 q2 hde m2 m1 hz
      · have hz := hQ v2 a
        have hred2 : rd_red3 E S fr (rd_gat S fr) r V = rd_fh E V.1 (S.1, S.2.1, S.2.2.1, rd_gat S fr, V.2) := by unfold rd_red3; rw [if_neg hV0]
        rw [hred2] at hz
        have hz := hz hR2 e2 ⟨fun k hk => e1 k (fun q => hk (by
          simp only [List.mem_cons, List.mem_nil_iff, or_false] at q ⊢
          omega)), fun _ _ => rfl⟩
        refine slv_aload_n eX12_reduces_124 rfl ?_
        refine slr_gi eX12_reduces_125 fX12_441 rfl (by repeat (first | exact sl_u_eq | assumption | apply rf_ne (by decide) | exact rfl)) ?_
        refine slv_if_leN eX12_reduces_128 (by omega) (fun h128 => absurd h128 (by omega)) (fun h128 => ?_)
        refine slv_vret eX12_reduces_131 rfl ?_
        exact hz
    refine slv_aload_n eX12_reduces_102 rfl ?_
    refine slv_rV (As := []) eX12_reduces_103 lX12_475 rfl rfl rf_68 rfl hRO (by decide) (Nat.le_of_ble_eq_true rfl) ?_
    refine slv_istore_n (i := 3) (lv' := [_, _, _, _]) eX12_reduces_106 rfl (by decide) rfl ?_
    refine slv_iload_n eX12_reduces_107 rfl ?_
    refine slv_iconst (v := (-1)) eX12_reduces_108 (by decide) ?_
    refine slv_icmp_ne eX12_reduces_109 (fun h109 => ?_) (fun h109 => absurd h109 b108)
    refine slv_aload_n eX12_reduces_118 rfl ?_
    refine slv_iload_n eX12_reduces_119 rfl ?_
    refine slv_iload_n eX12_reduces_120 rfl ?_
    refine slv_callV (As := [_, _]) eX12_reduces_121 lX12_478 rfl rfl rf_68 rfl hDO (by decide) (Nat.le_of_ble_eq_true rfl) (Nat.zero_add _).symm (Nat.zero_add _).symm (Or.inl rfl) ?_
    rintro _ _ ⟨rfl, v2, rfl, e1, e2, e3⟩
    exact aft v2 e1 e2 e3
end RRE

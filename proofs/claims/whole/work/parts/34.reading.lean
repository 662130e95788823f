section RMV
variable {k d : Nat} {tv : Bool × Int32} {rl : Nat → Bool} {bi : Nat → Int32} {f s : Option Nat} {r : Bool × Int32} {a c : Nat}
theorem rd_mv_8 (h : d = 8) : rd_mv k d tv rl bi f s r = rd_vk k tv := by unfold rd_mv; rw [if_pos h]
theorem rd_mv_n (h : ¬ d = 8) : rd_mv k d tv rl bi none s r = (4, r) := by unfold rd_mv; rw [if_neg h]
theorem rd_mv_1 (h : ¬ d = 8) (h3 : 3 < d) : rd_mv k d tv rl bi (some a) s r = rd_vk k (rr_ob d (rl a), rr_o1 d (rl a) (bi a)) := by unfold rd_mv; rw [if_neg h]; simp only [if_pos h3]
theorem rd_mv_n2 (h : ¬ d = 8) (h3 : d ≤ 3) : rd_mv k d tv rl bi (some a) none r = (4, r) := by unfold rd_mv; rw [if_neg h]; simp only [if_neg (Nat.not_lt.mpr h3)]
theorem rd_mv_2 (h : ¬ d = 8) (h3 : d ≤ 3) : rd_mv k d tv rl bi (some a) (some c) r = rd_v2 k d rl bi a c r := by unfold rd_mv; rw [if_neg h]; simp only [if_neg (Nat.not_lt.mpr h3)]
theorem rd_mv_r1 (h : ¬ d = 8) (h3 : d ≤ 3) (hr : rl a = true) : rd_mv k d tv rl bi (some a) (some c) r = rd_vk k (true, rr_r d (rd_rb rl bi a) (rd_rb rl bi c)) := by rw [rd_mv_2 h h3, rd_v2, hr]; rfl
theorem rd_mv_r2 (h : ¬ d = 8) (h3 : d ≤ 3) (hr : rl a = false) (hc : rl c = true) : rd_mv k d tv rl bi (some a) (some c) r = rd_vk k (true, rr_r d (rd_rb rl bi a) (rd_rb rl bi c)) := by rw [rd_mv_2 h h3, rd_v2, hr, hc]; rfl
theorem rd_mv_z (h : ¬ d = 8) (h3 : d ≤ 3) (hr : rl a = false) (hc : rl c = false) (e : d = 3) (hz : bi c = nI 0) : rd_mv k d tv rl bi (some a) (some c) r = (6, r) := by rw [rd_mv_2 h h3, rd_v2, hr, hc, decide_eq_true e, decide_eq_true hz]; rfl
theorem rd_mv_w1 (h : ¬ d = 8) (h3 : d ≤ 3) (hr : rl a = false) (hc : rl c = false) (e : ¬ d = 3) : rd_mv k d tv rl bi (some a) (some c) r = rd_vk k (false, rr_w d (bi a) (bi c)) := by rw [rd_mv_2 h h3, rd_v2, hr, hc, decide_eq_false e]; rfl
theorem rd_mv_w2 (h : ¬ d = 8) (h3 : d ≤ 3) (hr : rl a = false) (hc : rl c = false) (e : d = 3) (hz : ¬ bi c = nI 0) : rd_mv k d tv rl bi (some a) (some c) r = rd_vk k (false, rr_w d (bi a) (bi c)) := by rw [rd_mv_2 h h3, rd_v2, hr, hc, decide_eq_true e, decide_eq_false hz]; rfl
end RMV
section RDI
variable {b ho gb : Nat} {E : rx_T} {M : sl_M} {bd : Option Nat} {cn at_ : Nat}
theorem rg_q9s {S : rd_T} (x : Bool) (v : Int32) : sl_R YX9_set 0 [.ref (b + 14), .int (sl_bi x), .int v] (rg_S b ho gb S M) none (rg_S b ho gb (S.1, S.2.1, S.2.2.1, S.2.2.2.1, (x, v)) M) := by
  have z := c_X9_set (M := rg_S b ho gb S M) (b := b + 14) rg_rc_at x v
  rw [rg_rc] at z
  exact z
theorem rg_q9o {S : rd_T} (hR : rr_all) {d : Nat} (hd : d < 9) (x : Bool) (v : Int32) : sl_R YX9_changeOne 2 [.ref (b + 14), .int (nI d), .int (sl_bi x), .int v] (rg_S b ho gb S M) none (rg_S b ho gb (S.1, S.2.1, S.2.2.1, S.2.2.2.1, (rr_ob d x, rr_o1 d x v)) M) := by
  have z := c_X9_changeOne (M := rg_S b ho gb S M) (b := b + 14) hR rg_rc_at hd x v
  rw [rg_rc] at z
  exact z
theorem rg_q9w {S : rd_T} {d : Nat} (hd : d < 9) (u v : Int32) : sl_R YX9_joinWholes 1 [.ref (b + 14), .int (nI d), .int u, .int v] (rg_S b ho gb S M) none (rg_S b ho gb (S.1, S.2.1, S.2.2.1, S.2.2.2.1, (false, rr_w d u v)) M) := by
  have z := c_X9_joinWholes (M := rg_S b ho gb S M) (b := b + 14) rg_rc_at hd u v
  rw [rg_rc] at z
  exact z
theorem rg_q9r {S : rd_T} (hR : rr_all) {d : Nat} (hd : d < 9) (u v : Int32) : sl_R YX9_joinReals 2 [.ref (b + 14), .int (nI d), .int u, .int v] (rg_S b ho gb S M) none (rg_S b ho gb (S.1, S.2.1, S.2.2.1, S.2.2.2.1, (true, rr_r d u v)) M) := by
  have z := c_X9_joinReals (M := rg_S b ho gb S M) (b := b + 14) hR rg_rc_at hd u v
  rw [rg_rc] at z
  exact z
set_option maxRecDepth 100000 in
theorem c_X7_makeValue (hR : rr_all) (h : rx_at b gb E bd cn at_ M) {S1 : Nat × Int32 × Nat × Nat × Nat × Bool × Nat} {S2 : (Nat → Nat) × (Nat → Nat) × (Nat → Option Nat)} {D : nd_T} {f s : Option Nat} {n : Nat} {it : Nat → Nat} {r : Bool × Int32} (hf : ∀ k, f = some k → k < 60) (hs : ∀ k, s = some k → k < 60) {d t : Nat} (hd : d < 9) (ht : t < 60) :
    sl_R YX7_makeValue 3 [.ref b, .int (nI d), .int (nI t)] (rg_S b ho gb (S1, S2, D, (f, s, n, it), r) M) (some (.int (nI (rd_mv (sg_kind (rx_g E)) d (rx_rl E t, rx_bt E t) (nd_rl D) (nd_bi D) f s r).1))) (rg_S b ho gb (S1, S2, D, (f, s, n, it), (rd_mv (sg_kind (rx_g E)) d (rx_rl E t, rx_bt E t) (nd_rl D) (nd_bi D) f s r).2) M) := by
  obtain ⟨hb, hg2, hg, hok, hfm, hbd, hc, htc⟩ := h
  obtain ⟨a0, a1, a2, a3, a4⟩ := hfm
  obtain ⟨g0, g1, g2, g3, g4, g5, g6, g7⟩ := hg
  have hk2 : sg_kind (rx_g E) ≤ 2 := hok.1
  have tail : ∀ (q : Bool × Int32) (w3 w4 : Int32) (v5 : Option Value) (Q : Option Value → sl_M → Prop), Q (some (.int (nI (rd_vk (sg_kind (rx_g E)) q).1))) (rg_S b ho gb (S1, S2, D, (f, s, n, it), (rd_vk (sg_kind (rx_g E)) q).2) M) → sl_V YX7_makeValue none 3 0 0 Q 196 [some (.ref b), some (.int (nI d)), some (.int (nI t)), some (.int w3), some (.int w4), v5] [] (rg_S b ho gb (S1, S2, D, (f, s, n, it), q) M) := by
    intro q w3 w4 v5 Q hQ
    obtain ⟨q1, q2⟩ := q
    refine slv_aload_n eX7_makeValue_196 rfl ?_
    refine slv_getf eX7_makeValue_197 fX7_38 (by repeat (first | assumption | exact sl_up_eq | refine sl_up_ne (by first | decide | omega) ?_)) rfl ?_
    refine slv_getf eX7_makeValue_200 fX7_183 (by repeat (first | assumption | exact sl_up_eq | refine sl_up_ne (by first | decide | omega) ?_)) rfl ?_
    refine slv_if_eqB eX7_makeValue_203 (fun h203 => ?_) (fun h203 => ?_)
    · refine slv_iconst (v := nI 2) eX7_makeValue_210 (by decide) ?_
      refine slv_istore (lv' := [_, _, _, _, _, _]) eX7_makeValue_211 (by decide) rfl ?_
      refine slv_aload_n eX7_makeValue_213 rfl ?_
      refine slv_getf eX7_makeValue_214 fX7_42 (by repeat (first | assumption | exact sl_up_eq | refine sl_up_ne (by first | decide | omega) ?_)) rfl ?_
      refine slv_getf eX7_makeValue_217 fX7_219 (by repeat (first | assumption | exact sl_up_eq | refine sl_up_ne (by first | decide | omega) ?_)) rfl ?_
      refine slv_iload eX7_makeValue_220 rfl ?_
      refine slv_icmp_neN eX7_makeValue_222 (by omega) (by omega) (fun h222 => ?_) (fun h222 => ?_)
      · refine slv_iconst (v := nI 0) eX7_makeValue_229 (by decide) ?_
        refine slv_iret eX7_makeValue_230 rfl ?_
        have z : q1 = _ := h203
        subst z
        first | (rw [rd_vk, cond_true, if_pos h222] at hQ; exact hQ) | (rw [rd_vk, cond_false, if_pos h222] at hQ; exact hQ) | (rw [rd_vk, cond_true, if_neg h222] at hQ; exact hQ) | (rw [rd_vk, cond_false, if_neg h222] at hQ; exact hQ)
      · refine slv_iconst (v := nI 5) eX7_makeValue_225 (by decide) ?_
        refine slv_goto eX7_makeValue_226 ?_
        refine slv_iret eX7_makeValue_230 rfl ?_
        have z : q1 = _ := h203
        subst z
        first | (rw [rd_vk, cond_true, if_pos h222] at hQ; exact hQ) | (rw [rd_vk, cond_false, if_pos h222] at hQ; exact hQ) | (rw [rd_vk, cond_true, if_neg h222] at hQ; exact hQ) | (rw [rd_vk, cond_false, if_neg h222] at hQ; exact hQ)
    · refine slv_iconst (v := nI 1) eX7_makeValue_206 (by decide) ?_
      refine slv_goto eX7_makeValue_207 ?_
      refine slv_istore (lv' := [_, _, _, _, _, _]) eX7_makeValue_211 (by decide) rfl ?_
      refine slv_aload_n eX7_makeValue_213 rfl ?_
      refine slv_getf eX7_makeValue_214 fX7_42 (by repeat (first | assumption | exact sl_up_eq | refine sl_up_ne (by first | decide | omega) ?_)) rfl ?_
      refine slv_getf eX7_makeValue_217 fX7_219 (by repeat (first | assumption | exact sl_up_eq | refine sl_up_ne (by first | decide | omega) ?_)) rfl ?_
      refine slv_iload eX7_makeValue_220 rfl ?_
      refine slv_icmp_neN eX7_makeValue_222 (by omega) (by omega) (fun h222 => ?_) (fun h222 => ?_)
      · refine slv_iconst (v := nI 0) eX7_makeValue_229 (by decide) ?_
        refine slv_iret eX7_makeValue_230 rfl ?_
        have z : q1 = _ := h203
        subst z
        first | (rw [rd_vk, cond_true, if_pos h222] at hQ; exact hQ) | (rw [rd_vk, cond_false, if_pos h222] at hQ; exact hQ) | (rw [rd_vk, cond_true, if_neg h222] at hQ; exact hQ) | (rw [rd_vk, cond_false, if_neg h222] at hQ; exact hQ)
      · refine slv_iconst (v := nI 5) eX7_makeValue_225 (by decide) ?_
        refine slv_goto eX7_makeValue_226 ?_
        refine slv_iret eX7_makeValue_230 rfl ?_
        have z : q1 = _ := h203
        subst z
        first | (rw [rd_vk, cond_true, if_pos h222] at hQ; exact hQ) | (rw [rd_vk, cond_false, if_pos h222] at hQ; exact hQ) | (rw [rd_vk, cond_true, if_neg h222] at hQ; exact hQ) | (rw [rd_vk, cond_false, if_neg h222] at hQ; exact hQ)
  have hset := fun (x : Bool) (v : Int32) => rg_q9s (b := b) (ho := ho) (gb := gb) (M := M) (S := (S1, S2, D, (f, s, n, it), r)) x v
  have hone := fun (x : Bool) (v : Int32) => rg_q9o (b := b) (ho := ho) (gb := gb) (M := M) (S := (S1, S2, D, (f, s, n, it), r)) hR hd x v
  have hwh := fun (u v : Int32) => rg_q9w (b := b) (ho := ho) (gb := gb) (M := M) (S := (S1, S2, D, (f, s, n, it), r)) hd u v
  have hre := fun (u v : Int32) => rg_q9r (b := b) (ho := ho) (gb := gb) (M := M) (S := (S1, S2, D, (f, s, n, it), r)) hR hd u v
  refine sl_T.of_V (lv := [_, _, _, _, _, _]) (by decide) rfl (Nat.le_of_ble_eq_true rfl) ?_
  refine slv_aload_n eX7_makeValue_0 rfl ?_
  refine slv_getf eX7_makeValue_1 fX7_31 (by repeat (first | assumption | exact sl_up_eq | refine sl_up_ne (by first | decide | omega) ?_)) rfl ?_
  refine slv_getf eX7_makeValue_4 fX7_177 (by repeat (first | assumption | exact sl_up_eq | refine sl_up_ne (by first | decide | omega) ?_)) rfl ?_
  refine slv_istore_n (i := 3) (lv' := [_, _, _, _, _, _]) eX7_makeValue_7 rfl (by decide) rfl ?_
  refine slv_aload_n eX7_makeValue_8 rfl ?_
  refine slv_getf eX7_makeValue_9 fX7_31 (by repeat (first | assumption | exact sl_up_eq | refine sl_up_ne (by first | decide | omega) ?_)) rfl ?_
  refine slv_getf eX7_makeValue_12 fX7_180 (by repeat (first | assumption | exact sl_up_eq | refine sl_up_ne (by first | decide | omega) ?_)) rfl ?_
  refine slv_istore (lv' := [_, _, _, _, _, _]) eX7_makeValue_15 (by decide) rfl ?_
  skip
  cases f with
  | none =>
    show sl_V _ _ _ _ _ _ _ [some (.ref b), some (.int (nI d)), some (.int (nI t)), some (.int (-2)), some (.int (sl_nd s)), none] _ _
    refine slv_iload_n eX7_makeValue_17 rfl ?_
    refine slv_bipush (v := nI 8) eX7_makeValue_18 (by decide) ?_
    refine slv_icmp_neN eX7_makeValue_20 (by omega) (by omega) (fun h20 => ?_) (fun h20 => ?_)
    · refine slv_iload_n eX7_makeValue_51 rfl ?_
      refine slv_if_lt eX7_makeValue_52 (fun h52 => ?_) (fun h52 => absurd (by decide) h52)
      refine slv_iconst (v := nI 4) eX7_makeValue_65 (by decide) ?_
      refine slv_iret eX7_makeValue_66 rfl ?_
      rw [rd_mv_n h20]
      exact ⟨rfl, rfl⟩
    · refine slv_aload_n eX7_makeValue_23 rfl ?_
      refine slv_getf eX7_makeValue_24 fX7_38 (by repeat (first | assumption | exact sl_up_eq | refine sl_up_ne (by first | decide | omega) ?_)) rfl ?_
      refine slv_aload_n eX7_makeValue_27 rfl ?_
      refine slv_getf eX7_makeValue_28 fX7_54 (by repeat (first | assumption | exact sl_up_eq | refine sl_up_ne (by first | decide | omega) ?_)) rfl ?_
      refine slv_getf eX7_makeValue_31 fX7_193 (by repeat (first | assumption | exact sl_up_eq | refine sl_up_ne (by first | decide | omega) ?_)) rfl ?_
      refine slv_iload_n eX7_makeValue_34 rfl ?_
      refine slv_zaldN eX7_makeValue_35 (by repeat (first | assumption | exact sl_up_eq | refine sl_up_ne (by first | decide | omega) ?_)) (by omega) (by decide) ?_
      refine slv_aload_n eX7_makeValue_36 rfl ?_
      refine slv_getf eX7_makeValue_37 fX7_54 (by repeat (first | assumption | exact sl_up_eq | refine sl_up_ne (by first | decide | omega) ?_)) rfl ?_
      refine slv_getf eX7_makeValue_40 fX7_197 (by repeat (first | assumption | exact sl_up_eq | refine sl_up_ne (by first | decide | omega) ?_)) rfl ?_
      refine slv_iload_n eX7_makeValue_43 rfl ?_
      refine slv_ialdN eX7_makeValue_44 (by repeat (first | assumption | exact sl_up_eq | refine sl_up_ne (by first | decide | omega) ?_)) (by omega) (by decide) ?_
      refine slv_rV (As := [_, _]) eX7_makeValue_45 lX7_199 rfl rfl (by repeat (first | assumption | exact sl_up_eq | refine sl_up_ne (by first | decide | omega) ?_)) rfl (hset _ _) (by decide) (Nat.le_of_ble_eq_true rfl) ?_
      refine slv_goto eX7_makeValue_48 ?_
      refine tail _ _ _ _ _ ?_
      rw [rd_mv_8 h20]
      exact ⟨rfl, rfl⟩
  | some a =>
    have ha := hf a rfl
    show sl_V _ _ _ _ _ _ _ [some (.ref b), some (.int (nI d)), some (.int (nI t)), some (.int (nI a)), some (.int (sl_nd s)), none] _ _
    cases s with
    | none =>
      show sl_V _ _ _ _ _ _ _ [some (.ref b), some (.int (nI d)), some (.int (nI t)), some (.int (nI a)), some (.int (-2)), none] _ _
      refine slv_iload_n eX7_makeValue_17 rfl ?_
      refine slv_bipush (v := nI 8) eX7_makeValue_18 (by decide) ?_
      refine slv_icmp_neN eX7_makeValue_20 (by omega) (by omega) (fun h20 => ?_) (fun h20 => ?_)
      · refine slv_iload_n eX7_makeValue_51 rfl ?_
        refine slv_if_ltN eX7_makeValue_52 (by omega) ?_
        refine slv_iload_n eX7_makeValue_55 rfl ?_
        refine slv_iconst (v := nI 3) eX7_makeValue_56 (by decide) ?_
        refine slv_icmp_gtN eX7_makeValue_57 (by omega) (by omega) (fun h57 => ?_) (fun h57 => ?_)
        · refine slv_iload_n eX7_makeValue_67 rfl ?_
          refine slv_iconst (v := nI 3) eX7_makeValue_68 (by decide) ?_
          refine slv_icmp_leN eX7_makeValue_69 (by omega) (by omega) (fun h69 => absurd h69 (Nat.not_le.mpr h57)) (fun h69 => ?_)
          refine slv_aload_n eX7_makeValue_72 rfl ?_
          refine slv_getf eX7_makeValue_73 fX7_38 (by repeat (first | assumption | exact sl_up_eq | refine sl_up_ne (by first | decide | omega) ?_)) rfl ?_
          refine slv_iload_n eX7_makeValue_76 rfl ?_
          refine slv_aload_n eX7_makeValue_77 rfl ?_
          refine slv_getf eX7_makeValue_78 fX7_12 (by repeat (first | assumption | exact sl_up_eq | refine sl_up_ne (by first | decide | omega) ?_)) rfl ?_
          refine slv_getf eX7_makeValue_81 fX7_203 (by repeat (first | assumption | exact sl_up_eq | refine sl_up_ne (by first | decide | omega) ?_)) rfl ?_
          refine slv_iload_n eX7_makeValue_84 rfl ?_
          refine slv_zaldN eX7_makeValue_85 (by repeat (first | assumption | exact sl_up_eq | refine sl_up_ne (by first | decide | omega) ?_)) (by omega) (by decide) ?_
          refine slv_aload_n eX7_makeValue_86 rfl ?_
          refine slv_getf eX7_makeValue_87 fX7_12 (by repeat (first | assumption | exact sl_up_eq | refine sl_up_ne (by first | decide | omega) ?_)) rfl ?_
          refine slv_getf eX7_makeValue_90 fX7_204 (by repeat (first | assumption | exact sl_up_eq | refine sl_up_ne (by first | decide | omega) ?_)) rfl ?_
          refine slv_iload_n eX7_makeValue_93 rfl ?_
          refine slv_ialdN eX7_makeValue_94 (by repeat (first | assumption | exact sl_up_eq | refine sl_up_ne (by first | decide | omega) ?_)) (by omega) (by decide) ?_
          refine slv_rV (As := [_, _, _]) eX7_makeValue_95 lX7_205 rfl rfl (by repeat (first | assumption | exact sl_up_eq | refine sl_up_ne (by first | decide | omega) ?_)) rfl (hone _ _) (by decide) (Nat.le_of_ble_eq_true rfl) ?_
          refine slv_goto eX7_makeValue_98 ?_
          refine tail _ _ _ _ _ ?_
          first | (rw [rd_mv_8 h20]; exact ⟨rfl, rfl⟩) | (rw [rd_mv_1 h20 h57]; exact ⟨rfl, rfl⟩)
        · refine slv_iload eX7_makeValue_60 rfl ?_
          refine slv_if_ge eX7_makeValue_62 (fun h62 => absurd h62 (by decide)) (fun h62 => ?_)
          refine slv_iconst (v := nI 4) eX7_makeValue_65 (by decide) ?_
          refine slv_iret eX7_makeValue_66 rfl ?_
          rw [rd_mv_n2 h20 h57]
          exact ⟨rfl, rfl⟩
      · refine slv_aload_n eX7_makeValue_23 rfl ?_
        refine slv_getf eX7_makeValue_24 fX7_38 (by repeat (first | assumption | exact sl_up_eq | refine sl_up_ne (by first | decide | omega) ?_)) rfl ?_
        refine slv_aload_n eX7_makeValue_27 rfl ?_
        refine slv_getf eX7_makeValue_28 fX7_54 (by repeat (first | assumption | exact sl_up_eq | refine sl_up_ne (by first | decide | omega) ?_)) rfl ?_
        refine slv_getf eX7_makeValue_31 fX7_193 (by repeat (first | assumption | exact sl_up_eq | refine sl_up_ne (by first | decide | omega) ?_)) rfl ?_
        refine slv_iload_n eX7_makeValue_34 rfl ?_
        refine slv_zaldN eX7_makeValue_35 (by repeat (first | assumption | exact sl_up_eq | refine sl_up_ne (by first | decide | omega) ?_)) (by omega) (by decide) ?_
        refine slv_aload_n eX7_makeValue_36 rfl ?_
        refine slv_getf eX7_makeValue_37 fX7_54 (by repeat (first | assumption | exact sl_up_eq | refine sl_up_ne (by first | decide | omega) ?_)) rfl ?_
        refine slv_getf eX7_makeValue_40 fX7_197 (by repeat (first | assumption | exact sl_up_eq | refine sl_up_ne (by first | decide | omega) ?_)) rfl ?_
        refine slv_iload_n eX7_makeValue_43 rfl ?_
        refine slv_ialdN eX7_makeValue_44 (by repeat (first | assumption | exact sl_up_eq | refine sl_up_ne (by first | decide | omega) ?_)) (by omega) (by decide) ?_
        refine slv_rV (As := [_, _]) eX7_makeValue_45 lX7_199 rfl rfl (by repeat (first | assumption | exact sl_up_eq | refine sl_up_ne (by first | decide | omega) ?_)) rfl (hset _ _) (by decide) (Nat.le_of_ble_eq_true rfl) ?_
        refine slv_goto eX7_makeValue_48 ?_
        refine tail _ _ _ _ _ ?_
        first | (rw [rd_mv_8 h20]; exact ⟨rfl, rfl⟩) | (rw [rd_mv_1 h20 h57]; exact ⟨rfl, rfl⟩)
    | some c =>
      have hc60 := hs c rfl
      show sl_V _ _ _ _ _ _ _ [some (.ref b), some (.int (nI d)), some (.int (nI t)), some (.int (nI a)), some (.int (nI c)), none] _ _
      refine slv_iload_n eX7_makeValue_17 rfl ?_
      refine slv_bipush (v := nI 8) eX7_makeValue_18 (by decide) ?_
      refine slv_icmp_neN eX7_makeValue_20 (by omega) (by omega) (fun h20 => ?_) (fun h20 => ?_)
      · refine slv_iload_n eX7_makeValue_51 rfl ?_
        refine slv_if_ltN eX7_makeValue_52 (by omega) ?_
        refine slv_iload_n eX7_makeValue_55 rfl ?_
        refine slv_iconst (v := nI 3) eX7_makeValue_56 (by decide) ?_
        refine slv_icmp_gtN eX7_makeValue_57 (by omega) (by omega) (fun h57 => ?_) (fun h57 => ?_)
        · refine slv_iload_n eX7_makeValue_67 rfl ?_
          refine slv_iconst (v := nI 3) eX7_makeValue_68 (by decide) ?_
          refine slv_icmp_leN eX7_makeValue_69 (by omega) (by omega) (fun h69 => ?_) (fun h69 => ?_)
          · refine slv_aload_n eX7_makeValue_101 rfl ?_
            refine slv_getf eX7_makeValue_102 fX7_12 (by repeat (first | assumption | exact sl_up_eq | refine sl_up_ne (by first | decide | omega) ?_)) rfl ?_
            refine slv_getf eX7_makeValue_105 fX7_203 (by repeat (first | assumption | exact sl_up_eq | refine sl_up_ne (by first | decide | omega) ?_)) rfl ?_
            refine slv_iload_n eX7_makeValue_108 rfl ?_
            refine slv_zaldN eX7_makeValue_109 (by repeat (first | assumption | exact sl_up_eq | refine sl_up_ne (by first | decide | omega) ?_)) (by omega) (by decide) ?_
            refine slv_if_neB eX7_makeValue_110 (fun h110 => ?_) (fun h110 => ?_)
            · refine slv_aload_n eX7_makeValue_126 rfl ?_
              refine slv_getf eX7_makeValue_127 fX7_38 (by repeat (first | assumption | exact sl_up_eq | refine sl_up_ne (by first | decide | omega) ?_)) rfl ?_
              refine slv_iload_n eX7_makeValue_130 rfl ?_
              refine slv_aload_n eX7_makeValue_131 rfl ?_
              refine slv_iload_n eX7_makeValue_132 rfl ?_
              refine slv_rV (As := [_]) eX7_makeValue_133 lX7_209 rfl rfl (by repeat (first | assumption | exact sl_up_eq | refine sl_up_ne (by first | decide | omega) ?_)) rfl (c_X7_realBits hR ha) (by decide) (Nat.le_of_ble_eq_true rfl) ?_
              refine slv_aload_n eX7_makeValue_136 rfl ?_
              refine slv_iload eX7_makeValue_137 rfl ?_
              refine slv_rV (As := [_]) eX7_makeValue_139 lX7_209 rfl rfl (by repeat (first | assumption | exact sl_up_eq | refine sl_up_ne (by first | decide | omega) ?_)) rfl (c_X7_realBits hR hc60) (by decide) (Nat.le_of_ble_eq_true rfl) ?_
              refine slv_rV (As := [_, _, _]) eX7_makeValue_142 lX7_212 rfl rfl (by repeat (first | assumption | exact sl_up_eq | refine sl_up_ne (by first | decide | omega) ?_)) rfl (hre _ _) (by decide) (Nat.le_of_ble_eq_true rfl) ?_
              refine slv_goto eX7_makeValue_145 ?_
              refine tail _ _ _ _ _ ?_
              first | (exfalso; omega) | (rw [rd_mv_8 h20]; exact ⟨rfl, rfl⟩) | (rw [rd_mv_1 h20 h69]; exact ⟨rfl, rfl⟩) | (rw [rd_mv_r1 h20 h69 h110]; exact ⟨rfl, rfl⟩) | (rw [rd_mv_r2 h20 h69 h110 h123]; exact ⟨rfl, rfl⟩) | (rw [rd_mv_w1 h20 h69 h110 h123 h150]; exact ⟨rfl, rfl⟩) | (rw [rd_mv_w2 h20 h69 h110 h123 h150 h163]; exact ⟨rfl, rfl⟩)
            · refine slv_aload_n eX7_makeValue_113 rfl ?_
              refine slv_getf eX7_makeValue_114 fX7_12 (by repeat (first | assumption | exact sl_up_eq | refine sl_up_ne (by first | decide | omega) ?_)) rfl ?_
              refine slv_getf eX7_makeValue_117 fX7_203 (by repeat (first | assumption | exact sl_up_eq | refine sl_up_ne (by first | decide | omega) ?_)) rfl ?_
              refine slv_iload eX7_makeValue_120 rfl ?_
              refine slv_zaldN eX7_makeValue_122 (by repeat (first | assumption | exact sl_up_eq | refine sl_up_ne (by first | decide | omega) ?_)) (by omega) (by decide) ?_
              refine slv_if_eqB eX7_makeValue_123 (fun h123 => ?_) (fun h123 => ?_)
              · refine slv_iload_n eX7_makeValue_148 rfl ?_
                refine slv_iconst (v := nI 3) eX7_makeValue_149 (by decide) ?_
                refine slv_icmp_neN eX7_makeValue_150 (by omega) (by omega) (fun h150 => ?_) (fun h150 => ?_)
                · refine slv_aload_n eX7_makeValue_169 rfl ?_
                  refine slv_getf eX7_makeValue_170 fX7_38 (by repeat (first | assumption | exact sl_up_eq | refine sl_up_ne (by first | decide | omega) ?_)) rfl ?_
                  refine slv_iload_n eX7_makeValue_173 rfl ?_
                  refine slv_aload_n eX7_makeValue_174 rfl ?_
                  refine slv_getf eX7_makeValue_175 fX7_12 (by repeat (first | assumption | exact sl_up_eq | refine sl_up_ne (by first | decide | omega) ?_)) rfl ?_
                  refine slv_getf eX7_makeValue_178 fX7_204 (by repeat (first | assumption | exact sl_up_eq | refine sl_up_ne (by first | decide | omega) ?_)) rfl ?_
                  refine slv_iload_n eX7_makeValue_181 rfl ?_
                  refine slv_ialdN eX7_makeValue_182 (by repeat (first | assumption | exact sl_up_eq | refine sl_up_ne (by first | decide | omega) ?_)) (by omega) (by decide) ?_
                  refine slv_aload_n eX7_makeValue_183 rfl ?_
                  refine slv_getf eX7_makeValue_184 fX7_12 (by repeat (first | assumption | exact sl_up_eq | refine sl_up_ne (by first | decide | omega) ?_)) rfl ?_
                  refine slv_getf eX7_makeValue_187 fX7_204 (by repeat (first | assumption | exact sl_up_eq | refine sl_up_ne (by first | decide | omega) ?_)) rfl ?_
                  refine slv_iload eX7_makeValue_190 rfl ?_
                  refine slv_ialdN eX7_makeValue_192 (by repeat (first | assumption | exact sl_up_eq | refine sl_up_ne (by first | decide | omega) ?_)) (by omega) (by decide) ?_
                  refine slv_rV (As := [_, _, _]) eX7_makeValue_193 lX7_216 rfl rfl (by repeat (first | assumption | exact sl_up_eq | refine sl_up_ne (by first | decide | omega) ?_)) rfl (hwh _ _) (by decide) (Nat.le_of_ble_eq_true rfl) ?_
                  refine tail _ _ _ _ _ ?_
                  first | (exfalso; omega) | (rw [rd_mv_8 h20]; exact ⟨rfl, rfl⟩) | (rw [rd_mv_1 h20 h69]; exact ⟨rfl, rfl⟩) | (rw [rd_mv_r1 h20 h69 h110]; exact ⟨rfl, rfl⟩) | (rw [rd_mv_r2 h20 h69 h110 h123]; exact ⟨rfl, rfl⟩) | (rw [rd_mv_w1 h20 h69 h110 h123 h150]; exact ⟨rfl, rfl⟩) | (rw [rd_mv_w2 h20 h69 h110 h123 h150 h163]; exact ⟨rfl, rfl⟩)
                · refine slv_aload_n eX7_makeValue_153 rfl ?_
                  refine slv_getf eX7_makeValue_154 fX7_12 (by repeat (first | assumption | exact sl_up_eq | refine sl_up_ne (by first | decide | omega) ?_)) rfl ?_
                  refine slv_getf eX7_makeValue_157 fX7_204 (by repeat (first | assumption | exact sl_up_eq | refine sl_up_ne (by first | decide | omega) ?_)) rfl ?_
                  refine slv_iload eX7_makeValue_160 rfl ?_
                  refine slv_ialdN eX7_makeValue_162 (by repeat (first | assumption | exact sl_up_eq | refine sl_up_ne (by first | decide | omega) ?_)) (by omega) (by decide) ?_
                  refine slv_if_ne eX7_makeValue_163 (fun h163 => ?_) (fun h163 => ?_)
                  · refine slv_aload_n eX7_makeValue_169 rfl ?_
                    refine slv_getf eX7_makeValue_170 fX7_38 (by repeat (first | assumption | exact sl_up_eq | refine sl_up_ne (by first | decide | omega) ?_)) rfl ?_
                    refine slv_iload_n eX7_makeValue_173 rfl ?_
                    refine slv_aload_n eX7_makeValue_174 rfl ?_
                    refine slv_getf eX7_makeValue_175 fX7_12 (by repeat (first | assumption | exact sl_up_eq | refine sl_up_ne (by first | decide | omega) ?_)) rfl ?_
                    refine slv_getf eX7_makeValue_178 fX7_204 (by repeat (first | assumption | exact sl_up_eq | refine sl_up_ne (by first | decide | omega) ?_)) rfl ?_
                    refine slv_iload_n eX7_makeValue_181 rfl ?_
                    refine slv_ialdN eX7_makeValue_182 (by repeat (first | assumption | exact sl_up_eq | refine sl_up_ne (by first | decide | omega) ?_)) (by omega) (by decide) ?_
                    refine slv_aload_n eX7_makeValue_183 rfl ?_
                    refine slv_getf eX7_makeValue_184 fX7_12 (by repeat (first | assumption | exact sl_up_eq | refine sl_up_ne (by first | decide | omega) ?_)) rfl ?_
                    refine slv_getf eX7_makeValue_187 fX7_204 (by repeat (first | assumption | exact sl_up_eq | refine sl_up_ne (by first | decide | omega) ?_)) rfl ?_
                    refine slv_iload eX7_makeValue_190 rfl ?_
                    refine slv_ialdN eX7_makeValue_192 (by repeat (first | assumption | exact sl_up_eq | refine sl_up_ne (by first | decide | omega) ?_)) (by omega) (by decide) ?_
                    refine slv_rV (As := [_, _, _]) eX7_makeValue_193 lX7_216 rfl rfl (by repeat (first | assumption | exact sl_up_eq | refine sl_up_ne (by first | decide | omega) ?_)) rfl (hwh _ _) (by decide) (Nat.le_of_ble_eq_true rfl) ?_
                    refine tail _ _ _ _ _ ?_
                    first | (exfalso; omega) | (rw [rd_mv_8 h20]; exact ⟨rfl, rfl⟩) | (rw [rd_mv_1 h20 h69]; exact ⟨rfl, rfl⟩) | (rw [rd_mv_r1 h20 h69 h110]; exact ⟨rfl, rfl⟩) | (rw [rd_mv_r2 h20 h69 h110 h123]; exact ⟨rfl, rfl⟩) | (rw [rd_mv_w1 h20 h69 h110 h123 h150]; exact ⟨rfl, rfl⟩) | (rw [rd_mv_w2 h20 h69 h110 h123 h150 h163]; exact ⟨rfl, rfl⟩)
                  · refine slv_bipush (v := nI 6) eX7_makeValue_166 (by decide) ?_
                    refine slv_iret eX7_makeValue_168 rfl ?_
                    first | (exfalso; omega) | (rw [rd_mv_z h20 h69 h110 h123 h150 h163]; exact ⟨rfl, rfl⟩)
              · refine slv_aload_n eX7_makeValue_126 rfl ?_
                refine slv_getf eX7_makeValue_127 fX7_38 (by repeat (first | assumption | exact sl_up_eq | refine sl_up_ne (by first | decide | omega) ?_)) rfl ?_
                refine slv_iload_n eX7_makeValue_130 rfl ?_
                refine slv_aload_n eX7_makeValue_131 rfl ?_
                refine slv_iload_n eX7_makeValue_132 rfl ?_
                refine slv_rV (As := [_]) eX7_makeValue_133 lX7_209 rfl rfl (by repeat (first | assumption | exact sl_up_eq | refine sl_up_ne (by first | decide | omega) ?_)) rfl (c_X7_realBits hR ha) (by decide) (Nat.le_of_ble_eq_true rfl) ?_
                refine slv_aload_n eX7_makeValue_136 rfl ?_
                refine slv_iload eX7_makeValue_137 rfl ?_
                refine slv_rV (As := [_]) eX7_makeValue_139 lX7_209 rfl rfl (by repeat (first | assumption | exact sl_up_eq | refine sl_up_ne (by first | decide | omega) ?_)) rfl (c_X7_realBits hR hc60) (by decide) (Nat.le_of_ble_eq_true rfl) ?_
                refine slv_rV (As := [_, _, _]) eX7_makeValue_142 lX7_212 rfl rfl (by repeat (first | assumption | exact sl_up_eq | refine sl_up_ne (by first | decide | omega) ?_)) rfl (hre _ _) (by decide) (Nat.le_of_ble_eq_true rfl) ?_
                refine slv_goto eX7_makeValue_145 ?_
                refine tail _ _ _ _ _ ?_
                first | (exfalso; omega) | (rw [rd_mv_8 h20]; exact ⟨rfl, rfl⟩) | (rw [rd_mv_1 h20 h69]; exact ⟨rfl, rfl⟩) | (rw [rd_mv_r1 h20 h69 h110]; exact ⟨rfl, rfl⟩) | (rw [rd_mv_r2 h20 h69 h110 h123]; exact ⟨rfl, rfl⟩) | (rw [rd_mv_w1 h20 h69 h110 h123 h150]; exact ⟨rfl, rfl⟩) | (rw [rd_mv_w2 h20 h69 h110 h123 h150 h163]; exact ⟨rfl, rfl⟩)
          · refine slv_aload_n eX7_makeValue_72 rfl ?_
            refine slv_getf eX7_makeValue_73 fX7_38 (by repeat (first | assumption | exact sl_up_eq | refine sl_up_ne (by first | decide | omega) ?_)) rfl ?_
            refine slv_iload_n eX7_makeValue_76 rfl ?_
            refine slv_aload_n eX7_makeValue_77 rfl ?_
            refine slv_getf eX7_makeValue_78 fX7_12 (by repeat (first | assumption | exact sl_up_eq | refine sl_up_ne (by first | decide | omega) ?_)) rfl ?_
            refine slv_getf eX7_makeValue_81 fX7_203 (by repeat (first | assumption | exact sl_up_eq | refine sl_up_ne (by first | decide | omega) ?_)) rfl ?_
            refine slv_iload_n eX7_makeValue_84 rfl ?_
            refine slv_zaldN eX7_makeValue_85 (by repeat (first | assumption | exact sl_up_eq | refine sl_up_ne (by first | decide | omega) ?_)) (by omega) (by decide) ?_
            refine slv_aload_n eX7_makeValue_86 rfl ?_
            refine slv_getf eX7_makeValue_87 fX7_12 (by repeat (first | assumption | exact sl_up_eq | refine sl_up_ne (by first | decide | omega) ?_)) rfl ?_
            refine slv_getf eX7_makeValue_90 fX7_204 (by repeat (first | assumption | exact sl_up_eq | refine sl_up_ne (by first | decide | omega) ?_)) rfl ?_
            refine slv_iload_n eX7_makeValue_93 rfl ?_
            refine slv_ialdN eX7_makeValue_94 (by repeat (first | assumption | exact sl_up_eq | refine sl_up_ne (by first | decide | omega) ?_)) (by omega) (by decide) ?_
            refine slv_rV (As := [_, _, _]) eX7_makeValue_95 lX7_205 rfl rfl (by repeat (first | assumption | exact sl_up_eq | refine sl_up_ne (by first | decide | omega) ?_)) rfl (hone _ _) (by decide) (Nat.le_of_ble_eq_true rfl) ?_
            refine slv_goto eX7_makeValue_98 ?_
            refine tail _ _ _ _ _ ?_
            first | (exfalso; omega) | (rw [rd_mv_8 h20]; exact ⟨rfl, rfl⟩) | (rw [rd_mv_1 h20 h69]; exact ⟨rfl, rfl⟩) | (rw [rd_mv_r1 h20 h69 h110]; exact ⟨rfl, rfl⟩) | (rw [rd_mv_r2 h20 h69 h110 h123]; exact ⟨rfl, rfl⟩) | (rw [rd_mv_w1 h20 h69 h110 h123 h150]; exact ⟨rfl, rfl⟩) | (rw [rd_mv_w2 h20 h69 h110 h123 h150 h163]; exact ⟨rfl, rfl⟩)
        · refine slv_iload eX7_makeValue_60 rfl ?_
          refine slv_if_geN eX7_makeValue_62 (by omega) ?_
          refine slv_iload_n eX7_makeValue_67 rfl ?_
          refine slv_iconst (v := nI 3) eX7_makeValue_68 (by decide) ?_
          refine slv_icmp_leN eX7_makeValue_69 (by omega) (by omega) (fun h69 => ?_) (fun h69 => ?_)
          · refine slv_aload_n eX7_makeValue_101 rfl ?_
            refine slv_getf eX7_makeValue_102 fX7_12 (by repeat (first | assumption | exact sl_up_eq | refine sl_up_ne (by first | decide | omega) ?_)) rfl ?_
            refine slv_getf eX7_makeValue_105 fX7_203 (by repeat (first | assumption | exact sl_up_eq | refine sl_up_ne (by first | decide | omega) ?_)) rfl ?_
            refine slv_iload_n eX7_makeValue_108 rfl ?_
            refine slv_zaldN eX7_makeValue_109 (by repeat (first | assumption | exact sl_up_eq | refine sl_up_ne (by first | decide | omega) ?_)) (by omega) (by decide) ?_
            refine slv_if_neB eX7_makeValue_110 (fun h110 => ?_) (fun h110 => ?_)
            · refine slv_aload_n eX7_makeValue_126 rfl ?_
              refine slv_getf eX7_makeValue_127 fX7_38 (by repeat (first | assumption | exact sl_up_eq | refine sl_up_ne (by first | decide | omega) ?_)) rfl ?_
              refine slv_iload_n eX7_makeValue_130 rfl ?_
              refine slv_aload_n eX7_makeValue_131 rfl ?_
              refine slv_iload_n eX7_makeValue_132 rfl ?_
              refine slv_rV (As := [_]) eX7_makeValue_133 lX7_209 rfl rfl (by repeat (first | assumption | exact sl_up_eq | refine sl_up_ne (by first | decide | omega) ?_)) rfl (c_X7_realBits hR ha) (by decide) (Nat.le_of_ble_eq_true rfl) ?_
              refine slv_aload_n eX7_makeValue_136 rfl ?_
              refine slv_iload eX7_makeValue_137 rfl ?_
              refine slv_rV (As := [_]) eX7_makeValue_139 lX7_209 rfl rfl (by repeat (first | assumption | exact sl_up_eq | refine sl_up_ne (by first | decide | omega) ?_)) rfl (c_X7_realBits hR hc60) (by decide) (Nat.le_of_ble_eq_true rfl) ?_
              refine slv_rV (As := [_, _, _]) eX7_makeValue_142 lX7_212 rfl rfl (by repeat (first | assumption | exact sl_up_eq | refine sl_up_ne (by first | decide | omega) ?_)) rfl (hre _ _) (by decide) (Nat.le_of_ble_eq_true rfl) ?_
              refine slv_goto eX7_makeValue_145 ?_
              refine tail _ _ _ _ _ ?_
              first | (exfalso; omega) | (rw [rd_mv_8 h20]; exact ⟨rfl, rfl⟩) | (rw [rd_mv_1 h20 h69]; exact ⟨rfl, rfl⟩) | (rw [rd_mv_r1 h20 h69 h110]; exact ⟨rfl, rfl⟩) | (rw [rd_mv_r2 h20 h69 h110 h123]; exact ⟨rfl, rfl⟩) | (rw [rd_mv_w1 h20 h69 h110 h123 h150]; exact ⟨rfl, rfl⟩) | (rw [rd_mv_w2 h20 h69 h110 h123 h150 h163]; exact ⟨rfl, rfl⟩)
            · refine slv_aload_n eX7_makeValue_113 rfl ?_
              refine slv_getf eX7_makeValue_114 fX7_12 (by repeat (first | assumption | exact sl_up_eq | refine sl_up_ne (by first | decide | omega) ?_)) rfl ?_
              refine slv_getf eX7_makeValue_117 fX7_203 (by repeat (first | assumption | exact sl_up_eq | refine sl_up_ne (by first | decide | omega) ?_)) rfl ?_
              refine slv_iload eX7_makeValue_120 rfl ?_
              refine slv_zaldN eX7_makeValue_122 (by repeat (first | assumption | exact sl_up_eq | refine sl_up_ne (by first | decide | omega) ?_)) (by omega) (by decide) ?_
              refine slv_if_eqB eX7_makeValue_123 (fun h123 => ?_) (fun h123 => ?_)
              · refine slv_iload_n eX7_makeValue_148 rfl ?_
                refine slv_iconst (v := nI 3) eX7_makeValue_149 (by decide) ?_
                refine slv_icmp_neN eX7_makeValue_150 (by omega) (by omega) (fun h150 => ?_) (fun h150 => ?_)
                · refine slv_aload_n eX7_makeValue_169 rfl ?_
                  refine slv_getf eX7_makeValue_170 fX7_38 (by repeat (first | assumption | exact sl_up_eq | refine sl_up_ne (by first | decide | omega) ?_)) rfl ?_
                  refine slv_iload_n eX7_makeValue_173 rfl ?_
                  refine slv_aload_n eX7_makeValue_174 rfl ?_
                  refine slv_getf eX7_makeValue_175 fX7_12 (by repeat (first | assumption | exact sl_up_eq | refine sl_up_ne (by first | decide | omega) ?_)) rfl ?_
                  refine slv_getf eX7_makeValue_178 fX7_204 (by repeat (first | assumption | exact sl_up_eq | refine sl_up_ne (by first | decide | omega) ?_)) rfl ?_
                  refine slv_iload_n eX7_makeValue_181 rfl ?_
                  refine slv_ialdN eX7_makeValue_182 (by repeat (first | assumption | exact sl_up_eq | refine sl_up_ne (by first | decide | omega) ?_)) (by omega) (by decide) ?_
                  refine slv_aload_n eX7_makeValue_183 rfl ?_
                  refine slv_getf eX7_makeValue_184 fX7_12 (by repeat (first | assumption | exact sl_up_eq | refine sl_up_ne (by first | decide | omega) ?_)) rfl ?_
                  refine slv_getf eX7_makeValue_187 fX7_204 (by repeat (first | assumption | exact sl_up_eq | refine sl_up_ne (by first | decide | omega) ?_)) rfl ?_
                  refine slv_iload eX7_makeValue_190 rfl ?_
                  refine slv_ialdN eX7_makeValue_192 (by repeat (first | assumption | exact sl_up_eq | refine sl_up_ne (by first | decide | omega) ?_)) (by omega) (by decide) ?_
                  refine slv_rV (As := [_, _, _]) eX7_makeValue_193 lX7_216 rfl rfl (by repeat (first | assumption | exact sl_up_eq | refine sl_up_ne (by first | decide | omega) ?_)) rfl (hwh _ _) (by decide) (Nat.le_of_ble_eq_true rfl) ?_
                  refine tail _ _ _ _ _ ?_
                  first | (exfalso; omega) | (rw [rd_mv_8 h20]; exact ⟨rfl, rfl⟩) | (rw [rd_mv_1 h20 h69]; exact ⟨rfl, rfl⟩) | (rw [rd_mv_r1 h20 h69 h110]; exact ⟨rfl, rfl⟩) | (rw [rd_mv_r2 h20 h69 h110 h123]; exact ⟨rfl, rfl⟩) | (rw [rd_mv_w1 h20 h69 h110 h123 h150]; exact ⟨rfl, rfl⟩) | (rw [rd_mv_w2 h20 h69 h110 h123 h150 h163]; exact ⟨rfl, rfl⟩)
                · refine slv_aload_n eX7_makeValue_153 rfl ?_
                  refine slv_getf eX7_makeValue_154 fX7_12 (by repeat (first | assumption | exact sl_up_eq | refine sl_up_ne (by first | decide | omega) ?_)) rfl ?_
                  refine slv_getf eX7_makeValue_157 fX7_204 (by repeat (first | assumption | exact sl_up_eq | refine sl_up_ne (by first | decide | omega) ?_)) rfl ?_
                  refine slv_iload eX7_makeValue_160 rfl ?_
                  refine slv_ialdN eX7_makeValue_162 (by repeat (first | assumption | exact sl_up_eq | refine sl_up_ne (by first | decide | omega) ?_)) (by omega) (by decide) ?_
                  refine slv_if_ne eX7_makeValue_163 (fun h163 => ?_) (fun h163 => ?_)
                  · refine slv_aload_n eX7_makeValue_169 rfl ?_
                    refine slv_getf eX7_makeValue_170 fX7_38 (by repeat (first | assumption | exact sl_up_eq | refine sl_up_ne (by first | decide | omega) ?_)) rfl ?_
                    refine slv_iload_n eX7_makeValue_173 rfl ?_
                    refine slv_aload_n eX7_makeValue_174 rfl ?_
                    refine slv_getf eX7_makeValue_175 fX7_12 (by repeat (first | assumption | exact sl_up_eq | refine sl_up_ne (by first | decide | omega) ?_)) rfl ?_
                    refine slv_getf eX7_makeValue_178 fX7_204 (by repeat (first | assumption | exact sl_up_eq | refine sl_up_ne (by first | decide | omega) ?_)) rfl ?_
                    refine slv_iload_n eX7_makeValue_181 rfl ?_
                    refine slv_ialdN eX7_makeValue_182 (by repeat (first | assumption | exact sl_up_eq | refine sl_up_ne (by first | decide | omega) ?_)) (by omega) (by decide) ?_
                    refine slv_aload_n eX7_makeValue_183 rfl ?_
                    refine slv_getf eX7_makeValue_184 fX7_12 (by repeat (first | assumption | exact sl_up_eq | refine sl_up_ne (by first | decide | omega) ?_)) rfl ?_
                    refine slv_getf eX7_makeValue_187 fX7_204 (by repeat (first | assumption | exact sl_up_eq | refine sl_up_ne (by first | decide | omega) ?_)) rfl ?_
                    refine slv_iload eX7_makeValue_190 rfl ?_
                    refine slv_ialdN eX7_makeValue_192 (by repeat (first | assumption | exact sl_up_eq | refine sl_up_ne (by first | decide | omega) ?_)) (by omega) (by decide) ?_
                    refine slv_rV (As := [_, _, _]) eX7_makeValue_193 lX7_216 rfl rfl (by repeat (first | assumption | exact sl_up_eq | refine sl_up_ne (by first | decide | omega) ?_)) rfl (hwh _ _) (by decide) (Nat.le_of_ble_eq_true rfl) ?_
                    refine tail _ _ _ _ _ ?_
                    first | (exfalso; omega) | (rw [rd_mv_8 h20]; exact ⟨rfl, rfl⟩) | (rw [rd_mv_1 h20 h69]; exact ⟨rfl, rfl⟩) | (rw [rd_mv_r1 h20 h69 h110]; exact ⟨rfl, rfl⟩) | (rw [rd_mv_r2 h20 h69 h110 h123]; exact ⟨rfl, rfl⟩) | (rw [rd_mv_w1 h20 h69 h110 h123 h150]; exact ⟨rfl, rfl⟩) | (rw [rd_mv_w2 h20 h69 h110 h123 h150 h163]; exact ⟨rfl, rfl⟩)
                  · refine slv_bipush (v := nI 6) eX7_makeValue_166 (by decide) ?_
                    refine slv_iret eX7_makeValue_168 rfl ?_
                    first | (exfalso; omega) | (rw [rd_mv_z h20 h69 h110 h123 h150 h163]; exact ⟨rfl, rfl⟩)
              · refine slv_aload_n eX7_makeValue_126 rfl ?_
                refine slv_getf eX7_makeValue_127 fX7_38 (by repeat (first | assumption | exact sl_up_eq | refine sl_up_ne (by first | decide | omega) ?_)) rfl ?_
                refine slv_iload_n eX7_makeValue_130 rfl ?_
                refine slv_aload_n eX7_makeValue_131 rfl ?_
                refine slv_iload_n eX7_makeValue_132 rfl ?_
                refine slv_rV (As := [_]) eX7_makeValue_133 lX7_209 rfl rfl (by repeat (first | assumption | exact sl_up_eq | refine sl_up_ne (by first | decide | omega) ?_)) rfl (c_X7_realBits hR ha) (by decide) (Nat.le_of_ble_eq_true rfl) ?_
                refine slv_aload_n eX7_makeValue_136 rfl ?_
                refine slv_iload eX7_makeValue_137 rfl ?_
                refine slv_rV (As := [_]) eX7_makeValue_139 lX7_209 rfl rfl (by repeat (first | assumption | exact sl_up_eq | refine sl_up_ne (by first | decide | omega) ?_)) rfl (c_X7_realBits hR hc60) (by decide) (Nat.le_of_ble_eq_true rfl) ?_
                refine slv_rV (As := [_, _, _]) eX7_makeValue_142 lX7_212 rfl rfl (by repeat (first | assumption | exact sl_up_eq | refine sl_up_ne (by first | decide | omega) ?_)) rfl (hre _ _) (by decide) (Nat.le_of_ble_eq_true rfl) ?_
                refine slv_goto eX7_makeValue_145 ?_
                refine tail _ _ _ _ _ ?_
                first | (exfalso; omega) | (rw [rd_mv_8 h20]; exact ⟨rfl, rfl⟩) | (rw [rd_mv_1 h20 h69]; exact ⟨rfl, rfl⟩) | (rw [rd_mv_r1 h20 h69 h110]; exact ⟨rfl, rfl⟩) | (rw [rd_mv_r2 h20 h69 h110 h123]; exact ⟨rfl, rfl⟩) | (rw [rd_mv_w1 h20 h69 h110 h123 h150]; exact ⟨rfl, rfl⟩) | (rw [rd_mv_w2 h20 h69 h110 h123 h150 h163]; exact ⟨rfl, rfl⟩)
          · refine slv_aload_n eX7_makeValue_72 rfl ?_
            refine slv_getf eX7_makeValue_73 fX7_38 (by repeat (first | assumption | exact sl_up_eq | refine sl_up_ne (by first | decide | omega) ?_)) rfl ?_
            refine slv_iload_n eX7_makeValue_76 rfl ?_
            refine slv_aload_n eX7_makeValue_77 rfl ?_
            refine slv_getf eX7_makeValue_78 fX7_12 (by repeat (first | assumption | exact sl_up_eq | refine sl_up_ne (by first | decide | omega) ?_)) rfl ?_
            refine slv_getf eX7_makeValue_81 fX7_203 (by repeat (first | assumption | exact sl_up_eq | refine sl_up_ne (by first | decide | omega) ?_)) rfl ?_
            refine slv_iload_n eX7_makeValue_84 rfl ?_
            refine slv_zaldN eX7_makeValue_85 (by repeat (first | assumption | exact sl_up_eq | refine sl_up_ne (by first | decide | omega) ?_)) (by omega) (by decide) ?_
            refine slv_aload_n eX7_makeValue_86 rfl ?_
            refine slv_getf eX7_makeValue_87 fX7_12 (by repeat (first | assumption | exact sl_up_eq | refine sl_up_ne (by first | decide | omega) ?_)) rfl ?_
            refine slv_getf eX7_makeValue_90 fX7_204 (by repeat (first | assumption | exact sl_up_eq | refine sl_up_ne (by first | decide | omega) ?_)) rfl ?_
            refine slv_iload_n eX7_makeValue_93 rfl ?_
            refine slv_ialdN eX7_makeValue_94 (by repeat (first | assumption | exact sl_up_eq | refine sl_up_ne (by first | decide | omega) ?_)) (by omega) (by decide) ?_
            refine slv_rV (As := [_, _, _]) eX7_makeValue_95 lX7_205 rfl rfl (by repeat (first | assumption | exact sl_up_eq | refine sl_up_ne (by first | decide | omega) ?_)) rfl (hone _ _) (by decide) (Nat.le_of_ble_eq_true rfl) ?_
            refine slv_goto eX7_makeValue_98 ?_
            refine tail _ _ _ _ _ ?_
            first | (exfalso; omega) | (rw [rd_mv_8 h20]; exact ⟨rfl, rfl⟩) | (rw [rd_mv_1 h20 h69]; exact ⟨rfl, rfl⟩) | (rw [rd_mv_r1 h20 h69 h110]; exact ⟨rfl, rfl⟩) | (rw [rd_mv_r2 h20 h69 h110 h123]; exact ⟨rfl, rfl⟩) | (rw [rd_mv_w1 h20 h69 h110 h123 h150]; exact ⟨rfl, rfl⟩) | (rw [rd_mv_w2 h20 h69 h110 h123 h150 h163]; exact ⟨rfl, rfl⟩)
      · refine slv_aload_n eX7_makeValue_23 rfl ?_
        refine slv_getf eX7_makeValue_24 fX7_38 (by repeat (first | assumption | exact sl_up_eq | refine sl_up_ne (by first | decide | omega) ?_)) rfl ?_
        refine slv_aload_n eX7_makeValue_27 rfl ?_
        refine slv_getf eX7_makeValue_28 fX7_54 (by repeat (first | assumption | exact sl_up_eq | refine sl_up_ne (by first | decide | omega) ?_)) rfl ?_
        refine slv_getf eX7_makeValue_31 fX7_193 (by repeat (first | assumption | exact sl_up_eq | refine sl_up_ne (by first | decide | omega) ?_)) rfl ?_
        refine slv_iload_n eX7_makeValue_34 rfl ?_
        refine slv_zaldN eX7_makeValue_35 (by repeat (first | assumption | exact sl_up_eq | refine sl_up_ne (by first | decide | omega) ?_)) (by omega) (by decide) ?_
        refine slv_aload_n eX7_makeValue_36 rfl ?_
        refine slv_getf eX7_makeValue_37 fX7_54 (by repeat (first | assumption | exact sl_up_eq | refine sl_up_ne (by first | decide | omega) ?_)) rfl ?_
        refine slv_getf eX7_makeValue_40 fX7_197 (by repeat (first | assumption | exact sl_up_eq | refine sl_up_ne (by first | decide | omega) ?_)) rfl ?_
        refine slv_iload_n eX7_makeValue_43 rfl ?_
        refine slv_ialdN eX7_makeValue_44 (by repeat (first | assumption | exact sl_up_eq | refine sl_up_ne (by first | decide | omega) ?_)) (by omega) (by decide) ?_
        refine slv_rV (As := [_, _]) eX7_makeValue_45 lX7_199 rfl rfl (by repeat (first | assumption | exact sl_up_eq | refine sl_up_ne (by first | decide | omega) ?_)) rfl (hset _ _) (by decide) (Nat.le_of_ble_eq_true rfl) ?_
        refine slv_goto eX7_makeValue_48 ?_
        refine tail _ _ _ _ _ ?_
        first | (exfalso; omega) | (rw [rd_mv_8 h20]; exact ⟨rfl, rfl⟩) | (rw [rd_mv_1 h20 h69]; exact ⟨rfl, rfl⟩) | (rw [rd_mv_r1 h20 h69 h110]; exact ⟨rfl, rfl⟩) | (rw [rd_mv_r2 h20 h69 h110 h123]; exact ⟨rfl, rfl⟩) | (rw [rd_mv_w1 h20 h69 h110 h123 h150]; exact ⟨rfl, rfl⟩) | (rw [rd_mv_w2 h20 h69 h110 h123 h150 h163]; exact ⟨rfl, rfl⟩)
end RDI

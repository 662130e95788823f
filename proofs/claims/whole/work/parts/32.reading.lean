/-! Reading: what it reads by (a grammar, the formula's tokens, an order), and its state -/
/-- grammar; count of tokens, length, signs, places, kinds, bits; order -/
abbrev rx_T : Type := sg_T × (Nat × Nat × (Nat → Nat) × (Nat → Nat) × (Nat → Bool) × (Nat → Int32)) × (Nat → Nat → Int32)
abbrev rx_g (E : rx_T) : sg_T := E.1
abbrev rx_tc (E : rx_T) : Nat := E.2.1.1
abbrev rx_ln (E : rx_T) : Nat := E.2.1.2.1
abbrev rx_sg (E : rx_T) : Nat → Nat := E.2.1.2.2.1
abbrev rx_pl (E : rx_T) : Nat → Nat := E.2.1.2.2.2.1
abbrev rx_rl (E : rx_T) : Nat → Bool := E.2.1.2.2.2.2.1
abbrev rx_bt (E : rx_T) : Nat → Int32 := E.2.1.2.2.2.2.2
abbrev rx_o (E : rx_T) : Nat → Nat → Int32 := E.2.2
abbrev nd_T : Type := Nat × (Nat → Nat) × (Nat → Option Nat) × (Nat → Option Nat) × (Nat → Nat) × (Nat → Nat) × (Nat → Bool) × (Nat → Int32)
abbrev rd_T : Type := (Nat × Int32 × Nat × Nat × Nat × Bool × Nat) × ((Nat → Nat) × (Nat → Nat) × (Nat → Option Nat)) × nd_T × (Option Nat × Option Nat × Nat × (Nat → Nat)) × (Bool × Int32)
abbrev rd_fa (S : rd_T) : Nat := S.1.1
abbrev rd_pl (S : rd_T) : Int32 := S.1.2.1
abbrev rd_sp (S : rd_T) : Nat := S.1.2.2.1
abbrev rd_mo (S : rd_T) : Nat := S.1.2.2.2.1
abbrev rd_nx (S : rd_T) : Nat := S.1.2.2.2.2.1
abbrev rd_en (S : rd_T) : Bool := S.1.2.2.2.2.2.1
abbrev rd_tp (S : rd_T) : Nat := S.1.2.2.2.2.2.2
abbrev rd_stk (S : rd_T) : Nat → Nat := S.2.1.1
abbrev rd_tok (S : rd_T) : Nat → Nat := S.2.1.2.1
abbrev rd_beh (S : rd_T) : Nat → Option Nat := S.2.1.2.2
abbrev rd_nd (S : rd_T) : nd_T := S.2.2.1
abbrev nd_c (D : nd_T) : Nat := D.1
abbrev nd_ru (D : nd_T) : Nat → Nat := D.2.1
abbrev nd_fi (D : nd_T) : Nat → Option Nat := D.2.2.1
abbrev nd_se (D : nd_T) : Nat → Option Nat := D.2.2.2.1
abbrev nd_de (D : nd_T) : Nat → Nat := D.2.2.2.2.1
abbrev nd_si (D : nd_T) : Nat → Nat := D.2.2.2.2.2.1
abbrev nd_rl (D : nd_T) : Nat → Bool := D.2.2.2.2.2.2.1
abbrev nd_bi (D : nd_T) : Nat → Int32 := D.2.2.2.2.2.2.2
abbrev rd_hn (S : rd_T) : Option Nat × Option Nat × Nat × (Nat → Nat) := S.2.2.2.1
abbrev rd_rc (S : rd_T) : Bool × Int32 := S.2.2.2.2
abbrev rg_S (b ho gb : Nat) (S : rd_T) (M : sl_M) : sl_M := rg_set b ho (rd_fa S) (rd_pl S) (rd_sp S) (rd_mo S) (.ref gb) (.ref 19) (.ref 23) (.ref 33) (rd_nx S) (rd_en S) (rd_tp S) (rd_stk S) (rd_tok S) (rd_beh S) (nd_c (rd_nd S)) (nd_ru (rd_nd S)) (nd_fi (rd_nd S)) (nd_se (rd_nd S)) (nd_de (rd_nd S)) (nd_si (rd_nd S)) (nd_rl (rd_nd S)) (nd_bi (rd_nd S)) (rd_hn S).1 (rd_hn S).2.1 (rd_hn S).2.2.1 (rd_hn S).2.2.2 (rd_rc S).1 (rd_rc S).2 M
def rd_here (E : rx_T) (nx : Nat) : Nat := cond (decide (nx < rx_tc E)) (rx_pl E nx) (rx_ln E)
def rd_fl (k : Nat) (w : Int32) (S : rd_T) : rd_T := ((k, w, S.1.2.2.1, S.1.2.2.2.1, S.1.2.2.2.2.1, true, S.1.2.2.2.2.2.2), S.2)
def rd_fh (E : rx_T) (k : Nat) (S : rd_T) : rd_T := rd_fl k (nI (rd_here E (rd_nx S))) S
def rd_nt (E : rx_T) (nx : Nat) : Option Nat := cond (decide (nx < rx_tc E)) (sl_fn (fun t => decide (nI (sg_signs (rx_g E) t) = nI (rx_sg E nx))) (sg_terms (rx_g E)) 0) (some (sg_terms (rx_g E)))
theorem sl_ff_io (p : Nat → Bool) (n : Nat) : ∀ i, sl_ff p n i = sl_io (sl_fn p n i) := by
  induction n with
  | zero => intro i; rfl
  | succ n ih => intro i; rw [sl_ff, sl_fn, ih (i + 1)]; cases p i <;> rfl
section RDG
variable {b ho gb : Nat} {E : rx_T} {S : rd_T} {M : sl_M} {bd : Option Nat} {cn at_ : Nat}
set_option maxRecDepth 100000 in
theorem c_X7_failAt (k : Nat) (w : Int32) : sl_R YX7_failAt 0 [.ref b, .int (nI k), .int w] (rg_S b ho gb S M) none (rg_S b ho gb (rd_fl k w S) M) := by
  refine sl_T.of_V (lv := [_, _, _]) (by decide) rfl (Nat.le_of_ble_eq_true rfl) ?_
  refine slv_aload_n eX7_failAt_0 rfl ?_
  refine slv_iload_n eX7_failAt_1 rfl ?_
  refine slv_putf (fs' := [_, _, _, _, _, _, _, _, _, _, _, _, _, _, _, _, _, _]) eX7_failAt_2 fX7_62 (by repeat (first | assumption | exact sl_up_eq | refine sl_up_ne (by first | decide | omega) ?_)) (Nat.le_of_ble_eq_true rfl) rfl rfl rfl ?_
  refine slv_mem (rg_u0 (fa' := k)) ?_
  refine slv_aload_n eX7_failAt_5 rfl ?_
  refine slv_iload_n eX7_failAt_6 rfl ?_
  refine slv_putf (fs' := [_, _, _, _, _, _, _, _, _, _, _, _, _, _, _, _, _, _]) eX7_failAt_7 fX7_65 (by repeat (first | assumption | exact sl_up_eq | refine sl_up_ne (by first | decide | omega) ?_)) (Nat.le_of_ble_eq_true rfl) rfl rfl rfl ?_
  refine slv_mem (rg_u0 (pl' := w)) ?_
  refine slv_aload_n eX7_failAt_10 rfl ?_
  refine slv_iconst (v := nI 1) eX7_failAt_11 (by decide) ?_
  refine slv_putf (fs' := [_, _, _, _, _, _, _, _, _, _, _, _, _, _, _, _, _, _]) eX7_failAt_12 fX7_80 (by repeat (first | assumption | exact sl_up_eq | refine sl_up_ne (by first | decide | omega) ?_)) (Nat.le_of_ble_eq_true rfl) (by first | rfl | assumption) (by first | rfl | assumption) rfl ?_
  refine slv_mem (rg_u0 (en' := true)) ?_
  refine slv_vret eX7_failAt_15 rfl ?_
  exact ⟨rfl, rfl⟩
set_option maxRecDepth 100000 in
theorem c_X7_root : sl_R YX7_root 0 [.ref b] (rg_S b ho gb S M) (some (.int (sl_nd (rd_beh S 0)))) (rg_S b ho gb S M) := by
  refine sl_T.of_V (lv := [_]) (by decide) rfl (Nat.le_of_ble_eq_true rfl) ?_
  refine slv_aload_n eX7_root_0 rfl ?_
  refine slv_getf eX7_root_1 fX7_25 (by repeat (first | assumption | exact sl_up_eq | refine sl_up_ne (by first | decide | omega) ?_)) rfl ?_
  refine slv_iconst (v := nI 0) eX7_root_4 (by decide) ?_
  refine slv_ialdN eX7_root_5 (by repeat (first | assumption | exact sl_up_eq | refine sl_up_ne (by first | decide | omega) ?_)) (by omega) (by decide) ?_
  refine slv_iret eX7_root_6 rfl ?_
  exact ⟨rfl, rfl⟩
set_option maxRecDepth 100000 in
theorem c_X7_failHere (hb : 38 ≤ b) (hf : fm_at (rx_ln E) bd cn at_ (rx_sg E) (rx_pl E) (rx_rl E) (rx_bt E) M) (hd : ∀ k, bd = some k → k < 2147483648) (hc : cn ≤ 60) (ht : rx_tc E = if bd = none then cn else 0) (hn : rd_nx S ≤ 60) (k : Nat) : sl_R YX7_failHere 1 [.ref b, .int (nI k)] (rg_S b ho gb S M) none (rg_S b ho gb (rd_fh E k S) M) := by
  have hf' : fm_at (rx_ln E) bd cn at_ (rx_sg E) (rx_pl E) (rx_rl E) (rx_bt E) (rg_S b ho gb S M) := ⟨(rg_out (by omega)).trans hf.1, (rg_out (by omega)).trans hf.2.1, (rg_out (by omega)).trans hf.2.2.1, (rg_out (by omega)).trans hf.2.2.2.1, (rg_out (by omega)).trans hf.2.2.2.2⟩
  have hT := c_X1_tokenCount hf' hd
  rw [← ht] at hT
  have htc : rx_tc E ≤ 60 := by rw [ht]; split <;> omega
  obtain ⟨a0, a1, a2, a3, a4⟩ := hf
  refine sl_T.of_V (lv := [_, _, _]) (by decide) rfl (Nat.le_of_ble_eq_true rfl) ?_
  have hx : rd_nx S < rx_tc E → rd_nx S < 60 := fun h => by omega
  refine slv_aload_n eX7_failHere_0 rfl ?_
  refine slv_getf eX7_failHere_1 fX7_77 (by repeat (first | assumption | exact sl_up_eq | refine sl_up_ne (by first | decide | omega) ?_)) rfl ?_
  refine slv_aload_n eX7_failHere_4 rfl ?_
  refine slv_getf eX7_failHere_5 fX7_54 (by repeat (first | assumption | exact sl_up_eq | refine sl_up_ne (by first | decide | omega) ?_)) rfl ?_
  refine slv_rV (As := []) eX7_failHere_8 lX7_104 rfl rfl (by repeat (first | assumption | exact sl_up_eq | refine sl_up_ne (by first | decide | omega) ?_)) rfl hT (by decide) (Nat.le_of_ble_eq_true rfl) ?_
  refine slv_icmp_geN eX7_failHere_11 (by omega) (by omega) (fun h11 => ?_) (fun h11 => ?_)
  · refine slv_iconst (v := nI 0) eX7_failHere_18 (by decide) ?_
    refine slv_istore_n (i := 2) (lv' := [_, _, _]) eX7_failHere_19 rfl (by decide) rfl ?_
    refine slv_aload_n eX7_failHere_20 rfl ?_
    refine slv_iload_n eX7_failHere_21 rfl ?_
    refine slv_iload_n eX7_failHere_22 rfl ?_
    refine slv_if_eq eX7_failHere_23 (fun h23 => ?_) (fun h23 => absurd (by decide) h23)
    refine slv_aload_n eX7_failHere_41 rfl ?_
    refine slv_getf eX7_failHere_42 fX7_54 (by repeat (first | assumption | exact sl_up_eq | refine sl_up_ne (by first | decide | omega) ?_)) rfl ?_
    refine slv_getf eX7_failHere_45 fX7_111 (by repeat (first | assumption | exact sl_up_eq | refine sl_up_ne (by first | decide | omega) ?_)) rfl ?_
    refine slv_rV (As := [_, _]) eX7_failHere_48 lX7_97 rfl rfl (by repeat (first | assumption | exact sl_up_eq | refine sl_up_ne (by first | decide | omega) ?_)) rfl (c_X7_failAt k _) (by decide) (Nat.le_of_ble_eq_true rfl) ?_
    refine slv_vret eX7_failHere_51 rfl ?_
    refine ⟨rfl, ?_⟩
    first | (rw [rd_fh, rd_here, decide_eq_true h11]; rfl) | (rw [rd_fh, rd_here, decide_eq_false (Nat.not_lt.mpr h11)]; rfl)
  · refine slv_iconst (v := nI 1) eX7_failHere_14 (by decide) ?_
    refine slv_goto eX7_failHere_15 ?_
    refine slv_istore_n (i := 2) (lv' := [_, _, _]) eX7_failHere_19 rfl (by decide) rfl ?_
    refine slv_aload_n eX7_failHere_20 rfl ?_
    refine slv_iload_n eX7_failHere_21 rfl ?_
    refine slv_iload_n eX7_failHere_22 rfl ?_
    refine slv_if_eq eX7_failHere_23 (fun h23 => absurd h23 (by decide)) (fun h23 => ?_)
    refine slv_aload_n eX7_failHere_26 rfl ?_
    refine slv_getf eX7_failHere_27 fX7_54 (by repeat (first | assumption | exact sl_up_eq | refine sl_up_ne (by first | decide | omega) ?_)) rfl ?_
    refine slv_getf eX7_failHere_30 fX7_108 (by repeat (first | assumption | exact sl_up_eq | refine sl_up_ne (by first | decide | omega) ?_)) rfl ?_
    refine slv_aload_n eX7_failHere_33 rfl ?_
    refine slv_getf eX7_failHere_34 fX7_77 (by repeat (first | assumption | exact sl_up_eq | refine sl_up_ne (by first | decide | omega) ?_)) rfl ?_
    refine slv_ialdN eX7_failHere_37 (by repeat (first | assumption | exact sl_up_eq | refine sl_up_ne (by first | decide | omega) ?_)) (hx h11) (by decide) ?_
    refine slv_goto eX7_failHere_38 ?_
    refine slv_rV (As := [_, _]) eX7_failHere_48 lX7_97 rfl rfl (by repeat (first | assumption | exact sl_up_eq | refine sl_up_ne (by first | decide | omega) ?_)) rfl (c_X7_failAt k _) (by decide) (Nat.le_of_ble_eq_true rfl) ?_
    refine slv_vret eX7_failHere_51 rfl ?_
    refine ⟨rfl, ?_⟩
    first | (rw [rd_fh, rd_here, decide_eq_true h11]; rfl) | (rw [rd_fh, rd_here, decide_eq_false (Nat.not_lt.mpr h11)]; rfl)

theorem rg_sg (hb : 38 ≤ b) (hg2 : gb = 2 ∨ gb = 10) {g : sg_T} (hg : sg_at gb g M) : sg_at gb g (rg_S b ho gb S M) := by
  obtain ⟨g0, g1, g2, g3, g4, g5, g6, g7⟩ := hg
  exact ⟨(rg_out (by omega)).trans g0, (rg_out (by omega)).trans g1, (rg_out (by omega)).trans g2, (rg_out (by omega)).trans g3, (rg_out (by omega)).trans g4, (rg_out (by omega)).trans g5, (rg_out (by omega)).trans g6, (rg_out (by omega)).trans g7⟩
/-- what a reading reads by lies there -/
def rx_at (b gb : Nat) (E : rx_T) (bd : Option Nat) (cn at_ : Nat) (M : sl_M) : Prop := 38 ≤ b ∧ (gb = 2 ∨ gb = 10) ∧ sg_at gb (rx_g E) M ∧ sg_ok (rx_g E) ∧ fm_at (rx_ln E) bd cn at_ (rx_sg E) (rx_pl E) (rx_rl E) (rx_bt E) M ∧ (∀ k, bd = some k → k < 2147483648) ∧ cn ≤ 60 ∧ rx_tc E = if bd = none then cn else 0
theorem rx_tc60 (h : rx_at b gb E bd cn at_ M) : rx_tc E ≤ 60 := by
  obtain ⟨hb, hg2, hg, hok, hf, hd, hc, ht⟩ := h
  rw [ht]; split <;> omega
theorem rx_fh (h : rx_at b gb E bd cn at_ M) (hn : rd_nx S ≤ 60) (k : Nat) : sl_R YX7_failHere 1 [.ref b, .int (nI k)] (rg_S b ho gb S M) none (rg_S b ho gb (rd_fh E k S) M) := by
  obtain ⟨hb, hg2, hg, hok, hf, hd, hc, ht⟩ := h
  exact c_X7_failHere hb hf hd hc ht hn k
set_option maxRecDepth 100000 in
theorem c_X7_nextTerminal (h : rx_at b gb E bd cn at_ M) (hn : rd_nx S ≤ 60) : sl_R YX7_nextTerminal 1 [.ref b] (rg_S b ho gb S M) (some (.int (sl_io (rd_nt E (rd_nx S))))) (rg_S b ho gb S M) := by
  have htc := rx_tc60 h
  obtain ⟨hb, hg2, hg, hok, hf, hd, hc, ht⟩ := h
  have hf' : fm_at (rx_ln E) bd cn at_ (rx_sg E) (rx_pl E) (rx_rl E) (rx_bt E) (rg_S b ho gb S M) := ⟨(rg_out (by omega)).trans hf.1, (rg_out (by omega)).trans hf.2.1, (rg_out (by omega)).trans hf.2.2.1, (rg_out (by omega)).trans hf.2.2.2.1, (rg_out (by omega)).trans hf.2.2.2.2⟩
  have hT := c_X1_tokenCount hf' hd
  rw [← ht] at hT
  have hg' := rg_sg (ho := ho) (S := S) hb hg2 hg
  have hN := c_X2_terminalNumber hg' hok (nI (rx_sg E (rd_nx S)))
  rw [sl_ff_io] at hN
  obtain ⟨a0, a1, a2, a3, a4⟩ := hf
  obtain ⟨g0, g1, g2, g3, g4, g5, g6, g7⟩ := hg
  refine sl_T.of_V (lv := [_, _]) (by decide) rfl (Nat.le_of_ble_eq_true rfl) ?_
  have hx : rd_nx S < rx_tc E → rd_nx S < 60 := fun h => by omega
  refine slv_aload_n eX7_nextTerminal_0 rfl ?_
  refine slv_getf eX7_nextTerminal_1 fX7_77 (by repeat (first | assumption | exact sl_up_eq | refine sl_up_ne (by first | decide | omega) ?_)) rfl ?_
  refine slv_aload_n eX7_nextTerminal_4 rfl ?_
  refine slv_getf eX7_nextTerminal_5 fX7_54 (by repeat (first | assumption | exact sl_up_eq | refine sl_up_ne (by first | decide | omega) ?_)) rfl ?_
  refine slv_rV (As := []) eX7_nextTerminal_8 lX7_104 rfl rfl (by repeat (first | assumption | exact sl_up_eq | refine sl_up_ne (by first | decide | omega) ?_)) rfl hT (by decide) (Nat.le_of_ble_eq_true rfl) ?_
  refine slv_icmp_geN eX7_nextTerminal_11 (by omega) (by omega) (fun h11 => ?_) (fun h11 => ?_)
  · refine slv_iconst (v := nI 0) eX7_nextTerminal_18 (by decide) ?_
    refine slv_istore_n (i := 1) (lv' := [_, _]) eX7_nextTerminal_19 rfl (by decide) rfl ?_
    refine slv_iload_n eX7_nextTerminal_20 rfl ?_
    refine slv_if_eq eX7_nextTerminal_21 (fun h21 => ?_) (fun h21 => absurd (by decide) h21)
    refine slv_aload_n eX7_nextTerminal_46 rfl ?_
    refine slv_getf eX7_nextTerminal_47 fX7_42 (by repeat (first | assumption | exact sl_up_eq | refine sl_up_ne (by first | decide | omega) ?_)) rfl ?_
    refine slv_getf eX7_nextTerminal_50 fX7_87 (by repeat (first | assumption | exact sl_up_eq | refine sl_up_ne (by first | decide | omega) ?_)) rfl ?_
    refine slv_iret eX7_nextTerminal_53 rfl ?_
    refine ⟨?_, rfl⟩
    first | (rw [rd_nt, decide_eq_true h11]; rfl) | (rw [rd_nt, decide_eq_false (Nat.not_lt.mpr h11)]; rfl)
  · refine slv_iconst (v := nI 1) eX7_nextTerminal_14 (by decide) ?_
    refine slv_goto eX7_nextTerminal_15 ?_
    refine slv_istore_n (i := 1) (lv' := [_, _]) eX7_nextTerminal_19 rfl (by decide) rfl ?_
    refine slv_iload_n eX7_nextTerminal_20 rfl ?_
    refine slv_if_eq eX7_nextTerminal_21 (fun h21 => absurd h21 (by decide)) (fun h21 => ?_)
    refine slv_aload_n eX7_nextTerminal_24 rfl ?_
    refine slv_getf eX7_nextTerminal_25 fX7_42 (by repeat (first | assumption | exact sl_up_eq | refine sl_up_ne (by first | decide | omega) ?_)) rfl ?_
    refine slv_aload_n eX7_nextTerminal_28 rfl ?_
    refine slv_getf eX7_nextTerminal_29 fX7_54 (by repeat (first | assumption | exact sl_up_eq | refine sl_up_ne (by first | decide | omega) ?_)) rfl ?_
    refine slv_getf eX7_nextTerminal_32 fX7_114 (by repeat (first | assumption | exact sl_up_eq | refine sl_up_ne (by first | decide | omega) ?_)) rfl ?_
    refine slv_aload_n eX7_nextTerminal_35 rfl ?_
    refine slv_getf eX7_nextTerminal_36 fX7_77 (by repeat (first | assumption | exact sl_up_eq | refine sl_up_ne (by first | decide | omega) ?_)) rfl ?_
    refine slv_ialdN eX7_nextTerminal_39 (by repeat (first | assumption | exact sl_up_eq | refine sl_up_ne (by first | decide | omega) ?_)) (hx h11) (by decide) ?_
    refine slv_rV (As := [_]) eX7_nextTerminal_40 lX7_117 rfl rfl (by repeat (first | assumption | exact sl_up_eq | refine sl_up_ne (by first | decide | omega) ?_)) rfl hN (by decide) (Nat.le_of_ble_eq_true rfl) ?_
    refine slv_goto eX7_nextTerminal_43 ?_
    refine slv_iret eX7_nextTerminal_53 rfl ?_
    refine ⟨?_, rfl⟩
    first | (rw [rd_nt, decide_eq_true h11]; rfl) | (rw [rd_nt, decide_eq_false (Nat.not_lt.mpr h11)]; rfl)
theorem rd_nt_lt (hok : sg_ok (rx_g E)) {n y : Nat} (h : rd_nt E n = some y) : y ≤ sg_terms (rx_g E) := by
  unfold rd_nt at h
  cases hc : decide (n < rx_tc E) with
  | true =>
    rw [hc] at h
    have := sl_fn_lt _ _ _ h
    omega
  | false =>
    rw [hc] at h
    have := Option.some.inj h
    omega
/-- by the relations -/
def ro_r (s : Nat → Int32) (x y : Nat) : Int32 := s (12 * x + y)
/-- by the functions -/
def ro_f (e : Nat) (nu kn : Nat → Nat) (x y : Nat) : Int32 := cond ((decide (x = e) && !(decide (lk_cp (nu (kn x)) (nu (kn (16 + y))) = 1))) || (decide (y = e) && !(decide (lk_cp (nu (kn x)) (nu (kn (16 + y))) = 4)))) (nI 0) (nI (lk_cp (nu (kn x)) (nu (kn (16 + y)))))
/-- the order's contract -/
def ro_ok (b ho gb : Nat) (o : Nat → Nat → Int32) (M : sl_M) : Prop := ∀ (S : rd_T) (x y : Nat), x < 12 → y < 12 → sl_R YX7_order 2 [.ref b, .int (nI x), .int (nI y)] (rg_S b ho gb S M) (some (.int (o x y))) (rg_S b ho gb S M)
set_option maxRecDepth 100000 in
theorem c_X7_orderR (hb : 38 ≤ b) {e : Nat} {l t s : Nat → Int32} (hr : rl_at e l t s M) : ro_ok b 0 gb (ro_r s) M := by
  intro S x y hx hy
  have hr' : rl_at e l t s (rg_S b 0 gb S M) := by
    obtain ⟨a0, a1, a2, a3⟩ := hr
    exact ⟨(rg_out (by omega)).trans a0, (rg_out (by omega)).trans a1, (rg_out (by omega)).trans a2, (rg_out (by omega)).trans a3⟩
  have h19 := hr.1
  refine sl_T.of_V (lv := [_, _, _, _, _, _]) (by decide) rfl (Nat.le_of_ble_eq_true rfl) ?_
  refine slv_aload_n eX7_order_0 rfl ?_
  refine slv_getf eX7_order_1 fX7_58 (by repeat (first | assumption | exact sl_up_eq | refine sl_up_ne (by first | decide | omega) ?_)) rfl ?_
  refine slv_if_ne eX7_order_4 (fun h4 => absurd (by decide) h4) (fun h4 => ?_)
  refine slv_aload_n eX7_order_7 rfl ?_
  refine slv_getf eX7_order_8 fX7_46 (by repeat (first | assumption | exact sl_up_eq | refine sl_up_ne (by first | decide | omega) ?_)) rfl ?_
  refine slv_iload_n eX7_order_11 rfl ?_
  refine slv_iload_n eX7_order_12 rfl ?_
  refine slv_rV (As := [_, _]) eX7_order_13 lX7_141 rfl rfl (by repeat (first | assumption | exact sl_up_eq | refine sl_up_ne (by first | decide | omega) ?_)) rfl (c_X10_between hr' hx hy) (by decide) (Nat.le_of_ble_eq_true rfl) ?_
  refine slv_iret eX7_order_16 rfl ?_
  exact ⟨rfl, rfl⟩
theorem lk_cp_lt (a c : Nat) : lk_cp a c < 5 := by unfold lk_cp; split <;> (try split) <;> omega
set_option maxRecDepth 100000 in
theorem c_X7_orderF (hb : 38 ≤ b) (hg2 : gb = 2 ∨ gb = 10) {g : sg_T} (hg : sg_at gb g M) (hok : sg_ok g) {rn e : Nat} {rk kn nu ba : Nat → Nat} {ar re : Nat → Int32} (hl : ld_at rn e rk kn ar re nu ba M) (hk : ∀ p, p < 28 → kn p < 28) (hn : ∀ p, p < 28 → nu p < 1000000) : ro_ok b 1 gb (ro_f (sg_terms g) nu kn) M := by
  intro S x y hx hy
  have hl' : ld_at rn e rk kn ar re nu ba (rg_S b 1 gb S M) := by
    obtain ⟨a0, a1, a2, a3, a4, a5, a6⟩ := hl
    exact ⟨(rg_out (by omega)).trans a0, (rg_out (by omega)).trans a1, (rg_out (by omega)).trans a2, (rg_out (by omega)).trans a3, (rg_out (by omega)).trans a4, (rg_out (by omega)).trans a5, (rg_out (by omega)).trans a6⟩
  have h23 := hl.1
  have ht11 : sg_terms g ≤ 11 := hok.2.2.2.1
  obtain ⟨g0, g1, g2, g3, g4, g5, g6, g7⟩ := hg
  have hcp := lk_cp_lt (nu (kn x)) (nu (kn (16 + y)))
  have hC := c_X5_compared hl' hk hn hx hy
  unfold ro_f
  generalize lk_cp (nu (kn x)) (nu (kn (16 + y))) = cp at hcp hC ⊢
  refine sl_T.of_V (lv := [_, _, _, _, _, _]) (by decide) rfl (Nat.le_of_ble_eq_true rfl) ?_
  refine slv_aload_n eX7_order_0 rfl ?_
  refine slv_getf eX7_order_1 fX7_58 (by repeat (first | assumption | exact sl_up_eq | refine sl_up_ne (by first | decide | omega) ?_)) rfl ?_
  refine slv_if_ne eX7_order_4 (fun h4 => ?_) (fun h4 => absurd h4 (by decide))
  refine slv_aload_n eX7_order_17 rfl ?_
  refine slv_getf eX7_order_18 fX7_50 (by repeat (first | assumption | exact sl_up_eq | refine sl_up_ne (by first | decide | omega) ?_)) rfl ?_
  refine slv_iload_n eX7_order_21 rfl ?_
  refine slv_iload_n eX7_order_22 rfl ?_
  refine slv_rV (As := [_, _]) eX7_order_23 lX7_146 rfl rfl (by repeat (first | assumption | exact sl_up_eq | refine sl_up_ne (by first | decide | omega) ?_)) rfl hC (by decide) (Nat.le_of_ble_eq_true rfl) ?_
  refine slv_istore_n (i := 3) (lv' := [_, _, _, _, _, _]) eX7_order_26 rfl (by decide) rfl ?_
  refine slv_aload_n eX7_order_27 rfl ?_
  refine slv_getf eX7_order_28 fX7_42 (by repeat (first | assumption | exact sl_up_eq | refine sl_up_ne (by first | decide | omega) ?_)) rfl ?_
  refine slv_getf eX7_order_31 fX7_87 (by repeat (first | assumption | exact sl_up_eq | refine sl_up_ne (by first | decide | omega) ?_)) rfl ?_
  refine slv_istore (lv' := [_, _, _, _, _, _]) eX7_order_34 (by decide) rfl ?_
  refine slv_iload_n eX7_order_36 rfl ?_
  refine slv_iload eX7_order_37 rfl ?_
  refine slv_icmp_neN eX7_order_39 (by omega) (by omega) (fun h39 => ?_) (fun h39 => ?_)
  · refine slv_iload_n eX7_order_47 rfl ?_
    refine slv_iload eX7_order_48 rfl ?_
    refine slv_icmp_neN eX7_order_50 (by omega) (by omega) (fun h50 => ?_) (fun h50 => ?_)
    · refine slv_iconst (v := nI 0) eX7_order_62 (by decide) ?_
      refine slv_istore (lv' := [_, _, _, _, _, _]) eX7_order_63 (by decide) rfl ?_
      refine slv_iload eX7_order_65 rfl ?_
      refine slv_if_eq eX7_order_67 (fun h67 => ?_) (fun h67 => absurd (by decide) h67)
      refine slv_iload_n eX7_order_74 rfl ?_
      refine slv_iret eX7_order_75 rfl ?_
      refine ⟨?_, rfl⟩
      first | (exfalso; omega) | (simp only [*, decide_true, decide_false, Bool.true_and, Bool.false_and, Bool.not_true, Bool.not_false, Bool.true_or, Bool.or_true, Bool.or_false, Bool.false_or, cond_true, cond_false, ne_eq, not_false_eq_true, not_true_eq_false] at *; done) | (simp only [*, decide_true, decide_false, Bool.true_and, Bool.false_and, Bool.not_true, Bool.not_false, Bool.true_or, Bool.or_true, Bool.or_false, Bool.false_or, cond_true, cond_false, ne_eq, not_false_eq_true, not_true_eq_false] at *; rfl)
    · refine slv_iload_n eX7_order_53 rfl ?_
      refine slv_iconst (v := nI 4) eX7_order_54 (by decide) ?_
      refine slv_icmp_eqN eX7_order_55 (by omega) (by omega) (fun h55 => ?_) (fun h55 => ?_)
      · refine slv_iconst (v := nI 0) eX7_order_62 (by decide) ?_
        refine slv_istore (lv' := [_, _, _, _, _, _]) eX7_order_63 (by decide) rfl ?_
        refine slv_iload eX7_order_65 rfl ?_
        refine slv_if_eq eX7_order_67 (fun h67 => ?_) (fun h67 => absurd (by decide) h67)
        refine slv_iload_n eX7_order_74 rfl ?_
        refine slv_iret eX7_order_75 rfl ?_
        refine ⟨?_, rfl⟩
        first | (exfalso; omega) | (simp only [*, decide_true, decide_false, Bool.true_and, Bool.false_and, Bool.not_true, Bool.not_false, Bool.true_or, Bool.or_true, Bool.or_false, Bool.false_or, cond_true, cond_false, ne_eq, not_false_eq_true, not_true_eq_false] at *; done) | (simp only [*, decide_true, decide_false, Bool.true_and, Bool.false_and, Bool.not_true, Bool.not_false, Bool.true_or, Bool.or_true, Bool.or_false, Bool.false_or, cond_true, cond_false, ne_eq, not_false_eq_true, not_true_eq_false] at *; rfl)
      · refine slv_iconst (v := nI 1) eX7_order_58 (by decide) ?_
        refine slv_goto eX7_order_59 ?_
        refine slv_istore (lv' := [_, _, _, _, _, _]) eX7_order_63 (by decide) rfl ?_
        refine slv_iload eX7_order_65 rfl ?_
        refine slv_if_eq eX7_order_67 (fun h67 => absurd h67 (by decide)) (fun h67 => ?_)
        refine slv_iconst (v := nI 0) eX7_order_70 (by decide) ?_
        refine slv_goto eX7_order_71 ?_
        refine slv_iret eX7_order_75 rfl ?_
        refine ⟨?_, rfl⟩
        first | (exfalso; omega) | (simp only [*, decide_true, decide_false, Bool.true_and, Bool.false_and, Bool.not_true, Bool.not_false, Bool.true_or, Bool.or_true, Bool.or_false, Bool.false_or, cond_true, cond_false, ne_eq, not_false_eq_true, not_true_eq_false] at *; done) | (simp only [*, decide_true, decide_false, Bool.true_and, Bool.false_and, Bool.not_true, Bool.not_false, Bool.true_or, Bool.or_true, Bool.or_false, Bool.false_or, cond_true, cond_false, ne_eq, not_false_eq_true, not_true_eq_false] at *; rfl)
  · refine slv_iload_n eX7_order_42 rfl ?_
    refine slv_iconst (v := nI 1) eX7_order_43 (by decide) ?_
    refine slv_icmp_neN eX7_order_44 (by omega) (by omega) (fun h44 => ?_) (fun h44 => ?_)
    · refine slv_iconst (v := nI 1) eX7_order_58 (by decide) ?_
      refine slv_goto eX7_order_59 ?_
      refine slv_istore (lv' := [_, _, _, _, _, _]) eX7_order_63 (by decide) rfl ?_
      refine slv_iload eX7_order_65 rfl ?_
      refine slv_if_eq eX7_order_67 (fun h67 => absurd h67 (by decide)) (fun h67 => ?_)
      refine slv_iconst (v := nI 0) eX7_order_70 (by decide) ?_
      refine slv_goto eX7_order_71 ?_
      refine slv_iret eX7_order_75 rfl ?_
      refine ⟨?_, rfl⟩
      first | (exfalso; omega) | (simp only [*, decide_true, decide_false, Bool.true_and, Bool.false_and, Bool.not_true, Bool.not_false, Bool.true_or, Bool.or_true, Bool.or_false, Bool.false_or, cond_true, cond_false, ne_eq, not_false_eq_true, not_true_eq_false] at *; done) | (simp only [*, decide_true, decide_false, Bool.true_and, Bool.false_and, Bool.not_true, Bool.not_false, Bool.true_or, Bool.or_true, Bool.or_false, Bool.false_or, cond_true, cond_false, ne_eq, not_false_eq_true, not_true_eq_false] at *; rfl)
    · refine slv_iload_n eX7_order_47 rfl ?_
      refine slv_iload eX7_order_48 rfl ?_
      refine slv_icmp_neN eX7_order_50 (by omega) (by omega) (fun h50 => ?_) (fun h50 => ?_)
      · refine slv_iconst (v := nI 0) eX7_order_62 (by decide) ?_
        refine slv_istore (lv' := [_, _, _, _, _, _]) eX7_order_63 (by decide) rfl ?_
        refine slv_iload eX7_order_65 rfl ?_
        refine slv_if_eq eX7_order_67 (fun h67 => ?_) (fun h67 => absurd (by decide) h67)
        refine slv_iload_n eX7_order_74 rfl ?_
        refine slv_iret eX7_order_75 rfl ?_
        refine ⟨?_, rfl⟩
        first | (exfalso; omega) | (simp only [*, decide_true, decide_false, Bool.true_and, Bool.false_and, Bool.not_true, Bool.not_false, Bool.true_or, Bool.or_true, Bool.or_false, Bool.false_or, cond_true, cond_false, ne_eq, not_false_eq_true, not_true_eq_false] at *; done) | (simp only [*, decide_true, decide_false, Bool.true_and, Bool.false_and, Bool.not_true, Bool.not_false, Bool.true_or, Bool.or_true, Bool.or_false, Bool.false_or, cond_true, cond_false, ne_eq, not_false_eq_true, not_true_eq_false] at *; rfl)
      · refine slv_iload_n eX7_order_53 rfl ?_
        refine slv_iconst (v := nI 4) eX7_order_54 (by decide) ?_
        refine slv_icmp_eqN eX7_order_55 (by omega) (by omega) (fun h55 => ?_) (fun h55 => ?_)
        · refine slv_iconst (v := nI 0) eX7_order_62 (by decide) ?_
          refine slv_istore (lv' := [_, _, _, _, _, _]) eX7_order_63 (by decide) rfl ?_
          refine slv_iload eX7_order_65 rfl ?_
          refine slv_if_eq eX7_order_67 (fun h67 => ?_) (fun h67 => absurd (by decide) h67)
          refine slv_iload_n eX7_order_74 rfl ?_
          refine slv_iret eX7_order_75 rfl ?_
          refine ⟨?_, rfl⟩
          first | (exfalso; omega) | (simp only [*, decide_true, decide_false, Bool.true_and, Bool.false_and, Bool.not_true, Bool.not_false, Bool.true_or, Bool.or_true, Bool.or_false, Bool.false_or, cond_true, cond_false, ne_eq, not_false_eq_true, not_true_eq_false] at *; done) | (simp only [*, decide_true, decide_false, Bool.true_and, Bool.false_and, Bool.not_true, Bool.not_false, Bool.true_or, Bool.or_true, Bool.or_false, Bool.false_or, cond_true, cond_false, ne_eq, not_false_eq_true, not_true_eq_false] at *; rfl)
        · refine slv_iconst (v := nI 1) eX7_order_58 (by decide) ?_
          refine slv_goto eX7_order_59 ?_
          refine slv_istore (lv' := [_, _, _, _, _, _]) eX7_order_63 (by decide) rfl ?_
          refine slv_iload eX7_order_65 rfl ?_
          refine slv_if_eq eX7_order_67 (fun h67 => absurd h67 (by decide)) (fun h67 => ?_)
          refine slv_iconst (v := nI 0) eX7_order_70 (by decide) ?_
          refine slv_goto eX7_order_71 ?_
          refine slv_iret eX7_order_75 rfl ?_
          refine ⟨?_, rfl⟩
          first | (exfalso; omega) | (simp only [*, decide_true, decide_false, Bool.true_and, Bool.false_and, Bool.not_true, Bool.not_false, Bool.true_or, Bool.or_true, Bool.or_false, Bool.false_or, cond_true, cond_false, ne_eq, not_false_eq_true, not_true_eq_false] at *; done) | (simp only [*, decide_true, decide_false, Bool.true_and, Bool.false_and, Bool.not_true, Bool.not_false, Bool.true_or, Bool.or_true, Bool.or_false, Bool.false_or, cond_true, cond_false, ne_eq, not_false_eq_true, not_true_eq_false] at *; rfl)
end RDG

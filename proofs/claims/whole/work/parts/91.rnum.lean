/-! the reference's numbers -/
section LWF
variable {Y : sl_Y} {X : Option (Nat × (Nat → Int32))} {d kc ks idx : Nat} {Q : Option Value → sl_M → Prop} {pc q : Nat} {lv : List (Option Value)} {st : List Value} {M : sl_M}
theorem st_ldcwf {p : Program} {l : Launch} {e : Env} {R : Room} {s : State} {m : MethodId} {args : Array Value} {below : List Frame} {meth : Method} {c : Code} {T : State} {locs : List Loc} {cells slots : Nat}
    (X : Stand p l e R s m args below meth c T locs cells slots) (hexec : p.tables.exec = Jvm.exec) {own : String} {index : Nat} {b : UInt32} (hown : s.vm.findClass own = some m.cls)
    (hconst : (Cond.constantFloat own index b).before args s = true) {g : JFrame} (hg : g.method = m) (hdg : decode c.code g.pc = .ok (.ldc_w index, 3)) :
    ∀ target, Steps p.tables e below (T.setTop { g with pc := g.pc + 3, stack := .float b :: g.stack }) target → Steps p.tables e below (T.setTop g) target := by
  obtain ⟨k, cf, hk, hcf, hcp⟩ := Cond.constantFloat_spec hown hconst
  obtain ⟨k', hk', he⟩ := X.warmed.alike.2.2 _ _ hk
  intro target hrest
  subst hg
  jvm_step X.here [hexec, hdg, ldc_w.wp_float (s := T) (f := g) X.here.top hk' (by rw [he]; exact hcf) hcp]
  exact hrest
theorem slv_ldcwf {i : Nat} {v : UInt32} (h : sl_D Y pc (.ldc_w i) 3 q) (w : Cond.constantFloat Y.1.cls i v ∈ sl_g) (kk : sl_V Y X d kc ks Q q lv (.float v :: st) M) : sl_V Y X d kc ks Q pc lv st M := by
  obtain ⟨h, rfl⟩ := h
  intro p l e R s m args below meth c H locs cells slots mc ms D dA ad ad0 n n0 A d0 ls C
  intro T hT X0
  obtain ⟨t, a1, b1⟩ := kk p l e R s m args below meth c H locs cells slots mc ms D dA ad ad0 n n0 A d0 ls C T hT X0
  exact ⟨t, st_ldcwf X0 C.1.1 C.1.2.2.2.2.2.1 (dr_words C.1.2.2.2.2.2.2.1 d0 _ w) (g := F0 m pc ls (st.map (sl_v ad))) rfl (by rw [C.1.2.1]; exact h) t a1, b1⟩
end LWF
theorem dv_nan (x : Int32) (p : Nat) : isNaN32 (FP.fdiv (FP.i2f x) (rr_ten p)) = false := by
  have h := FP.Core.fdiv_out (a := FP.Core.i2f x) (b := rr_ten p) (FP.Core.FFin.notNaN (FP.Core.i2f_fin x)) (by
    rw [FP.Core.fin_bits32]
    unfold rr_ten
    split
    · decide
    · split <;> decide) (by
    rw [FP.Core.zero_bits232]
    unfold rr_ten
    split
    · decide
    · split <;> decide)
  cases hq : isNaN32 (FP.fdiv (FP.i2f x) (rr_ten p)) with
  | false => rfl
  | true =>
    have := (FP.Core.fIsNaN_iff _).mpr ((nan_val _).mp hq)
    rw [show FP.Core.fIsNaN (FP.fdiv (FP.i2f x) (rr_ten p)) = false from h] at this
    cases this
theorem fm_db_add {f : Nat → Int32} {ln : Nat} (m : Nat) : ∀ (n i a : Nat), fm_db f ln (n + m) i a = fm_db f ln m (i + n) (fm_db f ln n i a) := by
  intro n
  induction n with
  | zero => intro i a; rw [Nat.zero_add]; rfl
  | succ n ih =>
    intro i a
    rw [show n + 1 + m = (n + m) + 1 by omega, fm_db, ih, fm_db, show i + 1 + n = i + (n + 1) by omega]
def sn_to (t : Nat) (a a' : Nat → Nat → Int32) : Prop := (∀ k, k ∉ [48, 49] → a' k = a k) ∧ ∀ j, j ≠ t → a' 48 j = a 48 j ∧ a' 49 j = a 49 j
section RNM
variable {v : Nat → Int32} {w : Int64} {a : Nat → Nat → Int32} {nm : Nat → Int64} {M : sl_M} {f : Nat → Int32} {ln : Nat} {g : sg_T}
theorem in_13 {n : Nat} (h : n ≤ 900) : (decide (nI 1 ≤ nI n) && decide (nI n ≤ nI 3)) = (decide (1 ≤ n) && decide (n ≤ 3)) := by
  have : ∀ n, n < 901 → (decide (nI 1 ≤ nI n) && decide (nI n ≤ nI 3)) = (decide (1 ≤ n) && decide (n ≤ 3)) := by decide +kernel
  exact this n (by omega)
set_option maxRecDepth 100000 in
theorem c_X12_scansNumber (h27 : a 27 = f) (h29 : v 29 = nI ln) (hl : ln ≤ 900) {t s : Nat} (ht : t < 60) (htk : v 50 = nI t) (hs : s ≤ ln) : sl_T YX12_scansNumber 2 0 0 (fun r M' => r = some (.int (if fo_bad f ln s = true then -1 else nI (fo_b f ln s))) ∧ ∃ a', M' = rf_S v w a' nm M ∧ sn_to t a a' ∧ (fo_bad f ln s = false → a' 48 t = fo_v f ln s ∧ a' 49 t = sl_bi (fo_r f ln s))) [.ref 68, .int (nI s)] (rf_S v w a nm M) := by
  refine sl_T.of_V (lv := [_, _, _, _, _, _]) (by decide) rfl (Nat.le_of_ble_eq_true rfl) ?_
  refine slv_iload_n eX12_scansNumber_0 rfl ?_
  refine slv_istore_n (i := 2) (lv' := [_, _, _, _, _, _]) eX12_scansNumber_1 rfl (by decide) rfl ?_
  refine slv_iconst (v := nI 0) eX12_scansNumber_2 (by decide) ?_
  refine slv_istore_n (i := 3) (lv' := [_, _, _, _, _, _]) eX12_scansNumber_3 rfl (by decide) rfl ?_
  refine sn_L1 h27 h29 hl (ln - s) s 0 (by omega) (by omega) _ (fun acc hacc => ?_)
  have hp : fm_de f ln (ln - s) s = fo_p f ln s := rfl
  have hpl := fm_de_ge (f := f) (ln := ln) (i := s) (n := ln - s) (by omega)
  rw [hp] at hacc hpl ⊢
  have hR : fo_r f ln s = (decide (fo_p f ln s < ln) && decide (by_ f (fo_p f ln s) = 46)) := rfl
  have hb : fo_b f ln s = cond (fo_r f ln s) (fm_de f ln (ln - (fo_p f ln s + 1)) (fo_p f ln s + 1)) (fo_p f ln s) := rfl
  have hn : fo_n f ln s = cond (fo_r f ln s) (fo_b f ln s - fo_p f ln s - 1) 0 := rfl
  have hbad : fo_bad f ln s = (decide (4 < fo_p f ln s - s) || (decide (3 < fo_n f ln s) || (fo_r f ln s && decide (fo_n f ln s = 0)))) := rfl
  have hv : fo_v f ln s = cond (fo_r f ln s) (FP.fdiv (FP.i2f (nI (fm_db f ln (fo_b f ln s - s) s 0))) (rr_ten (fo_n f ln s))).toInt32 (nI (fm_db f ln (fo_b f ln s - s) s 0)) := rfl
  have hB := c_X12_byteAt (w := w) (nm := nm) (M := M) (k := fo_p f ln s) h27 h29 hl (by omega)
  generalize fo_p f ln s = p at *
  by_cases h4 : 4 < p - s
  · rw [decide_eq_true h4, Bool.true_or] at hbad
    refine slv_iload_n eX12_scansNumber_40 rfl ?_
    refine slv_iload_n eX12_scansNumber_41 rfl ?_
    refine slv_isubN eX12_scansNumber_42 (by omega) ?_
    refine slv_iconst (v := nI 4) eX12_scansNumber_43 (by decide) ?_
    refine slv_icmp_leN eX12_scansNumber_44 (by omega) (by omega) (fun h44 => absurd h44 (by omega)) (fun h44 => ?_)
    refine slv_iconst (v := (-1)) eX12_scansNumber_47 (by decide) ?_
    refine slv_iret eX12_scansNumber_48 rfl ?_
    rw [hbad]
    exact ⟨rfl, a, rfl, ⟨fun _ _ => rfl, fun _ _ => ⟨rfl, rfl⟩⟩, fun q => by cases q⟩
  · rw [decide_eq_false h4, Bool.false_or] at hbad
    have hacc := hacc (by omega)
    have hB' := fun X Y => c_X12_byteAt (v := v) (a := sl_u (sl_u a 48 X) 49 Y) (w := w) (nm := nm) (M := M) (k := p) h27 h29 hl (by omega)
    have hB1 := fun X => c_X12_byteAt (v := v) (a := sl_u a 48 X) (w := w) (nm := nm) (M := M) (k := p) h27 h29 hl (by omega)
    cases hr : fo_r f ln s with
    | false =>
      rw [hr] at hb hn hbad hv hR
      rw [cond_false] at hb hn hv
      rw [hn] at hbad
      have hne : (if p < ln then nI (by_ f p) else -1) ≠ nI 46 := by
        by_cases q : p < ln
        · rw [if_pos q]
          rw [decide_eq_true q, Bool.true_and] at hR
          intro e
          have hby := by_lt f p
          exact of_decide_eq_false hR.symm ((nI_inj (by omega) (by omega)).mp e)
        · rw [if_neg q]; decide
      refine slv_iload_n eX12_scansNumber_40 rfl ?_
      refine slv_iload_n eX12_scansNumber_41 rfl ?_
      refine slv_isubN eX12_scansNumber_42 (by omega) ?_
      refine slv_iconst (v := nI 4) eX12_scansNumber_43 (by decide) ?_
      refine slv_icmp_leN eX12_scansNumber_44 (by omega) (by omega) (fun h44 => ?_) (fun h44 => absurd h44 (by omega))
      refine slv_aload_n eX12_scansNumber_49 rfl ?_
      refine slr_ga (p := 94) eX12_scansNumber_50 fX12_92 rfl ?_
      refine slv_aload_n eX12_scansNumber_53 rfl ?_
      refine slr_gi eX12_scansNumber_54 fX12_417 rfl (by repeat (first | exact sl_u_eq | assumption | apply rf_ne (by decide) | exact rfl)) ?_
      refine slv_iload_n eX12_scansNumber_57 rfl ?_
      refine slr_iastX (k := 48) (p := 94) (len := 61) eX12_scansNumber_58 rfl (by repeat (first | exact sl_u_eq | assumption | apply rf_ne (by decide) | exact rfl)) (by omega) (by decide) (rf_t48 _ _ _ _ _) ?_
      refine slv_aload_n eX12_scansNumber_59 rfl ?_
      refine slr_ga (p := 95) eX12_scansNumber_60 fX12_95 rfl ?_
      refine slv_aload_n eX12_scansNumber_63 rfl ?_
      refine slr_gi eX12_scansNumber_64 fX12_417 rfl (by repeat (first | exact sl_u_eq | assumption | apply rf_ne (by decide) | exact rfl)) ?_
      refine slv_aload_n eX12_scansNumber_67 rfl ?_
      refine slv_iload_n eX12_scansNumber_68 rfl ?_
      refine slv_rV (As := [_]) eX12_scansNumber_69 lX12_171 rfl rfl rf_68 rfl (hB1 _) (by decide) (Nat.le_of_ble_eq_true rfl) ?_
      refine slv_bipush (v := nI 46) eX12_scansNumber_72 (by decide) ?_
      refine slv_icmp_ne eX12_scansNumber_74 (fun h74 => ?_) (fun h74 => absurd h74 hne)
      refine slv_iconst (v := nI 0) eX12_scansNumber_81 (by decide) ?_
      refine slr_zastX (k := 49) (p := 95) (len := 61) eX12_scansNumber_82 rfl (by repeat (first | exact sl_u_eq | assumption | apply rf_ne (by decide) | exact rfl)) (by omega) (by decide) (sl_nar_bi false) (rf_t49 _ _ _ _ _) ?_
      refine slv_aload_n eX12_scansNumber_83 rfl ?_
      refine slr_ga (p := 95) eX12_scansNumber_84 fX12_95 rfl ?_
      refine slv_aload_n eX12_scansNumber_87 rfl ?_
      refine slr_gi eX12_scansNumber_88 fX12_417 rfl (by repeat (first | exact sl_u_eq | assumption | apply rf_ne (by decide) | exact rfl)) ?_
      refine slr_zaldX (k := 49) (p := 95) (len := 61) eX12_scansNumber_91 rfl (by repeat (first | exact sl_u_eq | assumption | apply rf_ne (by decide) | exact rfl)) (by omega) (by decide) sl_u_eq ?_
      refine slv_if_neB eX12_scansNumber_92 (fun h92 => absurd h92 (by decide)) (fun h92 => ?_)
      refine slv_iload_n eX12_scansNumber_95 rfl ?_
      refine slv_iret eX12_scansNumber_96 rfl ?_
      rw [hbad, hb]
      refine ⟨rfl, _, rfl, ⟨fun k hk => ?_, fun j hj => ⟨sl_u_ne hj, sl_u_ne hj⟩⟩, fun _ => ⟨?_, sl_u_eq⟩⟩
      · rw [sl_u_ne (fun e => hk (by rw [e]; decide)), sl_u_ne (fun e => hk (by rw [e]; decide))]
      · rw [hv, hb, ← hacc]
        exact sl_u_eq
    | true =>
      rw [hr] at hb hn hbad hv hR
      rw [cond_true] at hb hn hv
      rw [Bool.true_and] at hbad
      have hR' := hR.symm
      rw [Bool.and_eq_true] at hR'
      have q1 := of_decide_eq_true hR'.1
      have q2 := of_decide_eq_true hR'.2
      have hB2 := fun X => hB1 X
      rw [if_pos q1, q2] at hB2
      have hge := fm_de_ge (f := f) (ln := ln) (i := p + 1) (n := ln - (p + 1)) (by omega)
      have hnd : fm_dg f ln p = false := by unfold fm_dg; rw [q2]; simp
      refine slv_iload_n eX12_scansNumber_40 rfl ?_
      refine slv_iload_n eX12_scansNumber_41 rfl ?_
      refine slv_isubN eX12_scansNumber_42 (by omega) ?_
      refine slv_iconst (v := nI 4) eX12_scansNumber_43 (by decide) ?_
      refine slv_icmp_leN eX12_scansNumber_44 (by omega) (by omega) (fun h44 => ?_) (fun h44 => absurd h44 (by omega))
      refine slv_aload_n eX12_scansNumber_49 rfl ?_
      refine slr_ga (p := 94) eX12_scansNumber_50 fX12_92 rfl ?_
      refine slv_aload_n eX12_scansNumber_53 rfl ?_
      refine slr_gi eX12_scansNumber_54 fX12_417 rfl (by repeat (first | exact sl_u_eq | assumption | apply rf_ne (by decide) | exact rfl)) ?_
      refine slv_iload_n eX12_scansNumber_57 rfl ?_
      refine slr_iastX (k := 48) (p := 94) (len := 61) eX12_scansNumber_58 rfl (by repeat (first | exact sl_u_eq | assumption | apply rf_ne (by decide) | exact rfl)) (by omega) (by decide) (rf_t48 _ _ _ _ _) ?_
      refine slv_aload_n eX12_scansNumber_59 rfl ?_
      refine slr_ga (p := 95) eX12_scansNumber_60 fX12_95 rfl ?_
      refine slv_aload_n eX12_scansNumber_63 rfl ?_
      refine slr_gi eX12_scansNumber_64 fX12_417 rfl (by repeat (first | exact sl_u_eq | assumption | apply rf_ne (by decide) | exact rfl)) ?_
      refine slv_aload_n eX12_scansNumber_67 rfl ?_
      refine slv_iload_n eX12_scansNumber_68 rfl ?_
      refine slv_rV (As := [_]) eX12_scansNumber_69 lX12_171 rfl rfl rf_68 rfl (hB2 _) (by decide) (Nat.le_of_ble_eq_true rfl) ?_
      refine slv_bipush (v := nI 46) eX12_scansNumber_72 (by decide) ?_
      refine slv_icmp_ne eX12_scansNumber_74 (fun h74 => absurd rfl h74) (fun h74 => ?_)
      refine slv_iconst (v := nI 1) eX12_scansNumber_77 (by decide) ?_
      refine slv_goto eX12_scansNumber_78 ?_
      refine slr_zastX (k := 49) (p := 95) (len := 61) eX12_scansNumber_82 rfl (by repeat (first | exact sl_u_eq | assumption | apply rf_ne (by decide) | exact rfl)) (by omega) (by decide) (sl_nar_bi true) (rf_t49 _ _ _ _ _) ?_
      refine slv_aload_n eX12_scansNumber_83 rfl ?_
      refine slr_ga (p := 95) eX12_scansNumber_84 fX12_95 rfl ?_
      refine slv_aload_n eX12_scansNumber_87 rfl ?_
      refine slr_gi eX12_scansNumber_88 fX12_417 rfl (by repeat (first | exact sl_u_eq | assumption | apply rf_ne (by decide) | exact rfl)) ?_
      refine slr_zaldX (k := 49) (p := 95) (len := 61) eX12_scansNumber_91 rfl (by repeat (first | exact sl_u_eq | assumption | apply rf_ne (by decide) | exact rfl)) (by omega) (by decide) sl_u_eq ?_
      refine slv_if_neB eX12_scansNumber_92 (fun h92 => ?_) (fun h92 => absurd h92 (by decide))
      refine slv_iload_n eX12_scansNumber_97 rfl ?_
      refine slv_istore (lv' := [_, _, _, _, _, _]) eX12_scansNumber_98 (by decide) rfl ?_
      refine slv_iincN (lv' := [_, _, _, _, _, _]) eX12_scansNumber_100 rfl (by decide) rfl ?_
      refine sn_L2 (a := sl_u (sl_u a 48 (sl_u (a 48) t (nI acc))) 49 (sl_u (a 49) t (sl_bi true))) (p := p) h27 h29 hl (ln - (p + 1)) (p + 1) acc (by omega) (by omega) _ (fun acc2 hacc2 => ?_)
      rw [← hb] at hacc2 hge ⊢
      have hI := c_X12_in (rf_S v w (sl_u (sl_u a 48 (sl_u (a 48) t (nI acc))) 49 (sl_u (a 49) t (sl_bi true))) nm M) (nI (fo_b f ln s - p - 1)) (nI 1) (nI 3)
      rw [in_13 (by omega)] at hI
      have hal : fm_db f ln (fo_b f ln s - s) s 0 = fm_db f ln (fo_b f ln s - (p + 1)) (p + 1) acc := by
        rw [show fo_b f ln s - s = (p - s) + ((fo_b f ln s - (p + 1)) + 1) by omega, fm_db_add, ← hacc, show s + (p - s) = p by omega, fm_db, hnd, cond_false]
      by_cases hok : 1 ≤ fo_b f ln s - p - 1 ∧ fo_b f ln s - p - 1 ≤ 3
      · rw [decide_eq_true hok.1, decide_eq_true hok.2] at hI
        rw [decide_eq_false (show ¬ 3 < fo_n f ln s by omega), decide_eq_false (show ¬ fo_n f ln s = 0 by omega)] at hbad
        have hacc2 := hacc2 (by omega)
        have fin : ∀ (r : UInt32) (q : Nat), fo_n f ln s = q → alike32 r (FP.fdiv (FP.i2f (nI acc2)) (rr_ten q)) = true → fl_b r = fo_v f ln s := by
          intro r q e h
          rw [fl_b_alike h, hv, hal, ← hacc2, e]
          unfold fl_b
          rw [dv_nan]
          rfl
        have fin2 : ∀ r : UInt32, fl_b r = fo_v f ln s → some (Value.int (nI (fo_b f ln s))) = some (Value.int (if fo_bad f ln s = true then -1 else nI (fo_b f ln s))) ∧ ∃ a', rf_S v w (sl_u (sl_u (sl_u a 48 (sl_u (a 48) t (nI acc))) 49 (sl_u (a 49) t (sl_bi true))) 48 (sl_u (sl_u (a 48) t (nI acc)) t (fl_b r))) nm M = rf_S v w a' nm M ∧ sn_to t a a' ∧ (fo_bad f ln s = false → a' 48 t = fo_v f ln s ∧ a' 49 t = sl_bi true) := by
          intro r hrv
          rw [hbad]
          refine ⟨rfl, _, rfl, ⟨fun k hk => ?_, fun j hj => ⟨(sl_u_ne hj).trans (sl_u_ne hj), sl_u_ne hj⟩⟩, fun _ => ⟨?_, sl_u_eq⟩⟩
          · rw [sl_u_ne (fun e => hk (by rw [e]; decide)), sl_u_ne (fun e => hk (by rw [e]; decide)), sl_u_ne (fun e => hk (by rw [e]; decide))]
          · rw [← hrv]
            exact sl_u_eq
        rcases (show fo_b f ln s - p - 1 = 1 ∨ fo_b f ln s - p - 1 = 2 ∨ fo_b f ln s - p - 1 = 3 by omega) with q | q | q
        · have fin' := fun r => fin r 1 (hn.trans q)
          rw [q] at hI
          refine slv_iload_n eX12_scansNumber_139 rfl ?_
          refine slv_iload eX12_scansNumber_140 rfl ?_
          refine slv_isubN eX12_scansNumber_142 (by omega) ?_
          refine slv_iconst (v := nI 1) eX12_scansNumber_143 (by decide) ?_
          refine slv_isubN eX12_scansNumber_144 (by omega) ?_
          refine slv_top (w := .int (nI 1)) (by rw [q]) ?_
          refine slv_istore (lv' := [_, _, _, _, _, _]) eX12_scansNumber_145 (by decide) rfl ?_
          refine slv_iload eX12_scansNumber_147 rfl ?_
          refine slv_iconst (v := nI 1) eX12_scansNumber_149 (by decide) ?_
          refine slv_iconst (v := nI 3) eX12_scansNumber_150 (by decide) ?_
          refine slv_rS (As := [_, _, _]) eX12_scansNumber_151 lX12_180 rfl rfl hI (by decide) (Nat.le_of_ble_eq_true rfl) ?_
          refine slv_if_neB eX12_scansNumber_154 (fun h154 => ?_) (fun h154 => absurd h154 (by decide))
          refine slv_aload_n eX12_scansNumber_159 rfl ?_
          refine slr_ga (p := 94) eX12_scansNumber_160 fX12_92 rfl ?_
          refine slv_aload_n eX12_scansNumber_163 rfl ?_
          refine slr_gi eX12_scansNumber_164 fX12_417 rfl (by repeat (first | exact sl_u_eq | assumption | apply rf_ne (by decide) | exact rfl)) ?_
          refine slv_iload_n eX12_scansNumber_167 rfl ?_
          refine slv_i2f eX12_scansNumber_168 ?_
          refine slv_iload eX12_scansNumber_169 rfl ?_
          refine slv_iconst (v := nI 1) eX12_scansNumber_171 (by decide) ?_
          refine slv_icmp_neN eX12_scansNumber_172 (by omega) (by omega) (fun h172 => absurd h172 (by omega)) (fun h172 => ?_)
          refine slv_ldcwf eX12_scansNumber_175 kX12_429 ?_
          refine slv_goto eX12_scansNumber_178 ?_
          refine slv_fdiv eX12_scansNumber_196 (fun r196 a196 => ?_)
          refine slv_rS (As := [_]) eX12_scansNumber_197 lX12_432 rfl rfl (c_fbits _ r196) (by decide) (Nat.le_of_ble_eq_true rfl) ?_
          refine slr_iastX (k := 48) (p := 94) (len := 61) eX12_scansNumber_200 rfl (by repeat (first | exact sl_u_eq | assumption | apply rf_ne (by decide) | exact rfl)) (by omega) (by decide) (rf_t48 _ _ _ _ _) ?_
          refine slv_iload_n eX12_scansNumber_201 rfl ?_
          refine slv_iret eX12_scansNumber_202 rfl ?_
          exact fin2 r196 (fin' r196 a196)
        · have fin' := fun r => fin r 2 (hn.trans q)
          rw [q] at hI
          refine slv_iload_n eX12_scansNumber_139 rfl ?_
          refine slv_iload eX12_scansNumber_140 rfl ?_
          refine slv_isubN eX12_scansNumber_142 (by omega) ?_
          refine slv_iconst (v := nI 1) eX12_scansNumber_143 (by decide) ?_
          refine slv_isubN eX12_scansNumber_144 (by omega) ?_
          refine slv_top (w := .int (nI 2)) (by rw [q]) ?_
          refine slv_istore (lv' := [_, _, _, _, _, _]) eX12_scansNumber_145 (by decide) rfl ?_
          refine slv_iload eX12_scansNumber_147 rfl ?_
          refine slv_iconst (v := nI 1) eX12_scansNumber_149 (by decide) ?_
          refine slv_iconst (v := nI 3) eX12_scansNumber_150 (by decide) ?_
          refine slv_rS (As := [_, _, _]) eX12_scansNumber_151 lX12_180 rfl rfl hI (by decide) (Nat.le_of_ble_eq_true rfl) ?_
          refine slv_if_neB eX12_scansNumber_154 (fun h154 => ?_) (fun h154 => absurd h154 (by decide))
          refine slv_aload_n eX12_scansNumber_159 rfl ?_
          refine slr_ga (p := 94) eX12_scansNumber_160 fX12_92 rfl ?_
          refine slv_aload_n eX12_scansNumber_163 rfl ?_
          refine slr_gi eX12_scansNumber_164 fX12_417 rfl (by repeat (first | exact sl_u_eq | assumption | apply rf_ne (by decide) | exact rfl)) ?_
          refine slv_iload_n eX12_scansNumber_167 rfl ?_
          refine slv_i2f eX12_scansNumber_168 ?_
          refine slv_iload eX12_scansNumber_169 rfl ?_
          refine slv_iconst (v := nI 1) eX12_scansNumber_171 (by decide) ?_
          refine slv_icmp_neN eX12_scansNumber_172 (by omega) (by omega) (fun h172 => ?_) (fun h172 => absurd h172 (by omega))
          refine slv_iload eX12_scansNumber_181 rfl ?_
          refine slv_iconst (v := nI 2) eX12_scansNumber_183 (by decide) ?_
          refine slv_icmp_neN eX12_scansNumber_184 (by omega) (by omega) (fun h184 => absurd h184 (by omega)) (fun h184 => ?_)
          refine slv_ldcwf eX12_scansNumber_187 kX12_430 ?_
          refine slv_goto eX12_scansNumber_190 ?_
          refine slv_fdiv eX12_scansNumber_196 (fun r196 a196 => ?_)
          refine slv_rS (As := [_]) eX12_scansNumber_197 lX12_432 rfl rfl (c_fbits _ r196) (by decide) (Nat.le_of_ble_eq_true rfl) ?_
          refine slr_iastX (k := 48) (p := 94) (len := 61) eX12_scansNumber_200 rfl (by repeat (first | exact sl_u_eq | assumption | apply rf_ne (by decide) | exact rfl)) (by omega) (by decide) (rf_t48 _ _ _ _ _) ?_
          refine slv_iload_n eX12_scansNumber_201 rfl ?_
          refine slv_iret eX12_scansNumber_202 rfl ?_
          exact fin2 r196 (fin' r196 a196)
        · have fin' := fun r => fin r 3 (hn.trans q)
          rw [q] at hI
          refine slv_iload_n eX12_scansNumber_139 rfl ?_
          refine slv_iload eX12_scansNumber_140 rfl ?_
          refine slv_isubN eX12_scansNumber_142 (by omega) ?_
          refine slv_iconst (v := nI 1) eX12_scansNumber_143 (by decide) ?_
          refine slv_isubN eX12_scansNumber_144 (by omega) ?_
          refine slv_top (w := .int (nI 3)) (by rw [q]) ?_
          refine slv_istore (lv' := [_, _, _, _, _, _]) eX12_scansNumber_145 (by decide) rfl ?_
          refine slv_iload eX12_scansNumber_147 rfl ?_
          refine slv_iconst (v := nI 1) eX12_scansNumber_149 (by decide) ?_
          refine slv_iconst (v := nI 3) eX12_scansNumber_150 (by decide) ?_
          refine slv_rS (As := [_, _, _]) eX12_scansNumber_151 lX12_180 rfl rfl hI (by decide) (Nat.le_of_ble_eq_true rfl) ?_
          refine slv_if_neB eX12_scansNumber_154 (fun h154 => ?_) (fun h154 => absurd h154 (by decide))
          refine slv_aload_n eX12_scansNumber_159 rfl ?_
          refine slr_ga (p := 94) eX12_scansNumber_160 fX12_92 rfl ?_
          refine slv_aload_n eX12_scansNumber_163 rfl ?_
          refine slr_gi eX12_scansNumber_164 fX12_417 rfl (by repeat (first | exact sl_u_eq | assumption | apply rf_ne (by decide) | exact rfl)) ?_
          refine slv_iload_n eX12_scansNumber_167 rfl ?_
          refine slv_i2f eX12_scansNumber_168 ?_
          refine slv_iload eX12_scansNumber_169 rfl ?_
          refine slv_iconst (v := nI 1) eX12_scansNumber_171 (by decide) ?_
          refine slv_icmp_neN eX12_scansNumber_172 (by omega) (by omega) (fun h172 => ?_) (fun h172 => absurd h172 (by omega))
          refine slv_iload eX12_scansNumber_181 rfl ?_
          refine slv_iconst (v := nI 2) eX12_scansNumber_183 (by decide) ?_
          refine slv_icmp_neN eX12_scansNumber_184 (by omega) (by omega) (fun h184 => ?_) (fun h184 => absurd h184 (by omega))
          refine slv_ldcwf eX12_scansNumber_193 kX12_431 ?_
          refine slv_fdiv eX12_scansNumber_196 (fun r196 a196 => ?_)
          refine slv_rS (As := [_]) eX12_scansNumber_197 lX12_432 rfl rfl (c_fbits _ r196) (by decide) (Nat.le_of_ble_eq_true rfl) ?_
          refine slr_iastX (k := 48) (p := 94) (len := 61) eX12_scansNumber_200 rfl (by repeat (first | exact sl_u_eq | assumption | apply rf_ne (by decide) | exact rfl)) (by omega) (by decide) (rf_t48 _ _ _ _ _) ?_
          refine slv_iload_n eX12_scansNumber_201 rfl ?_
          refine slv_iret eX12_scansNumber_202 rfl ?_
          exact fin2 r196 (fin' r196 a196)
      · have hI2 : (decide (1 ≤ fo_b f ln s - p - 1) && decide (fo_b f ln s - p - 1 ≤ 3)) = false := by
          rw [Bool.and_eq_false_iff]
          by_cases q : 1 ≤ fo_b f ln s - p - 1
          · exact Or.inr (decide_eq_false (fun q2 => hok ⟨q, q2⟩))
          · exact Or.inl (decide_eq_false q)
        rw [hI2] at hI
        have hbad2 : fo_bad f ln s = true := by
          rw [hbad]
          by_cases q : 3 < fo_n f ln s
          · rw [decide_eq_true q]; rfl
          · rw [decide_eq_true (show fo_n f ln s = 0 by omega), Bool.or_true]
        refine slv_iload_n eX12_scansNumber_139 rfl ?_
        refine slv_iload eX12_scansNumber_140 rfl ?_
        refine slv_isubN eX12_scansNumber_142 (by omega) ?_
        refine slv_iconst (v := nI 1) eX12_scansNumber_143 (by decide) ?_
        refine slv_isubN eX12_scansNumber_144 (by omega) ?_
        refine slv_istore (lv' := [_, _, _, _, _, _]) eX12_scansNumber_145 (by decide) rfl ?_
        refine slv_iload eX12_scansNumber_147 rfl ?_
        refine slv_iconst (v := nI 1) eX12_scansNumber_149 (by decide) ?_
        refine slv_iconst (v := nI 3) eX12_scansNumber_150 (by decide) ?_
        refine slv_rS (As := [_, _, _]) eX12_scansNumber_151 lX12_180 rfl rfl hI (by decide) (Nat.le_of_ble_eq_true rfl) ?_
        refine slv_if_neB eX12_scansNumber_154 (fun h154 => absurd h154 (by decide)) (fun h154 => ?_)
        refine slv_iconst (v := (-1)) eX12_scansNumber_157 (by decide) ?_
        refine slv_iret eX12_scansNumber_158 rfl ?_
        rw [hbad2]
        refine ⟨rfl, _, rfl, ⟨fun k hk => ?_, fun j hj => ⟨sl_u_ne hj, sl_u_ne hj⟩⟩, fun q => by cases q⟩
        rw [sl_u_ne (fun e => hk (by rw [e]; decide)), sl_u_ne (fun e => hk (by rw [e]; decide))]
end RNM

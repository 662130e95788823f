/-! the law: third, and the calls one by one -/
theorem lg_same (x : Int64) : lg_cmp x x = 0 := by simp [lg_cmp]
section LWT
variable {L : Nat} {xs : Nat → Int32} {kc ks i : Nat} {Q : Option Value → sl_M → Prop} {M : sl_M} {z5 z6 : Option Value} {C : cT} {v : Nat → Int32} {w : Int64} {a : Nat → Nat → Int32} {nm : Nat → Int64}
def lw_agL (d1 d2 : Nat) (Y1 Y2 : sl_Y) (As : List Value) (M : sl_M) : Prop := ∃ P1 : Option Value → sl_M → Prop, sl_T Y1 d1 0 0 P1 (.ref 0 :: As) M ∧ ∀ r1 M1, P1 r1 M1 → ∃ x : Int64, r1 = some (.long x) ∧ (∃ fs, M1 68 = .inr (11, fs)) ∧ ∃ P2 : Option Value → sl_M → Prop, sl_T Y2 d2 0 0 P2 (.ref 68 :: As) M1 ∧ ∀ r2 M2, P2 r2 M2 → r2 = some (.long x) ∧ lwI M2
theorem ag_third (hRR : rr_all) (hA : clA C M) (hS : rf_S v w a nm M = M) (h113 : ∃ z : Nat → Int64, M 113 = .inl (.long, 1, .inr (.inl z))) (hK : clK C) (hR : lwR C v a) : lw_agL 2 10 YX11_third YX12_third [] M := by
  obtain ⟨ln, q, S0, hq⟩ := lw_told hA hR
  have hc := hK.2.2.2.2.2.2.2.2.2.1
  have hfa := hK.2.2.2.2.2.2.2.2.2.2
  have e0 : ob_set C.fd C.db C.sb C.sn C.tl C.lf C.lt C.lp M = M := ob_self hA.1
  have h2 := fun M => c_X12_third (w := w) (nm := nm) (M := M) hR.1.2.2.2.2.2.1 hR.1.2.2.2.2.2.2.1 (lw_hts hR) (fun e => (hq e).2) (fun e => rqH_C (hq e).2)
  have h1 : sl_R YX11_third 2 [.ref 0] (ob_set C.fd C.db C.sb C.sn C.tl C.lf C.lt C.lp M) (some (.long (an_third C.tl C.S).1)) (ob_set C.fd C.db C.sb C.sn C.tl C.lf (an_third C.tl C.S).2 C.lp M) := by
    by_cases ht : C.tl = true
    · exact c_X11_third hRR hA.2.2.2.2.2.2.2.2.2.1 hc hfa (fun k e => (rqH_E (hq ht).2).2.1.2.2.2.2.2.2.2.1 0 k (Nat.zero_le _) e)
    · have hf : C.tl = false := by cases h : C.tl with
        | true => exact absurd h ht
        | false => rfl
      rw [hf]
      exact c_X11_third_f
  have hk : (an_third C.tl C.S).2 ≠ 4 ∧ (an_third C.tl C.S).2 ≠ 6 ∧ (an_third C.tl C.S).2 < 100 := by
    unfold an_third
    split
    · exact ⟨by show (1 : Nat) ≠ 4; decide, by show (1 : Nat) ≠ 6; decide, by show (1 : Nat) < 100; decide⟩
    · exact ⟨by show (0 : Nat) ≠ 4; decide, by show (0 : Nat) ≠ 6; decide, by show (0 : Nat) < 100; decide⟩
  generalize an_third C.tl C.S = A at *
  rw [e0] at h1
  have hS1 : rf_S v w a nm (ob_set C.fd C.db C.sb C.sn C.tl C.lf A.2 C.lp M) = ob_set C.fd C.db C.sb C.sn C.tl C.lf A.2 C.lp M := rf_keep hS (fun k q _ => ob_out (by omega))
  have hA1 := clA_ob hK.1 hA C.fd C.tl C.lf A.2 C.lp
  have h113' : ∃ z : Nat → Int64, ob_set C.fd C.db C.sb C.sn C.tl C.lf A.2 C.lp M 113 = .inl (.long, 1, .inr (.inl z)) := h113.imp (fun z hz => (ob_out (by decide)).trans hz)
  refine ⟨_, h1, ?_⟩
  rintro _ M1 ⟨rfl, hM1⟩
  rw [← hM1] at hS1 hA1 h113'
  refine ⟨A.1, rfl, ⟨rf_c v w, by rw [← hS1]; exact rf_68⟩, _, by have := h2 M1; rw [hS1] at this; exact this, ?_⟩
  rintro _ _ ⟨rfl, v', a', rfl, t1, t2, hF⟩
  refine ⟨rfl, C.wo C.fd C.tl C.lf A.2 C.lp, v', w, a', nm, clA_lo hK.1 hA1 (fun k hk => rf_lo hk), rf_rf, h113'.imp (fun z hz => (rf_hi (by decide)).trans hz), ⟨hK.1, ⟨hK.2.1.1, hk.2.2, hK.2.1.2.2⟩, hK.2.2⟩, lwR_q hR hF t1 ?_⟩
  rw [t2]
  unfold an_where
  rw [if_neg (by omega)]
set_option maxRecDepth 100000 in
theorem lo_third (hRR : rr_all) (hI : lwI M) (fin : ∀ M', lwI M' → sl_V YL_law (some (L, xs)) 70 kc ks Q 1115 [some (.ref (sl_X + 500)), some (.ref 0), some (.ref 68), some (.ref 113), some (.int (nI i)), z5, z6] [] M') : sl_V YL_law (some (L, xs)) 70 kc ks Q 906 [some (.ref (sl_X + 500)), some (.ref 0), some (.ref 68), some (.ref 113), some (.int (nI i)), z5, z6] [] M := by
  refine slv_aload_n eL_law_906 rfl ?_
  obtain ⟨C, v, w, a, nm, hA, hS, h113, hK, hR⟩ := hI
  obtain ⟨P1, hT1, hr1⟩ := ag_third hRR hA hS h113 hK hR
  refine slv_callV (As := []) eL_law_907 lL_126 rfl rfl hA.1 rfl hT1 (by decide) (Nat.le_of_ble_eq_true rfl) (Nat.zero_add _).symm (Nat.zero_add _).symm (Or.inl rfl) ?_
  intro r1 M1 hP1
  obtain ⟨x, rfl, ⟨fs, h68⟩, P2, hT2, hr2⟩ := hr1 r1 M1 hP1
  refine slv_aload_n eL_law_910 rfl ?_
  refine slv_callV (As := []) eL_law_911 lL_130 rfl rfl h68 rfl hT2 (by decide) (Nat.le_of_ble_eq_true rfl) (Nat.zero_add _).symm (Nat.zero_add _).symm (Or.inl rfl) ?_
  intro r2 M2 hP2
  obtain ⟨rfl, hI2⟩ := hr2 r2 M2 hP2
  refine slv_lcmp eL_law_914 ?_
  refine slv_if_eq eL_law_915 (fun _ => ?_) (fun h => absurd ?_ h)
  · exact fin M2 hI2
  · exact lg_same x
end LWT

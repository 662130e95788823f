/-! class and reference agree in a call -/
abbrev cT.wo (C : cT) (fd : Nat) (tl : Bool) (lf lt : Nat) (lp : Int32) : cT := ((fd, C.db, C.sb, C.sn, tl, lf, lt, lp), C.2)
theorem clA_ob {C : cT} {M : sl_M} (hd : (C.db = 2 ∧ C.sb = 10) ∨ (C.db = 10 ∧ C.sb = 2)) (h : clA C M) (fd : Nat) (tl : Bool) (lf lt : Nat) (lp : Int32) : clA (C.wo fd tl lf lt lp) (ob_set fd C.db C.sb C.sn tl lf lt lp M) := by
  obtain ⟨h0, h1, h2, h3, h4, h5, h6, h7, h8, h9, h10⟩ := h
  have e1 : C.db = 2 ∨ C.db = 10 := by omega
  have e2 : C.sb = 2 ∨ C.sb = 10 := by omega
  exact ⟨ob_of, t_ob_1 h1, t_ob_sg e1 h2, t_ob_sg e2 h3, t_ob_gr h4, t_ob_rl h5, t_ob_ld h6, t_ob_ac h7, ⟨(ob_out (by decide)).trans h8.1, (ob_out (by decide)).trans h8.2.1, (ob_out (by decide)).trans h8.2.2.1, (ob_out (by decide)).trans h8.2.2.2.1, (ob_out (by decide)).trans h8.2.2.2.2⟩, t_ob_rg (Or.inl rfl) h9, t_ob_rg (Or.inr rfl) h10⟩
theorem ac_ok_F {v v' : Nat → Int32} {a a' : Nat → Nat → Int32} {ak : Nat → Option Nat} {av : Nat → Nat} (hv : ∀ k, k ∈ [14, 15, 16] → v' k = v k) (ha : ∀ k, k ∈ [3, 4, 5, 6, 7, 24, 25] → a' k = a k) : ∀ (c : Nat) (g : sg_T), ac_ok c g ak av v a → ac_ok c g ak av v' a' := by
  intro c
  induction c with
  | zero => intro g _; trivial
  | succ c ih =>
    intro g h
    obtain ⟨⟨h1, h2, h3, h4⟩, h5⟩ := h
    refine ⟨⟨h1, h2, rf_G_same h3 (fun k hk => ?_) (fun k hk => ha k ?_), h4⟩, ih _ h5⟩
    · rw [ha 24 (by decide), ha 25 (by decide)]
      by_cases e1 : k = 23
      · rw [e1, sl_u_eq, sl_u_eq]
      · rw [sl_u_ne e1, sl_u_ne e1]
        by_cases e2 : k = 22
        · rw [e2, sl_u_eq, sl_u_eq]
        · rw [sl_u_ne e2, sl_u_ne e2]
          exact hv k (by simp only [List.mem_cons, List.mem_nil_iff, or_false] at hk ⊢; omega)
    · simp only [List.mem_cons, List.mem_nil_iff, or_false] at hk ⊢
      omega
theorem rf_laid_F {g : sg_T} {v v' : Nat → Int32} {a a' : Nat → Nat → Int32} (h : rf_laid g v a) (hv : ∀ k, k ∈ [44] → v' k = v k) (ha : ∀ k, k ∈ [36, 37, 38, 39, 40, 45] → a' k = a k) : rf_laid g v' a' := by
  obtain ⟨h1, h2, h3, h4⟩ := h
  exact ⟨(ha _ (by decide)).trans h1, (ha _ (by decide)).trans h2, (ha _ (by decide)).trans h3, fun rk ba => rf_K_F (h4 rk ba) hv (fun k hk => ha k (by simp only [List.mem_cons, List.mem_nil_iff, or_false] at hk ⊢; omega))⟩
theorem rf_z0_F {a a' : Nat → Nat → Int32} (h : rf_z0 a) (ha : ∀ k, k ∈ [36, 37, 38] → a' k = a k) : rf_z0 a' := by
  unfold rf_z0 at *
  rw [ha 36 (by decide), ha 37 (by decide), ha 38 (by decide)]
  exact h
theorem lwR_q {C : cT} {v v' : Nat → Int32} {a a' : Nat → Nat → Int32} {k : Nat} {p : Int32} (h : lwR C v a) (hF : rqF v a v' a') (h1 : v' 1 = nI k) (h2 : v' 2 = an_where k p) : lwR (C.wo C.fd C.tl C.lf k p) v' a' := by
  obtain ⟨⟨a1, a2, a3, a4, a5, a6, a7, a8, a9⟩, b1, b2, b3, b4⟩ := h
  have hv := hF.1
  have ha := hF.2
  obtain ⟨f1, f2⟩ := rqF_l (Lv := [14, 15, 16]) (La := [3, 4, 5, 6, 7, 24, 25]) hF (by decide) (by decide)
  obtain ⟨f3, f4⟩ := rqF_l (Lv := [44]) (La := [36, 37, 38, 39, 40, 45]) hF (by decide) (by decide)
  obtain ⟨f5, f6⟩ := rqF_l (Lv := [14, 15, 16, 22, 23]) (La := [3, 4, 5, 6, 7]) hF (by decide) (by decide)
  refine ⟨⟨h1, h2, (hv _ (by decide)).trans a3, (hv _ (by decide)).trans a4, (ha _ (by decide)).trans a5, (hv _ (by decide)).trans a6, (hv _ (by decide)).trans a7, (hv _ (by decide)).trans a8, rf_z0_F a9 (fun k hk => f4 k (by simp only [List.mem_cons, List.mem_nil_iff, or_false] at hk ⊢; omega))⟩, b1, fun e => ?_, ac_ok_F f1 f2 _ _ b3, fun e => ?_⟩
  · obtain ⟨c1, c2, c3, c4⟩ := b2 e
    exact ⟨c1, rf_G_same c2 f5 f6, rf_laid_F c3 f3 f4, c4⟩
  · obtain ⟨ln, q, S0, e1, e2, e3, e4, e5, e6, e7, e8, e9, e10⟩ := b4 e
    exact ⟨ln, q, S0, e1, e2, e3, e4, e5, e6, e7, e8, e9, rqH_F e10 hF⟩
/-- both answer alike, and what holds between them goes on -/
def lw_ag (d1 d2 : Nat) (Y1 Y2 : sl_Y) (As : List Value) (M : sl_M) : Prop := ∃ P1 : Option Value → sl_M → Prop, sl_T Y1 d1 0 0 P1 (.ref 0 :: As) M ∧ ∀ r1 M1, P1 r1 M1 → ∃ x : Int32, r1 = some (.int x) ∧ (∃ fs, M1 68 = .inr (11, fs)) ∧ ∃ P2 : Option Value → sl_M → Prop, sl_T Y2 d2 0 0 P2 (.ref 68 :: As) M1 ∧ ∀ r2 M2, P2 r2 M2 → r2 = some (.int x) ∧ lwI M2
section AGQ
variable {C : cT} {v : Nat → Int32} {w : Int64} {a : Nat → Nat → Int32} {nm : Nat → Int64} {M : sl_M}
theorem ag_q (hA : clA C M) (hS : rf_S v w a nm M = M) (h113 : ∃ z : Nat → Int64, M 113 = .inl (.long, 1, .inr (.inl z))) (hK : clK C) (hR : lwR C v a) {A : an_T} (hA2 : A.2 ≠ 4 ∧ A.2 ≠ 6 ∧ A.2 < 100) {Y1 Y2 : sl_Y} {d1 d2 : Nat} {As : List Value} {P2 : sl_M → Option Value → sl_M → Prop} (h1 : sl_R Y1 d1 (.ref 0 :: As) (ob_set C.fd C.db C.sb C.sn C.tl C.lf C.lt C.lp M) (some (.int A.1)) (ob_set C.fd C.db C.sb C.sn C.tl C.lf A.2 C.lp M)) (h2 : ∀ M, sl_T Y2 d2 0 0 (P2 M) (.ref 68 :: As) (rf_S v w a nm M)) (hq : ∀ M r M', P2 M r M' → qA v w a nm M A r M') : lw_ag d1 d2 Y1 Y2 As M := by
  have e0 : ob_set C.fd C.db C.sb C.sn C.tl C.lf C.lt C.lp M = M := ob_self hA.1
  rw [e0] at h1
  have hS1 : rf_S v w a nm (ob_set C.fd C.db C.sb C.sn C.tl C.lf A.2 C.lp M) = ob_set C.fd C.db C.sb C.sn C.tl C.lf A.2 C.lp M := rf_keep hS (fun k q _ => ob_out (by omega))
  have hA1 := clA_ob hK.1 hA C.fd C.tl C.lf A.2 C.lp
  have h113' : ∃ z : Nat → Int64, ob_set C.fd C.db C.sb C.sn C.tl C.lf A.2 C.lp M 113 = .inl (.long, 1, .inr (.inl z)) := h113.imp (fun z hz => (ob_out (by decide)).trans hz)
  refine ⟨_, h1, ?_⟩
  rintro _ _ ⟨rfl, rfl⟩
  generalize ob_set C.fd C.db C.sb C.sn C.tl C.lf A.2 C.lp M = M1 at *
  refine ⟨A.1, rfl, ⟨rf_c v w, by rw [← hS1]; exact rf_68⟩, P2 M1, by have := h2 M1; rw [hS1] at this; exact this, fun r2 M2 hp => ?_⟩
  obtain ⟨rfl, v', a', rfl, t1, t2, hF⟩ := hq _ _ _ hp
  refine ⟨rfl, C.wo C.fd C.tl C.lf A.2 C.lp, v', w, a', nm, clA_lo hK.1 hA1 (fun k hk => rf_lo hk), rf_rf, h113'.imp (fun z hz => (rf_hi (by decide)).trans hz), ?_, lwR_q hR hF t1 ?_⟩
  · exact ⟨hK.1, ⟨hK.2.1.1, hA2.2.2, hK.2.1.2.2⟩, hK.2.2⟩
  · rw [t2]
    unfold an_where
    rw [if_neg (by omega)]
theorem qA_an {A : an_T} {r : Option Value} {M' : sl_M} (h : r = some (.int A.1) ∧ M' = rf_S (rf_an v A.2) w a nm M) : qA v w a nm M A r M' := by
  obtain ⟨rfl, rfl⟩ := h
  exact ⟨rfl, _, _, rfl, rfl, rfl, rqF_t (rqF_0 v a (nI 0)) (rqF_v (gd_v _ _))⟩
end AGQ

/-! the reference scans a formula -/
/-- the tokens, alike -/
def tkI (g : sg_T) (q : fs_T) (v : Nat → Int32) (a : Nat → Nat → Int32) : Prop := v 50 = nI q.2.1 ∧ ∀ j, j < q.2.1 → a 47 j = nI (q.2.2.2.2.1 j) ∧ a 46 j = sl_io (gt_k g (q.2.2.2.1 j)) ∧ (q.2.2.2.1 j = 0 → a 48 j = q.2.2.2.2.2.2 j ∧ a 49 j = sl_bi (q.2.2.2.2.2.1 j))
def scF (v : Nat → Int32) (a : Nat → Nat → Int32) (v' : Nat → Int32) (a' : Nat → Nat → Int32) : Prop := (∀ k, k ∉ [50] → v' k = v k) ∧ ∀ k, k ∉ [47, 46, 48, 49] → a' k = a k
theorem scF_t {v v1 v2 : Nat → Int32} {a a1 a2 : Nat → Nat → Int32} (h : scF v a v1 a1) (h2 : scF v1 a1 v2 a2) : scF v a v2 a2 := ⟨fun k hk => (h2.1 k hk).trans (h.1 k hk), fun k hk => (h2.2 k hk).trans (h.2 k hk)⟩
def scQ (g : sg_T) (ln : Nat) (w : Int64) (nm : Nat → Int64) (M : sl_M) (q : fs_T) (v : Nat → Int32) (a : Nat → Nat → Int32) (Q : Option Value → sl_M → Prop) : Prop := ∀ v' a', scF v a v' a' → (q.1 = none → tkI g q v' a' ∧ a' 46 q.2.1 = nI (sg_terms g) ∧ a' 47 q.2.1 = nI ln) → Q (some (.int (sl_io q.1))) (rf_S v' w a' nm M)
theorem scQ_t {g : sg_T} {ln : Nat} {w : Int64} {nm : Nat → Int64} {M : sl_M} {q : fs_T} {v v1 : Nat → Int32} {a a1 : Nat → Nat → Int32} {Q : Option Value → sl_M → Prop} (h : scQ g ln w nm M q v a Q) (h1 : scF v a v1 a1) : scQ g ln w nm M q v1 a1 Q := fun v' a' e1 e2 => h v' a' (scF_t h1 e1) e2
theorem fs_all_some {f : Nat → Int32} {ln : Nat} {q : fs_T} {k : Nat} (h : q.1 = some k) : ∀ n, fs_all f ln n q = q := by
  intro n
  cases n with
  | zero => rfl
  | succ n => rw [fs_all, h]; simp
theorem st_sg0 : st_sg 0 = false := by decide +kernel
theorem tkI_new {g : sg_T} {cn at_ be x : Nat} {sg pl : Nat → Nat} {rl : Nat → Bool} {bt : Nat → Int32} {v : Nat → Int32} {a a3 : Nat → Nat → Int32} {r : Bool} {o : Int32} (hT : tkI g (none, cn, at_, sg, pl, rl, bt) v a) (h1 : a3 47 = sl_u (a 47) cn (nI at_)) (h2 : a3 46 = sl_u (a 46) cn (sl_io (gt_k g x))) (h3 : ∀ j, j ≠ cn → a3 48 j = a 48 j ∧ a3 49 j = a 49 j) (h4 : x = 0 → a3 48 cn = o ∧ a3 49 cn = sl_bi r) : tkI g (none, cn + 1, be, sl_u sg cn x, sl_u pl cn at_, sl_u rl cn r, sl_u bt cn o) (sl_u v 50 (nI (cn + 1))) a3 := by
  refine ⟨sl_u_eq, fun j hj => ?_⟩
  have hj' : j < cn + 1 := hj
  simp only
  rw [h1, h2]
  by_cases e : j = cn
  · rw [e, sl_u_eq, sl_u_eq, sl_u_eq, sl_u_eq, sl_u_eq, sl_u_eq]
    exact ⟨rfl, rfl, h4⟩
  · rw [sl_u_ne e, sl_u_ne e, sl_u_ne e, sl_u_ne e, sl_u_ne e, sl_u_ne e, (h3 j e).1, (h3 j e).2]
    exact hT.2 j (by show j < cn; omega)
theorem fo_b_le {f : Nat → Int32} {ln s : Nat} (h : fm_dg f ln s = true) : s + 1 ≤ fo_b f ln s ∧ fo_b f ln s ≤ ln := by
  obtain ⟨d1, d2, d3⟩ := fm_dg_t h
  have hp : s + 1 ≤ fo_p f ln s ∧ fo_p f ln s ≤ ln := by
    unfold fo_p
    rw [show ln - s = (ln - (s + 1)) + 1 by omega, fm_de, h, cond_true]
    exact fm_de_le (ln - (s + 1)) (s + 1) (by omega)
  unfold fo_b
  cases hr : fo_r f ln s with
  | false => exact hp
  | true =>
    have hr' := hr
    unfold fo_r at hr'
    rw [Bool.and_eq_true] at hr'
    have q := of_decide_eq_true hr'.1
    have := fm_de_le (f := f) (ln := ln) (ln - (fo_p f ln s + 1)) (fo_p f ln s + 1) (by omega)
    exact ⟨by show s + 1 ≤ fm_de f ln _ _; omega, this.2⟩
section RSN
variable {v : Nat → Int32} {w : Int64} {a : Nat → Nat → Int32} {nm : Nat → Int64} {M : sl_M} {f : Nat → Int32} {ln : Nat} {g : sg_T}
set_option maxRecDepth 100000 in
theorem sc_L (hl : ln ≤ 900) (hok : sg_ok g) : ∀ (n cn at_ : Nat) (sg pl : Nat → Nat) (rl : Nat → Bool) (bt : Nat → Int32) (v : Nat → Int32) (a : Nat → Nat → Int32) (z2 : Option Value), ln ≤ at_ + n → at_ ≤ ln → cn ≤ 60 → a 27 = f → v 29 = nI ln → rf_G g v a → tkI g (none, cn, at_, sg, pl, rl, bt) v a → ∀ Q, scQ g ln w nm M (fs_all f ln n (none, cn, at_, sg, pl, rl, bt)) v a Q → sl_V YX12_scans none 3 0 0 Q 7 [some (.ref 68), some (.int (nI at_)), z2] [] (rf_S v w a nm M) := by
  intro n
  have hend : ∀ (cn at_ : Nat) (sg pl : Nat → Nat) (rl : Nat → Bool) (bt : Nat → Int32) (v : Nat → Int32) (a : Nat → Nat → Int32) (z2 : Option Value), at_ = ln → cn ≤ 60 → a 27 = f → v 29 = nI ln → rf_G g v a → tkI g (none, cn, at_, sg, pl, rl, bt) v a → ∀ Q, scQ g ln w nm M (none, cn, at_, sg, pl, rl, bt) v a Q → sl_V YX12_scans none 3 0 0 Q 7 [some (.ref 68), some (.int (nI at_)), z2] [] (rf_S v w a nm M) := by
    intro cn at_ sg pl rl bt v a z2 hat hcn h27 hsz hG hT Q hQ
    subst hat
    have hB := c_X12_byteAt (w := w) (nm := nm) (M := M) (k := at_) h27 hsz hl (by omega)
    rw [if_neg (by omega)] at hB
    have ht := hT.1
    have g3 := hG.2.2.1
    simp only at ht
    refine slv_aload_n eX12_scans_7 rfl ?_
    refine slv_iload_n eX12_scans_8 rfl ?_
    refine slv_rV (As := [_]) eX12_scans_9 lX12_171 rfl rfl rf_68 rfl hB (by decide) (Nat.le_of_ble_eq_true rfl) ?_
    refine slv_bipush (v := nI 32) eX12_scans_12 (by decide) ?_
    refine slv_icmp_ne eX12_scans_14 (fun h14 => ?_) (fun h14 => absurd h14 (by decide))
    refine slv_aload_n eX12_scans_23 rfl ?_
    refine slv_iload_n eX12_scans_24 rfl ?_
    refine slv_rV (As := [_]) eX12_scans_25 lX12_171 rfl rfl rf_68 rfl hB (by decide) (Nat.le_of_ble_eq_true rfl) ?_
    refine slv_iconst (v := (-1)) eX12_scans_28 (by decide) ?_
    refine slv_icmp_ne eX12_scans_29 (fun h29 => absurd rfl h29) (fun h29 => ?_)
    refine slv_goto eX12_scans_32 ?_
    refine slv_aload_n eX12_scans_143 rfl ?_
    refine slr_ga (p := 92) eX12_scans_144 fX12_86 rfl ?_
    refine slv_aload_n eX12_scans_147 rfl ?_
    refine slr_gi eX12_scans_148 fX12_417 rfl (by repeat (first | exact sl_u_eq | assumption | apply rf_ne (by decide) | exact rfl)) ?_
    refine slv_aload_n eX12_scans_151 rfl ?_
    refine slr_gi eX12_scans_152 fX12_324 rfl (by repeat (first | exact sl_u_eq | assumption | apply rf_ne (by decide) | exact rfl)) ?_
    refine slr_iastX (k := 46) (p := 92) (len := 61) eX12_scans_155 rfl (by repeat (first | exact sl_u_eq | assumption | apply rf_ne (by decide) | exact rfl)) (by omega) (by decide) (rf_t46 _ _ _ _ _) ?_
    refine slv_aload_n eX12_scans_156 rfl ?_
    refine slr_ga (p := 93) eX12_scans_157 fX12_89 rfl ?_
    refine slv_aload_n eX12_scans_160 rfl ?_
    refine slr_gi eX12_scans_161 fX12_417 rfl (by repeat (first | exact sl_u_eq | assumption | apply rf_ne (by decide) | exact rfl)) ?_
    refine slv_aload_n eX12_scans_164 rfl ?_
    refine slr_gi eX12_scans_165 fX12_162 rfl (by repeat (first | exact sl_u_eq | assumption | apply rf_ne (by decide) | exact rfl)) ?_
    refine slr_iastX (k := 47) (p := 93) (len := 61) eX12_scans_168 rfl (by repeat (first | exact sl_u_eq | assumption | apply rf_ne (by decide) | exact rfl)) (by omega) (by decide) (rf_t47 _ _ _ _ _) ?_
    refine slv_iconst (v := (-1)) eX12_scans_169 (by decide) ?_
    refine slv_iret eX12_scans_170 rfl ?_
    refine hQ _ _ ⟨fun _ _ => rfl, fun k hk => ?_⟩ (fun _ => ⟨⟨ht, fun j hj => ?_⟩, ?_, ?_⟩)
    · rw [sl_u_ne (fun e => hk (by rw [e]; decide)), sl_u_ne (fun e => hk (by rw [e]; decide))]
    · have hj' : j < cn := hj
      obtain ⟨j1, j2, j3⟩ := hT.2 j hj
      exact ⟨(sl_u_ne (by omega)).trans j1, (sl_u_ne (by omega)).trans j2, j3⟩
    · exact sl_u_eq
    · exact sl_u_eq
  induction n with
  | zero =>
    intro cn at_ sg pl rl bt v a z2 hn hat hcn h27 hsz hG hT Q hQ
    exact hend cn at_ sg pl rl bt v a z2 (by omega) hcn h27 hsz hG hT Q hQ
  | succ n ih =>
    intro cn at_ sg pl rl bt v a z2 hn hat hcn h27 hsz hG hT Q hQ
    rcases Nat.lt_or_ge at_ ln with hlt | hge
    · have hstep : fs_all f ln (n + 1) (none, cn, at_, sg, pl, rl, bt) = fs_all f ln n (fs_nx f ln none cn at_ sg pl rl bt) := by
        rw [fs_all]
        simp only [decide_eq_true hlt, Option.isNone_none, Bool.and_self, cond_true]
      rw [hstep] at hQ
      have hby := by_lt f at_
      have ht := hT.1
      simp only at ht
      have hBv := fun (a' : Nat → Nat → Int32) (h : a' 27 = f) => c_X12_byteAt (v := v) (a := a') (w := w) (nm := nm) (M := M) (k := at_) h hsz hl (by omega)
      have hB := hBv a h27
      rw [if_pos hlt] at hB
      by_cases h32 : by_ f at_ = 32
      · have e : fs_nx f ln none cn at_ sg pl rl bt = (none, cn, at_ + 1, sg, pl, rl, bt) := by rw [fs_nx, if_pos h32]
        rw [e] at hQ
        refine slv_aload_n eX12_scans_7 rfl ?_
        refine slv_iload_n eX12_scans_8 rfl ?_
        refine slv_rV (As := [_]) eX12_scans_9 lX12_171 rfl rfl rf_68 rfl hB (by decide) (Nat.le_of_ble_eq_true rfl) ?_
        refine slv_bipush (v := nI 32) eX12_scans_12 (by decide) ?_
        refine slv_icmp_neN eX12_scans_14 (by omega) (by omega) (fun h14 => absurd h14 (fun q => q h32)) (fun h14 => ?_)
        refine slv_iincN (lv' := [_, _, _]) eX12_scans_17 rfl (by decide) rfl ?_
        refine slv_goto eX12_scans_20 ?_
        exact ih cn (at_ + 1) sg pl rl bt v a _ (by omega) (by omega) hcn h27 hsz hG hT Q hQ
      · have hbad : ∀ q : fs_T, fs_nx f ln none cn at_ sg pl rl bt = q → q.1 = some at_ → ∀ v' a', scF v a v' a' → Q (some (.int (nI at_))) (rf_S v' w a' nm M) := by
          intro q e1 e2 v' a' h
          rw [e1, fs_all_some e2 n] at hQ
          have := hQ v' a' h (fun q => by rw [e2] at q; cases q)
          rw [e2] at this
          exact this
        by_cases h60 : cn = 60
        · have e : (fs_nx f ln none cn at_ sg pl rl bt).1 = some at_ := by
            rw [fs_nx, if_neg h32]
            cases fm_dg f ln at_ with
            | true =>
              simp only [cond_true]
              rw [fs_op]
              cases fo_bad f ln at_ with
              | true => rfl
              | false => simp only [cond_false]; rw [fs_add, if_pos (by omega)]
            | false =>
              simp only [cond_false]
              cases st_sg (by_ f at_) with
              | true => simp only [cond_true]; rw [fs_add, if_pos (by omega)]
              | false => rfl
          have hb := hbad _ rfl e v a ⟨fun _ _ => rfl, fun _ _ => rfl⟩
          refine slv_aload_n eX12_scans_7 rfl ?_
          refine slv_iload_n eX12_scans_8 rfl ?_
          refine slv_rV (As := [_]) eX12_scans_9 lX12_171 rfl rfl rf_68 rfl hB (by decide) (Nat.le_of_ble_eq_true rfl) ?_
          refine slv_bipush (v := nI 32) eX12_scans_12 (by decide) ?_
          refine slv_icmp_neN eX12_scans_14 (by omega) (by omega) (fun h14 => ?_) (fun h14 => absurd h14 h32)
          refine slv_aload_n eX12_scans_23 rfl ?_
          refine slv_iload_n eX12_scans_24 rfl ?_
          refine slv_rV (As := [_]) eX12_scans_25 lX12_171 rfl rfl rf_68 rfl hB (by decide) (Nat.le_of_ble_eq_true rfl) ?_
          refine slv_iconst (v := (-1)) eX12_scans_28 (by decide) ?_
          refine slv_icmp_ne eX12_scans_29 (fun h29 => ?_) (fun h29 => absurd h29 (nI_neg1 (by omega)))
          refine slv_aload_n eX12_scans_35 rfl ?_
          refine slr_gi eX12_scans_36 fX12_417 rfl (by repeat (first | exact sl_u_eq | assumption | apply rf_ne (by decide) | exact rfl)) ?_
          refine slv_bipush (v := nI 60) eX12_scans_39 (by decide) ?_
          refine slv_icmp_neN eX12_scans_41 (by omega) (by omega) (fun h41 => absurd h41 (by omega)) (fun h41 => ?_)
          refine slv_iload_n eX12_scans_44 rfl ?_
          refine slv_iret eX12_scans_45 rfl ?_
          exact hb
        · have hcn6 : cn < 60 := by omega
          generalize ha1 : sl_u a 47 (sl_u (a 47) cn (nI at_)) = a1
          have h27' : a1 27 = f := by rw [← ha1]; exact h27
          have e1 : ∀ k, k ∉ [47] → a1 k = a k := fun k hk => by rw [← ha1]; exact sl_u_ne (fun e => hk (by rw [e]; decide))
          have e1p : a1 47 = sl_u (a 47) cn (nI at_) := by rw [← ha1]; exact sl_u_eq
          have hD := c_X12_isDigit (w := w) (nm := nm) (M := M) (k := at_) h27' hsz hl (by omega)
          have hB1 := hBv a1 h27'
          rw [if_pos hlt] at hB1
          cases hdg : fm_dg f ln at_ with
          | true =>
            rw [hdg] at hD
            have hSN := c_X12_scansNumber (w := w) (nm := nm) (M := M) h27' hsz hl hcn6 ht (s := at_) hat
            have hfb := fo_b_le hdg
            cases hfo : fo_bad f ln at_ with
            | true =>
              simp only [hfo, if_true] at hSN
              have e : (fs_nx f ln none cn at_ sg pl rl bt).1 = some at_ := by
                rw [fs_nx, if_neg h32, hdg, cond_true, fs_op, hfo]
                rfl
              refine slv_aload_n eX12_scans_7 rfl ?_
              refine slv_iload_n eX12_scans_8 rfl ?_
              refine slv_rV (As := [_]) eX12_scans_9 lX12_171 rfl rfl rf_68 rfl hB (by decide) (Nat.le_of_ble_eq_true rfl) ?_
              refine slv_bipush (v := nI 32) eX12_scans_12 (by decide) ?_
              refine slv_icmp_neN eX12_scans_14 (by omega) (by omega) (fun h14 => ?_) (fun h14 => absurd h14 h32)
              refine slv_aload_n eX12_scans_23 rfl ?_
              refine slv_iload_n eX12_scans_24 rfl ?_
              refine slv_rV (As := [_]) eX12_scans_25 lX12_171 rfl rfl rf_68 rfl hB (by decide) (Nat.le_of_ble_eq_true rfl) ?_
              refine slv_iconst (v := (-1)) eX12_scans_28 (by decide) ?_
              refine slv_icmp_ne eX12_scans_29 (fun h29 => ?_) (fun h29 => absurd h29 (nI_neg1 (by omega)))
              refine slv_aload_n eX12_scans_35 rfl ?_
              refine slr_gi eX12_scans_36 fX12_417 rfl (by repeat (first | exact sl_u_eq | assumption | apply rf_ne (by decide) | exact rfl)) ?_
              refine slv_bipush (v := nI 60) eX12_scans_39 (by decide) ?_
              refine slv_icmp_neN eX12_scans_41 (by omega) (by omega) (fun h41 => ?_) (fun h41 => absurd h41 h60)
              refine slv_aload_n eX12_scans_46 rfl ?_
              refine slr_ga (p := 93) eX12_scans_47 fX12_89 rfl ?_
              refine slv_aload_n eX12_scans_50 rfl ?_
              refine slr_gi eX12_scans_51 fX12_417 rfl (by repeat (first | exact sl_u_eq | assumption | apply rf_ne (by decide) | exact rfl)) ?_
              refine slv_iload_n eX12_scans_54 rfl ?_
              refine slr_iastX (k := 47) (p := 93) (len := 61) eX12_scans_55 rfl (by repeat (first | exact sl_u_eq | assumption | apply rf_ne (by decide) | exact rfl)) (by omega) (by decide) (rf_t47 _ _ _ _ _) ?_
              refine slv_mem (congrArg (fun z => rf_S v w z nm M) ha1) ?_
              refine slv_aload_n eX12_scans_56 rfl ?_
              refine slv_iload_n eX12_scans_57 rfl ?_
              refine slv_rV (As := [_]) eX12_scans_58 lX12_420 rfl rfl rf_68 rfl hD (by decide) (Nat.le_of_ble_eq_true rfl) ?_
              refine slv_if_eqB eX12_scans_61 (fun h61 => absurd h61 (by decide)) (fun h61 => ?_)
              refine slv_aload_n eX12_scans_64 rfl ?_
              refine slv_iload_n eX12_scans_65 rfl ?_
              refine slv_callV (As := [_]) eX12_scans_66 lX12_423 rfl rfl rf_68 rfl hSN (by decide) (Nat.le_of_ble_eq_true rfl) (Nat.zero_add _).symm (Nat.zero_add _).symm (Or.inl rfl) ?_
              rintro _ _ ⟨rfl, a2, rfl, hto, hval⟩
              refine slv_goto eX12_scans_69 ?_
              refine slv_istore_n (i := 2) (lv' := [_, _, _]) eX12_scans_90 rfl (by decide) rfl ?_
              refine slv_iload_n eX12_scans_91 rfl ?_
              refine slv_iconst (v := (-1)) eX12_scans_92 (by decide) ?_
              refine slv_icmp_ne eX12_scans_93 (fun h93 => absurd rfl h93) (fun h93 => ?_)
              refine slv_iload_n eX12_scans_96 rfl ?_
              refine slv_iret eX12_scans_97 rfl ?_
              refine hbad _ rfl e _ _ ⟨fun _ _ => rfl, fun k hk => ?_⟩
              rw [hto.1 k (fun q => hk (by revert q; simp; omega)), e1 k (fun q => hk (by revert q; simp; omega))]
            | false =>
              simp only [hfo, Bool.false_eq_true, if_false] at hSN
              have e : fs_nx f ln none cn at_ sg pl rl bt = (none, cn + 1, fo_b f ln at_, sl_u sg cn 0, sl_u pl cn at_, sl_u rl cn (fo_r f ln at_), sl_u bt cn (fo_v f ln at_)) := by
                rw [fs_nx, if_neg h32, hdg, cond_true, fs_op, hfo, cond_false, fs_add, if_neg (by omega)]
              rw [e] at hQ
              have hD2 := fun (a2 : Nat → Nat → Int32) (h : a2 27 = f) => c_X12_isDigit (v := v) (a := a2) (w := w) (nm := nm) (M := M) (k := at_) h hsz hl (by omega)
              rw [hdg] at hD2
              have hTO := fun (a2 : Nat → Nat → Int32) (h : rf_G g v a2) => c_X12_terminalOf (w := w) (nm := nm) (M := M) h hok 0
              refine slv_aload_n eX12_scans_7 rfl ?_
              refine slv_iload_n eX12_scans_8 rfl ?_
              refine slv_rV (As := [_]) eX12_scans_9 lX12_171 rfl rfl rf_68 rfl hB (by decide) (Nat.le_of_ble_eq_true rfl) ?_
              refine slv_bipush (v := nI 32) eX12_scans_12 (by decide) ?_
              refine slv_icmp_neN eX12_scans_14 (by omega) (by omega) (fun h14 => ?_) (fun h14 => absurd h14 h32)
              refine slv_aload_n eX12_scans_23 rfl ?_
              refine slv_iload_n eX12_scans_24 rfl ?_
              refine slv_rV (As := [_]) eX12_scans_25 lX12_171 rfl rfl rf_68 rfl hB (by decide) (Nat.le_of_ble_eq_true rfl) ?_
              refine slv_iconst (v := (-1)) eX12_scans_28 (by decide) ?_
              refine slv_icmp_ne eX12_scans_29 (fun h29 => ?_) (fun h29 => absurd h29 (nI_neg1 (by omega)))
              refine slv_aload_n eX12_scans_35 rfl ?_
              refine slr_gi eX12_scans_36 fX12_417 rfl (by repeat (first | exact sl_u_eq | assumption | apply rf_ne (by decide) | exact rfl)) ?_
              refine slv_bipush (v := nI 60) eX12_scans_39 (by decide) ?_
              refine slv_icmp_neN eX12_scans_41 (by omega) (by omega) (fun h41 => ?_) (fun h41 => absurd h41 h60)
              refine slv_aload_n eX12_scans_46 rfl ?_
              refine slr_ga (p := 93) eX12_scans_47 fX12_89 rfl ?_
              refine slv_aload_n eX12_scans_50 rfl ?_
              refine slr_gi eX12_scans_51 fX12_417 rfl (by repeat (first | exact sl_u_eq | assumption | apply rf_ne (by decide) | exact rfl)) ?_
              refine slv_iload_n eX12_scans_54 rfl ?_
              refine slr_iastX (k := 47) (p := 93) (len := 61) eX12_scans_55 rfl (by repeat (first | exact sl_u_eq | assumption | apply rf_ne (by decide) | exact rfl)) (by omega) (by decide) (rf_t47 _ _ _ _ _) ?_
              refine slv_mem (congrArg (fun z => rf_S v w z nm M) ha1) ?_
              refine slv_aload_n eX12_scans_56 rfl ?_
              refine slv_iload_n eX12_scans_57 rfl ?_
              refine slv_rV (As := [_]) eX12_scans_58 lX12_420 rfl rfl rf_68 rfl hD (by decide) (Nat.le_of_ble_eq_true rfl) ?_
              refine slv_if_eqB eX12_scans_61 (fun h61 => absurd h61 (by decide)) (fun h61 => ?_)
              refine slv_aload_n eX12_scans_64 rfl ?_
              refine slv_iload_n eX12_scans_65 rfl ?_
              refine slv_callV (As := [_]) eX12_scans_66 lX12_423 rfl rfl rf_68 rfl hSN (by decide) (Nat.le_of_ble_eq_true rfl) (Nat.zero_add _).symm (Nat.zero_add _).symm (Or.inl rfl) ?_
              rintro _ _ ⟨rfl, a2, rfl, hto, hval⟩
              have h272 : a2 27 = f := (hto.1 _ (by decide)).trans h27'
              have hG2 : rf_G g v a2 := rf_G_same hG (fun _ _ => rfl) (fun k hk => (hto.1 k (fun q => by revert hk q; simp; omega)).trans (e1 k (fun q => by revert hk q; simp; omega)))
              refine slv_goto eX12_scans_69 ?_
              refine slv_istore_n (i := 2) (lv' := [_, _, _]) eX12_scans_90 rfl (by decide) rfl ?_
              refine slv_iload_n eX12_scans_91 rfl ?_
              refine slv_iconst (v := (-1)) eX12_scans_92 (by decide) ?_
              refine slv_icmp_ne eX12_scans_93 (fun h93 => ?_) (fun h93 => absurd h93 (nI_neg1 (by omega)))
              refine slv_aload_n eX12_scans_98 rfl ?_
              refine slr_ga (p := 92) eX12_scans_99 fX12_86 rfl ?_
              refine slv_aload_n eX12_scans_102 rfl ?_
              refine slr_gi eX12_scans_103 fX12_417 rfl (by repeat (first | exact sl_u_eq | assumption | apply rf_ne (by decide) | exact rfl)) ?_
              refine slv_aload_n eX12_scans_106 rfl ?_
              refine slv_aload_n eX12_scans_107 rfl ?_
              refine slv_iload_n eX12_scans_108 rfl ?_
              refine slv_rV (As := [_]) eX12_scans_109 lX12_420 rfl rfl rf_68 rfl (hD2 a2 h272) (by decide) (Nat.le_of_ble_eq_true rfl) ?_
              refine slv_if_eqB eX12_scans_112 (fun h112 => absurd h112 (by decide)) (fun h112 => ?_)
              refine slv_iconst (v := nI 0) eX12_scans_115 (by decide) ?_
              refine slv_goto eX12_scans_116 ?_
              refine slv_rV (As := [_]) eX12_scans_124 lX12_426 rfl rfl rf_68 rfl (hTO a2 hG2) (by decide) (Nat.le_of_ble_eq_true rfl) ?_
              refine slr_iastX (k := 46) (p := 92) (len := 61) eX12_scans_127 rfl (by repeat (first | exact sl_u_eq | assumption | apply rf_ne (by decide) | exact rfl)) (by omega) (by decide) (rf_t46 _ _ _ _ _) ?_
              refine slv_aload_n eX12_scans_128 rfl ?_
              refine slv_dup eX12_scans_129 rfl ?_
              refine slr_gi eX12_scans_130 fX12_417 rfl (by repeat (first | exact sl_u_eq | assumption | apply rf_ne (by decide) | exact rfl)) ?_
              refine slv_iconst (v := nI 1) eX12_scans_133 (by decide) ?_
              refine slv_iaddN eX12_scans_134 ?_
              refine slr_pi eX12_scans_135 fX12_417 (Nat.le_of_ble_eq_true rfl) rf_s50 ?_
              refine slv_iload_n eX12_scans_138 rfl ?_
              refine slv_istore_n (i := 1) (lv' := [_, _, _]) eX12_scans_139 rfl (by decide) rfl ?_
              refine slv_goto eX12_scans_140 ?_
              refine ih (cn + 1) (fo_b f ln at_) _ _ _ _ (sl_u v 50 (nI (cn + 1))) (sl_u a2 46 (sl_u (a2 46) cn (sl_io (gt_k g 0)))) _ (by omega) hfb.2 (by omega) h272 hsz (rf_G_same hG2 (fun k hk => sl_u_ne (fun e => by rw [e] at hk; revert hk; decide)) (fun k hk => sl_u_ne (fun e => by rw [e] at hk; revert hk; decide))) (tkI_new hT ?_ ?_ (fun j hj => ?_) (fun _ => hval trivial)) Q (scQ_t hQ ⟨fun k hk => sl_u_ne (fun e => hk (by rw [e]; decide)), fun k hk => ?_⟩)
              · exact (hto.1 _ (by decide)).trans e1p
              · show sl_u (a2 46) cn _ = _
                rw [hto.1 _ (by decide), e1 _ (by decide)]
              · obtain ⟨t1, t2⟩ := hto.2 j hj
                exact ⟨t1.trans (congrFun (e1 _ (by decide)) j), t2.trans (congrFun (e1 _ (by decide)) j)⟩
              · rw [sl_u_ne (fun e => hk (by rw [e]; decide)), hto.1 k (fun q => hk (by revert q; simp; omega)), e1 k (fun q => hk (by revert q; simp; omega))]
          | false =>
            rw [hdg] at hD
            have hSg := c_X12_isSign (rf_S v w a1 nm M) hby
            cases hsg : st_sg (by_ f at_) with
            | false =>
              rw [hsg] at hSg
              have e : (fs_nx f ln none cn at_ sg pl rl bt).1 = some at_ := by
                rw [fs_nx, if_neg h32, hdg, cond_false, hsg]
                rfl
              refine slv_aload_n eX12_scans_7 rfl ?_
              refine slv_iload_n eX12_scans_8 rfl ?_
              refine slv_rV (As := [_]) eX12_scans_9 lX12_171 rfl rfl rf_68 rfl hB (by decide) (Nat.le_of_ble_eq_true rfl) ?_
              refine slv_bipush (v := nI 32) eX12_scans_12 (by decide) ?_
              refine slv_icmp_neN eX12_scans_14 (by omega) (by omega) (fun h14 => ?_) (fun h14 => absurd h14 h32)
              refine slv_aload_n eX12_scans_23 rfl ?_
              refine slv_iload_n eX12_scans_24 rfl ?_
              refine slv_rV (As := [_]) eX12_scans_25 lX12_171 rfl rfl rf_68 rfl hB (by decide) (Nat.le_of_ble_eq_true rfl) ?_
              refine slv_iconst (v := (-1)) eX12_scans_28 (by decide) ?_
              refine slv_icmp_ne eX12_scans_29 (fun h29 => ?_) (fun h29 => absurd h29 (nI_neg1 (by omega)))
              refine slv_aload_n eX12_scans_35 rfl ?_
              refine slr_gi eX12_scans_36 fX12_417 rfl (by repeat (first | exact sl_u_eq | assumption | apply rf_ne (by decide) | exact rfl)) ?_
              refine slv_bipush (v := nI 60) eX12_scans_39 (by decide) ?_
              refine slv_icmp_neN eX12_scans_41 (by omega) (by omega) (fun h41 => ?_) (fun h41 => absurd h41 h60)
              refine slv_aload_n eX12_scans_46 rfl ?_
              refine slr_ga (p := 93) eX12_scans_47 fX12_89 rfl ?_
              refine slv_aload_n eX12_scans_50 rfl ?_
              refine slr_gi eX12_scans_51 fX12_417 rfl (by repeat (first | exact sl_u_eq | assumption | apply rf_ne (by decide) | exact rfl)) ?_
              refine slv_iload_n eX12_scans_54 rfl ?_
              refine slr_iastX (k := 47) (p := 93) (len := 61) eX12_scans_55 rfl (by repeat (first | exact sl_u_eq | assumption | apply rf_ne (by decide) | exact rfl)) (by omega) (by decide) (rf_t47 _ _ _ _ _) ?_
              refine slv_mem (congrArg (fun z => rf_S v w z nm M) ha1) ?_
              refine slv_aload_n eX12_scans_56 rfl ?_
              refine slv_iload_n eX12_scans_57 rfl ?_
              refine slv_rV (As := [_]) eX12_scans_58 lX12_420 rfl rfl rf_68 rfl hD (by decide) (Nat.le_of_ble_eq_true rfl) ?_
              refine slv_if_eqB eX12_scans_61 (fun h61 => ?_) (fun h61 => absurd h61 (by decide))
              refine slv_aload_n eX12_scans_72 rfl ?_
              refine slv_iload_n eX12_scans_73 rfl ?_
              refine slv_rV (As := [_]) eX12_scans_74 lX12_171 rfl rfl rf_68 rfl hB1 (by decide) (Nat.le_of_ble_eq_true rfl) ?_
              refine slv_rS (As := [_]) eX12_scans_77 lX12_187 rfl rfl hSg (by decide) (Nat.le_of_ble_eq_true rfl) ?_
              refine slv_if_eqB eX12_scans_80 (fun h80 => ?_) (fun h80 => absurd h80 (by decide))
              refine slv_iconst (v := (-1)) eX12_scans_89 (by decide) ?_
              refine slv_istore_n (i := 2) (lv' := [_, _, _]) eX12_scans_90 rfl (by decide) rfl ?_
              refine slv_iload_n eX12_scans_91 rfl ?_
              refine slv_iconst (v := (-1)) eX12_scans_92 (by decide) ?_
              refine slv_icmp_ne eX12_scans_93 (fun h93 => absurd rfl h93) (fun h93 => ?_)
              refine slv_iload_n eX12_scans_96 rfl ?_
              refine slv_iret eX12_scans_97 rfl ?_
              refine hbad _ rfl e _ _ ⟨fun _ _ => rfl, fun k hk => ?_⟩
              exact e1 k (fun q => hk (by revert q; simp; omega))
            | true =>
              rw [hsg] at hSg
              have e : fs_nx f ln none cn at_ sg pl rl bt = (none, cn + 1, at_ + 1, sl_u sg cn (by_ f at_), sl_u pl cn at_, sl_u rl cn false, sl_u bt cn (nI 0)) := by
                rw [fs_nx, if_neg h32, hdg, cond_false, hsg, cond_true, fs_add, if_neg (by omega)]
              rw [e] at hQ
              have h0 : by_ f at_ ≠ 0 := fun q => by rw [q, st_sg0] at hsg; cases hsg
              have hG1 : rf_G g v a1 := rf_G_same hG (fun _ _ => rfl) (fun k hk => e1 k (fun q => by revert hk q; simp; omega))
              have hTO := c_X12_terminalOf (w := w) (nm := nm) (M := M) hG1 hok (by_ f at_)
              refine slv_aload_n eX12_scans_7 rfl ?_
              refine slv_iload_n eX12_scans_8 rfl ?_
              refine slv_rV (As := [_]) eX12_scans_9 lX12_171 rfl rfl rf_68 rfl hB (by decide) (Nat.le_of_ble_eq_true rfl) ?_
              refine slv_bipush (v := nI 32) eX12_scans_12 (by decide) ?_
              refine slv_icmp_neN eX12_scans_14 (by omega) (by omega) (fun h14 => ?_) (fun h14 => absurd h14 h32)
              refine slv_aload_n eX12_scans_23 rfl ?_
              refine slv_iload_n eX12_scans_24 rfl ?_
              refine slv_rV (As := [_]) eX12_scans_25 lX12_171 rfl rfl rf_68 rfl hB (by decide) (Nat.le_of_ble_eq_true rfl) ?_
              refine slv_iconst (v := (-1)) eX12_scans_28 (by decide) ?_
              refine slv_icmp_ne eX12_scans_29 (fun h29 => ?_) (fun h29 => absurd h29 (nI_neg1 (by omega)))
              refine slv_aload_n eX12_scans_35 rfl ?_
              refine slr_gi eX12_scans_36 fX12_417 rfl (by repeat (first | exact sl_u_eq | assumption | apply rf_ne (by decide) | exact rfl)) ?_
              refine slv_bipush (v := nI 60) eX12_scans_39 (by decide) ?_
              refine slv_icmp_neN eX12_scans_41 (by omega) (by omega) (fun h41 => ?_) (fun h41 => absurd h41 h60)
              refine slv_aload_n eX12_scans_46 rfl ?_
              refine slr_ga (p := 93) eX12_scans_47 fX12_89 rfl ?_
              refine slv_aload_n eX12_scans_50 rfl ?_
              refine slr_gi eX12_scans_51 fX12_417 rfl (by repeat (first | exact sl_u_eq | assumption | apply rf_ne (by decide) | exact rfl)) ?_
              refine slv_iload_n eX12_scans_54 rfl ?_
              refine slr_iastX (k := 47) (p := 93) (len := 61) eX12_scans_55 rfl (by repeat (first | exact sl_u_eq | assumption | apply rf_ne (by decide) | exact rfl)) (by omega) (by decide) (rf_t47 _ _ _ _ _) ?_
              refine slv_mem (congrArg (fun z => rf_S v w z nm M) ha1) ?_
              refine slv_aload_n eX12_scans_56 rfl ?_
              refine slv_iload_n eX12_scans_57 rfl ?_
              refine slv_rV (As := [_]) eX12_scans_58 lX12_420 rfl rfl rf_68 rfl hD (by decide) (Nat.le_of_ble_eq_true rfl) ?_
              refine slv_if_eqB eX12_scans_61 (fun h61 => ?_) (fun h61 => absurd h61 (by decide))
              refine slv_aload_n eX12_scans_72 rfl ?_
              refine slv_iload_n eX12_scans_73 rfl ?_
              refine slv_rV (As := [_]) eX12_scans_74 lX12_171 rfl rfl rf_68 rfl hB1 (by decide) (Nat.le_of_ble_eq_true rfl) ?_
              refine slv_rS (As := [_]) eX12_scans_77 lX12_187 rfl rfl hSg (by decide) (Nat.le_of_ble_eq_true rfl) ?_
              refine slv_if_eqB eX12_scans_80 (fun h80 => absurd h80 (by decide)) (fun h80 => ?_)
              refine slv_iload_n eX12_scans_83 rfl ?_
              refine slv_iconst (v := nI 1) eX12_scans_84 (by decide) ?_
              refine slv_iaddN eX12_scans_85 ?_
              refine slv_goto eX12_scans_86 ?_
              refine slv_istore_n (i := 2) (lv' := [_, _, _]) eX12_scans_90 rfl (by decide) rfl ?_
              refine slv_iload_n eX12_scans_91 rfl ?_
              refine slv_iconst (v := (-1)) eX12_scans_92 (by decide) ?_
              refine slv_icmp_ne eX12_scans_93 (fun h93 => ?_) (fun h93 => absurd h93 (nI_neg1 (by omega)))
              refine slv_aload_n eX12_scans_98 rfl ?_
              refine slr_ga (p := 92) eX12_scans_99 fX12_86 rfl ?_
              refine slv_aload_n eX12_scans_102 rfl ?_
              refine slr_gi eX12_scans_103 fX12_417 rfl (by repeat (first | exact sl_u_eq | assumption | apply rf_ne (by decide) | exact rfl)) ?_
              refine slv_aload_n eX12_scans_106 rfl ?_
              refine slv_aload_n eX12_scans_107 rfl ?_
              refine slv_iload_n eX12_scans_108 rfl ?_
              refine slv_rV (As := [_]) eX12_scans_109 lX12_420 rfl rfl rf_68 rfl hD (by decide) (Nat.le_of_ble_eq_true rfl) ?_
              refine slv_if_eqB eX12_scans_112 (fun h112 => ?_) (fun h112 => absurd h112 (by decide))
              refine slv_aload_n eX12_scans_119 rfl ?_
              refine slv_iload_n eX12_scans_120 rfl ?_
              refine slv_rV (As := [_]) eX12_scans_121 lX12_171 rfl rfl rf_68 rfl hB1 (by decide) (Nat.le_of_ble_eq_true rfl) ?_
              refine slv_rV (As := [_]) eX12_scans_124 lX12_426 rfl rfl rf_68 rfl hTO (by decide) (Nat.le_of_ble_eq_true rfl) ?_
              refine slr_iastX (k := 46) (p := 92) (len := 61) eX12_scans_127 rfl (by repeat (first | exact sl_u_eq | assumption | apply rf_ne (by decide) | exact rfl)) (by omega) (by decide) (rf_t46 _ _ _ _ _) ?_
              refine slv_aload_n eX12_scans_128 rfl ?_
              refine slv_dup eX12_scans_129 rfl ?_
              refine slr_gi eX12_scans_130 fX12_417 rfl (by repeat (first | exact sl_u_eq | assumption | apply rf_ne (by decide) | exact rfl)) ?_
              refine slv_iconst (v := nI 1) eX12_scans_133 (by decide) ?_
              refine slv_iaddN eX12_scans_134 ?_
              refine slr_pi eX12_scans_135 fX12_417 (Nat.le_of_ble_eq_true rfl) rf_s50 ?_
              refine slv_iload_n eX12_scans_138 rfl ?_
              refine slv_istore_n (i := 1) (lv' := [_, _, _]) eX12_scans_139 rfl (by decide) rfl ?_
              refine slv_goto eX12_scans_140 ?_
              refine ih (cn + 1) (at_ + 1) _ _ _ _ (sl_u v 50 (nI (cn + 1))) (sl_u a1 46 (sl_u (a1 46) cn (sl_io (gt_k g (by_ f at_))))) _ (by omega) (by omega) (by omega) h27' hsz (rf_G_same hG1 (fun k hk => sl_u_ne (fun e => by rw [e] at hk; revert hk; decide)) (fun k hk => sl_u_ne (fun e => by rw [e] at hk; revert hk; decide))) (tkI_new hT ?_ ?_ (fun j hj => ?_) (fun q => absurd q h0)) Q (scQ_t hQ ⟨fun k hk => sl_u_ne (fun e => hk (by rw [e]; decide)), fun k hk => ?_⟩)
              · exact e1p
              · show sl_u (a1 46) cn _ = _
                rw [e1 _ (by decide)]
              · exact ⟨congrFun (e1 _ (by decide)) j, congrFun (e1 _ (by decide)) j⟩
              · rw [sl_u_ne (fun e => hk (by rw [e]; decide)), e1 k (fun q => hk (by revert q; simp; omega))]
    · have e : fs_all f ln (n + 1) (none, cn, at_, sg, pl, rl, bt) = (none, cn, at_, sg, pl, rl, bt) := by
        rw [fs_all]
        simp only [decide_eq_false (show ¬ at_ < ln by omega), Bool.false_and, cond_false]
      rw [e] at hQ
      exact hend cn at_ sg pl rl bt v a z2 (by omega) hcn h27 hsz hG hT Q hQ
end RSN

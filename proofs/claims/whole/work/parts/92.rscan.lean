/-! the reference scans a formula -/
/-- the tokens, alike -/
def tkI (g : sg_T) (q : fs_T) (v : Nat → Int32) (a : Nat → Nat → Int32) : Prop := v 50 = nI q.2.1 ∧ ∀ j, j < q.2.1 → a 47 j = nI (q.2.2.2.2.1 j) ∧ a 46 j = sl_io (gt_k g (q.2.2.2.1 j)) ∧ (q.2.2.2.1 j = 0 → a 48 j = q.2.2.2.2.2.2 j ∧ a 49 j = sl_bi (q.2.2.2.2.2.1 j))
def scF (v : Nat → Int32) (a : Nat → Nat → Int32) (v' : Nat → Int32) (a' : Nat → Nat → Int32) : Prop := (∀ k, k ∉ [50] → v' k = v k) ∧ ∀ k, k ∉ [47, 46, 48, 49] → a' k = a k
theorem scF_t {v v1 v2 : Nat → Int32} {a a1 a2 : Nat → Nat → Int32} (h : scF v a v1 a1) (h2 : scF v1 a1 v2 a2) : scF v a v2 a2 := ⟨fun k hk => (h2.1 k hk).trans (h.1 k hk), fun k hk => (h2.2 k hk).trans (h.2 k hk)⟩
def scQ (g : sg_T) (ln : Nat) (w : Int64) (nm : Nat → Int64) (M : sl_M) (q : fs_T) (v : Nat → Int32) (a : Nat → Nat → Int32) (Q : Option Value → sl_M → Prop) : Prop := ∀ v' a', scF v a v' a' → (q.1 = none → tkI g q v' a' ∧ a' 46 q.2.1 = nI (sg_terms g) ∧ a' 47 q.2.1 = nI ln) → Q (some (.int (sl_io q.1))) (rf_S v' w a' nm M)
theorem scQ_t {g : sg_T} {ln : Nat} {w : Int64} {nm : Nat → Int64} {M : sl_M} {q : fs_T} {v v1 : Nat → Int32} {a a1 : Nat → Nat → Int32} {Q : Option Value → sl_M → Prop} (h : scQ g ln w nm M q v a Q) (h1 : scF v a v1 a1) : scQ g ln w nm M q v1 a1 Q := fun v' a' e1 e2 => h v' a' (scF_t h1 e1) e2
theorem fs_all_some {f : Nat → Int32} {ln : Nat} {q : fs_T} {k : Nat} (h : q.1 = some k) : ∀ n, fs_all f ln n q = q := by
  intro n
  cases n with
  | zero => rfl
  | succ n => rw [fs_all, h]; simp
theorem st_sg0 : st_sg 0 = false := by decide +kernel
section RSN
variable {v : Nat → Int32} {w : Int64} {a : Nat → Nat → Int32} {nm : Nat → Int64} {M : sl_M} {f : Nat → Int32} {ln : Nat} {g : sg_T}
set_option maxRecDepth 100000 in
theorem sc_L (hl : ln ≤ 900) (hok : sg_ok g) : ∀ (n cn at_ : Nat) (sg pl : Nat → Nat) (rl : Nat → Bool) (bt : Nat → Int32) (v : Nat → Int32) (a : Nat → Nat → Int32) (z2 : Option Value), ln ≤ at_ + n → at_ ≤ ln → cn ≤ 60 → a 27 = f → v 29 = nI ln → rf_G g v a → tkI g (none, cn, at_, sg, pl, rl, bt) v a → ∀ Q, scQ g ln w nm M (fs_all f ln n (none, cn, at_, sg, pl, rl, bt)) v a Q → sl_V YX12_scans none 3 0 0 Q 7 [some (.ref 68), some (.int (nI at_)), z2] [] (rf_S v w a nm M) := by
  intro n
  have hend : ∀ (cn at_ : Nat) (sg pl : Nat → Nat) (rl : Nat → Bool) (bt : Nat → Int32) (v : Nat → Int32) (a : Nat → Nat → Int32) (z2 : Option Value), at_ = ln → cn ≤ 60 → a 27 = f → v 29 = nI ln → rf_G g v a → tkI g (none, cn, at_, sg, pl, rl, bt) v a → ∀ Q, scQ g ln w nm M (none, cn, at_, sg, pl, rl, bt) v a Q → sl_V YX12_scans none 3 0 0 Q 7 [some (.ref 68), some (.int (nI at_)), z2] [] (rf_S v w a nm M) := by
    intro cn at_ sg pl rl bt v a z2 hat hcn h27 h29 hG hT Q hQ
    subst hat
    have hB := c_X12_byteAt (w := w) (nm := nm) (M := M) (k := at_) h27 h29 hl (by omega)
    rw [if_neg (by omega)] at hB
    have ht := hT.1
    have g3 := hG.2.2.1
    simp only at ht
    refine slv_aload_n eX12_scans_7 rfl ?_
    refine slv_iload_n eX12_scans_8 rfl ?_
    refine slv_rV (As := [_]) eX12_scans_9 lX12_171 rfl rfl rf_68 rfl hB (by decide) (Nat.le_of_ble_eq_true rfl) ?_
    refine slv_bipush (v := nI 32) eX12_scans_12 (by decide) ?_
    refine slv_icmp_ne eX12_scans_14 (fun h14 => ?_) (fun h14 => absurd h14 (by decide))
    refine slv_aload_n eX12_scans_23 rfl ?_
    refine slv_iload_n eX12_scans_24 rfl ?_
    refine slv_rV (As := [_]) eX12_scans_25 lX12_171 rfl rfl rf_68 rfl hB (by decide) (Nat.le_of_ble_eq_true rfl) ?_
    refine slv_iconst (v := (-1)) eX12_scans_28 (by decide) ?_
    refine slv_icmp_ne eX12_scans_29 (fun h29 => absurd rfl h29) (fun h29 => ?_)
    refine slv_goto eX12_scans_32 ?_
    refine slv_aload_n eX12_scans_143 rfl ?_
    refine slr_ga (p := 92) eX12_scans_144 fX12_86 rfl ?_
    refine slv_aload_n eX12_scans_147 rfl ?_
    refine slr_gi eX12_scans_148 fX12_417 rfl (by repeat (first | exact sl_u_eq | assumption | apply rf_ne (by decide) | exact rfl)) ?_
    refine slv_aload_n eX12_scans_151 rfl ?_
    refine slr_gi eX12_scans_152 fX12_324 rfl (by repeat (first | exact sl_u_eq | assumption | apply rf_ne (by decide) | exact rfl)) ?_
    refine slr_iastX (k := 46) (p := 92) (len := 61) eX12_scans_155 rfl (by repeat (first | exact sl_u_eq | assumption | apply rf_ne (by decide) | exact rfl)) (by omega) (by decide) (rf_t46 _ _ _ _ _) ?_
    refine slv_aload_n eX12_scans_156 rfl ?_
    refine slr_ga (p := 93) eX12_scans_157 fX12_89 rfl ?_
    refine slv_aload_n eX12_scans_160 rfl ?_
    refine slr_gi eX12_scans_161 fX12_417 rfl (by repeat (first | exact sl_u_eq | assumption | apply rf_ne (by decide) | exact rfl)) ?_
    refine slv_aload_n eX12_scans_164 rfl ?_
    refine slr_gi eX12_scans_165 fX12_162 rfl (by repeat (first | exact sl_u_eq | assumption | apply rf_ne (by decide) | exact rfl)) ?_
    refine slr_iastX (k := 47) (p := 93) (len := 61) eX12_scans_168 rfl (by repeat (first | exact sl_u_eq | assumption | apply rf_ne (by decide) | exact rfl)) (by omega) (by decide) (rf_t47 _ _ _ _ _) ?_
    refine slv_iconst (v := (-1)) eX12_scans_169 (by decide) ?_
    refine slv_iret eX12_scans_170 rfl ?_
    refine hQ _ _ ⟨fun _ _ => rfl, fun k hk => ?_⟩ (fun _ => ⟨⟨ht, fun j hj => ?_⟩, ?_, ?_⟩)
    · rw [sl_u_ne (fun e => hk (by rw [e]; decide)), sl_u_ne (fun e => hk (by rw [e]; decide))]
    · have hj' : j < cn := hj
      obtain ⟨j1, j2, j3⟩ := hT.2 j hj
      exact ⟨(sl_u_ne (by omega)).trans j1, (sl_u_ne (by omega)).trans j2, j3⟩
    · exact sl_u_eq
    · exact sl_u_eq
  induction n with
  | zero =>
    intro cn at_ sg pl rl bt v a z2 hn hat hcn h27 h29 hG hT Q hQ
    exact hend cn at_ sg pl rl bt v a z2 (by omega) hcn h27 h29 hG hT Q hQ
  | succ n ih =>
    intro cn at_ sg pl rl bt v a z2 hn hat hcn h27 h29 hG hT Q hQ
    rcases Nat.lt_or_ge at_ ln with hlt | hge
    · have hstep : fs_all f ln (n + 1) (none, cn, at_, sg, pl, rl, bt) = fs_all f ln n (fs_nx f ln none cn at_ sg pl rl bt) := by
        rw [fs_all]
        simp only [decide_eq_true hlt, Option.isNone_none, Bool.and_self, cond_true]
      rw [hstep] at hQ
      have hby := by_lt f at_
      have ht := hT.1
      simp only at ht
      have hBv := fun (a' : Nat → Nat → Int32) (h : a' 27 = f) => c_X12_byteAt (v := v) (a := a') (w := w) (nm := nm) (M := M) (k := at_) h h29 hl (by omega)
      have hB := hBv a h27
      rw [if_pos hlt] at hB
      by_cases h32 : by_ f at_ = 32
      · have e : fs_nx f ln none cn at_ sg pl rl bt = (none, cn, at_ + 1, sg, pl, rl, bt) := by rw [fs_nx, if_pos h32]
        rw [e] at hQ
        refine slv_aload_n eX12_scans_7 rfl ?_
        refine slv_iload_n eX12_scans_8 rfl ?_
        refine slv_rV (As := [_]) eX12_scans_9 lX12_171 rfl rfl rf_68 rfl hB (by decide) (Nat.le_of_ble_eq_true rfl) ?_
        refine slv_bipush (v := nI 32) eX12_scans_12 (by decide) ?_
        refine slv_icmp_neN eX12_scans_14 (by omega) (by omega) (fun h14 => absurd h14 (fun q => q h32)) (fun h14 => ?_)
        refine slv_iincN (lv' := [_, _, _]) eX12_scans_17 rfl (by decide) rfl ?_
        refine slv_goto eX12_scans_20 ?_
        exact ih cn (at_ + 1) sg pl rl bt v a _ (by omega) (by omega) hcn h27 h29 hG hT Q hQ
      · have hbad : ∀ q : fs_T, fs_nx f ln none cn at_ sg pl rl bt = q → q.1 = some at_ → ∀ v' a', scF v a v' a' → Q (some (.int (nI at_))) (rf_S v' w a' nm M) := by
          intro q e1 e2 v' a' h
          rw [e1, fs_all_some e2 n] at hQ
          have := hQ v' a' h (fun q => by rw [e2] at q; cases q)
          rw [e2] at this
          exact this
        by_cases h60 : cn = 60
        · have e : (fs_nx f ln none cn at_ sg pl rl bt).1 = some at_ := by
            rw [fs_nx, if_neg h32]
            cases fm_dg f ln at_ with
            | true =>
              simp only [cond_true]
              rw [fs_op]
              cases fo_bad f ln at_ with
              | true => rfl
              | false => simp only [cond_false]; rw [fs_add, if_pos (by omega)]
            | false =>
              simp only [cond_false]
              cases st_sg (by_ f at_) with
              | true => simp only [cond_true]; rw [fs_add, if_pos (by omega)]
              | false => rfl
          have hb := hbad _ rfl e v a ⟨fun _ _ => rfl, fun _ _ => rfl⟩
          refine slv_aload_n eX12_scans_7 rfl ?_
          refine slv_iload_n eX12_scans_8 rfl ?_
          refine slv_rV (As := [_]) eX12_scans_9 lX12_171 rfl rfl rf_68 rfl hB (by decide) (Nat.le_of_ble_eq_true rfl) ?_
          refine slv_bipush (v := nI 32) eX12_scans_12 (by decide) ?_
          refine slv_icmp_neN eX12_scans_14 (by omega) (by omega) (fun h14 => ?_) (fun h14 => absurd h14 h32)
          refine slv_aload_n eX12_scans_23 rfl ?_
          refine slv_iload_n eX12_scans_24 rfl ?_
          refine slv_rV (As := [_]) eX12_scans_25 lX12_171 rfl rfl rf_68 rfl hB (by decide) (Nat.le_of_ble_eq_true rfl) ?_
          refine slv_iconst (v := (-1)) eX12_scans_28 (by decide) ?_
          refine slv_icmp_ne eX12_scans_29 (fun h29 => ?_) (fun h29 => absurd h29 (nI_neg1 (by omega)))
          refine slv_aload_n eX12_scans_35 rfl ?_
          refine slr_gi eX12_scans_36 fX12_417 rfl (by repeat (first | exact sl_u_eq | assumption | apply rf_ne (by decide) | exact rfl)) ?_
          refine slv_bipush (v := nI 60) eX12_scans_39 (by decide) ?_
          refine slv_icmp_neN eX12_scans_41 (by omega) (by omega) (fun h41 => absurd h41 (by omega)) (fun h41 => ?_)
          refine slv_iload_n eX12_scans_44 rfl ?_
          refine slv_iret eX12_scans_45 rfl ?_
          exact hb
        · sorry
    · have e : fs_all f ln (n + 1) (none, cn, at_, sg, pl, rl, bt) = (none, cn, at_, sg, pl, rl, bt) := by
        rw [fs_all]
        simp only [decide_eq_false (show ¬ at_ < ln by omega), Bool.false_and, cond_false]
      rw [e] at hQ
      exact hend cn at_ sg pl rl bt v a z2 (by omega) hcn h27 h29 hG hT Q hQ
end RSN

/-! the reference: the next token -/
def tkm (t : Nat) : Nat := [1, 2, 3, 4, 0].getD t 0
/-- the reference has the token that the class has -/
def rm_t (ln : Nat) (T : gr_T) (v : Nat → Int32) (w : Int64) : Prop := v 34 = nI 0 ∧ v 29 = nI ln ∧ v 30 = nI (gr_a T) ∧ v 31 = nI (tkm (gr_tk T)) ∧ v 32 = nI (gr_tp T) ∧ (gr_tk T = 1 → wrd w (gr_wd T)) ∧ (gr_tk T = 2 → v 33 = nI (gr_sg T))
theorem in_lt {b : Nat} (hb : b < 256) : (decide (nI 97 ≤ nI b) && decide (nI b ≤ nI 122)) = gr_lt b := by
  unfold gr_lt
  rw [decide_eq_decide.mpr (nI_le_iff (a := 97) (b := b) (by omega) (by omega)), decide_eq_decide.mpr (nI_le_iff (a := b) (b := 122) (by omega) (by omega))]
theorem gr_wp_st {l : List Nat} {b : Nat} (h1 : wok l) (hb : gr_lt b = true) : nI (q5 l) * nI 32 + nI b - nI 97 + nI 1 = nI (q5 ((b - 97) :: l)) := by
  simp only [gr_lt, Bool.and_eq_true, decide_eq_true_eq] at hb
  rw [nI_mul, nI_add', nI_sub (by omega), nI_add']
  congr 1
  simp only [q5]
  omega
section RNX
variable {v : Nat → Int32} {w : Int64} {a : Nat → Nat → Int32} {nm : Nat → Int64} {M : sl_M} {f : Nat → Int32} {ln : Nat}
set_option maxRecDepth 100000 in
theorem c_X12_nextWord (h27 : a 27 = f) (h29 : v 29 = nI ln) (hl : ln ≤ 900) {s : Nat} (hs : s ≤ ln) (h30 : v 30 = nI s) (h32 : v 32 = nI s) : sl_T YX12_nextWord 1 0 0 (fun r M' => r = none ∧ ∃ w', M' = rf_S (sl_u (sl_u v 30 (nI (gr_we f ln (ln - s) s))) 31 (nI (if gr_we f ln (ln - s) s - s ≤ 6 then 2 else 0))) w' a nm M ∧ (gr_we f ln (ln - s) s - s ≤ 6 → wrd w' (gr_wp f ln (ln - s) s (nI 0)))) [.ref 68] (rf_S v w a nm M) := by
  refine sl_T.of_V (lv := [_]) (by decide) rfl (Nat.le_of_ble_eq_true rfl) ?_
  have loop : ∀ (n i : Nat) (l : List Nat) (p : Int32) (w : Int64), s + i + n = ln → (i ≤ 6 → wok l ∧ l.length = i ∧ p = nI (q5 l) ∧ w = Int64.ofNat (q8 l)) → ∀ Q : Option Value → sl_M → Prop, (∀ w', (gr_we f ln n (s + i) - s ≤ 6 → wrd w' (gr_wp f ln n (s + i) p)) → sl_V YX12_nextWord none 1 0 0 Q 71 [some (.ref 68)] [] (rf_S (sl_u v 30 (nI (gr_we f ln n (s + i)))) w' a nm M)) → sl_V YX12_nextWord none 1 0 0 Q 5 [some (.ref 68)] [] (rf_S (sl_u v 30 (nI (s + i))) w a nm M) := by
    intro n
    induction n with
    | zero =>
      intro i l p w hi hw Q hQ
      have hB := c_X12_byteAt (v := sl_u v 30 (nI (s + i))) (w := w) (nm := nm) (M := M) h27 h29 hl (k := s + i) (by omega)
      rw [if_neg (by omega)] at hB
      have hI := c_X12_in (rf_S (sl_u v 30 (nI (s + i))) w a nm M) (-1) (nI 97) (nI 122)
      rw [show (decide (nI 97 ≤ (-1 : Int32)) && decide ((-1 : Int32) ≤ nI 122)) = false from by decide] at hI
      refine slv_aload_n eX12_nextWord_5 rfl ?_
      refine slv_aload_n eX12_nextWord_6 rfl ?_
      refine slr_gi eX12_nextWord_7 fX12_168 rfl (by repeat (first | exact sl_u_eq | assumption | apply rf_ne (by decide) | exact rfl)) ?_
      refine slv_rV (As := [_]) eX12_nextWord_10 lX12_171 rfl rfl rf_68 rfl hB (by decide) (Nat.le_of_ble_eq_true rfl) ?_
      refine slv_bipush (v := nI 97) eX12_nextWord_13 (by decide) ?_
      refine slv_bipush (v := nI 122) eX12_nextWord_15 (by decide) ?_
      refine slv_rS (As := [_, _, _]) eX12_nextWord_17 lX12_180 rfl rfl hI (by decide) (Nat.le_of_ble_eq_true rfl) ?_
      refine slv_if_eqB eX12_nextWord_20 (fun h20 => ?_) (fun h20 => absurd h20 (by decide))
      exact hQ w (fun h => by obtain ⟨k1, k2, k3, k4⟩ := hw (by have : gr_we f ln 0 (s + i) = s + i := rfl; omega); exact ⟨l, k1, k3, k4⟩)
    | succ n ih =>
      intro i l p w hi hw Q hQ
      have hb := by_lt f (s + i)
      have hB := fun w => c_X12_byteAt (v := sl_u v 30 (nI (s + i))) (w := w) (nm := nm) (M := M) h27 h29 hl (k := s + i) (by omega)
      simp only [if_pos (show s + i < ln by omega)] at hB
      have hI := c_X12_in (rf_S (sl_u v 30 (nI (s + i))) w a nm M) (nI (by_ f (s + i))) (nI 97) (nI 122)
      rw [in_lt hb] at hI
      have e1 : gr_we f ln (n + 1) (s + i) = cond (decide (s + i < ln) && gr_lt (by_ f (s + i))) (gr_we f ln n (s + i + 1)) (s + i) := rfl
      have e2 : gr_wp f ln (n + 1) (s + i) p = cond (decide (s + i < ln) && gr_lt (by_ f (s + i))) (gr_wp f ln n (s + i + 1) (p * nI 32 + nI (by_ f (s + i)) - nI 97 + nI 1)) p := rfl
      rw [e1, e2, decide_eq_true (show s + i < ln by omega), Bool.true_and] at hQ
      cases hg : gr_lt (by_ f (s + i)) with
      | false =>
        rw [hg] at hI hQ
        refine slv_aload_n eX12_nextWord_5 rfl ?_
        refine slv_aload_n eX12_nextWord_6 rfl ?_
        refine slr_gi eX12_nextWord_7 fX12_168 rfl (by repeat (first | exact sl_u_eq | assumption | apply rf_ne (by decide) | exact rfl)) ?_
        refine slv_rV (As := [_]) eX12_nextWord_10 lX12_171 rfl rfl rf_68 rfl (hB w) (by decide) (Nat.le_of_ble_eq_true rfl) ?_
        refine slv_bipush (v := nI 97) eX12_nextWord_13 (by decide) ?_
        refine slv_bipush (v := nI 122) eX12_nextWord_15 (by decide) ?_
        refine slv_rS (As := [_, _, _]) eX12_nextWord_17 lX12_180 rfl rfl hI (by decide) (Nat.le_of_ble_eq_true rfl) ?_
        refine slv_if_eqB eX12_nextWord_20 (fun h20 => ?_) (fun h20 => absurd h20 (by decide))
        exact hQ w (fun h => by obtain ⟨k1, k2, k3, k4⟩ := hw (by simp only [cond_false] at h; omega); exact ⟨l, k1, k3, k4⟩)
      | true =>
        rw [hg, cond_true, cond_true] at hQ
        rw [hg] at hI
        have hx : by_ f (s + i) - 97 < 26 := by
          have h := hg
          simp only [gr_lt, Bool.and_eq_true, decide_eq_true_eq] at h
          omega
        have hx2 : 97 + (by_ f (s + i) - 97) = by_ f (s + i) := by
          have h := hg
          simp only [gr_lt, Bool.and_eq_true, decide_eq_true_eq] at h
          omega
        rcases Nat.lt_or_ge i 6 with h6 | h6
        · obtain ⟨k1, k2, k3, k4⟩ := hw (by omega)
          have hq8 : q8 l < 1099511627776 := Nat.lt_of_lt_of_le (q8_lt k1.2) (by rw [k2]; exact Nat.le_trans (Nat.pow_le_pow_right (by decide) (show i ≤ 5 by omega)) (by decide))
          have hst := q8_step hq8 hb
          have hk : wok ((by_ f (s + i) - 97) :: l) := ⟨by simp [k2]; omega, fun x hx' => by
            rcases List.mem_cons.mp hx' with e | e
            · rw [e]; exact hx
            · exact k1.2 x e⟩
          have hI2 := ih (i + 1) ((by_ f (s + i) - 97) :: l) (p * nI 32 + nI (by_ f (s + i)) - nI 97 + nI 1) (w <<< ((nI 8).toInt64 &&& 63) ||| (nI (by_ f (s + i))).toInt64) (by omega) (fun _ => ⟨hk, by simp [k2], by rw [k3]; exact gr_wp_st k1 hg, by rw [k4, hst]; simp only [q8]; rw [hx2]⟩) Q hQ
          refine slv_aload_n eX12_nextWord_5 rfl ?_
          refine slv_aload_n eX12_nextWord_6 rfl ?_
          refine slr_gi eX12_nextWord_7 fX12_168 rfl (by repeat (first | exact sl_u_eq | assumption | apply rf_ne (by decide) | exact rfl)) ?_
          refine slv_rV (As := [_]) eX12_nextWord_10 lX12_171 rfl rfl rf_68 rfl (hB w) (by decide) (Nat.le_of_ble_eq_true rfl) ?_
          refine slv_bipush (v := nI 97) eX12_nextWord_13 (by decide) ?_
          refine slv_bipush (v := nI 122) eX12_nextWord_15 (by decide) ?_
          refine slv_rS (As := [_, _, _]) eX12_nextWord_17 lX12_180 rfl rfl hI (by decide) (Nat.le_of_ble_eq_true rfl) ?_
          refine slv_if_eqB eX12_nextWord_20 (fun h20 => absurd h20 (by decide)) (fun h20 => ?_)
          refine slv_aload_n eX12_nextWord_23 rfl ?_
          refine slr_gi eX12_nextWord_24 fX12_168 rfl (by repeat (first | exact sl_u_eq | assumption | apply rf_ne (by decide) | exact rfl)) ?_
          refine slv_aload_n eX12_nextWord_27 rfl ?_
          refine slr_gi eX12_nextWord_28 fX12_174 rfl (by repeat (first | exact sl_u_eq | assumption | apply rf_ne (by decide) | exact rfl)) ?_
          refine slv_isubN eX12_nextWord_31 (by omega) ?_
          refine slv_bipush (v := nI 6) eX12_nextWord_32 (by decide) ?_
          rw [show s + i - s = i by omega]
          refine slv_icmp_geN eX12_nextWord_34 (by omega) (by omega) (fun h34 => absurd h34 (by omega)) (fun h34 => ?_)
          refine slv_aload_n eX12_nextWord_37 rfl ?_
          refine slv_aload_n eX12_nextWord_38 rfl ?_
          refine slr_gw eX12_nextWord_39 fX12_194 rfl ?_
          refine slv_bipush (v := nI 8) eX12_nextWord_42 (by decide) ?_
          refine slv_lshl eX12_nextWord_44 rfl ?_
          refine slv_aload_n eX12_nextWord_45 rfl ?_
          refine slv_aload_n eX12_nextWord_46 rfl ?_
          refine slr_gi eX12_nextWord_47 fX12_168 rfl (by repeat (first | exact sl_u_eq | assumption | apply rf_ne (by decide) | exact rfl)) ?_
          refine slv_rV (As := [_]) eX12_nextWord_50 lX12_171 rfl rfl rf_68 rfl (hB w) (by decide) (Nat.le_of_ble_eq_true rfl) ?_
          refine slv_i2l eX12_nextWord_53 rfl ?_
          refine slv_lor eX12_nextWord_54 ?_
          refine slr_pw eX12_nextWord_55 fX12_194 ?_
          refine slv_aload_n eX12_nextWord_58 rfl ?_
          refine slv_dup eX12_nextWord_59 rfl ?_
          refine slr_gi eX12_nextWord_60 fX12_168 rfl (by repeat (first | exact sl_u_eq | assumption | apply rf_ne (by decide) | exact rfl)) ?_
          refine slv_iconst (v := nI 1) eX12_nextWord_63 (by decide) ?_
          refine slv_iaddN eX12_nextWord_64 ?_
          refine slr_pi eX12_nextWord_65 fX12_168 (Nat.le_of_ble_eq_true rfl) rf_s30 ?_
          refine slv_goto eX12_nextWord_68 ?_
          rw [sl_u_u]
          exact hI2
        · have hI2 := ih (i + 1) l (p * nI 32 + nI (by_ f (s + i)) - nI 97 + nI 1) w (by omega) (fun h => by omega) Q hQ
          refine slv_aload_n eX12_nextWord_5 rfl ?_
          refine slv_aload_n eX12_nextWord_6 rfl ?_
          refine slr_gi eX12_nextWord_7 fX12_168 rfl (by repeat (first | exact sl_u_eq | assumption | apply rf_ne (by decide) | exact rfl)) ?_
          refine slv_rV (As := [_]) eX12_nextWord_10 lX12_171 rfl rfl rf_68 rfl (hB w) (by decide) (Nat.le_of_ble_eq_true rfl) ?_
          refine slv_bipush (v := nI 97) eX12_nextWord_13 (by decide) ?_
          refine slv_bipush (v := nI 122) eX12_nextWord_15 (by decide) ?_
          refine slv_rS (As := [_, _, _]) eX12_nextWord_17 lX12_180 rfl rfl hI (by decide) (Nat.le_of_ble_eq_true rfl) ?_
          refine slv_if_eqB eX12_nextWord_20 (fun h20 => absurd h20 (by decide)) (fun h20 => ?_)
          refine slv_aload_n eX12_nextWord_23 rfl ?_
          refine slr_gi eX12_nextWord_24 fX12_168 rfl (by repeat (first | exact sl_u_eq | assumption | apply rf_ne (by decide) | exact rfl)) ?_
          refine slv_aload_n eX12_nextWord_27 rfl ?_
          refine slr_gi eX12_nextWord_28 fX12_174 rfl (by repeat (first | exact sl_u_eq | assumption | apply rf_ne (by decide) | exact rfl)) ?_
          refine slv_isubN eX12_nextWord_31 (by omega) ?_
          refine slv_bipush (v := nI 6) eX12_nextWord_32 (by decide) ?_
          rw [show s + i - s = i by omega]
          refine slv_icmp_geN eX12_nextWord_34 (by omega) (by omega) (fun h34 => ?_) (fun h34 => absurd h34 (by omega))
          refine slv_aload_n eX12_nextWord_58 rfl ?_
          refine slv_dup eX12_nextWord_59 rfl ?_
          refine slr_gi eX12_nextWord_60 fX12_168 rfl (by repeat (first | exact sl_u_eq | assumption | apply rf_ne (by decide) | exact rfl)) ?_
          refine slv_iconst (v := nI 1) eX12_nextWord_63 (by decide) ?_
          refine slv_iaddN eX12_nextWord_64 ?_
          refine slr_pi eX12_nextWord_65 fX12_168 (Nat.le_of_ble_eq_true rfl) rf_s30 ?_
          refine slv_goto eX12_nextWord_68 ?_
          rw [sl_u_u]
          exact hI2
  have hle := (gr_we_le f ln (ln - s) s hs)
  have e1 : rf_S v (0 : Int64) a nm M = rf_S (sl_u v 30 (nI (s + 0))) (0 : Int64) a nm M := by rw [Nat.add_zero, ← h30, sl_u_self]
  have hl0 := loop (ln - s) 0 [] (nI 0) 0 (by omega) (fun _ => ⟨⟨by decide, fun x hx => by cases hx⟩, rfl, rfl, rfl⟩)
  rw [← e1, Nat.add_zero] at hl0
  refine slv_aload_n eX12_nextWord_0 rfl ?_
  refine slv_lconst (v := 0) eX12_nextWord_1 (by decide) ?_
  refine slr_pw eX12_nextWord_2 fX12_194 ?_
  refine hl0 _ (fun w' hw' => ?_)
  refine slv_aload_n eX12_nextWord_71 rfl ?_
  refine slv_aload_n eX12_nextWord_72 rfl ?_
  refine slr_gi eX12_nextWord_73 fX12_168 rfl (by repeat (first | exact sl_u_eq | assumption | apply rf_ne (by decide) | exact rfl)) ?_
  refine slv_aload_n eX12_nextWord_76 rfl ?_
  refine slr_gi eX12_nextWord_77 fX12_174 rfl (by repeat (first | exact sl_u_eq | assumption | apply rf_ne (by decide) | exact rfl)) ?_
  refine slv_isubN eX12_nextWord_80 (by omega) ?_
  refine slv_bipush (v := nI 6) eX12_nextWord_81 (by decide) ?_
  refine slv_icmp_leN eX12_nextWord_83 (by omega) (by omega) (fun h83 => ?_) (fun h83 => ?_)
  · refine slv_iconst (v := nI 2) eX12_nextWord_90 (by decide) ?_
    refine slr_pi eX12_nextWord_91 fX12_177 (Nat.le_of_ble_eq_true rfl) rf_s31 ?_
    refine slv_vret eX12_nextWord_94 rfl ?_
    refine ⟨rfl, w', ?_, hw'⟩
    first | (rw [if_pos h83]; done) | (rw [if_neg (Nat.not_le.mpr h83)])
  · refine slv_iconst (v := nI 0) eX12_nextWord_86 (by decide) ?_
    refine slv_goto eX12_nextWord_87 ?_
    refine slr_pi eX12_nextWord_91 fX12_177 (Nat.le_of_ble_eq_true rfl) rf_s31 ?_
    refine slv_vret eX12_nextWord_94 rfl ?_
    refine ⟨rfl, w', ?_, hw'⟩
    first | (rw [if_pos h83]; done) | (rw [if_neg (Nat.not_le.mpr h83)])
set_option maxRecDepth 100000 in
theorem c_X12_next (h27 : a 27 = f) (hl : ln ≤ 900) (h29 : v 29 = nI ln) (h34 : v 34 = nI 0) {R : gr_T} (h30 : v 30 = nI (gr_a R)) (ha : gr_a R ≤ ln) : sl_T YX12_next 2 0 0 (fun r M' => r = none ∧ ∃ v' w', M' = rf_S v' w' a nm M ∧ (∀ k, k ∉ [30, 31, 32, 33] → v' k = v k) ∧ rm_t ln (gr_tok f ln R) v' w') [.ref 68] (rf_S v w a nm M) := by
  refine sl_T.of_V (lv := [_, _]) (by decide) rfl (Nat.le_of_ble_eq_true rfl) ?_
  have hB := fun v (h29 : v 29 = nI ln) k (hk : k ≤ ln) => c_X12_byteAt (v := v) (w := w) (nm := nm) (M := M) h27 h29 hl (k := k) (by omega)
  have skip : ∀ (n s : Nat), s + n = ln → ∀ (z1 : Option Value) (Q : Option Value → sl_M → Prop), sl_V YX12_next none 2 0 0 Q 34 [some (.ref 68), z1] [] (rf_S (sl_u v 30 (nI (gr_sk f ln n s))) w a nm M) → sl_V YX12_next none 2 0 0 Q 8 [some (.ref 68), z1] [] (rf_S (sl_u v 30 (nI s)) w a nm M) := by
    intro n
    induction n with
    | zero =>
      intro s hs z1 Q hQ
      have hb := hB (sl_u v 30 (nI s)) h29 s (by omega)
      rw [if_neg (by omega)] at hb
      refine slv_aload_n eX12_next_8 rfl ?_
      refine slv_aload_n eX12_next_9 rfl ?_
      refine slr_gi eX12_next_10 fX12_168 rfl (by repeat (first | exact sl_u_eq | assumption | apply rf_ne (by decide) | exact rfl)) ?_
      refine slv_rV (As := [_]) eX12_next_13 lX12_171 rfl rfl rf_68 rfl hb (by decide) (Nat.le_of_ble_eq_true rfl) ?_
      refine slv_bipush (v := nI 32) eX12_next_16 (by decide) ?_
      refine slv_icmp_ne eX12_next_18 (fun h18 => ?_) (fun h18 => absurd h18 (by decide))
      exact hQ
    | succ n ih =>
      intro s hs z1 Q hQ
      have hb := hB (sl_u v 30 (nI s)) h29 s (by omega)
      rw [if_pos (by omega)] at hb
      have hlt := by_lt f s
      have e1 : gr_sk f ln (n + 1) s = cond (decide (s < ln) && decide (by_ f s = 32)) (gr_sk f ln n (s + 1)) s := rfl
      rw [e1, decide_eq_true (show s < ln by omega), Bool.true_and] at hQ
      refine slv_aload_n eX12_next_8 rfl ?_
      refine slv_aload_n eX12_next_9 rfl ?_
      refine slr_gi eX12_next_10 fX12_168 rfl (by repeat (first | exact sl_u_eq | assumption | apply rf_ne (by decide) | exact rfl)) ?_
      refine slv_rV (As := [_]) eX12_next_13 lX12_171 rfl rfl rf_68 rfl hb (by decide) (Nat.le_of_ble_eq_true rfl) ?_
      refine slv_bipush (v := nI 32) eX12_next_16 (by decide) ?_
      refine slv_icmp_neN eX12_next_18 (by omega) (by omega) (fun h18 => ?_) (fun h18 => ?_)
      · rw [decide_eq_false h18] at hQ
        exact hQ
      · refine slv_aload_n eX12_next_21 rfl ?_
        refine slv_dup eX12_next_22 rfl ?_
        refine slr_gi eX12_next_23 fX12_168 rfl (by repeat (first | exact sl_u_eq | assumption | apply rf_ne (by decide) | exact rfl)) ?_
        refine slv_iconst (v := nI 1) eX12_next_26 (by decide) ?_
        refine slv_iaddN eX12_next_27 ?_
        refine slr_pi eX12_next_28 fX12_168 (Nat.le_of_ble_eq_true rfl) rf_s30 ?_
        refine slv_goto eX12_next_31 ?_
        rw [decide_eq_true h18] at hQ
        rw [sl_u_u]
        exact ih (s + 1) (by omega) _ Q hQ
  have e1 : rf_S v w a nm M = rf_S (sl_u v 30 (nI (gr_a R))) w a nm M := by rw [← h30, sl_u_self]
  have hsk := skip (ln - gr_a R) (gr_a R) (by omega)
  rw [← e1] at hsk
  obtain ⟨p1, p2⟩ := gr_sk_le f ln (ln - gr_a R) (gr_a R) ha
  refine slv_aload_n eX12_next_0 rfl ?_
  refine slr_gi eX12_next_1 fX12_165 rfl (by repeat (first | exact sl_u_eq | assumption | apply rf_ne (by decide) | exact rfl)) ?_
  refine slv_if_leN eX12_next_4 (by omega) (fun h4 => ?_) (fun h4 => absurd h4 (by omega))
  refine hsk _ _ ?_
  unfold gr_tok
  generalize gr_sk f ln (ln - gr_a R) (gr_a R) = p at *
  have hb := hB (sl_u (sl_u v 30 (nI p)) 32 (nI p)) h29 p p2
  unfold gr_t1
  have fr : ∀ (v1 : Nat → Int32), (∀ k, k ∉ [30, 31, 32, 33] → v1 k = v k) → ∀ x y : Int32, ∀ i j, i ∈ [30, 31, 32, 33] → j ∈ [30, 31, 32, 33] → ∀ k, k ∉ [30, 31, 32, 33] → sl_u (sl_u v1 i x) j y k = v k := by
    intro v1 h x y i j hi hj k hk
    rw [sl_u_ne (fun e => hk (by rw [e]; exact hj)), sl_u_ne (fun e => hk (by rw [e]; exact hi))]
    exact h k hk
  have fr0 : ∀ k, k ∉ [30, 31, 32, 33] → sl_u (sl_u v 30 (nI p)) 32 (nI p) k = v k := fr v (fun _ _ => rfl) _ _ _ _ (by decide) (by decide)
  by_cases hend : ln ≤ p
  · rw [if_pos hend]
    rw [if_neg (by omega)] at hb
    refine slv_aload_n eX12_next_34 rfl ?_
    refine slv_aload_n eX12_next_35 rfl ?_
    refine slr_gi eX12_next_36 fX12_168 rfl (by repeat (first | exact sl_u_eq | assumption | apply rf_ne (by decide) | exact rfl)) ?_
    refine slr_pi eX12_next_39 fX12_174 (Nat.le_of_ble_eq_true rfl) rf_s32 ?_
    refine slv_aload_n eX12_next_42 rfl ?_
    refine slv_aload_n eX12_next_43 rfl ?_
    refine slr_gi eX12_next_44 fX12_168 rfl (by repeat (first | exact sl_u_eq | assumption | apply rf_ne (by decide) | exact rfl)) ?_
    refine slv_rV (As := [_]) eX12_next_47 lX12_171 rfl rfl rf_68 rfl hb (by decide) (Nat.le_of_ble_eq_true rfl) ?_
    refine slv_istore_n (i := 1) (lv' := [_, _]) eX12_next_50 rfl (by decide) rfl ?_
    refine slv_iload_n eX12_next_51 rfl ?_
    refine slv_iconst (v := (-1)) eX12_next_52 (by decide) ?_
    refine slv_icmp_ne eX12_next_53 (fun h53 => absurd rfl h53) (fun h53 => ?_)
    refine slv_aload_n eX12_next_56 rfl ?_
    refine slv_iconst (v := nI 1) eX12_next_57 (by decide) ?_
    refine slr_pi eX12_next_58 fX12_177 (Nat.le_of_ble_eq_true rfl) rf_s31 ?_
    refine slv_goto eX12_next_61 ?_
    refine slv_vret eX12_next_123 rfl ?_
    refine ⟨rfl, _, _, rfl, fun k hk => ?_, h34, h29, rfl, rfl, rfl, fun h => (by cases h), fun h => (by cases h)⟩
    rw [sl_u_ne (fun e => hk (by rw [e]; decide))]
    exact fr0 k hk
  · rw [if_neg hend]
    rw [if_pos (by omega)] at hb
    have hlt := by_lt f p
    have hI := c_X12_in (rf_S (sl_u (sl_u v 30 (nI p)) 32 (nI p)) w a nm M) (nI (by_ f p)) (nI 97) (nI 122)
    rw [in_lt hlt] at hI
    cases hg : gr_lt (by_ f p) with
    | true =>
      rw [hg] at hI
      rw [cond_true]
      have hW := c_X12_nextWord (v := sl_u (sl_u v 30 (nI p)) 32 (nI p)) (w := w) (nm := nm) (M := M) h27 h29 hl p2 rfl rfl
      refine slv_aload_n eX12_next_34 rfl ?_
      refine slv_aload_n eX12_next_35 rfl ?_
      refine slr_gi eX12_next_36 fX12_168 rfl (by repeat (first | exact sl_u_eq | assumption | apply rf_ne (by decide) | exact rfl)) ?_
      refine slr_pi eX12_next_39 fX12_174 (Nat.le_of_ble_eq_true rfl) rf_s32 ?_
      refine slv_aload_n eX12_next_42 rfl ?_
      refine slv_aload_n eX12_next_43 rfl ?_
      refine slr_gi eX12_next_44 fX12_168 rfl (by repeat (first | exact sl_u_eq | assumption | apply rf_ne (by decide) | exact rfl)) ?_
      refine slv_rV (As := [_]) eX12_next_47 lX12_171 rfl rfl rf_68 rfl hb (by decide) (Nat.le_of_ble_eq_true rfl) ?_
      refine slv_istore_n (i := 1) (lv' := [_, _]) eX12_next_50 rfl (by decide) rfl ?_
      refine slv_iload_n eX12_next_51 rfl ?_
      refine slv_iconst (v := (-1)) eX12_next_52 (by decide) ?_
      refine slv_icmp_ne eX12_next_53 (fun h53 => ?_) (fun h53 => absurd h53 (nI_neg1 (by omega)))
      refine slv_iload_n eX12_next_64 rfl ?_
      refine slv_bipush (v := nI 97) eX12_next_65 (by decide) ?_
      refine slv_bipush (v := nI 122) eX12_next_67 (by decide) ?_
      refine slv_rS (As := [_, _, _]) eX12_next_69 lX12_180 rfl rfl hI (by decide) (Nat.le_of_ble_eq_true rfl) ?_
      refine slv_if_eqB eX12_next_72 (fun h72 => absurd h72 (by decide)) (fun h72 => ?_)
      refine slv_aload_n eX12_next_75 rfl ?_
      refine slv_callV (As := []) eX12_next_76 lX12_184 rfl rfl rf_68 rfl hW (by decide) (Nat.le_of_ble_eq_true rfl) (Nat.zero_add _).symm (Nat.zero_add _).symm (Or.inl rfl) ?_
      rintro _ _ ⟨rfl, w', rfl, hw'⟩
      refine slv_goto eX12_next_79 ?_
      refine slv_vret eX12_next_123 rfl ?_
      refine ⟨rfl, _, w', rfl, fun k hk => ?_, h34, h29, rfl, ?_, rfl, ?_, ?_⟩
      · exact fr _ fr0 _ _ _ _ (by decide) (by decide) k hk
      · unfold gr_w
        show nI (if gr_we f ln (ln - p) p - p ≤ 6 then 2 else 0) = nI (tkm (if gr_we f ln (ln - p) p - p ≤ 6 then 1 else 4))
        split <;> rfl
      · intro h
        have h' : (if gr_we f ln (ln - p) p - p ≤ 6 then 1 else 4) = 1 := h
        refine hw' ?_
        by_cases h6 : gr_we f ln (ln - p) p - p ≤ 6
        · exact h6
        · rw [if_neg h6] at h'; cases h'
      · intro h
        have h' : (if gr_we f ln (ln - p) p - p ≤ 6 then 1 else 4) = 2 := h
        split at h' <;> cases h'
    | false =>
      rw [hg] at hI
      rw [cond_false]
      have hSg := c_X12_isSign (rf_S (sl_u (sl_u v 30 (nI p)) 32 (nI p)) w a nm M) hlt
      by_cases h59 : by_ f p = 59
      · rw [if_pos h59]
        refine slv_aload_n eX12_next_34 rfl ?_
        refine slv_aload_n eX12_next_35 rfl ?_
        refine slr_gi eX12_next_36 fX12_168 rfl (by repeat (first | exact sl_u_eq | assumption | apply rf_ne (by decide) | exact rfl)) ?_
        refine slr_pi eX12_next_39 fX12_174 (Nat.le_of_ble_eq_true rfl) rf_s32 ?_
        refine slv_aload_n eX12_next_42 rfl ?_
        refine slv_aload_n eX12_next_43 rfl ?_
        refine slr_gi eX12_next_44 fX12_168 rfl (by repeat (first | exact sl_u_eq | assumption | apply rf_ne (by decide) | exact rfl)) ?_
        refine slv_rV (As := [_]) eX12_next_47 lX12_171 rfl rfl rf_68 rfl hb (by decide) (Nat.le_of_ble_eq_true rfl) ?_
        refine slv_istore_n (i := 1) (lv' := [_, _]) eX12_next_50 rfl (by decide) rfl ?_
        refine slv_iload_n eX12_next_51 rfl ?_
        refine slv_iconst (v := (-1)) eX12_next_52 (by decide) ?_
        refine slv_icmp_ne eX12_next_53 (fun h53 => ?_) (fun h53 => absurd h53 (nI_neg1 (by omega)))
        refine slv_iload_n eX12_next_64 rfl ?_
        refine slv_bipush (v := nI 97) eX12_next_65 (by decide) ?_
        refine slv_bipush (v := nI 122) eX12_next_67 (by decide) ?_
        refine slv_rS (As := [_, _, _]) eX12_next_69 lX12_180 rfl rfl hI (by decide) (Nat.le_of_ble_eq_true rfl) ?_
        refine slv_if_eqB eX12_next_72 (fun h72 => ?_) (fun h72 => absurd h72 (by decide))
        refine slv_aload_n eX12_next_82 rfl ?_
        refine slv_iload_n eX12_next_83 rfl ?_
        refine slv_bipush (v := nI 59) eX12_next_84 (by decide) ?_
        refine slv_icmp_neN eX12_next_86 (by omega) (by omega) (fun h86 => absurd h86 (fun q => q h59)) (fun h86 => ?_)
        refine slv_iconst (v := nI 4) eX12_next_89 (by decide) ?_
        refine slv_goto eX12_next_90 ?_
        refine slr_pi eX12_next_105 fX12_177 (Nat.le_of_ble_eq_true rfl) rf_s31 ?_
        refine slv_aload_n eX12_next_108 rfl ?_
        refine slv_iload_n eX12_next_109 rfl ?_
        refine slr_pi eX12_next_110 fX12_191 (Nat.le_of_ble_eq_true rfl) rf_s33 ?_
        refine slv_aload_n eX12_next_113 rfl ?_
        refine slv_dup eX12_next_114 rfl ?_
        refine slr_gi eX12_next_115 fX12_168 rfl (by repeat (first | exact sl_u_eq | assumption | apply rf_ne (by decide) | exact rfl)) ?_
        refine slv_iconst (v := nI 1) eX12_next_118 (by decide) ?_
        refine slv_iaddN eX12_next_119 ?_
        refine slr_pi eX12_next_120 fX12_168 (Nat.le_of_ble_eq_true rfl) rf_s30 ?_
        refine slv_vret eX12_next_123 rfl ?_
        refine ⟨rfl, _, _, rfl, fun k hk => ?_, h34, h29, rfl, rfl, rfl, fun h => (by cases h), fun h => (by cases h)⟩
        rw [sl_u_ne (fun e => hk (by rw [e]; decide))]
        exact fr _ fr0 _ _ _ _ (by decide) (by decide) k hk
      · rw [if_neg h59]
        cases hs : st_sg (by_ f p) with
        | true =>
          rw [hs] at hSg
          rw [cond_true]
          refine slv_aload_n eX12_next_34 rfl ?_
          refine slv_aload_n eX12_next_35 rfl ?_
          refine slr_gi eX12_next_36 fX12_168 rfl (by repeat (first | exact sl_u_eq | assumption | apply rf_ne (by decide) | exact rfl)) ?_
          refine slr_pi eX12_next_39 fX12_174 (Nat.le_of_ble_eq_true rfl) rf_s32 ?_
          refine slv_aload_n eX12_next_42 rfl ?_
          refine slv_aload_n eX12_next_43 rfl ?_
          refine slr_gi eX12_next_44 fX12_168 rfl (by repeat (first | exact sl_u_eq | assumption | apply rf_ne (by decide) | exact rfl)) ?_
          refine slv_rV (As := [_]) eX12_next_47 lX12_171 rfl rfl rf_68 rfl hb (by decide) (Nat.le_of_ble_eq_true rfl) ?_
          refine slv_istore_n (i := 1) (lv' := [_, _]) eX12_next_50 rfl (by decide) rfl ?_
          refine slv_iload_n eX12_next_51 rfl ?_
          refine slv_iconst (v := (-1)) eX12_next_52 (by decide) ?_
          refine slv_icmp_ne eX12_next_53 (fun h53 => ?_) (fun h53 => absurd h53 (nI_neg1 (by omega)))
          refine slv_iload_n eX12_next_64 rfl ?_
          refine slv_bipush (v := nI 97) eX12_next_65 (by decide) ?_
          refine slv_bipush (v := nI 122) eX12_next_67 (by decide) ?_
          refine slv_rS (As := [_, _, _]) eX12_next_69 lX12_180 rfl rfl hI (by decide) (Nat.le_of_ble_eq_true rfl) ?_
          refine slv_if_eqB eX12_next_72 (fun h72 => ?_) (fun h72 => absurd h72 (by decide))
          refine slv_aload_n eX12_next_82 rfl ?_
          refine slv_iload_n eX12_next_83 rfl ?_
          refine slv_bipush (v := nI 59) eX12_next_84 (by decide) ?_
          refine slv_icmp_neN eX12_next_86 (by omega) (by omega) (fun h86 => ?_) (fun h86 => absurd h86 h59)
          refine slv_iload_n eX12_next_93 rfl ?_
          refine slv_rS (As := [_]) eX12_next_94 lX12_187 rfl rfl hSg (by decide) (Nat.le_of_ble_eq_true rfl) ?_
          refine slv_if_eqB eX12_next_97 (fun h97 => absurd h97 (by decide)) (fun h97 => ?_)
          refine slv_iconst (v := nI 3) eX12_next_100 (by decide) ?_
          refine slv_goto eX12_next_101 ?_
          refine slr_pi eX12_next_105 fX12_177 (Nat.le_of_ble_eq_true rfl) rf_s31 ?_
          refine slv_aload_n eX12_next_108 rfl ?_
          refine slv_iload_n eX12_next_109 rfl ?_
          refine slr_pi eX12_next_110 fX12_191 (Nat.le_of_ble_eq_true rfl) rf_s33 ?_
          refine slv_aload_n eX12_next_113 rfl ?_
          refine slv_dup eX12_next_114 rfl ?_
          refine slr_gi eX12_next_115 fX12_168 rfl (by repeat (first | exact sl_u_eq | assumption | apply rf_ne (by decide) | exact rfl)) ?_
          refine slv_iconst (v := nI 1) eX12_next_118 (by decide) ?_
          refine slv_iaddN eX12_next_119 ?_
          refine slr_pi eX12_next_120 fX12_168 (Nat.le_of_ble_eq_true rfl) rf_s30 ?_
          refine slv_vret eX12_next_123 rfl ?_
          refine ⟨rfl, _, _, rfl, fun k hk => ?_, h34, h29, rfl, rfl, rfl, fun h => (by cases h), fun _ => rfl⟩
          rw [sl_u_ne (fun e => hk (by rw [e]; decide))]
          exact fr _ fr0 _ _ _ _ (by decide) (by decide) k hk
        | false =>
          rw [hs] at hSg
          rw [cond_false]
          refine slv_aload_n eX12_next_34 rfl ?_
          refine slv_aload_n eX12_next_35 rfl ?_
          refine slr_gi eX12_next_36 fX12_168 rfl (by repeat (first | exact sl_u_eq | assumption | apply rf_ne (by decide) | exact rfl)) ?_
          refine slr_pi eX12_next_39 fX12_174 (Nat.le_of_ble_eq_true rfl) rf_s32 ?_
          refine slv_aload_n eX12_next_42 rfl ?_
          refine slv_aload_n eX12_next_43 rfl ?_
          refine slr_gi eX12_next_44 fX12_168 rfl (by repeat (first | exact sl_u_eq | assumption | apply rf_ne (by decide) | exact rfl)) ?_
          refine slv_rV (As := [_]) eX12_next_47 lX12_171 rfl rfl rf_68 rfl hb (by decide) (Nat.le_of_ble_eq_true rfl) ?_
          refine slv_istore_n (i := 1) (lv' := [_, _]) eX12_next_50 rfl (by decide) rfl ?_
          refine slv_iload_n eX12_next_51 rfl ?_
          refine slv_iconst (v := (-1)) eX12_next_52 (by decide) ?_
          refine slv_icmp_ne eX12_next_53 (fun h53 => ?_) (fun h53 => absurd h53 (nI_neg1 (by omega)))
          refine slv_iload_n eX12_next_64 rfl ?_
          refine slv_bipush (v := nI 97) eX12_next_65 (by decide) ?_
          refine slv_bipush (v := nI 122) eX12_next_67 (by decide) ?_
          refine slv_rS (As := [_, _, _]) eX12_next_69 lX12_180 rfl rfl hI (by decide) (Nat.le_of_ble_eq_true rfl) ?_
          refine slv_if_eqB eX12_next_72 (fun h72 => ?_) (fun h72 => absurd h72 (by decide))
          refine slv_aload_n eX12_next_82 rfl ?_
          refine slv_iload_n eX12_next_83 rfl ?_
          refine slv_bipush (v := nI 59) eX12_next_84 (by decide) ?_
          refine slv_icmp_neN eX12_next_86 (by omega) (by omega) (fun h86 => ?_) (fun h86 => absurd h86 h59)
          refine slv_iload_n eX12_next_93 rfl ?_
          refine slv_rS (As := [_]) eX12_next_94 lX12_187 rfl rfl hSg (by decide) (Nat.le_of_ble_eq_true rfl) ?_
          refine slv_if_eqB eX12_next_97 (fun h97 => ?_) (fun h97 => absurd h97 (by decide))
          refine slv_iconst (v := nI 0) eX12_next_104 (by decide) ?_
          refine slr_pi eX12_next_105 fX12_177 (Nat.le_of_ble_eq_true rfl) rf_s31 ?_
          refine slv_aload_n eX12_next_108 rfl ?_
          refine slv_iload_n eX12_next_109 rfl ?_
          refine slr_pi eX12_next_110 fX12_191 (Nat.le_of_ble_eq_true rfl) rf_s33 ?_
          refine slv_aload_n eX12_next_113 rfl ?_
          refine slv_dup eX12_next_114 rfl ?_
          refine slr_gi eX12_next_115 fX12_168 rfl (by repeat (first | exact sl_u_eq | assumption | apply rf_ne (by decide) | exact rfl)) ?_
          refine slv_iconst (v := nI 1) eX12_next_118 (by decide) ?_
          refine slv_iaddN eX12_next_119 ?_
          refine slr_pi eX12_next_120 fX12_168 (Nat.le_of_ble_eq_true rfl) rf_s30 ?_
          refine slv_vret eX12_next_123 rfl ?_
          refine ⟨rfl, _, _, rfl, fun k hk => ?_, h34, h29, rfl, rfl, rfl, fun h => (by cases h), fun h => (by cases h)⟩
          rw [sl_u_ne (fun e => hk (by rw [e]; decide))]
          exact fr _ fr0 _ _ _ _ (by decide) (by decide) k hk
set_option maxRecDepth 100000 in
theorem c_X12_nextB {k : Nat} (hk : 0 < k) (hk2 : k < 100) (h34 : v 34 = nI k) : sl_R YX12_next 0 [.ref 68] (rf_S v w a nm M) none (rf_S v w a nm M) := by
  refine sl_T.of_V (lv := [_, _]) (by decide) rfl (Nat.le_of_ble_eq_true rfl) ?_
  refine slv_aload_n eX12_next_0 rfl ?_
  refine slr_gi eX12_next_1 fX12_165 rfl (by repeat (first | exact sl_u_eq | assumption | apply rf_ne (by decide) | exact rfl)) ?_
  refine slv_if_leN eX12_next_4 (by omega) (fun h4 => absurd h4 (by omega)) (fun h4 => ?_)
  refine slv_vret eX12_next_7 rfl ?_
  exact ⟨rfl, rfl⟩
set_option maxRecDepth 100000 in
theorem c_X12_flaw (h34 : v 34 = nI 0) (k : Nat) : sl_R YX12_flaw 0 [.ref 68, .int (nI k)] (rf_S v w a nm M) none (rf_S (sl_u (sl_u v 34 (nI k)) 31 (nI 0)) w a nm M) := by
  refine sl_T.of_V (lv := [_, _]) (by decide) rfl (Nat.le_of_ble_eq_true rfl) ?_
  refine slv_aload_n eX12_flaw_0 rfl ?_
  refine slr_gi eX12_flaw_1 fX12_165 rfl (by repeat (first | exact sl_u_eq | assumption | apply rf_ne (by decide) | exact rfl)) ?_
  refine slv_if_neN eX12_flaw_4 (by omega) (fun h4 => absurd h4 (fun q => q rfl)) (fun h4 => ?_)
  refine slv_aload_n eX12_flaw_7 rfl ?_
  refine slv_iload_n eX12_flaw_8 rfl ?_
  refine slr_pi eX12_flaw_9 fX12_165 (Nat.le_of_ble_eq_true rfl) rf_s34 ?_
  refine slv_aload_n eX12_flaw_12 rfl ?_
  refine slv_iconst (v := nI 0) eX12_flaw_13 (by decide) ?_
  refine slr_pi eX12_flaw_14 fX12_177 (Nat.le_of_ble_eq_true rfl) rf_s31 ?_
  refine slv_vret eX12_flaw_17 rfl ?_
  exact ⟨rfl, rfl⟩
set_option maxRecDepth 100000 in
theorem c_X12_flawB {k : Nat} (hk : 0 < k) (hk2 : k < 100) (h34 : v 34 = nI k) (h31 : v 31 = nI 0) (j : Nat) : sl_R YX12_flaw 0 [.ref 68, .int (nI j)] (rf_S v w a nm M) none (rf_S v w a nm M) := by
  refine sl_T.of_V (lv := [_, _]) (by decide) rfl (Nat.le_of_ble_eq_true rfl) ?_
  refine slv_aload_n eX12_flaw_0 rfl ?_
  refine slr_gi eX12_flaw_1 fX12_165 rfl (by repeat (first | exact sl_u_eq | assumption | apply rf_ne (by decide) | exact rfl)) ?_
  refine slv_if_neN eX12_flaw_4 (by omega) (fun h4 => ?_) (fun h4 => absurd h4 (by omega))
  refine slv_aload_n eX12_flaw_12 rfl ?_
  refine slv_iconst (v := nI 0) eX12_flaw_13 (by decide) ?_
  refine slr_pi eX12_flaw_14 fX12_177 (Nat.le_of_ble_eq_true rfl) rf_s31 ?_
  refine slv_vret eX12_flaw_17 rfl ?_
  refine ⟨rfl, ?_⟩
  rw [← h31, sl_u_self]
end RNX

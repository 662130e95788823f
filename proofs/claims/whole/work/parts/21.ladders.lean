section LAD
variable {rn e : Nat} {rk kn nu ba : Nat → Nat} {ar re : Nat → Int32} {M : sl_M}
/-- the longest way from k -/
def lk_lf (ar : Nat → Int32) (nu : Nat → Nat) (k n i m : Nat) : Nat := sl_fo (fun p m => cond (sl_bt (ar k) p) (max m (nu p + 1)) m) n i m
theorem lk_lf0 {ar : Nat → Int32} {nu : Nat → Nat} {k : Nat} (h : ar k = 0) (n : Nat) : ∀ i m, lk_lf ar nu k n i m = m := by
  induction n with
  | zero => intro i m; rfl
  | succ n ih =>
    intro i m
    show lk_lf ar nu k n (i + 1) (cond (sl_bt (ar k) i) (max m (nu i + 1)) m) = m
    rw [sl_bt0 i (ar k) h]
    exact ih (i + 1) m
theorem lk_lf_le {ar : Nat → Int32} {nu : Nat → Nat} {k c : Nat} (hn : ∀ p, p < 28 → nu p ≤ c) (n : Nat) : ∀ i m, i + n ≤ 28 → m ≤ c + 1 → lk_lf ar nu k n i m ≤ c + 1 := by
  induction n with
  | zero => intro i m _ h; exact h
  | succ n ih =>
    intro i m hi hm
    refine ih (i + 1) _ (by omega) ?_
    have := hn i (by omega)
    show (cond (sl_bt (ar k) i) (max m (nu i + 1)) m) ≤ c + 1
    cases sl_bt (ar k) i
    · exact hm
    · show max m (nu i + 1) ≤ c + 1
      omega
set_option maxRecDepth 100000 in
theorem c_X5_longestFrom (h : ld_at rn e rk kn ar re nu ba M) {c : Nat} (hn : ∀ p, p < 28 → nu p ≤ c) (hc : c ≤ 1000000) {k : Nat} (hk : k < 28) : sl_R YX5_longestFrom 1 [.ref 23, .int (nI k)] M (some (.int (nI (lk_lf ar nu k 28 0 0)))) M := by
  obtain ⟨a23, a24, a25, a26, a27, a28, a29⟩ := h
  refine sl_T.of_V (lv := [_, _, _, _]) (by decide) rfl (Nat.le_of_ble_eq_true rfl) ?_
  have loop : ∀ n i m : Nat, i + n = 28 → m ≤ c + 1 → ∀ Q : Option Value → sl_M → Prop, Q (some (.int (nI (lk_lf ar nu k n i m)))) M → sl_V YX5_longestFrom none 1 0 0 Q 4 [some (.ref 23), some (.int (nI k)), some (.int (nI m)), some (.int (nI i))] [] M := by
    intro n
    induction n with
    | zero =>
      intro i m hi hm Q hQ
      refine slv_iload_n eX5_longestFrom_4 rfl ?_
      refine slv_bipush (v := nI 28) eX5_longestFrom_5 (by decide) ?_
      refine slv_icmp_geN eX5_longestFrom_7 (by omega) (by omega) (fun h7 => ?_) (fun h7 => absurd h7 (by omega))
      refine slv_iload_n eX5_longestFrom_51 rfl ?_
      refine slv_iret eX5_longestFrom_52 rfl ?_
      exact hQ
    | succ n ih =>
      intro i m hi hm Q hQ
      have hni := hn i (by omega)
      refine slv_iload_n eX5_longestFrom_4 rfl ?_
      refine slv_bipush (v := nI 28) eX5_longestFrom_5 (by decide) ?_
      refine slv_icmp_geN eX5_longestFrom_7 (by omega) (by omega) (fun h7 => absurd h7 (by omega)) (fun h7 => ?_)
      refine slv_aload_n eX5_longestFrom_10 rfl ?_
      refine slv_getf eX5_longestFrom_11 fX5_18 (by repeat (first | assumption | exact sl_up_eq | refine sl_up_ne (by first | decide | omega) ?_)) rfl ?_
      refine slv_iload_n eX5_longestFrom_14 rfl ?_
      refine slv_ialdN eX5_longestFrom_15 (by repeat (first | assumption | exact sl_up_eq | refine sl_up_ne (by first | decide | omega) ?_)) (by omega) (by decide) ?_
      refine slv_if_eq eX5_longestFrom_16 (fun h16 => ?_) (fun h16 => ?_)
      · refine slv_iload_n eX5_longestFrom_51 rfl ?_
        refine slv_iret eX5_longestFrom_52 rfl ?_
        rw [lk_lf0 h16] at hQ
        exact hQ
      · refine slv_aload_n eX5_longestFrom_19 rfl ?_
        refine slv_getf eX5_longestFrom_20 fX5_18 (by repeat (first | assumption | exact sl_up_eq | refine sl_up_ne (by first | decide | omega) ?_)) rfl ?_
        refine slv_iload_n eX5_longestFrom_23 rfl ?_
        refine slv_ialdN eX5_longestFrom_24 (by repeat (first | assumption | exact sl_up_eq | refine sl_up_ne (by first | decide | omega) ?_)) (by omega) (by decide) ?_
        refine slv_iload_n eX5_longestFrom_25 rfl ?_
        refine slv_rS (As := [_, _]) eX5_longestFrom_26 lX5_72 rfl rfl (c_X5_has _ _ _) (by decide) (Nat.le_of_ble_eq_true rfl) ?_
        refine slv_if_eqB eX5_longestFrom_29 (fun h29 => ?_) (fun h29 => ?_)
        · refine slv_iincN (lv' := [_, _, _, _]) eX5_longestFrom_45 rfl (by decide) rfl ?_
          refine slv_goto eX5_longestFrom_48 ?_
          refine ih (i + 1) _ (by omega) (by omega) Q ?_
          simp only [lk_lf, sl_fo, h29, cond_true, cond_false] at hQ
          exact hQ
        · refine slv_iload_n eX5_longestFrom_32 rfl ?_
          refine slv_aload_n eX5_longestFrom_33 rfl ?_
          refine slv_getf eX5_longestFrom_34 fX5_24 (by repeat (first | assumption | exact sl_up_eq | refine sl_up_ne (by first | decide | omega) ?_)) rfl ?_
          refine slv_iload_n eX5_longestFrom_37 rfl ?_
          refine slv_ialdN eX5_longestFrom_38 (by repeat (first | assumption | exact sl_up_eq | refine sl_up_ne (by first | decide | omega) ?_)) (by omega) (by decide) ?_
          refine slv_iconst (v := nI 1) eX5_longestFrom_39 (by decide) ?_
          refine slv_iaddN eX5_longestFrom_40 ?_
          refine slv_maxN eX5_longestFrom_41 lX5_69 (by omega) (by omega) (by decide) (Nat.le_of_ble_eq_true rfl) ?_
          refine slv_istore_n (i := 2) (lv' := [_, _, _, _]) eX5_longestFrom_44 rfl (by decide) rfl ?_
          refine slv_iincN (lv' := [_, _, _, _]) eX5_longestFrom_45 rfl (by decide) rfl ?_
          refine slv_goto eX5_longestFrom_48 ?_
          refine ih (i + 1) _ (by omega) (by omega) Q ?_
          simp only [lk_lf, sl_fo, h29, cond_true, cond_false] at hQ
          exact hQ
  refine slv_iconst (v := nI 0) eX5_longestFrom_0 (by decide) ?_
  refine slv_istore_n (i := 2) (lv' := [_, _, _, _]) eX5_longestFrom_1 rfl (by decide) rfl ?_
  refine slv_iconst (v := nI 0) eX5_longestFrom_2 (by decide) ?_
  refine slv_istore_n (i := 3) (lv' := [_, _, _, _]) eX5_longestFrom_3 rfl (by decide) rfl ?_
  exact loop 28 0 0 (by omega) (by omega) _ ⟨rfl, rfl⟩
/-- one round of measuring ways -/
def lk_m1 (ar : Nat → Int32) : Nat → Nat → (Nat → Nat) → Bool → (Nat → Nat) × Bool
  | 0, _, nu, gr => (nu, gr)
  | n + 1, i, nu, gr => lk_m1 ar n (i + 1) (sl_u nu i (lk_lf ar nu i 28 0 0)) (gr || decide (nu i < lk_lf ar nu i 28 0 0))
def lk_mo (ar : Nat → Int32) : Nat → (Nat → Nat) → Bool → (Nat → Nat)
  | 0, nu, _ => nu
  | n + 1, nu, gr => cond gr (lk_mo ar n (lk_m1 ar 28 0 nu false).1 (lk_m1 ar 28 0 nu false).2) nu
theorem lk_m1_le {ar : Nat → Int32} (n : Nat) : ∀ (i c : Nat) (nu : Nat → Nat) (gr : Bool), i + n ≤ 28 → (∀ p, p < 28 → nu p ≤ c) → ∀ p, p < 28 → (lk_m1 ar n i nu gr).1 p ≤ c + n := by
  induction n with
  | zero => intro i c nu gr _ h; exact h
  | succ n ih =>
    intro i c nu gr hi h p hp
    have h1 : ∀ p, p < 28 → sl_u nu i (lk_lf ar nu i 28 0 0) p ≤ c + 1 := by
      intro p hp
      by_cases g : p = i
      · rw [g, sl_u_eq]; exact lk_lf_le h 28 0 0 (by omega) (by omega)
      · rw [sl_u_ne g]; have := h p hp; omega
    have := ih (i + 1) (c + 1) _ (gr || decide (nu i < lk_lf ar nu i 28 0 0)) (by omega) h1 p hp
    show (lk_m1 ar n (i + 1) (sl_u nu i (lk_lf ar nu i 28 0 0)) (gr || decide (nu i < lk_lf ar nu i 28 0 0))).1 p ≤ c + (n + 1)
    omega
set_option maxRecDepth 100000 in
set_option maxHeartbeats 4000000 in
theorem c_X5_measureWays (h : ld_at rn e rk kn ar re nu ba M) (hn : ∀ p, p < 28 → nu p ≤ 0) : sl_R YX5_measureWays 2 [.ref 23] M none (ld_set rn e rk kn ar re (lk_mo ar 28 nu true) ba M) := by
  refine sl_T.of_V (lv := [_, _, _, _, _]) (by decide) rfl (Nat.le_of_ble_eq_true rfl) ?_
  have inner : ∀ (n i c : Nat) (f : Nat → Nat) (gr : Bool) (rd : Nat) (v4 : Option Value), i + n = 28 → c ≤ 1000 → (∀ p, p < 28 → f p ≤ c + i) → ∀ Q : Option Value → sl_M → Prop, (∀ v3 v4, sl_V YX5_measureWays none 2 0 0 Q 66 [some (.ref 23), some (.int (sl_bi (lk_m1 ar n i f gr).2)), some (.int (nI rd)), v3, v4] [] (ld_set rn e rk kn ar re (lk_m1 ar n i f gr).1 ba M)) → sl_V YX5_measureWays none 2 0 0 Q 18 [some (.ref 23), some (.int (sl_bi gr)), some (.int (nI rd)), some (.int (nI i)), v4] [] (ld_set rn e rk kn ar re f ba M) := by
    intro n
    induction n with
    | zero =>
      intro i c f gr rd v4 hi hc hf Q hk
      refine slv_iload_n eX5_measureWays_18 rfl ?_
      refine slv_bipush (v := nI 28) eX5_measureWays_19 (by decide) ?_
      refine slv_icmp_geN eX5_measureWays_21 (by omega) (by omega) (fun h21 => ?_) (fun h21 => absurd h21 (by omega))
      exact hk _ _
    | succ n ih =>
      intro i c f gr rd v4 hi hc hf Q hk
      have hfi := hf i (by omega)
      have hlf : lk_lf ar f i 28 0 0 ≤ c + i + 1 := lk_lf_le hf 28 0 0 (by omega) (by omega)
      have hnx : ∀ p, p < 28 → sl_u f i (lk_lf ar f i 28 0 0) p ≤ c + (i + 1) := by
        intro p hp
        by_cases g : p = i
        · rw [g, sl_u_eq]; omega
        · rw [sl_u_ne g]; have := hf p hp; omega
      have hi2 : i + 1 + n = 28 := by omega
      have cl := c_X5_longestFrom (ld_of (rn := rn) (e := e) (rk := rk) (kn := kn) (ar := ar) (re := re) (nu := f) (ba := ba) (M := M)) hf (by omega) (k := i) (by omega)
      have fin : ∀ (g' : Bool) (v4 : Option Value), g' = (gr || decide (f i < lk_lf ar f i 28 0 0)) → sl_V YX5_measureWays none 2 0 0 Q 18 [some (.ref 23), some (.int (sl_bi g')), some (.int (nI rd)), some (.int (nI (i + 1))), v4] [] (ld_set rn e rk kn ar re (sl_u f i (lk_lf ar f i 28 0 0)) ba M) := by
        intro g' v4 hg'
        subst hg'
        exact ih (i + 1) c _ _ rd v4 hi2 hc hnx Q hk
      generalize hL : lk_lf ar f i 28 0 0 = L at hlf hnx cl fin
      refine slv_iload_n eX5_measureWays_18 rfl ?_
      refine slv_bipush (v := nI 28) eX5_measureWays_19 (by decide) ?_
      refine slv_icmp_geN eX5_measureWays_21 (by omega) (by omega) (fun h21 => absurd h21 (by omega)) (fun h21 => ?_)
      refine slv_aload_n eX5_measureWays_24 rfl ?_
      refine slv_iload_n eX5_measureWays_25 rfl ?_
      refine slv_rV (As := [_]) eX5_measureWays_26 lX5_90 rfl rfl (by repeat (first | assumption | exact sl_up_eq | refine sl_up_ne (by first | decide | omega) ?_)) rfl cl (by decide) (Nat.le_of_ble_eq_true rfl) ?_
      refine slv_istore (lv' := [_, _, _, _, _]) eX5_measureWays_29 (by decide) rfl ?_
      refine slv_iload_n eX5_measureWays_31 rfl ?_
      refine slv_if_neB eX5_measureWays_32 (fun h32 => ?_) (fun h32 => ?_)
      · refine slv_iconst (v := nI 1) eX5_measureWays_46 (by decide) ?_
        refine slv_goto eX5_measureWays_47 ?_
        refine slv_istore_n (i := 1) (lv' := [_, _, _, _, _]) eX5_measureWays_51 rfl (by decide) rfl ?_
        refine slv_aload_n eX5_measureWays_52 rfl ?_
        refine slv_getf eX5_measureWays_53 fX5_24 (by repeat (first | assumption | exact sl_up_eq | refine sl_up_ne (by first | decide | omega) ?_)) rfl ?_
        refine slv_iload_n eX5_measureWays_56 rfl ?_
        refine slv_iload eX5_measureWays_57 rfl ?_
        refine slv_iastN eX5_measureWays_59 (by repeat (first | assumption | exact sl_up_eq | refine sl_up_ne (by first | decide | omega) ?_)) (by omega) (by decide) ?_
        refine slv_mem ld_u28 ?_
        refine slv_iincN (lv' := [_, _, _, _, _]) eX5_measureWays_60 rfl (by decide) rfl ?_
        refine slv_goto eX5_measureWays_63 ?_
        first | (have z : f i < L := h43; exact fin true _ (by rw [decide_eq_true z, Bool.or_true])) | (have z : L ≤ f i := h43; exact fin false _ (by rw [h32, decide_eq_false (Nat.not_lt.mpr z)]; rfl)) | exact fin true _ (by rw [h32]; rfl)
      · refine slv_iload eX5_measureWays_35 rfl ?_
        refine slv_aload_n eX5_measureWays_37 rfl ?_
        refine slv_getf eX5_measureWays_38 fX5_24 (by repeat (first | assumption | exact sl_up_eq | refine sl_up_ne (by first | decide | omega) ?_)) rfl ?_
        refine slv_iload_n eX5_measureWays_41 rfl ?_
        refine slv_ialdN eX5_measureWays_42 (by repeat (first | assumption | exact sl_up_eq | refine sl_up_ne (by first | decide | omega) ?_)) (by omega) (by decide) ?_
        refine slv_icmp_leN eX5_measureWays_43 (by omega) (by omega) (fun h43 => ?_) (fun h43 => ?_)
        · refine slv_iconst (v := nI 0) eX5_measureWays_50 (by decide) ?_
          refine slv_istore_n (i := 1) (lv' := [_, _, _, _, _]) eX5_measureWays_51 rfl (by decide) rfl ?_
          refine slv_aload_n eX5_measureWays_52 rfl ?_
          refine slv_getf eX5_measureWays_53 fX5_24 (by repeat (first | assumption | exact sl_up_eq | refine sl_up_ne (by first | decide | omega) ?_)) rfl ?_
          refine slv_iload_n eX5_measureWays_56 rfl ?_
          refine slv_iload eX5_measureWays_57 rfl ?_
          refine slv_iastN eX5_measureWays_59 (by repeat (first | assumption | exact sl_up_eq | refine sl_up_ne (by first | decide | omega) ?_)) (by omega) (by decide) ?_
          refine slv_mem ld_u28 ?_
          refine slv_iincN (lv' := [_, _, _, _, _]) eX5_measureWays_60 rfl (by decide) rfl ?_
          refine slv_goto eX5_measureWays_63 ?_
          first | (have z : f i < L := h43; exact fin true _ (by rw [decide_eq_true z, Bool.or_true])) | (have z : L ≤ f i := h43; exact fin false _ (by rw [h32, decide_eq_false (Nat.not_lt.mpr z)]; rfl)) | exact fin true _ (by rw [h32]; rfl)
        · refine slv_iconst (v := nI 1) eX5_measureWays_46 (by decide) ?_
          refine slv_goto eX5_measureWays_47 ?_
          refine slv_istore_n (i := 1) (lv' := [_, _, _, _, _]) eX5_measureWays_51 rfl (by decide) rfl ?_
          refine slv_aload_n eX5_measureWays_52 rfl ?_
          refine slv_getf eX5_measureWays_53 fX5_24 (by repeat (first | assumption | exact sl_up_eq | refine sl_up_ne (by first | decide | omega) ?_)) rfl ?_
          refine slv_iload_n eX5_measureWays_56 rfl ?_
          refine slv_iload eX5_measureWays_57 rfl ?_
          refine slv_iastN eX5_measureWays_59 (by repeat (first | assumption | exact sl_up_eq | refine sl_up_ne (by first | decide | omega) ?_)) (by omega) (by decide) ?_
          refine slv_mem ld_u28 ?_
          refine slv_iincN (lv' := [_, _, _, _, _]) eX5_measureWays_60 rfl (by decide) rfl ?_
          refine slv_goto eX5_measureWays_63 ?_
          first | (have z : f i < L := h43; exact fin true _ (by rw [decide_eq_true z, Bool.or_true])) | (have z : L ≤ f i := h43; exact fin false _ (by rw [h32, decide_eq_false (Nat.not_lt.mpr z)]; rfl)) | exact fin true _ (by rw [h32]; rfl)
  have outer : ∀ (n rd c : Nat) (f : Nat → Nat) (gr : Bool) (v3 v4 : Option Value), rd + n = 28 → c = 28 * rd → (∀ p, p < 28 → f p ≤ c) → ∀ Q : Option Value → sl_M → Prop, Q none (ld_set rn e rk kn ar re (lk_mo ar n f gr) ba M) → sl_V YX5_measureWays none 2 0 0 Q 4 [some (.ref 23), some (.int (sl_bi gr)), some (.int (nI rd)), v3, v4] [] (ld_set rn e rk kn ar re f ba M) := by
    intro n
    induction n with
    | zero =>
      intro rd c f gr v3 v4 hr hc hf Q hQ
      refine slv_iload_n eX5_measureWays_4 rfl ?_
      refine slv_bipush (v := nI 28) eX5_measureWays_5 (by decide) ?_
      refine slv_icmp_geN eX5_measureWays_7 (by omega) (by omega) (fun h7 => ?_) (fun h7 => absurd h7 (by omega))
      refine slv_vret eX5_measureWays_72 rfl ?_
      exact hQ
    | succ n ih =>
      intro rd c f gr v3 v4 hr hc hf Q hQ
      have h1 : rd + 1 + n = 28 := by omega
      have h2 : c + 28 = 28 * (rd + 1) := by omega
      have h3 : c ≤ 1000 := by omega
      have h4 := lk_m1_le (ar := ar) 28 0 c f false (by omega) hf
      refine slv_iload_n eX5_measureWays_4 rfl ?_
      refine slv_bipush (v := nI 28) eX5_measureWays_5 (by decide) ?_
      refine slv_icmp_geN eX5_measureWays_7 (by omega) (by omega) (fun h7 => absurd h7 (by omega)) (fun h7 => ?_)
      refine slv_iload_n eX5_measureWays_10 rfl ?_
      refine slv_if_eqB eX5_measureWays_11 (fun h11 => ?_) (fun h11 => ?_)
      · refine slv_vret eX5_measureWays_72 rfl ?_
        simp only [lk_mo, h11, cond_false] at hQ
        exact hQ
      · refine slv_iconst (v := nI 0) eX5_measureWays_14 (by decide) ?_
        refine slv_istore_n (i := 1) (lv' := [_, _, _, _, _]) eX5_measureWays_15 rfl (by decide) rfl ?_
        refine slv_iconst (v := nI 0) eX5_measureWays_16 (by decide) ?_
        refine slv_istore_n (i := 3) (lv' := [_, _, _, _, _]) eX5_measureWays_17 rfl (by decide) rfl ?_
        simp only [lk_mo, h11, cond_true] at hQ
        refine inner 28 0 c f false rd _ (by omega) h3 (fun p hp => by have := hf p hp; omega) Q (fun v3 v4 => ?_)
        refine slv_iincN (lv' := [_, _, _, _, _]) eX5_measureWays_66 rfl (by decide) rfl ?_
        refine slv_goto eX5_measureWays_69 ?_
        exact ih (rd + 1) (c + 28) _ _ v3 v4 h1 h2 h4 Q hQ
  refine slv_mem (ld_self h).symm ?_
  refine slv_iconst (v := nI 1) eX5_measureWays_0 (by decide) ?_
  refine slv_istore_n (i := 1) (lv' := [_, _, _, _, _]) eX5_measureWays_1 rfl (by decide) rfl ?_
  refine slv_iconst (v := nI 0) eX5_measureWays_2 (by decide) ?_
  refine slv_istore_n (i := 2) (lv' := [_, _, _, _, _]) eX5_measureWays_3 rfl (by decide) rfl ?_
  refine outer 28 0 0 nu true _ _ (by omega) (by omega) hn _ ?_
  exact ⟨rfl, rfl⟩
set_option maxRecDepth 100000 in
theorem c_X5_stand (h : ld_at rn e rk kn ar re nu ba M) (hr : rn < 2147483648) : sl_R YX5_stand 0 [.ref 23] M (some (.int (sl_bi (decide (rn = 0))))) M := by
  obtain ⟨a23, a24, a25, a26, a27, a28, a29⟩ := h
  refine sl_T.of_V (lv := [_]) (by decide) rfl (Nat.le_of_ble_eq_true rfl) ?_
  refine slv_aload_n eX5_stand_0 rfl ?_
  refine slv_getf eX5_stand_1 fX5_50 (by repeat (first | assumption | exact sl_up_eq | refine sl_up_ne (by first | decide | omega) ?_)) rfl ?_
  refine slv_if_neN eX5_stand_4 (by omega) (fun h4 => ?_) (fun h4 => ?_)
  · refine slv_iconst (v := nI 0) eX5_stand_11 (by decide) ?_
    refine slv_zret eX5_stand_12 rfl rfl ?_
    exact ⟨by first | (rw [decide_eq_true h4]; rfl) | (rw [decide_eq_false h4]; rfl), rfl⟩
  · refine slv_iconst (v := nI 1) eX5_stand_7 (by decide) ?_
    refine slv_goto eX5_stand_8 ?_
    refine slv_zret eX5_stand_12 rfl rfl ?_
    exact ⟨by first | (rw [decide_eq_true h4]; rfl) | (rw [decide_eq_false h4]; rfl), rfl⟩
set_option maxRecDepth 100000 in
theorem c_X5_valueF (h : ld_at rn e rk kn ar re nu ba M) (hk : ∀ p, p < 28 → kn p < 28) {t : Nat} (ht : t < 12) : sl_R YX5_valueF 0 [.ref 23, .int (nI t)] M (some (.int (nI (nu (kn t))))) M := by
  have f1 := hk t (by omega)
  obtain ⟨a23, a24, a25, a26, a27, a28, a29⟩ := h
  refine sl_T.of_V (lv := [_, _]) (by decide) rfl (Nat.le_of_ble_eq_true rfl) ?_
  refine slv_aload_n eX5_valueF_0 rfl ?_
  refine slv_getf eX5_valueF_1 fX5_24 (by repeat (first | assumption | exact sl_up_eq | refine sl_up_ne (by first | decide | omega) ?_)) rfl ?_
  refine slv_aload_n eX5_valueF_4 rfl ?_
  refine slv_getf eX5_valueF_5 fX5_15 (by repeat (first | assumption | exact sl_up_eq | refine sl_up_ne (by first | decide | omega) ?_)) rfl ?_
  refine slv_iload_n eX5_valueF_8 rfl ?_
  refine slv_ialdN eX5_valueF_9 (by repeat (first | assumption | exact sl_up_eq | refine sl_up_ne (by first | decide | omega) ?_)) (by omega) (by decide) ?_
  refine slv_ialdN eX5_valueF_10 (by repeat (first | assumption | exact sl_up_eq | refine sl_up_ne (by first | decide | omega) ?_)) (by omega) (by decide) ?_
  refine slv_iret eX5_valueF_11 rfl ?_
  exact ⟨rfl, rfl⟩
set_option maxRecDepth 100000 in
theorem c_X5_valueG (h : ld_at rn e rk kn ar re nu ba M) (hk : ∀ p, p < 28 → kn p < 28) {t : Nat} (ht : t < 12) : sl_R YX5_valueG 0 [.ref 23, .int (nI t)] M (some (.int (nI (nu (kn (16 + t)))))) M := by
  have f1 := hk (16 + t) (by omega)
  obtain ⟨a23, a24, a25, a26, a27, a28, a29⟩ := h
  refine sl_T.of_V (lv := [_, _]) (by decide) rfl (Nat.le_of_ble_eq_true rfl) ?_
  refine slv_aload_n eX5_valueG_0 rfl ?_
  refine slv_getf eX5_valueG_1 fX5_24 (by repeat (first | assumption | exact sl_up_eq | refine sl_up_ne (by first | decide | omega) ?_)) rfl ?_
  refine slv_aload_n eX5_valueG_4 rfl ?_
  refine slv_getf eX5_valueG_5 fX5_15 (by repeat (first | assumption | exact sl_up_eq | refine sl_up_ne (by first | decide | omega) ?_)) rfl ?_
  refine slv_bipush (v := nI 16) eX5_valueG_8 (by decide) ?_
  refine slv_iload_n eX5_valueG_10 rfl ?_
  refine slv_iaddN eX5_valueG_11 ?_
  refine slv_ialdN eX5_valueG_12 (by repeat (first | assumption | exact sl_up_eq | refine sl_up_ne (by first | decide | omega) ?_)) (by omega) (by decide) ?_
  refine slv_ialdN eX5_valueG_13 (by repeat (first | assumption | exact sl_up_eq | refine sl_up_ne (by first | decide | omega) ?_)) (by omega) (by decide) ?_
  refine slv_iret eX5_valueG_14 rfl ?_
  exact ⟨rfl, rfl⟩
/-- how two numbers stand: 1, 2, 4 -/
def lk_cp (f g : Nat) : Nat := if f < g then 1 else if f = g then 2 else 4
set_option maxRecDepth 100000 in
theorem c_X5_compared (h : ld_at rn e rk kn ar re nu ba M) (hk : ∀ p, p < 28 → kn p < 28) (hn : ∀ p, p < 28 → nu p < 1000000) {x y : Nat} (hx : x < 12) (hy : y < 12) : sl_R YX5_compared 1 [.ref 23, .int (nI x), .int (nI y)] M (some (.int (nI (lk_cp (nu (kn x)) (nu (kn (16 + y))))))) M := by
  have f1 := hn _ (hk x (by omega))
  have f2 := hn _ (hk (16 + y) (by omega))
  have h' := h
  obtain ⟨a23, a24, a25, a26, a27, a28, a29⟩ := h
  refine sl_T.of_V (lv := [_, _, _, _, _]) (by decide) rfl (Nat.le_of_ble_eq_true rfl) ?_
  refine slv_aload_n eX5_compared_0 rfl ?_
  refine slv_iload_n eX5_compared_1 rfl ?_
  refine slv_rV (As := [_]) eX5_compared_2 lX5_93 rfl rfl (by repeat (first | assumption | exact sl_up_eq | refine sl_up_ne (by first | decide | omega) ?_)) rfl (c_X5_valueF h' hk hx) (by decide) (Nat.le_of_ble_eq_true rfl) ?_
  refine slv_istore_n (i := 3) (lv' := [_, _, _, _, _]) eX5_compared_5 rfl (by decide) rfl ?_
  refine slv_aload_n eX5_compared_6 rfl ?_
  refine slv_iload_n eX5_compared_7 rfl ?_
  refine slv_rV (As := [_]) eX5_compared_8 lX5_96 rfl rfl (by repeat (first | assumption | exact sl_up_eq | refine sl_up_ne (by first | decide | omega) ?_)) rfl (c_X5_valueG h' hk hy) (by decide) (Nat.le_of_ble_eq_true rfl) ?_
  refine slv_istore (lv' := [_, _, _, _, _]) eX5_compared_11 (by decide) rfl ?_
  refine slv_iload_n eX5_compared_13 rfl ?_
  refine slv_iload eX5_compared_14 rfl ?_
  refine slv_icmp_geN eX5_compared_16 (by omega) (by omega) (fun h16 => ?_) (fun h16 => ?_)
  · refine slv_iload_n eX5_compared_23 rfl ?_
    refine slv_iload eX5_compared_24 rfl ?_
    refine slv_icmp_neN eX5_compared_26 (by omega) (by omega) (fun h26 => ?_) (fun h26 => ?_)
    · refine slv_iconst (v := nI 4) eX5_compared_33 (by decide) ?_
      refine slv_iret eX5_compared_34 rfl ?_
      exact ⟨by first | (rw [lk_cp, if_pos h16]) | (rw [lk_cp, if_neg (by omega), if_pos h26]) | (rw [lk_cp, if_neg (by omega), if_neg h26]), rfl⟩
    · refine slv_iconst (v := nI 2) eX5_compared_29 (by decide) ?_
      refine slv_goto eX5_compared_30 ?_
      refine slv_iret eX5_compared_34 rfl ?_
      exact ⟨by first | (rw [lk_cp, if_pos h16]) | (rw [lk_cp, if_neg (by omega), if_pos h26]) | (rw [lk_cp, if_neg (by omega), if_neg h26]), rfl⟩
  · refine slv_iconst (v := nI 1) eX5_compared_19 (by decide) ?_
    refine slv_goto eX5_compared_20 ?_
    refine slv_iret eX5_compared_34 rfl ?_
    exact ⟨by first | (rw [lk_cp, if_pos h16]) | (rw [lk_cp, if_neg (by omega), if_pos h26]) | (rw [lk_cp, if_neg (by omega), if_neg h26]), rfl⟩
def lk_gt (nu kn : Nat → Nat) (n i m : Nat) : Nat := sl_fo (fun t m => max m (max (nu (kn t)) (nu (kn (16 + t))))) n i m
set_option maxRecDepth 100000 in
theorem c_X5_greatest (h : ld_at rn e rk kn ar re nu ba M) (he : e ≤ 11) (hk : ∀ p, p < 28 → kn p < 28) (hn : ∀ p, p < 28 → nu p < 1000000) : sl_R YX5_greatest 1 [.ref 23] M (some (.int (nI (lk_gt nu kn (e + 1) 0 0)))) M := by
  have h' := h
  obtain ⟨a23, a24, a25, a26, a27, a28, a29⟩ := h
  refine sl_T.of_V (lv := [_, _, _]) (by decide) rfl (Nat.le_of_ble_eq_true rfl) ?_
  have loop : ∀ n i m : Nat, i + n = e + 1 → m < 1000000 → ∀ Q : Option Value → sl_M → Prop, Q (some (.int (nI (lk_gt nu kn n i m)))) M → sl_V YX5_greatest none 1 0 0 Q 4 [some (.ref 23), some (.int (nI m)), some (.int (nI i))] [] M := by
    intro n
    induction n with
    | zero =>
      intro i m hi hm Q hQ
      refine slv_iload_n eX5_greatest_4 rfl ?_
      refine slv_aload_n eX5_greatest_5 rfl ?_
      refine slv_getf eX5_greatest_6 fX5_36 (by repeat (first | assumption | exact sl_up_eq | refine sl_up_ne (by first | decide | omega) ?_)) rfl ?_
      refine slv_icmp_gtN eX5_greatest_9 (by omega) (by omega) (fun h9 => ?_) (fun h9 => absurd h9 (by omega))
      refine slv_iload_n eX5_greatest_36 rfl ?_
      refine slv_iret eX5_greatest_37 rfl ?_
      exact hQ
    | succ n ih =>
      intro i m hi hm Q hQ
      have f1 := hn _ (hk i (by omega))
      have f2 := hn _ (hk (16 + i) (by omega))
      refine slv_iload_n eX5_greatest_4 rfl ?_
      refine slv_aload_n eX5_greatest_5 rfl ?_
      refine slv_getf eX5_greatest_6 fX5_36 (by repeat (first | assumption | exact sl_up_eq | refine sl_up_ne (by first | decide | omega) ?_)) rfl ?_
      refine slv_icmp_gtN eX5_greatest_9 (by omega) (by omega) (fun h9 => absurd h9 (by omega)) (fun h9 => ?_)
      refine slv_iload_n eX5_greatest_12 rfl ?_
      refine slv_aload_n eX5_greatest_13 rfl ?_
      refine slv_iload_n eX5_greatest_14 rfl ?_
      refine slv_rV (As := [_]) eX5_greatest_15 lX5_93 rfl rfl (by repeat (first | assumption | exact sl_up_eq | refine sl_up_ne (by first | decide | omega) ?_)) rfl (c_X5_valueF h' hk (by omega)) (by decide) (Nat.le_of_ble_eq_true rfl) ?_
      refine slv_aload_n eX5_greatest_18 rfl ?_
      refine slv_iload_n eX5_greatest_19 rfl ?_
      refine slv_rV (As := [_]) eX5_greatest_20 lX5_96 rfl rfl (by repeat (first | assumption | exact sl_up_eq | refine sl_up_ne (by first | decide | omega) ?_)) rfl (c_X5_valueG h' hk (by omega)) (by decide) (Nat.le_of_ble_eq_true rfl) ?_
      refine slv_maxN eX5_greatest_23 lX5_69 (by omega) (by omega) (by decide) (Nat.le_of_ble_eq_true rfl) ?_
      refine slv_maxN eX5_greatest_26 lX5_69 (by omega) (by omega) (by decide) (Nat.le_of_ble_eq_true rfl) ?_
      refine slv_istore_n (i := 1) (lv' := [_, _, _]) eX5_greatest_29 rfl (by decide) rfl ?_
      refine slv_iincN (lv' := [_, _, _]) eX5_greatest_30 rfl (by decide) rfl ?_
      refine slv_goto eX5_greatest_33 ?_
      exact ih (i + 1) _ (by omega) (by omega) Q hQ
  refine slv_iconst (v := nI 0) eX5_greatest_0 (by decide) ?_
  refine slv_istore_n (i := 1) (lv' := [_, _, _]) eX5_greatest_1 rfl (by decide) rfl ?_
  refine slv_iconst (v := nI 0) eX5_greatest_2 (by decide) ?_
  refine slv_istore_n (i := 2) (lv' := [_, _, _]) eX5_greatest_3 rfl (by decide) rfl ?_
  exact loop (e + 1) 0 0 (by omega) (by omega) _ ⟨rfl, rfl⟩
def lk_kc (kn : Nat → Nat) (n i a : Nat) : Nat := sl_fo (fun t a => a + (cond (decide (kn t = t)) 1 0) + (cond (decide (kn (16 + t) = 16 + t)) 1 0)) n i a
set_option maxRecDepth 100000 in
theorem c_X5_knotCount (h : ld_at rn e rk kn ar re nu ba M) (he : e ≤ 11) (hk : ∀ p, p < 28 → kn p < 28) : sl_R YX5_knotCount 0 [.ref 23] M (some (.int (nI (lk_kc kn (e + 1) 0 0)))) M := by
  obtain ⟨a23, a24, a25, a26, a27, a28, a29⟩ := h
  refine sl_T.of_V (lv := [_, _, _]) (by decide) rfl (Nat.le_of_ble_eq_true rfl) ?_
  have loop : ∀ n i a : Nat, i + n = e + 1 → ∀ Q : Option Value → sl_M → Prop, Q (some (.int (nI (lk_kc kn n i a)))) M → sl_V YX5_knotCount none 0 0 0 Q 4 [some (.ref 23), some (.int (nI a)), some (.int (nI i))] [] M := by
    intro n
    induction n with
    | zero =>
      intro i a hi Q hQ
      refine slv_iload_n eX5_knotCount_4 rfl ?_
      refine slv_aload_n eX5_knotCount_5 rfl ?_
      refine slv_getf eX5_knotCount_6 fX5_36 (by repeat (first | assumption | exact sl_up_eq | refine sl_up_ne (by first | decide | omega) ?_)) rfl ?_
      refine slv_icmp_gtN eX5_knotCount_9 (by omega) (by omega) (fun h9 => ?_) (fun h9 => absurd h9 (by omega))
      refine slv_iload_n eX5_knotCount_50 rfl ?_
      refine slv_iret eX5_knotCount_51 rfl ?_
      exact hQ
    | succ n ih =>
      intro i a hi Q hQ
      have f1 := hk i (by omega)
      have f2 := hk (16 + i) (by omega)
      refine slv_iload_n eX5_knotCount_4 rfl ?_
      refine slv_aload_n eX5_knotCount_5 rfl ?_
      refine slv_getf eX5_knotCount_6 fX5_36 (by repeat (first | assumption | exact sl_up_eq | refine sl_up_ne (by first | decide | omega) ?_)) rfl ?_
      refine slv_icmp_gtN eX5_knotCount_9 (by omega) (by omega) (fun h9 => absurd h9 (by omega)) (fun h9 => ?_)
      refine slv_aload_n eX5_knotCount_12 rfl ?_
      refine slv_getf eX5_knotCount_13 fX5_15 (by repeat (first | assumption | exact sl_up_eq | refine sl_up_ne (by first | decide | omega) ?_)) rfl ?_
      refine slv_iload_n eX5_knotCount_16 rfl ?_
      refine slv_ialdN eX5_knotCount_17 (by repeat (first | assumption | exact sl_up_eq | refine sl_up_ne (by first | decide | omega) ?_)) (by omega) (by decide) ?_
      refine slv_iload_n eX5_knotCount_18 rfl ?_
      refine slv_icmp_neN eX5_knotCount_19 (by omega) (by omega) (fun h19 => ?_) (fun h19 => ?_)
      · refine slv_aload_n eX5_knotCount_25 rfl ?_
        refine slv_getf eX5_knotCount_26 fX5_15 (by repeat (first | assumption | exact sl_up_eq | refine sl_up_ne (by first | decide | omega) ?_)) rfl ?_
        refine slv_bipush (v := nI 16) eX5_knotCount_29 (by decide) ?_
        refine slv_iload_n eX5_knotCount_31 rfl ?_
        refine slv_iaddN eX5_knotCount_32 ?_
        refine slv_ialdN eX5_knotCount_33 (by repeat (first | assumption | exact sl_up_eq | refine sl_up_ne (by first | decide | omega) ?_)) (by omega) (by decide) ?_
        refine slv_bipush (v := nI 16) eX5_knotCount_34 (by decide) ?_
        refine slv_iload_n eX5_knotCount_36 rfl ?_
        refine slv_iaddN eX5_knotCount_37 ?_
        refine slv_icmp_neN eX5_knotCount_38 (by omega) (by omega) (fun h38 => ?_) (fun h38 => ?_)
        · refine slv_iincN (lv' := [_, _, _]) eX5_knotCount_44 rfl (by decide) rfl ?_
          refine slv_goto eX5_knotCount_47 ?_
          refine ih (i + 1) _ (by omega) Q ?_
          first | (simp only [lk_kc, sl_fo, decide_eq_true h19, decide_eq_true h38, cond_true] at hQ; exact hQ) | (simp only [lk_kc, sl_fo, decide_eq_true h19, decide_eq_false h38, cond_true, cond_false] at hQ; exact hQ) | (simp only [lk_kc, sl_fo, decide_eq_false h19, decide_eq_true h38, cond_true, cond_false] at hQ; exact hQ) | (simp only [lk_kc, sl_fo, decide_eq_false h19, decide_eq_false h38, cond_false] at hQ; exact hQ)
        · refine slv_iincN (lv' := [_, _, _]) eX5_knotCount_41 rfl (by decide) rfl ?_
          refine slv_iincN (lv' := [_, _, _]) eX5_knotCount_44 rfl (by decide) rfl ?_
          refine slv_goto eX5_knotCount_47 ?_
          refine ih (i + 1) _ (by omega) Q ?_
          first | (simp only [lk_kc, sl_fo, decide_eq_true h19, decide_eq_true h38, cond_true] at hQ; exact hQ) | (simp only [lk_kc, sl_fo, decide_eq_true h19, decide_eq_false h38, cond_true, cond_false] at hQ; exact hQ) | (simp only [lk_kc, sl_fo, decide_eq_false h19, decide_eq_true h38, cond_true, cond_false] at hQ; exact hQ) | (simp only [lk_kc, sl_fo, decide_eq_false h19, decide_eq_false h38, cond_false] at hQ; exact hQ)
      · refine slv_iincN (lv' := [_, _, _]) eX5_knotCount_22 rfl (by decide) rfl ?_
        refine slv_aload_n eX5_knotCount_25 rfl ?_
        refine slv_getf eX5_knotCount_26 fX5_15 (by repeat (first | assumption | exact sl_up_eq | refine sl_up_ne (by first | decide | omega) ?_)) rfl ?_
        refine slv_bipush (v := nI 16) eX5_knotCount_29 (by decide) ?_
        refine slv_iload_n eX5_knotCount_31 rfl ?_
        refine slv_iaddN eX5_knotCount_32 ?_
        refine slv_ialdN eX5_knotCount_33 (by repeat (first | assumption | exact sl_up_eq | refine sl_up_ne (by first | decide | omega) ?_)) (by omega) (by decide) ?_
        refine slv_bipush (v := nI 16) eX5_knotCount_34 (by decide) ?_
        refine slv_iload_n eX5_knotCount_36 rfl ?_
        refine slv_iaddN eX5_knotCount_37 ?_
        refine slv_icmp_neN eX5_knotCount_38 (by omega) (by omega) (fun h38 => ?_) (fun h38 => ?_)
        · refine slv_iincN (lv' := [_, _, _]) eX5_knotCount_44 rfl (by decide) rfl ?_
          refine slv_goto eX5_knotCount_47 ?_
          refine ih (i + 1) _ (by omega) Q ?_
          first | (simp only [lk_kc, sl_fo, decide_eq_true h19, decide_eq_true h38, cond_true] at hQ; exact hQ) | (simp only [lk_kc, sl_fo, decide_eq_true h19, decide_eq_false h38, cond_true, cond_false] at hQ; exact hQ) | (simp only [lk_kc, sl_fo, decide_eq_false h19, decide_eq_true h38, cond_true, cond_false] at hQ; exact hQ) | (simp only [lk_kc, sl_fo, decide_eq_false h19, decide_eq_false h38, cond_false] at hQ; exact hQ)
        · refine slv_iincN (lv' := [_, _, _]) eX5_knotCount_41 rfl (by decide) rfl ?_
          refine slv_iincN (lv' := [_, _, _]) eX5_knotCount_44 rfl (by decide) rfl ?_
          refine slv_goto eX5_knotCount_47 ?_
          refine ih (i + 1) _ (by omega) Q ?_
          first | (simp only [lk_kc, sl_fo, decide_eq_true h19, decide_eq_true h38, cond_true] at hQ; exact hQ) | (simp only [lk_kc, sl_fo, decide_eq_true h19, decide_eq_false h38, cond_true, cond_false] at hQ; exact hQ) | (simp only [lk_kc, sl_fo, decide_eq_false h19, decide_eq_true h38, cond_true, cond_false] at hQ; exact hQ) | (simp only [lk_kc, sl_fo, decide_eq_false h19, decide_eq_false h38, cond_false] at hQ; exact hQ)
  refine slv_iconst (v := nI 0) eX5_knotCount_0 (by decide) ?_
  refine slv_istore_n (i := 1) (lv' := [_, _, _]) eX5_knotCount_1 rfl (by decide) rfl ?_
  refine slv_iconst (v := nI 0) eX5_knotCount_2 (by decide) ?_
  refine slv_istore_n (i := 2) (lv' := [_, _, _]) eX5_knotCount_3 rfl (by decide) rfl ?_
  exact loop (e + 1) 0 0 (by omega) _ ⟨rfl, rfl⟩
/-- what the ladders are over relations s with end e -/
def lk_K (s : Nat → Int32) (e : Nat) : Nat → Nat := lk_kn s e (e + 1) 0 (fun p => if p < 28 then p else 0)
def lk_A (s : Nat → Int32) (e : Nat) : Nat → Int32 := lk_ar s (lk_K s e) e (e + 1) 0 (fun _ => nI 0)
def lk_R (s : Nat → Int32) (e : Nat) : Nat → Int32 := lk_wa 28 0 (lk_A s e)
def lk_N (s : Nat → Int32) (e rn : Nat) : Nat → Nat := cond (decide (rn = 0)) (lk_mo (lk_A s e) 28 (fun _ => 0) true) (fun _ => 0)
theorem lk_kn_lt {s : Nat → Int32} {e : Nat} (he : e ≤ 11) (n : Nat) : ∀ (i : Nat) (f : Nat → Nat), i + n ≤ 12 → (∀ p, p < 28 → f p < 28) → ∀ p, p < 28 → lk_kn s e n i f p < 28 := by
  induction n with
  | zero => intro i f _ h; exact h
  | succ n ih => intro i f hi h; exact ih (i + 1) _ (by omega) (lk_t2_lt (by omega) (e + 1) 0 f (by omega) h)
theorem lk_K_lt {s : Nat → Int32} {e : Nat} (he : e ≤ 11) : ∀ p, p < 28 → lk_K s e p < 28 := lk_kn_lt he (e + 1) 0 _ (by omega) (fun p hp => by rw [if_pos hp]; exact hp)
theorem lk_a_z {s : Nat → Int32} {kn : Nat → Nat} (hk : ∀ p, p < 28 → kn p < 28) {x y : Nat} (hx : x ≤ 11) (hy : y ≤ 11) {a : Nat → Int32} (ha : ∀ p, 28 ≤ p → a p = nI 0) : ∀ p, 28 ≤ p → lk_a4 s kn x y (lk_a1 s kn x y a) p = nI 0 := by
  have f1 := hk x (by omega)
  have f2 := hk (16 + y) (by omega)
  have h1 : ∀ p, 28 ≤ p → lk_a1 s kn x y a p = nI 0 := by
    intro p hp
    rw [lk_a1]
    cases decide (s (12 * x + y) &&& nI 1 = 0)
    · show sl_u a (kn (16 + y)) _ p = nI 0
      rw [sl_u_ne (by omega)]; exact ha p hp
    · exact ha p hp
  intro p hp
  rw [lk_a4]
  cases decide (s (12 * x + y) &&& nI 4 = 0)
  · show sl_u _ (kn x) _ p = nI 0
    rw [sl_u_ne (by omega)]; exact h1 p hp
  · exact h1 p hp
theorem lk_aa_z {s : Nat → Int32} {kn : Nat → Nat} (hk : ∀ p, p < 28 → kn p < 28) {x : Nat} (hx : x ≤ 11) (n : Nat) : ∀ (i : Nat) (a : Nat → Int32), i + n ≤ 12 → (∀ p, 28 ≤ p → a p = nI 0) → ∀ p, 28 ≤ p → lk_aa s kn x n i a p = nI 0 := by
  induction n with
  | zero => intro i a _ h; exact h
  | succ n ih => intro i a hi h; exact ih (i + 1) _ (by omega) (lk_a_z hk hx (by omega) h)
theorem lk_ar_z {s : Nat → Int32} {kn : Nat → Nat} (hk : ∀ p, p < 28 → kn p < 28) {e : Nat} (he : e ≤ 11) (n : Nat) : ∀ (i : Nat) (a : Nat → Int32), i + n ≤ 12 → (∀ p, 28 ≤ p → a p = nI 0) → ∀ p, 28 ≤ p → lk_ar s kn e n i a p = nI 0 := by
  induction n with
  | zero => intro i a _ h; exact h
  | succ n ih => intro i a hi h; exact ih (i + 1) _ (by omega) (lk_aa_z hk (by omega) (e + 1) 0 a (by omega) h)
theorem lk_A_z {s : Nat → Int32} {e : Nat} (he : e ≤ 11) : ∀ p, 28 ≤ p → lk_A s e p = nI 0 := lk_ar_z (lk_K_lt he) he (e + 1) 0 _ (by omega) (fun _ _ => rfl)
/-- what the search for a ring gives over them, ring's knots and ways back beforehand rk and ba -/
def lk_F (s : Nat → Int32) (e : Nat) (rk ba : Nat → Nat) : Nat × (Nat → Nat) × (Nat → Nat) := lk_fr (lk_A s e) (lk_R s e) 28 0 (0, rk, ba)
set_option maxRecDepth 100000 in
set_option maxHeartbeats 4000000 in
theorem c_X5_reckon {l t s : Nat → Int32} {e0 : Nat} (hR : rl_at e0 l t s M) (he : e0 ≤ 11) (h : ld_at rn e rk kn ar re nu ba M) (hz : ∀ p, 28 ≤ p → kn p = 0 ∧ ar p = nI 0 ∧ re p = nI 0 ∧ nu p = 0 ∧ ba p = 0) :
    sl_R YX5_reckon 5 [.ref 23, .ref 19] M none (ld_set (lk_F s e0 rk ba).1 e0 (lk_F s e0 rk ba).2.1 (lk_K s e0) (lk_A s e0) (lk_R s e0) (lk_N s e0 (lk_F s e0 rk ba).1) (lk_F s e0 rk ba).2.2 M) := by
  have hR' : ∀ (rn e : Nat) (rk kn nu ba : Nat → Nat) (ar re : Nat → Int32), rl_at e0 l t s (ld_set rn e rk kn ar re nu ba M) := fun _ _ _ _ _ _ _ _ => ld_rl hR
  refine sl_T.of_V (lv := [_, _, _]) (by decide) rfl (Nat.le_of_ble_eq_true rfl) ?_
  have init : ∀ (n i : Nat) (kn nu : Nat → Nat) (ar : Nat → Int32), i + n = 28 → (∀ j, j < i → kn j = j) → (∀ j, 28 ≤ j → kn j = 0) → (∀ j, j < i ∨ 28 ≤ j → ar j = nI 0 ∧ nu j = 0) → ∀ Q : Option Value → sl_M → Prop, (∀ v2, sl_V YX5_reckon none 5 0 0 Q 43 [some (.ref 23), some (.ref 19), v2] [] (ld_set rn e0 rk (fun p => if p < 28 then p else 0) (fun _ => nI 0) re (fun _ => 0) ba M)) → sl_V YX5_reckon none 5 0 0 Q 10 [some (.ref 23), some (.ref 19), some (.int (nI i))] [] (ld_set rn e0 rk kn ar re nu ba M) := by
    intro n
    induction n with
    | zero =>
      intro i kn nu ar hi h1 h2 h3 Q hk
      have e1 : kn = fun p => if p < 28 then p else 0 := funext fun j => by
        by_cases g : j < 28
        · rw [if_pos g]; exact h1 j (by omega)
        · rw [if_neg g]; exact h2 j (by omega)
      have e2 : ar = fun _ => nI 0 := funext fun j => (h3 j (by omega)).1
      have e3 : nu = fun _ => 0 := funext fun j => (h3 j (by omega)).2
      subst e1 e2 e3
      refine slv_iload_n eX5_reckon_10 rfl ?_
      refine slv_bipush (v := nI 28) eX5_reckon_11 (by decide) ?_
      refine slv_icmp_geN eX5_reckon_13 (by omega) (by omega) (fun h13 => ?_) (fun h13 => absurd h13 (by omega))
      exact hk _
    | succ n ih =>
      intro i kn nu ar hi h1 h2 h3 Q hk
      refine slv_iload_n eX5_reckon_10 rfl ?_
      refine slv_bipush (v := nI 28) eX5_reckon_11 (by decide) ?_
      refine slv_icmp_geN eX5_reckon_13 (by omega) (by omega) (fun h13 => absurd h13 (by omega)) (fun h13 => ?_)
      refine slv_aload_n eX5_reckon_16 rfl ?_
      refine slv_getf eX5_reckon_17 fX5_15 (by repeat (first | assumption | exact sl_up_eq | refine sl_up_ne (by first | decide | omega) ?_)) rfl ?_
      refine slv_iload_n eX5_reckon_20 rfl ?_
      refine slv_iload_n eX5_reckon_21 rfl ?_
      refine slv_iastN eX5_reckon_22 (by repeat (first | assumption | exact sl_up_eq | refine sl_up_ne (by first | decide | omega) ?_)) (by omega) (by decide) ?_
      refine slv_mem ld_u25 ?_
      refine slv_aload_n eX5_reckon_23 rfl ?_
      refine slv_getf eX5_reckon_24 fX5_18 (by repeat (first | assumption | exact sl_up_eq | refine sl_up_ne (by first | decide | omega) ?_)) rfl ?_
      refine slv_iload_n eX5_reckon_27 rfl ?_
      refine slv_iconst (v := nI 0) eX5_reckon_28 (by decide) ?_
      refine slv_iastI eX5_reckon_29 (by repeat (first | assumption | exact sl_up_eq | refine sl_up_ne (by first | decide | omega) ?_)) (by omega) (by decide) ?_
      refine slv_mem ld_u26 ?_
      refine slv_aload_n eX5_reckon_30 rfl ?_
      refine slv_getf eX5_reckon_31 fX5_24 (by repeat (first | assumption | exact sl_up_eq | refine sl_up_ne (by first | decide | omega) ?_)) rfl ?_
      refine slv_iload_n eX5_reckon_34 rfl ?_
      refine slv_iconst (v := nI 0) eX5_reckon_35 (by decide) ?_
      refine slv_iastN eX5_reckon_36 (by repeat (first | assumption | exact sl_up_eq | refine sl_up_ne (by first | decide | omega) ?_)) (by omega) (by decide) ?_
      refine slv_mem ld_u28 ?_
      refine slv_iincN (lv' := [_, _, _]) eX5_reckon_37 rfl (by decide) rfl ?_
      refine slv_goto eX5_reckon_40 ?_
      refine ih (i + 1) _ _ _ (by omega) (fun j hj => ?_) (fun j hj => ?_) (fun j hj => ?_) Q hk
      · by_cases q : j = i
        · rw [q, sl_u_eq]
        · rw [sl_u_ne q]; exact h1 j (by omega)
      · rw [sl_u_ne (by omega)]; exact h2 j hj
      · by_cases q : j = i
        · rw [q, sl_u_eq, sl_u_eq]; exact ⟨rfl, rfl⟩
        · rw [sl_u_ne q, sl_u_ne q]; exact h3 j (by omega)
  refine slv_mem (ld_self h).symm ?_
  obtain ⟨a19, a20, a21, a22⟩ := id hR
  have id28 : ∀ p, p < 28 → (fun p => if p < 28 then p else 0) p < 28 := fun p hp => by simp only [if_pos hp]; exact hp
  refine slv_aload_n eX5_reckon_0 rfl ?_
  refine slv_aload_n eX5_reckon_1 rfl ?_
  refine slv_getf eX5_reckon_2 fX5_30 (by repeat (first | assumption | exact sl_up_eq | refine sl_up_ne (by first | decide | omega) ?_)) rfl ?_
  refine slv_putf (fs' := [_, _, _, _, _, _, _, _]) eX5_reckon_5 fX5_36 (by repeat (first | assumption | exact sl_up_eq | refine sl_up_ne (by first | decide | omega) ?_)) (Nat.le_of_ble_eq_true rfl) rfl rfl rfl ?_
  refine slv_mem (ld_u23 (rn' := rn) (e' := e0)) ?_
  refine slv_iconst (v := nI 0) eX5_reckon_8 (by decide) ?_
  refine slv_istore_n (i := 2) (lv' := [_, _, _]) eX5_reckon_9 rfl (by decide) rfl ?_
  refine init 28 0 kn nu ar (by omega) (fun j hj => by omega) (fun j hj => (hz j hj).1) (fun j hj => ⟨(hz j (by omega)).2.1, (hz j (by omega)).2.2.2.1⟩) _ (fun v2 => ?_)
  have t1 := c_X5_tieKnots (hR' rn e0 rk (fun p => if p < 28 then p else 0) (fun _ => 0) ba (fun _ => nI 0) re) ld_of he id28
  have t2 := c_X5_drawArcs (hR' rn e0 rk (lk_K s e0) (fun _ => 0) ba (fun _ => nI 0) re) ld_of he (lk_K_lt he)
  have t3 := c_X5_reachOut (ld_of (rn := rn) (e := e0) (rk := rk) (kn := lk_K s e0) (ar := lk_A s e0) (re := re) (nu := fun _ => 0) (ba := ba) (M := M)) (fun p hp => (hz p hp).2.2.1.trans (lk_A_z he p hp).symm)
  have t4 := c_X5_findRing (ld_of (rn := rn) (e := e0) (rk := rk) (kn := lk_K s e0) (ar := lk_A s e0) (re := lk_R s e0) (nu := fun _ => 0) (ba := ba) (M := M)) (fun p hp => (hz p hp).2.2.2.2)
  have hF : (lk_fr (lk_A s e0) (lk_R s e0) 28 0 (0, rk, ba)) = lk_F s e0 rk ba := rfl
  rw [hF] at t4
  have hFl : (lk_F s e0 rk ba).1 < 2147483648 := by
    have g : ∀ (ar re : Nat → Int32) (n i rn : Nat) (rk ba : Nat → Nat), rn < 2147483648 → (lk_fr ar re n i (rn, rk, ba)).1 < 2147483648 := by
      intro ar re n
      induction n with
      | zero => intro i rn rk ba h; exact h
      | succ n ih =>
        intro i rn rk ba h
        simp only [lk_fr]
        cases decide (rn = 0)
        · exact h
        · cases sl_bt (re i) i
          · exact ih (i + 1) rn rk ba h
          · exact ih (i + 1) _ _ _ (lk_rl_lt ar i)
    exact g _ _ 28 0 0 rk ba (by decide)
  have t5 := c_X5_measureWays (ld_of (rn := (lk_F s e0 rk ba).1) (e := e0) (rk := (lk_F s e0 rk ba).2.1) (kn := lk_K s e0) (ar := lk_A s e0) (re := lk_R s e0) (nu := fun _ => 0) (ba := (lk_F s e0 rk ba).2.2) (M := M)) (fun _ _ => Nat.le_refl 0)
  generalize lk_F s e0 rk ba = F at t4 t5 hFl ⊢
  obtain ⟨F1, F2, F3⟩ := F
  refine slv_aload_n eX5_reckon_43 rfl ?_
  refine slv_aload_n eX5_reckon_44 rfl ?_
  refine slv_rV (As := [_]) eX5_reckon_45 lX5_37 rfl rfl (by repeat (first | assumption | exact sl_up_eq | refine sl_up_ne (by first | decide | omega) ?_)) rfl t1 (by decide) (Nat.le_of_ble_eq_true rfl) ?_
  refine slv_mem ld_ss ?_
  refine slv_aload_n eX5_reckon_48 rfl ?_
  refine slv_aload_n eX5_reckon_49 rfl ?_
  refine slv_rV (As := [_]) eX5_reckon_50 lX5_41 rfl rfl (by repeat (first | assumption | exact sl_up_eq | refine sl_up_ne (by first | decide | omega) ?_)) rfl t2 (by decide) (Nat.le_of_ble_eq_true rfl) ?_
  refine slv_mem ld_ss ?_
  refine slv_aload_n eX5_reckon_53 rfl ?_
  refine slv_rV (As := []) eX5_reckon_54 lX5_44 rfl rfl (by repeat (first | assumption | exact sl_up_eq | refine sl_up_ne (by first | decide | omega) ?_)) rfl t3 (by decide) (Nat.le_of_ble_eq_true rfl) ?_
  refine slv_mem ld_ss ?_
  refine slv_aload_n eX5_reckon_57 rfl ?_
  refine slv_rV (As := []) eX5_reckon_58 lX5_47 rfl rfl (by repeat (first | assumption | exact sl_up_eq | refine sl_up_ne (by first | decide | omega) ?_)) rfl t4 (by decide) (Nat.le_of_ble_eq_true rfl) ?_
  refine slv_mem ld_ss ?_
  refine slv_aload_n eX5_reckon_61 rfl ?_
  refine slv_getf eX5_reckon_62 fX5_50 (by repeat (first | assumption | exact sl_up_eq | refine sl_up_ne (by first | decide | omega) ?_)) rfl ?_
  refine slv_if_neN eX5_reckon_65 (by omega) (fun h65 => ?_) (fun h65 => ?_)
  · try refine slv_mem ld_ss ?_
    refine slv_vret eX5_reckon_72 rfl ?_
    refine ⟨rfl, ?_⟩
    first | (have z : F1 = 0 := h65; rw [lk_N, decide_eq_true z]; rfl) | (have z : ¬ F1 = 0 := h65; rw [lk_N, decide_eq_false z]; rfl)
  · refine slv_aload_n eX5_reckon_68 rfl ?_
    refine slv_rV (As := []) eX5_reckon_69 lX5_53 rfl rfl (by repeat (first | assumption | exact sl_up_eq | refine sl_up_ne (by first | decide | omega) ?_)) rfl t5 (by decide) (Nat.le_of_ble_eq_true rfl) ?_
    try refine slv_mem ld_ss ?_
    refine slv_vret eX5_reckon_72 rfl ?_
    refine ⟨rfl, ?_⟩
    first | (have z : F1 = 0 := h65; rw [lk_N, decide_eq_true z]; rfl) | (have z : ¬ F1 = 0 := h65; rw [lk_N, decide_eq_false z]; rfl)
end LAD

/-! the reference: points joined, ways back, numbers -/
def ptf (f f' : Nat → Int32) (k : Nat) : Nat → Int32 := fun p => if p < k then f' p else f p
theorem ptf_0 {f f' : Nat → Int32} : ptf f f' 0 = f := by funext p; simp [ptf]
theorem ptf_at {f f' : Nat → Int32} {k : Nat} : ptf f f' k k = f k := by simp [ptf]
theorem ptf_st {f f' : Nat → Int32} {k : Nat} {x : Int32} (h : f' k = x) : sl_u (ptf f f' k) k x = ptf f f' (k + 1) := by
  funext p
  simp only [sl_u, ptf]
  by_cases h1 : p = k
  · subst h1; rw [if_pos rfl, if_pos (by omega), h]
  · rw [if_neg h1]
    by_cases h2 : p < k
    · rw [if_pos h2, if_pos (by omega)]
    · rw [if_neg h2, if_neg (by omega)]
theorem ptf_sk {f f' : Nat → Int32} {k : Nat} (h : f' k = f k) : ptf f f' k = ptf f f' (k + 1) := by
  rw [← ptf_st (f := f) (f' := f') (k := k) h, show f k = ptf f f' k k from ptf_at.symm, sl_u_self]
theorem ptf_end {f f' : Nat → Int32} {k : Nat} (h : ∀ p, k ≤ p → f' p = f p) : ptf f f' k = f' := by
  funext p
  simp only [ptf]
  by_cases h1 : p < k
  · rw [if_pos h1]
  · rw [if_neg h1, h p (by omega)]
/-- knots as the reference has them: 28 of them, then each its own -/
def kz (kn : Nat → Nat) (p : Nat) : Nat := if p < 28 then kn p else p
def kx (kn : Nat → Nat) (f0 : Nat → Int32) : Nat → Int32 := fun p => if p < 32 then nI (kz kn p) else f0 p
theorem kx_at {kn : Nat → Nat} {f0 : Nat → Int32} {p : Nat} (hp : p < 32) : kx kn f0 p = nI (kz kn p) := by simp [kx, hp]
theorem kx_lt {kn : Nat → Nat} {f0 : Nat → Int32} {p : Nat} (hp : p < 28) : kx kn f0 p = nI (kn p) := by
  rw [kx_at (by omega), kz, if_pos hp]
/-- rows of flags, 32 by 32 -/
def mb (B : Nat → Nat → Bool) (f0 : Nat → Int32) : Nat → Int32 := fun i => if i < 1024 then sl_bi (B (i / 32) (i % 32)) else f0 i
abbrev mx (ar : Nat → Int32) (f0 : Nat → Int32) : Nat → Int32 := mb (fun p q => sl_bt (ar p) q) f0
theorem mb_at {B : Nat → Nat → Bool} {f0 : Nat → Int32} {p q : Nat} (hp : p < 32) (hq : q < 32) : mb B f0 (32 * p + q) = sl_bi (B p q) := by
  unfold mb
  rw [if_pos (by omega), show (32 * p + q) / 32 = p by omega, show (32 * p + q) % 32 = q by omega]
theorem mb_ext {B B' : Nat → Nat → Bool} {f0 : Nat → Int32} (h : ∀ p q, p < 32 → q < 32 → B p q = B' p q) : mb B f0 = mb B' f0 := by
  funext i
  unfold mb
  by_cases hi : i < 1024
  · rw [if_pos hi, if_pos hi, h _ _ (by omega) (by omega)]
  · rw [if_neg hi, if_neg hi]
theorem mb_set {B : Nat → Nat → Bool} {f0 : Nat → Int32} {p q : Nat} (hp : p < 32) (hq : q < 32) : sl_u (mb B f0) (32 * p + q) (nI 1) = mb (fun p' q' => if p' = p ∧ q' = q then true else B p' q') f0 := by
  funext i
  simp only [sl_u, mb]
  by_cases h : i = 32 * p + q
  · rw [if_pos h, if_pos (by omega), if_pos (by omega)]; rfl
  · rw [if_neg h]
    by_cases hi : i < 1024
    · rw [if_pos hi, if_pos hi, if_neg (by omega)]
    · rw [if_neg hi, if_neg hi]
theorem mx_set {ar f0 : Nat → Int32} {p q : Nat} (hp : p < 32) (hq : q < 32) : sl_u (mx ar f0) (32 * p + q) (nI 1) = mx (sl_u ar p (ar p ||| nI 1 <<< (nI q &&& 31))) f0 := by
  rw [mb_set hp hq]
  refine mb_ext (fun p' q' hp' hq' => ?_)
  by_cases h : p' = p
  · subst h
    rw [sl_u_eq, sl_bt_or _ _ q' hq', sl_bt_1 q hq q' hq']
    by_cases e : q' = q
    · rw [if_pos ⟨rfl, e⟩, decide_eq_true e, Bool.or_true]
    · rw [if_neg (fun g => e g.2), decide_eq_false e, Bool.or_false]
  · rw [if_neg (fun g => h g.1), sl_u_ne h]
theorem nar0 : vp_nar .boolean (nI 0) = nI 0 := rfl
theorem nar1 : vp_nar .boolean (nI 1) = nI 1 := rfl
/-- ways back -/
def bx (R : Nat → Option Nat) (f0 : Nat → Int32) : Nat → Int32 := fun p => if p < 32 then sl_io (R p) else f0 p
theorem bx_at {R : Nat → Option Nat} {f0 : Nat → Int32} {p : Nat} (hp : p < 32) : bx R f0 p = sl_io (R p) := by simp [bx, hp]
theorem bx_set {R : Nat → Option Nat} {f0 : Nat → Int32} {p d : Nat} (hp : p < 32) : sl_u (bx R f0) p (nI d) = bx (sl_u R p (some d)) f0 := by
  funext q
  simp only [sl_u, bx]
  by_cases h : q = p
  · subst h; rw [if_pos rfl, if_pos hp, if_pos rfl]; rfl
  · rw [if_neg h, if_neg h]
theorem io_nI {o : Option Nat} {k : Nat} (ho : ∀ d, o = some d → d < 2147483648) (hk : k < 2147483648) : sl_io o = nI k ↔ o = some k := by
  cases o with
  | none => exact ⟨fun g => absurd g.symm (nI_neg1 hk), fun g => by cases g⟩
  | some d =>
    have := ho d rfl
    exact ⟨fun g => by rw [(nI_inj this hk).mp g], fun g => by rw [Option.some.inj g]; rfl⟩
/-- numbers -/
def hx (h : Nat → Nat) (f0 : Nat → Int32) : Nat → Int32 := fun p => if p < 32 then nI (h p) else f0 p
theorem hx_at {h : Nat → Nat} {f0 : Nat → Int32} {p : Nat} (hp : p < 32) : hx h f0 p = nI (h p) := by simp [hx, hp]
theorem hx_set {h : Nat → Nat} {f0 : Nat → Int32} {p m : Nat} (hp : p < 32) : sl_u (hx h f0) p (nI m) = hx (sl_u h p m) f0 := by
  funext q
  simp only [sl_u, hx]
  by_cases g : q = p
  · subst g; rw [if_pos rfl, if_pos hp, if_pos rfl]
  · rw [if_neg g, if_neg g]
section RPT
variable {v : Nat → Int32} {w : Int64} {a : Nat → Nat → Int32} {nm : Nat → Int64} {M : sl_M} {ar f0 f1 f2 : Nat → Int32}
set_option maxRecDepth 100000 in
theorem c_X12_joins {kn : Nat → Nat} (h39 : a 39 = kx kn f0) (hk : ∀ p, p < 28 → kn p < 28) {x y : Nat} (hx : x < 28) (hy : y < 28) : sl_R YX12_joins 0 [.ref 68, .int (nI x), .int (nI y)] (rf_S v w a nm M) none (rf_S v w (sl_u a 39 (kx (lk_tie kn (kn x) (kn y) 28) f0)) nm M) := by
  have kx1 := hk x hx
  have kx2 := hk y hy
  refine sl_T.of_V (lv := [_, _, _, _, _, _, _]) (by decide) rfl (Nat.le_of_ble_eq_true rfl) ?_
  have loop : ∀ n k, k + n = 32 → ∀ Q : Option Value → sl_M → Prop, Q none (rf_S v w (sl_u a 39 (kx (lk_tie kn (kn x) (kn y) 28) f0)) nm M) → sl_V YX12_joins none 0 0 0 Q 32 [some (.ref 68), some (.int (nI x)), some (.int (nI y)), some (.int (nI (kn x))), some (.int (nI (kn y))), some (.int (nI (min (kn x) (kn y)))), some (.int (nI k))] [] (rf_S v w (sl_u a 39 (ptf (kx kn f0) (kx (lk_tie kn (kn x) (kn y) 28) f0) k)) nm M) := by
    intro n
    induction n with
    | zero =>
      intro k hk2 Q hQ
      have e : k = 32 := by omega
      subst e
      rw [ptf_end (fun p hp => by unfold kx; rw [if_neg (by omega), if_neg (by omega)])]
      refine slv_iload eX12_joins_32 rfl ?_
      refine slv_bipush (v := nI 32) eX12_joins_34 (by decide) ?_
      refine slv_icmp_geN eX12_joins_36 (by omega) (by omega) (fun h36 => ?_) (fun h36 => absurd h36 (by omega))
      refine slv_vret eX12_joins_77 rfl ?_
      exact hQ
    | succ n ih =>
      intro k hk2 Q hQ
      have hkz : kz kn k < 32 := by unfold kz; split; (have := hk k (by omega)); omega; omega
      have hv : ptf (kx kn f0) (kx (lk_tie kn (kn x) (kn y) 28) f0) k k = nI (kz kn k) := by rw [ptf_at, kx_at (by omega)]
      have hn : kx (lk_tie kn (kn x) (kn y) 28) f0 k = nI (if k < 28 ∧ kn k = max (kn x) (kn y) then min (kn x) (kn y) else kz kn k) := by
        rw [kx_at (by omega)]
        congr 1
        unfold kz lk_tie
        by_cases h1 : k < 28
        · by_cases h2 : kn k = max (kn x) (kn y)
          · rw [if_pos h1, if_pos ⟨h1, h2⟩, if_pos ⟨h1, h2⟩]
          · rw [if_pos h1, if_neg (fun q => h2 q.2), if_neg (fun q => h2 q.2), if_pos h1]
        · rw [if_neg h1, if_neg (fun q => h1 q.1), if_neg h1]
      have hz : kz kn k = kn x ∨ kz kn k = kn y → k < 28 ∧ kz kn k = kn k := by
        unfold kz
        intro g
        by_cases h1 : k < 28
        · rw [if_pos h1]; exact ⟨h1, rfl⟩
        · rw [if_neg h1] at g; omega
      have hyes : kz kn k = kn x ∨ kz kn k = kn y → kx (lk_tie kn (kn x) (kn y) 28) f0 k = nI (min (kn x) (kn y)) := by
        intro g
        obtain ⟨g1, g2⟩ := hz g
        rw [hn]
        congr 1
        by_cases h2 : kn k = max (kn x) (kn y)
        · rw [if_pos ⟨g1, h2⟩]
        · rw [if_neg (fun q => h2 q.2)]; omega
      have hno : ¬ kz kn k = kn x → ¬ kz kn k = kn y → kx (lk_tie kn (kn x) (kn y) 28) f0 k = kx kn f0 k := by
        intro g1 g2
        rw [hn, kx_at (by omega), if_neg]
        rintro ⟨h1, h2⟩
        have e : kz kn k = kn k := by unfold kz; rw [if_pos h1]
        omega
      refine slv_iload eX12_joins_32 rfl ?_
      refine slv_bipush (v := nI 32) eX12_joins_34 (by decide) ?_
      refine slv_icmp_geN eX12_joins_36 (by omega) (by omega) (fun h36 => absurd h36 (by omega)) (fun h36 => ?_)
      refine slv_aload_n eX12_joins_39 rfl ?_
      refine slr_ga (p := 86) eX12_joins_40 fX12_67 rfl ?_
      refine slv_iload eX12_joins_43 rfl ?_
      refine slr_ialdX (k := 39) (p := 86) (len := 32) eX12_joins_45 rfl (by repeat (first | exact sl_u_eq | assumption | apply rf_ne (by decide) | exact rfl)) (by omega) (by decide) hv ?_
      refine slv_iload_n eX12_joins_46 rfl ?_
      refine slv_icmp_eqN eX12_joins_47 (by omega) (by omega) (fun h47 => ?_) (fun h47 => ?_)
      · refine slv_aload_n eX12_joins_62 rfl ?_
        refine slr_ga (p := 86) eX12_joins_63 fX12_67 rfl ?_
        refine slv_iload eX12_joins_66 rfl ?_
        refine slv_iload eX12_joins_68 rfl ?_
        refine slr_iastX (k := 39) (p := 86) (len := 32) eX12_joins_70 rfl (by repeat (first | exact sl_u_eq | assumption | apply rf_ne (by decide) | exact rfl)) (by omega) (by decide) (rf_t39 _ _ _ _ _) ?_
        refine slv_iincN (lv' := [_, _, _, _, _, _, _]) eX12_joins_71 rfl (by decide) rfl ?_
        refine slv_goto eX12_joins_74 ?_
        first | (refine slv_mem ?_ (ih (k + 1) (by omega) Q hQ); rw [sl_u_u, ptf_st (hyes (Or.inl h47))]; done) | (refine slv_mem ?_ (ih (k + 1) (by omega) Q hQ); rw [sl_u_u, ptf_st (hyes (Or.inr h59))]; done) | (refine slv_mem ?_ (ih (k + 1) (by omega) Q hQ); rw [ptf_sk (hno h47 h59)])
      · refine slv_aload_n eX12_joins_50 rfl ?_
        refine slr_ga (p := 86) eX12_joins_51 fX12_67 rfl ?_
        refine slv_iload eX12_joins_54 rfl ?_
        refine slr_ialdX (k := 39) (p := 86) (len := 32) eX12_joins_56 rfl (by repeat (first | exact sl_u_eq | assumption | apply rf_ne (by decide) | exact rfl)) (by omega) (by decide) hv ?_
        refine slv_iload eX12_joins_57 rfl ?_
        refine slv_icmp_neN eX12_joins_59 (by omega) (by omega) (fun h59 => ?_) (fun h59 => ?_)
        · refine slv_iincN (lv' := [_, _, _, _, _, _, _]) eX12_joins_71 rfl (by decide) rfl ?_
          refine slv_goto eX12_joins_74 ?_
          first | (refine slv_mem ?_ (ih (k + 1) (by omega) Q hQ); rw [sl_u_u, ptf_st (hyes (Or.inl h47))]; done) | (refine slv_mem ?_ (ih (k + 1) (by omega) Q hQ); rw [sl_u_u, ptf_st (hyes (Or.inr h59))]; done) | (refine slv_mem ?_ (ih (k + 1) (by omega) Q hQ); rw [ptf_sk (hno h47 h59)])
        · refine slv_aload_n eX12_joins_62 rfl ?_
          refine slr_ga (p := 86) eX12_joins_63 fX12_67 rfl ?_
          refine slv_iload eX12_joins_66 rfl ?_
          refine slv_iload eX12_joins_68 rfl ?_
          refine slr_iastX (k := 39) (p := 86) (len := 32) eX12_joins_70 rfl (by repeat (first | exact sl_u_eq | assumption | apply rf_ne (by decide) | exact rfl)) (by omega) (by decide) (rf_t39 _ _ _ _ _) ?_
          refine slv_iincN (lv' := [_, _, _, _, _, _, _]) eX12_joins_71 rfl (by decide) rfl ?_
          refine slv_goto eX12_joins_74 ?_
          first | (refine slv_mem ?_ (ih (k + 1) (by omega) Q hQ); rw [sl_u_u, ptf_st (hyes (Or.inl h47))]; done) | (refine slv_mem ?_ (ih (k + 1) (by omega) Q hQ); rw [sl_u_u, ptf_st (hyes (Or.inr h59))]; done) | (refine slv_mem ?_ (ih (k + 1) (by omega) Q hQ); rw [ptf_sk (hno h47 h59)])
  have e1 : rf_S v w a nm M = rf_S v w (sl_u a 39 (ptf (kx kn f0) (kx (lk_tie kn (kn x) (kn y) 28) f0) 0)) nm M := by rw [ptf_0, ← h39, sl_u_self]
  have hl := loop 32 0 (by omega)
  rw [← e1] at hl
  refine slv_aload_n eX12_joins_0 rfl ?_
  refine slr_ga (p := 86) eX12_joins_1 fX12_67 rfl ?_
  refine slv_iload_n eX12_joins_4 rfl ?_
  refine slr_ialdX (k := 39) (p := 86) (len := 32) eX12_joins_5 rfl (by repeat (first | exact sl_u_eq | assumption | apply rf_ne (by decide) | exact rfl)) (by omega) (by decide) (kx_lt hx) ?_
  refine slv_istore_n (i := 3) (lv' := [_, _, _, _, _, _, _]) eX12_joins_6 rfl (by decide) rfl ?_
  refine slv_aload_n eX12_joins_7 rfl ?_
  refine slr_ga (p := 86) eX12_joins_8 fX12_67 rfl ?_
  refine slv_iload_n eX12_joins_11 rfl ?_
  refine slr_ialdX (k := 39) (p := 86) (len := 32) eX12_joins_12 rfl (by repeat (first | exact sl_u_eq | assumption | apply rf_ne (by decide) | exact rfl)) (by omega) (by decide) (kx_lt hy) ?_
  refine slv_istore (lv' := [_, _, _, _, _, _, _]) eX12_joins_13 (by decide) rfl ?_
  refine slv_iload_n eX12_joins_15 rfl ?_
  refine slv_iload eX12_joins_16 rfl ?_
  refine slv_icmp_geN eX12_joins_18 (by omega) (by omega) (fun h18 => ?_) (fun h18 => ?_)
  · refine slv_iload eX12_joins_25 rfl ?_
    refine slv_top (w := .int (nI (min (kn x) (kn y)))) (by first | rw [Nat.min_eq_left (by omega)] | rw [Nat.min_eq_right (by omega)]) ?_
    refine slv_istore (lv' := [_, _, _, _, _, _, _]) eX12_joins_27 (by decide) rfl ?_
    refine slv_iconst (v := nI 0) eX12_joins_29 (by decide) ?_
    refine slv_istore (lv' := [_, _, _, _, _, _, _]) eX12_joins_30 (by decide) rfl ?_
    exact hl _ ⟨rfl, rfl⟩
  · refine slv_iload_n eX12_joins_21 rfl ?_
    refine slv_goto eX12_joins_22 ?_
    refine slv_top (w := .int (nI (min (kn x) (kn y)))) (by first | rw [Nat.min_eq_left (by omega)] | rw [Nat.min_eq_right (by omega)]) ?_
    refine slv_istore (lv' := [_, _, _, _, _, _, _]) eX12_joins_27 (by decide) rfl ?_
    refine slv_iconst (v := nI 0) eX12_joins_29 (by decide) ?_
    refine slv_istore (lv' := [_, _, _, _, _, _, _]) eX12_joins_30 (by decide) rfl ?_
    exact hl _ ⟨rfl, rfl⟩
set_option maxRecDepth 100000 in
theorem c_X12_laysBack (h42 : a 42 = mx ar f1) (h41 : a 41 = f2) (hz : gz ar) {s : Nat} (hs : s < 28) : sl_R YX12_laysBack 0 [.ref 68, .int (nI s)] (rf_S v w a nm M) none (rf_S v w (sl_u a 41 (bx (dN ar s 27) f2)) nm M) := by
  have hb : ∀ n p d, dN ar s n p = some d → d ≤ n := fun n p d h => (dN_le n p d h).1
  refine sl_T.of_V (lv := [_, _, _, _, _]) (by decide) rfl (Nat.le_of_ble_eq_true rfl) ?_
  have ini : ∀ n k, k + n = 32 → ∀ (z3 z4 : Option Value) (Q : Option Value → sl_M → Prop), sl_V YX12_laysBack none 0 0 0 Q 30 [some (.ref 68), some (.int (nI s)), some (.int (nI 32)), z3, z4] [] (rf_S v w (sl_u a 41 (bx (dN ar s 0) f2)) nm M) → sl_V YX12_laysBack none 0 0 0 Q 2 [some (.ref 68), some (.int (nI s)), some (.int (nI k)), z3, z4] [] (rf_S v w (sl_u a 41 (ptf f2 (bx (dN ar s 0) f2) k)) nm M) := by
    intro n
    induction n with
    | zero =>
      intro k hk z3 z4 Q hQ
      have e : k = 32 := by omega
      subst e
      rw [ptf_end (fun p hp => by unfold bx; rw [if_neg (by omega)])]
      refine slv_iload_n eX12_laysBack_2 rfl ?_
      refine slv_bipush (v := nI 32) eX12_laysBack_3 (by decide) ?_
      refine slv_icmp_geN eX12_laysBack_5 (by omega) (by omega) (fun h5 => ?_) (fun h5 => absurd h5 (by omega))
      exact hQ
    | succ n ih =>
      intro k hk z3 z4 Q hQ
      have h0 : bx (dN ar s 0) f2 k = if k = s then nI 0 else -1 := by
        rw [bx_at (by omega)]
        show sl_io (if k = s then some 0 else none) = _
        split <;> rfl
      refine slv_iload_n eX12_laysBack_2 rfl ?_
      refine slv_bipush (v := nI 32) eX12_laysBack_3 (by decide) ?_
      refine slv_icmp_geN eX12_laysBack_5 (by omega) (by omega) (fun h5 => absurd h5 (by omega)) (fun h5 => ?_)
      refine slv_aload_n eX12_laysBack_8 rfl ?_
      refine slr_ga (p := 88) eX12_laysBack_9 fX12_73 rfl ?_
      refine slv_iload_n eX12_laysBack_12 rfl ?_
      refine slv_iload_n eX12_laysBack_13 rfl ?_
      refine slv_iload_n eX12_laysBack_14 rfl ?_
      refine slv_icmp_neN eX12_laysBack_15 (by omega) (by omega) (fun h15 => ?_) (fun h15 => ?_)
      · refine slv_iconst (v := (-1)) eX12_laysBack_22 (by decide) ?_
        refine slr_iastX (k := 41) (p := 88) (len := 32) eX12_laysBack_23 rfl (by repeat (first | exact sl_u_eq | assumption | apply rf_ne (by decide) | exact rfl)) (by omega) (by decide) (rf_t41 _ _ _ _ _) ?_
        refine slv_iincN (lv' := [_, _, _, _, _]) eX12_laysBack_24 rfl (by decide) rfl ?_
        refine slv_goto eX12_laysBack_27 ?_
        refine slv_mem ?_ (ih (k + 1) (by omega) _ _ Q hQ)
        rw [sl_u_u, ptf_st]
        rw [h0]
        first | rw [if_pos h15] | rw [if_neg h15]
      · refine slv_iconst (v := nI 0) eX12_laysBack_18 (by decide) ?_
        refine slv_goto eX12_laysBack_19 ?_
        refine slr_iastX (k := 41) (p := 88) (len := 32) eX12_laysBack_23 rfl (by repeat (first | exact sl_u_eq | assumption | apply rf_ne (by decide) | exact rfl)) (by omega) (by decide) (rf_t41 _ _ _ _ _) ?_
        refine slv_iincN (lv' := [_, _, _, _, _]) eX12_laysBack_24 rfl (by decide) rfl ?_
        refine slv_goto eX12_laysBack_27 ?_
        refine slv_mem ?_ (ih (k + 1) (by omega) _ _ Q hQ)
        rw [sl_u_u, ptf_st]
        rw [h0]
        first | rw [if_pos h15] | rw [if_neg h15]
  have inq : ∀ (m i n p : Nat) (R : Nat → Option Nat) (b : Bool), i + m = 32 → p < 32 → n < 100 → R p = none → (∀ q d, R q = some d → d ≤ n + 1) → ∀ (Q : Option Value → sl_M → Prop), (∀ z4, sl_V YX12_laysBack none 0 0 0 Q 110 [some (.ref 68), some (.int (nI s)), some (.int (nI (n + 1))), some (.int (nI p)), z4] [] (rf_S v w (sl_u a 41 (bx (cond (b || sl_ex (fun q => sl_bt (ar p) q && decide (R q = some n)) m i) (sl_u R p (some (n + 1))) R) f2)) nm M)) → sl_V YX12_laysBack none 0 0 0 Q 62 [some (.ref 68), some (.int (nI s)), some (.int (nI (n + 1))), some (.int (nI p)), some (.int (nI i))] [] (rf_S v w (sl_u a 41 (bx (cond b (sl_u R p (some (n + 1))) R) f2)) nm M) := by
    intro m
    induction m with
    | zero =>
      intro i n p R b hi hp hn hR hd Q hQ
      simp only [sl_ex, Bool.or_false] at hQ
      refine slv_iload eX12_laysBack_62 rfl ?_
      refine slv_bipush (v := nI 32) eX12_laysBack_64 (by decide) ?_
      refine slv_icmp_geN eX12_laysBack_66 (by omega) (by omega) (fun h66 => ?_) (fun h66 => absurd h66 (by omega))
      exact hQ _
    | succ m ih =>
      intro i n p R b hi hp hn hR hd Q hQ
      have hA : mx ar f1 (32 * p + i) = sl_bi (sl_bt (ar p) i) := mb_at hp (by omega)
      have hq : (cond b (sl_u R p (some (n + 1))) R) i = some n ↔ R i = some n := by
        cases b with
        | false => exact Iff.rfl
        | true =>
          rw [cond_true]
          by_cases e : i = p
          · subst e
            rw [sl_u_eq, hR]
            exact ⟨fun g => by have := Option.some.inj g; omega, fun g => by cases g⟩
          · rw [sl_u_ne e]
      have hbd : ∀ d, (cond b (sl_u R p (some (n + 1))) R) i = some d → d < 2147483648 := by
        intro d g
        cases b with
        | false => have := hd i d g; omega
        | true =>
          rw [cond_true] at g
          by_cases e : i = p
          · rw [e, sl_u_eq] at g; have := Option.some.inj g; omega
          · rw [sl_u_ne e] at g; have := hd i d g; omega
      have hio := io_nI hbd (show n < 2147483648 by omega)
      have hst : sl_u (bx (cond b (sl_u R p (some (n + 1))) R) f2) p (nI (n + 1)) = bx (cond true (sl_u R p (some (n + 1))) R) f2 := by
        rw [bx_set hp, cond_true]
        cases b with
        | false => rfl
        | true => rw [cond_true, sl_u_u]
      refine slv_iload eX12_laysBack_62 rfl ?_
      refine slv_bipush (v := nI 32) eX12_laysBack_64 (by decide) ?_
      refine slv_icmp_geN eX12_laysBack_66 (by omega) (by omega) (fun h66 => absurd h66 (by omega)) (fun h66 => ?_)
      refine slv_aload_n eX12_laysBack_69 rfl ?_
      refine slr_ga (p := 89) eX12_laysBack_70 fX12_76 rfl ?_
      refine slv_bipush (v := nI 32) eX12_laysBack_73 (by decide) ?_
      refine slv_iload_n eX12_laysBack_75 rfl ?_
      refine slv_imulN eX12_laysBack_76 ?_
      refine slv_iload eX12_laysBack_77 rfl ?_
      refine slv_iaddN eX12_laysBack_79 ?_
      refine slr_zaldX (k := 42) (p := 89) (len := 1024) eX12_laysBack_80 rfl (by repeat (first | exact sl_u_eq | assumption | apply rf_ne (by decide) | exact rfl)) (by omega) (by decide) hA ?_
      refine slv_if_eqB eX12_laysBack_81 (fun h81 => ?_) (fun h81 => ?_)
      · refine slv_iincN (lv' := [_, _, _, _, _]) eX12_laysBack_104 rfl (by decide) rfl ?_
        refine slv_goto eX12_laysBack_107 ?_
        first | (refine ih (i + 1) n p R b (by omega) hp hn hR hd Q (fun z4 => ?_); have q := hQ z4; simp only [sl_ex, h81, Bool.false_and, Bool.false_or] at q; exact q) | (have g : R i ≠ some n := fun q => h94 (hio.mpr (hq.mpr q)); refine ih (i + 1) n p R b (by omega) hp hn hR hd Q (fun z4 => ?_); have q := hQ z4; simp only [sl_ex, decide_eq_false g, Bool.and_false, Bool.false_or] at q; exact q) | (have g : R i = some n := hq.mp (hio.mp h94); rw [sl_u_u, hst]; refine ih (i + 1) n p R true (by omega) hp hn hR hd Q (fun z4 => ?_); have q := hQ z4; simp only [sl_ex, h81, decide_eq_true g, Bool.true_and, Bool.true_or, Bool.or_true] at q ⊢; exact q)
      · refine slv_aload_n eX12_laysBack_84 rfl ?_
        refine slr_ga (p := 88) eX12_laysBack_85 fX12_73 rfl ?_
        refine slv_iload eX12_laysBack_88 rfl ?_
        refine slr_ialdX (k := 41) (p := 88) (len := 32) eX12_laysBack_90 rfl (by repeat (first | exact sl_u_eq | assumption | apply rf_ne (by decide) | exact rfl)) (by omega) (by decide) (bx_at (by omega)) ?_
        refine slv_iload_n eX12_laysBack_91 rfl ?_
        refine slv_iconst (v := nI 1) eX12_laysBack_92 (by decide) ?_
        refine slv_isubN eX12_laysBack_93 (by omega) ?_
        refine slv_icmp_ne eX12_laysBack_94 (fun h94 => ?_) (fun h94 => ?_)
        · refine slv_iincN (lv' := [_, _, _, _, _]) eX12_laysBack_104 rfl (by decide) rfl ?_
          refine slv_goto eX12_laysBack_107 ?_
          first | (refine ih (i + 1) n p R b (by omega) hp hn hR hd Q (fun z4 => ?_); have q := hQ z4; simp only [sl_ex, h81, Bool.false_and, Bool.false_or] at q; exact q) | (have g : R i ≠ some n := fun q => h94 (hio.mpr (hq.mpr q)); refine ih (i + 1) n p R b (by omega) hp hn hR hd Q (fun z4 => ?_); have q := hQ z4; simp only [sl_ex, decide_eq_false g, Bool.and_false, Bool.false_or] at q; exact q) | (have g : R i = some n := hq.mp (hio.mp h94); rw [sl_u_u, hst]; refine ih (i + 1) n p R true (by omega) hp hn hR hd Q (fun z4 => ?_); have q := hQ z4; simp only [sl_ex, h81, decide_eq_true g, Bool.true_and, Bool.true_or, Bool.or_true] at q ⊢; exact q)
        · refine slv_aload_n eX12_laysBack_97 rfl ?_
          refine slr_ga (p := 88) eX12_laysBack_98 fX12_73 rfl ?_
          refine slv_iload_n eX12_laysBack_101 rfl ?_
          refine slv_iload_n eX12_laysBack_102 rfl ?_
          refine slr_iastX (k := 41) (p := 88) (len := 32) eX12_laysBack_103 rfl (by repeat (first | exact sl_u_eq | assumption | apply rf_ne (by decide) | exact rfl)) (by omega) (by decide) (rf_t41 _ _ _ _ _) ?_
          refine slv_iincN (lv' := [_, _, _, _, _]) eX12_laysBack_104 rfl (by decide) rfl ?_
          refine slv_goto eX12_laysBack_107 ?_
          first | (refine ih (i + 1) n p R b (by omega) hp hn hR hd Q (fun z4 => ?_); have q := hQ z4; simp only [sl_ex, h81, Bool.false_and, Bool.false_or] at q; exact q) | (have g : R i ≠ some n := fun q => h94 (hio.mpr (hq.mpr q)); refine ih (i + 1) n p R b (by omega) hp hn hR hd Q (fun z4 => ?_); have q := hQ z4; simp only [sl_ex, decide_eq_false g, Bool.and_false, Bool.false_or] at q; exact q) | (have g : R i = some n := hq.mp (hio.mp h94); rw [sl_u_u, hst]; refine ih (i + 1) n p R true (by omega) hp hn hR hd Q (fun z4 => ?_); have q := hQ z4; simp only [sl_ex, h81, decide_eq_true g, Bool.true_and, Bool.true_or, Bool.or_true] at q ⊢; exact q)
  have inp : ∀ (m i n : Nat) (R : Nat → Option Nat), i + m = 32 → n < 99 → (∀ q d, R q = some d → d ≤ n + 1) → ∀ (z4 : Option Value) (Q : Option Value → sl_M → Prop), (∀ z4, sl_V YX12_laysBack none 0 0 0 Q 116 [some (.ref 68), some (.int (nI s)), some (.int (nI (n + 1))), some (.int (nI 32)), z4] [] (rf_S v w (sl_u a 41 (bx (rb1 ar (n + 1) m i R) f2)) nm M)) → sl_V YX12_laysBack none 0 0 0 Q 40 [some (.ref 68), some (.int (nI s)), some (.int (nI (n + 1))), some (.int (nI i)), z4] [] (rf_S v w (sl_u a 41 (bx R f2)) nm M) := by
    intro m
    induction m with
    | zero =>
      intro i n R hi hn hd z4 Q hQ
      have e : i = 32 := by omega
      subst e
      refine slv_iload_n eX12_laysBack_40 rfl ?_
      refine slv_bipush (v := nI 32) eX12_laysBack_41 (by decide) ?_
      refine slv_icmp_geN eX12_laysBack_43 (by omega) (by omega) (fun h43 => ?_) (fun h43 => absurd h43 (by omega))
      exact hQ _
    | succ m ih =>
      intro i n R hi hn hd z4 Q hQ
      have hQ' : ∀ z4, sl_V YX12_laysBack none 0 0 0 Q 116 [some (.ref 68), some (.int (nI s)), some (.int (nI (n + 1))), some (.int (nI 32)), z4] [] (rf_S v w (sl_u a 41 (bx (rb1 ar (n + 1) m (i + 1) (cond (decide (R i = none) && sl_ex (fun q => sl_bt (ar i) q && decide (R q = some (n + 1 - 1))) 32 0) (sl_u R i (some (n + 1))) R)) f2)) nm M) := hQ
      cases hR : R i with
      | some d =>
        have hv : bx R f2 i = nI d := by rw [bx_at (by omega), hR]; rfl
        have hdd := hd i d hR
        rw [hR, decide_eq_false (by simp), Bool.false_and, cond_false] at hQ'
        refine slv_iload_n eX12_laysBack_40 rfl ?_
        refine slv_bipush (v := nI 32) eX12_laysBack_41 (by decide) ?_
        refine slv_icmp_geN eX12_laysBack_43 (by omega) (by omega) (fun h43 => absurd h43 (by omega)) (fun h43 => ?_)
        refine slv_aload_n eX12_laysBack_46 rfl ?_
        refine slr_ga (p := 88) eX12_laysBack_47 fX12_73 rfl ?_
        refine slv_iload_n eX12_laysBack_50 rfl ?_
        refine slr_ialdX (k := 41) (p := 88) (len := 32) eX12_laysBack_51 rfl (by repeat (first | exact sl_u_eq | assumption | apply rf_ne (by decide) | exact rfl)) (by omega) (by decide) hv ?_
        refine slv_iconst (v := (-1)) eX12_laysBack_52 (by decide) ?_
        refine slv_icmp_eq eX12_laysBack_53 (fun h53 => absurd h53 (nI_neg1 (by omega))) (fun h53 => ?_)
        refine slv_goto eX12_laysBack_56 ?_
        refine slv_iincN (lv' := [_, _, _, _, _]) eX12_laysBack_110 rfl (by decide) rfl ?_
        refine slv_goto eX12_laysBack_113 ?_
        exact ih (i + 1) n R (by omega) hn hd _ Q hQ'
      | none =>
        have hv : bx R f2 i = -1 := by rw [bx_at (by omega), hR]; rfl
        rw [hR, decide_eq_true rfl, Bool.true_and, show n + 1 - 1 = n by omega] at hQ'
        refine slv_mem (M' := rf_S v w (sl_u a 41 (bx (cond false (sl_u R i (some (n + 1))) R) f2)) nm M) rfl ?_
        have hv' : bx (cond false (sl_u R i (some (n + 1))) R) f2 i = -1 := hv
        refine slv_iload_n eX12_laysBack_40 rfl ?_
        refine slv_bipush (v := nI 32) eX12_laysBack_41 (by decide) ?_
        refine slv_icmp_geN eX12_laysBack_43 (by omega) (by omega) (fun h43 => absurd h43 (by omega)) (fun h43 => ?_)
        refine slv_aload_n eX12_laysBack_46 rfl ?_
        refine slr_ga (p := 88) eX12_laysBack_47 fX12_73 rfl ?_
        refine slv_iload_n eX12_laysBack_50 rfl ?_
        refine slr_ialdX (k := 41) (p := 88) (len := 32) eX12_laysBack_51 rfl (by repeat (first | exact sl_u_eq | assumption | apply rf_ne (by decide) | exact rfl)) (by omega) (by decide) hv' ?_
        refine slv_iconst (v := (-1)) eX12_laysBack_52 (by decide) ?_
        refine slv_icmp_eq eX12_laysBack_53 (fun h53 => ?_) (fun h53 => absurd rfl h53)
        refine slv_iconst (v := nI 0) eX12_laysBack_59 (by decide) ?_
        refine slv_istore (lv' := [_, _, _, _, _]) eX12_laysBack_60 (by decide) rfl ?_
        refine inq 32 0 n i R false (by omega) (by omega) (by omega) hR hd Q (fun z4 => ?_)
        rw [Bool.false_or]
        refine slv_iincN (lv' := [_, _, _, _, _]) eX12_laysBack_110 rfl (by decide) rfl ?_
        refine slv_goto eX12_laysBack_113 ?_
        refine ih (i + 1) n _ (by omega) hn (fun q d g => ?_) _ Q hQ'
        cases hx : sl_ex (fun q => sl_bt (ar i) q && decide (R q = some n)) 32 0 with
        | false => rw [hx] at g; exact hd q d g
        | true =>
          rw [hx, cond_true] at g
          by_cases e : q = i
          · rw [e, sl_u_eq] at g; have := Option.some.inj g; omega
          · rw [sl_u_ne e] at g; exact hd q d g
  have outer : ∀ (m n : Nat), n + m = 32 → ∀ (z3 z4 : Option Value) (Q : Option Value → sl_M → Prop), Q none (rf_S v w (sl_u a 41 (bx (dN ar s 32) f2)) nm M) → sl_V YX12_laysBack none 0 0 0 Q 32 [some (.ref 68), some (.int (nI s)), some (.int (nI (n + 1))), z3, z4] [] (rf_S v w (sl_u a 41 (bx (dN ar s n) f2)) nm M) := by
    intro m
    induction m with
    | zero =>
      intro n hn z3 z4 Q hQ
      have e : n = 32 := by omega
      subst e
      refine slv_iload_n eX12_laysBack_32 rfl ?_
      refine slv_bipush (v := nI 32) eX12_laysBack_33 (by decide) ?_
      refine slv_icmp_gtN eX12_laysBack_35 (by omega) (by omega) (fun h35 => ?_) (fun h35 => absurd h35 (by omega))
      refine slv_vret eX12_laysBack_122 rfl ?_
      exact hQ
    | succ m ih =>
      intro n hn z3 z4 Q hQ
      refine slv_iload_n eX12_laysBack_32 rfl ?_
      refine slv_bipush (v := nI 32) eX12_laysBack_33 (by decide) ?_
      refine slv_icmp_gtN eX12_laysBack_35 (by omega) (by omega) (fun h35 => absurd h35 (by omega)) (fun h35 => ?_)
      refine slv_iconst (v := nI 0) eX12_laysBack_38 (by decide) ?_
      refine slv_istore_n (i := 3) (lv' := [_, _, _, _, _]) eX12_laysBack_39 rfl (by decide) rfl ?_
      refine inp 32 0 n (dN ar s n) (by omega) (by omega) (fun q d g => by have := hb n q d g; omega) _ Q (fun z4 => ?_)
      rw [rb1_eq hz (dN_hi hz hs n) n, ← dN_s]
      refine slv_iincN (lv' := [_, _, _, _, _]) eX12_laysBack_116 rfl (by decide) rfl ?_
      refine slv_goto eX12_laysBack_119 ?_
      exact ih (n + 1) (by omega) _ _ Q hQ
  have e1 : rf_S v w a nm M = rf_S v w (sl_u a 41 (ptf f2 (bx (dN ar s 0) f2) 0)) nm M := by rw [ptf_0, ← h41, sl_u_self]
  have hl := ini 32 0 (by omega)
  rw [← e1] at hl
  refine slv_iconst (v := nI 0) eX12_laysBack_0 (by decide) ?_
  refine slv_istore_n (i := 2) (lv' := [_, _, _, _, _]) eX12_laysBack_1 rfl (by decide) rfl ?_
  refine hl _ _ _ ?_
  refine slv_iconst (v := nI 1) eX12_laysBack_30 (by decide) ?_
  refine slv_istore_n (i := 2) (lv' := [_, _, _, _, _]) eX12_laysBack_31 rfl (by decide) rfl ?_
  refine outer 32 0 (by omega) _ _ _ ⟨rfl, ?_⟩
  rw [dN_ge hz hs (show 27 ≤ 32 by omega)]
end RPT

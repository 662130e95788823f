/-! the reference: words and tokens -/
section LDW
variable {Y : sl_Y} {X : Option (Nat × (Nat → Int32))} {d kc ks idx : Nat} {Q : Option Value → sl_M → Prop} {pc q : Nat} {lv : List (Option Value)} {st : List Value} {M : sl_M}
theorem st_ldcw {p : Program} {l : Launch} {e : Env} {R : Room} {s : State} {m : MethodId} {args : Array Value} {below : List Frame} {meth : Method} {c : Code} {T : State} {locs : List Loc} {cells slots : Nat}
    (X : Stand p l e R s m args below meth c T locs cells slots) (hexec : p.tables.exec = Jvm.exec) {own text : String} {index : Nat} {a : Addr} (hown : s.vm.findClass own = some m.cls)
    (hconst : (Cond.stringRef own index text).before args s = true) (hev : (Term.string own index).eval args s none [] s = some (.ref a)) {g : JFrame} (hg : g.method = m) (hdg : decode c.code g.pc = .ok (.ldc_w index, 3)) :
    ∀ target, Steps p.tables e below (T.setTop { g with pc := g.pc + 3, stack := .ref a :: g.stack }) target → Steps p.tables e below (T.setTop g) target := by
  obtain ⟨k, cf, i, a', hk, hcf, hcp, -, hr, hev'⟩ := Cond.stringRef_spec hown hconst
  cases hev.symm.trans hev'
  obtain ⟨k', hk', he⟩ := X.warmed.alike.2.2 _ _ hk
  have hr' : k'.resolved[index]? = some (some (.string a)) := by
    rcases X.warmed.entry hk hk' index with h | ⟨h, -⟩
    · rw [h]; exact hr
    · rw [hr] at h; cases h
  intro target hrest
  subst hg
  jvm_step X.here [hexec, hdg, ldc_w.wp_string (e := e) (s := T) (f := g) X.here.top hk' (by rw [he]; exact hcf) hcp hr']
  exact hrest
theorem slv_ldcwS {tx : String} (j : Nat) (h : sl_D Y pc (.ldc_w idx) 3 q) (hm : (Y.1.cls, idx, tx, j) ∈ sl_lits) (kk : sl_V Y X d kc ks Q q lv (.ref (sl_X + 2 * j) :: st) M) : sl_V Y X d kc ks Q pc lv st M := by
  obtain ⟨h, rfl⟩ := h
  intro p l e R s m args below meth c H locs cells slots mc ms D dA ad ad0 n n0 A d0 ls C
  intro T hT X0
  obtain ⟨t, a1, b1⟩ := kk p l e R s m args below meth c H locs cells slots mc ms D dA ad ad0 n n0 A d0 ls C T hT X0
  have hZ := (C.2.2.2.2.2.1.2.1 _ hm)
  have hZ' : vk_R Y.1.cls idx tx (ad (sl_X + 2 * j)) (s.setDrawn d0) := hZ.same rfl
  exact ⟨t, st_ldcw X0 C.1.1 C.1.2.2.2.2.2.1 (text := tx) (a := ad (sl_X + 2 * j)) hZ'.1 hZ'.2 (g := F0 m pc ls (st.map (sl_v ad))) rfl (by rw [C.1.2.1]; exact h) t a1, b1⟩
end LDW
/-! words: their letters, the last one first; packed by 5 and by 8 bits -/
def q5 : List Nat → Nat
  | [] => 0
  | x :: l => q5 l * 32 + x + 1
def q8 : List Nat → Nat
  | [] => 0
  | x :: l => q8 l * 256 + (97 + x)
def wok (l : List Nat) : Prop := l.length ≤ 6 ∧ ∀ x ∈ l, x < 26
def wrd (w : Int64) (p : Int32) : Prop := ∃ l, wok l ∧ p = nI (q5 l) ∧ w = Int64.ofNat (q8 l)
theorem q5_lt {l : List Nat} (h : ∀ x ∈ l, x < 26) : q5 l < 32 ^ l.length := by
  induction l with
  | nil => decide
  | cons x l ih =>
    have h1 := ih (fun y hy => h y (List.mem_cons_of_mem x hy))
    have h2 := h x List.mem_cons_self
    simp only [q5, List.length_cons, Nat.pow_succ]
    omega
theorem q8_lt {l : List Nat} (h : ∀ x ∈ l, x < 26) : q8 l < 256 ^ l.length := by
  induction l with
  | nil => decide
  | cons x l ih =>
    have h1 := ih (fun y hy => h y (List.mem_cons_of_mem x hy))
    have h2 := h x List.mem_cons_self
    simp only [q8, List.length_cons, Nat.pow_succ]
    omega
theorem q5_inj : ∀ {l l' : List Nat}, (∀ x ∈ l, x < 26) → (∀ x ∈ l', x < 26) → q5 l = q5 l' → l = l' := by
  intro l
  induction l with
  | nil =>
    intro l' _ h' e
    cases l' with
    | nil => rfl
    | cons x l' => simp only [q5] at e; omega
  | cons x l ih =>
    intro l' h h' e
    cases l' with
    | nil => simp only [q5] at e; omega
    | cons y l' =>
      simp only [q5] at e
      have h1 := h x List.mem_cons_self
      have h2 := h' y List.mem_cons_self
      have e1 : x = y := by omega
      have e2 : q5 l = q5 l' := by omega
      rw [e1, ih (fun z hz => h z (List.mem_cons_of_mem x hz)) (fun z hz => h' z (List.mem_cons_of_mem y hz)) e2]
theorem q8_inj : ∀ {l l' : List Nat}, (∀ x ∈ l, x < 26) → (∀ x ∈ l', x < 26) → q8 l = q8 l' → l = l' := by
  intro l
  induction l with
  | nil =>
    intro l' _ h' e
    cases l' with
    | nil => rfl
    | cons x l' => simp only [q8] at e; omega
  | cons x l ih =>
    intro l' h h' e
    cases l' with
    | nil => simp only [q8] at e; omega
    | cons y l' =>
      simp only [q8] at e
      have h1 := h x List.mem_cons_self
      have h2 := h' y List.mem_cons_self
      have e1 : x = y := by omega
      have e2 : q8 l = q8 l' := by omega
      rw [e1, ih (fun z hz => h z (List.mem_cons_of_mem x hz)) (fun z hz => h' z (List.mem_cons_of_mem y hz)) e2]
theorem pow_le6 {b n : Nat} (hb : 1 ≤ b) (hn : n ≤ 6) : b ^ n ≤ b ^ 6 := Nat.pow_le_pow_right hb hn
theorem q5_30 {l : List Nat} (h : wok l) : q5 l < 1073741824 := Nat.lt_of_lt_of_le (q5_lt h.2) (Nat.le_trans (pow_le6 (by decide) h.1) (by decide))
theorem q8_48 {l : List Nat} (h : wok l) : q8 l < 281474976710656 := Nat.lt_of_lt_of_le (q8_lt h.2) (Nat.le_trans (pow_le6 (by decide) h.1) (by decide))
theorem i64_inj {a b : Nat} (ha : a < 281474976710656) (hb : b < 281474976710656) : Int64.ofNat a = Int64.ofNat b ↔ a = b := by
  constructor
  · intro h
    have h1 := congrArg Int64.toBitVec h
    rw [Int64.toBitVec_ofNat', Int64.toBitVec_ofNat'] at h1
    have h2 := congrArg BitVec.toNat h1
    rw [BitVec.toNat_ofNat, BitVec.toNat_ofNat] at h2
    omega
  · intro h; rw [h]
theorem wrd_eq {w w' : Int64} {p p' : Int32} (h : wrd w p) (h' : wrd w' p') : w = w' ↔ p = p' := by
  obtain ⟨l, k1, e1, e2⟩ := h
  obtain ⟨l', k2, e3, e4⟩ := h'
  subst e1 e2 e3 e4
  rw [i64_inj (q8_48 k1) (q8_48 k2), nI_inj (by have := q5_30 k1; omega) (by have := q5_30 k2; omega)]
  exact ⟨fun h => by rw [q8_inj k1.2 k2.2 h], fun h => by rw [q5_inj k1.2 k2.2 h]⟩
theorem lg_cmp0 (x y : Int64) : lg_cmp x y = 0 ↔ x = y := by
  unfold lg_cmp
  constructor
  · intro h
    split at h
    · exact absurd h (by decide)
    · split at h
      · assumption
      · exact absurd h (by decide)
  · intro h
    subst h
    rw [if_neg (fun q => Int64.lt_irrefl q), if_pos rfl]
theorem q8_step {x b : Nat} (hx : x < 1099511627776) (hb : b < 256) : (Int64.ofNat x <<< ((nI 8).toInt64 &&& 63)) ||| (nI b).toInt64 = Int64.ofNat (x * 256 + b) := by
  have e1 : ((nI 8).toInt64 &&& 63) = Int64.ofNat 8 := by decide
  have e2 : (nI b).toInt64 = Int64.ofNat b := by
    have h : ∀ b, b < 256 → (nI b).toInt64 = Int64.ofNat b := by decide +kernel
    exact h b hb
  rw [e1, e2]
  apply Int64.toBitVec_inj.mp
  rw [Int64.toBitVec_or, Int64.toBitVec_shiftLeft]
  apply BitVec.eq_of_toNat_eq
  have e3 : (Int64.ofNat 8).toBitVec.smod 64 = 8#64 := by decide
  rw [e3]
  simp only [BitVec.shiftLeft_eq', BitVec.toNat_or, BitVec.toNat_shiftLeft, Int64.toBitVec_ofNat', BitVec.toNat_ofNat]
  have h1 : x % 2 ^ 64 = x := Nat.mod_eq_of_lt (by omega)
  have h2 : b % 2 ^ 64 = b := Nat.mod_eq_of_lt (by omega)
  have h4 : (8 : Nat) % 2 ^ 64 = 8 := rfl
  rw [h1, h2]
  have h3 : x <<< 8 % 2 ^ 64 = x <<< 8 := by
    rw [Nat.shiftLeft_eq]
    exact Nat.mod_eq_of_lt (by omega)
  first | rw [h4] | skip
  rw [h3, ← Nat.shiftLeft_add_eq_or_of_lt (show b < 2 ^ 8 by omega), Nat.shiftLeft_eq]
  rw [Nat.mod_eq_of_lt (by omega)]
/-- the texts' words -/
def kwl (j : Nat) : List Nat := [[], [10, 18, 4, 3], [4, 11, 20, 17], [3, 4, 23, 8, 12], [4, 11, 14, 7, 22], [11, 0, 4, 17], [18, 8], [18, 4, 14, 3], [4, 20, 11, 0, 21], [3, 3, 0], [18, 18, 4, 11], [18, 4, 12, 8, 19], [17, 4, 21, 14], [18, 20, 13, 8, 12], [4, 12, 0, 18]].getD j []
theorem kwl_ok : ∀ j, j < 15 → (kwl j).length ≤ 6 ∧ ∀ x ∈ kwl j, x < 26 := by decide +kernel
theorem kwl_5 : ∀ j, 1 ≤ j → j < 15 → st_pk j (st_len j) 0 (nI 0) = nI (q5 (kwl j)) := by
  have h : ∀ j, j < 15 → 1 ≤ j → st_pk j (st_len j) 0 (nI 0) = nI (q5 (kwl j)) := by decide +kernel
  exact fun j h1 h2 => h j h2 h1
/-- a text, packed by 8 bits -/
def st_l8 (j : Nat) : Nat → Nat → Int64 → Int64
  | 0, _, p => p
  | n + 1, i, p => st_l8 j n (i + 1) ((p <<< ((nI 8).toInt64 &&& 63)) ||| (st_ch j i).toInt64)
theorem kwl_8 : ∀ j, 1 ≤ j → j < 15 → st_l8 j (st_len j) 0 0 = Int64.ofNat (q8 (kwl j)) := by
  have h : ∀ j, j < 15 → 1 ≤ j → st_l8 j (st_len j) 0 0 = Int64.ofNat (q8 (kwl j)) := by decide +kernel
  exact fun j h1 h2 => h j h2 h1
theorem kwl_w (j : Nat) (h1 : 1 ≤ j) (h2 : j < 15) : wrd (st_l8 j (st_len j) 0 0) (st_pk j (st_len j) 0 (nI 0)) := ⟨kwl j, kwl_ok j h2, kwl_5 j h1 h2, kwl_8 j h1 h2⟩
section RWD
variable {v : Nat → Int32} {w : Int64} {a : Nat → Nat → Int32} {nm : Nat → Int64} {M : sl_M} {f : Nat → Int32} {ln : Nat}
set_option maxRecDepth 100000 in
theorem c_X12_isWord (hS : st_all) (M : sl_M) (w : Int64) {j : Nat} (h1 : 1 ≤ j) (h2 : j < 15) : sl_R YX12_isWord 5 [.long w, .ref (sl_X + 2 * j)] M (some (.int (sl_bi (decide (w = st_l8 j (st_len j) 0 0))))) M := by
  obtain ⟨hl, hj⟩ := st_l15 j h2
  have hL := hS.1 M j hj
  refine sl_T.of_V (lv := [_, _, _, _, _, _]) (by decide) rfl (Nat.le_of_ble_eq_true rfl) ?_
  have loop : ∀ (n i : Nat) (p : Int64), i + n = st_len j → ∀ Q : Option Value → sl_M → Prop, Q (some (.int (sl_bi (decide (w = st_l8 j n i p))))) M → sl_V YX12_isWord none 5 0 0 Q 5 [some (.long w), none, some (.ref (sl_X + 2 * j)), some (.long p), none, some (.int (nI i))] [] M := by
    intro n
    induction n with
    | zero =>
      intro i p hi Q hQ
      have hQ' : Q (some (.int (sl_bi (decide (w = p))))) M := hQ
      refine slv_iload eX12_isWord_5 rfl ?_
      refine slv_aload_n eX12_isWord_7 rfl ?_
      refine slv_rVs (As := []) eX12_isWord_8 lX12_198 rfl rfl (by first | decide | assumption) rfl hL (by decide) (Nat.le_of_ble_eq_true rfl) ?_
      refine slv_icmp_geN eX12_isWord_11 (by omega) (by omega) (fun h11 => ?_) (fun h11 => absurd h11 (by omega))
      refine slv_lload_n eX12_isWord_33 rfl ?_
      refine slv_lload_n eX12_isWord_34 rfl ?_
      refine slv_lcmp eX12_isWord_35 ?_
      refine slv_if_ne eX12_isWord_36 (fun h36 => ?_) (fun h36 => ?_)
      · refine slv_iconst (v := nI 0) eX12_isWord_43 (by decide) ?_
        refine slv_zret eX12_isWord_44 rfl rfl ?_
        first | (rw [decide_eq_true ((lg_cmp0 w p).mp h36)] at hQ'; exact hQ') | (rw [decide_eq_false (fun q => h36 ((lg_cmp0 w p).mpr q))] at hQ'; exact hQ')
      · refine slv_iconst (v := nI 1) eX12_isWord_39 (by decide) ?_
        refine slv_goto eX12_isWord_40 ?_
        refine slv_zret eX12_isWord_44 rfl rfl ?_
        first | (rw [decide_eq_true ((lg_cmp0 w p).mp h36)] at hQ'; exact hQ') | (rw [decide_eq_false (fun q => h36 ((lg_cmp0 w p).mpr q))] at hQ'; exact hQ')
    | succ n ih =>
      intro i p hi Q hQ
      refine slv_iload eX12_isWord_5 rfl ?_
      refine slv_aload_n eX12_isWord_7 rfl ?_
      refine slv_rVs (As := []) eX12_isWord_8 lX12_198 rfl rfl (by first | decide | assumption) rfl hL (by decide) (Nat.le_of_ble_eq_true rfl) ?_
      refine slv_icmp_geN eX12_isWord_11 (by omega) (by omega) (fun h11 => absurd h11 (by omega)) (fun h11 => ?_)
      refine slv_lload_n eX12_isWord_14 rfl ?_
      refine slv_bipush (v := nI 8) eX12_isWord_15 (by decide) ?_
      refine slv_lshl eX12_isWord_17 rfl ?_
      refine slv_aload_n eX12_isWord_18 rfl ?_
      refine slv_iload eX12_isWord_19 rfl ?_
      refine slv_rVs (As := [_]) eX12_isWord_21 lX12_204 rfl rfl (by first | decide | assumption) rfl (hS.2.1 M j i hj (by omega)) (by decide) (Nat.le_of_ble_eq_true rfl) ?_
      refine slv_i2l eX12_isWord_24 rfl ?_
      refine slv_lor eX12_isWord_25 ?_
      refine slv_lstore_n (i := 3) (lv' := [_, _, _, _, _, _]) eX12_isWord_26 rfl (by decide) rfl ?_
      refine slv_iincN (lv' := [_, _, _, _, _, _]) eX12_isWord_27 rfl (by decide) rfl ?_
      refine slv_goto eX12_isWord_30 ?_
      exact ih (i + 1) _ (by omega) Q hQ
  refine slv_lconst (v := 0) eX12_isWord_0 (by decide) ?_
  refine slv_lstore_n (i := 3) (lv' := [_, _, _, _, _, _]) eX12_isWord_1 rfl (by decide) rfl ?_
  refine slv_iconst (v := nI 0) eX12_isWord_2 (by decide) ?_
  refine slv_istore (lv' := [_, _, _, _, _, _]) eX12_isWord_3 (by decide) rfl ?_
  exact loop (st_len j) 0 _ (by omega) _ ⟨rfl, rfl⟩
set_option maxRecDepth 100000 in
theorem c_X12_isHere (hS : st_all) {j : Nat} (h1 : 1 ≤ j) (h2 : j < 15) {t : Nat} (ht : t < 100) (h31 : v 31 = nI t) : sl_R YX12_isHere 6 [.ref 68, .ref (sl_X + 2 * j)] (rf_S v w a nm M) (some (.int (sl_bi (decide (t = 2) && decide (w = st_l8 j (st_len j) 0 0))))) (rf_S v w a nm M) := by
  refine sl_T.of_V (lv := [_, _]) (by decide) rfl (Nat.le_of_ble_eq_true rfl) ?_
  have hW := c_X12_isWord hS (rf_S v w a nm M) w h1 h2
  refine slv_aload_n eX12_isHere_0 rfl ?_
  refine slr_gi eX12_isHere_1 fX12_177 rfl (by repeat (first | exact sl_u_eq | assumption | apply rf_ne (by decide) | exact rfl)) ?_
  refine slv_iconst (v := nI 2) eX12_isHere_4 (by decide) ?_
  refine slv_icmp_neN eX12_isHere_5 (by omega) (by omega) (fun h5 => ?_) (fun h5 => ?_)
  · refine slv_iconst (v := nI 0) eX12_isHere_23 (by decide) ?_
    refine slv_zret eX12_isHere_24 rfl rfl ?_
    refine ⟨?_, rfl⟩
    first | (rw [decide_eq_false h5]; rfl) | (rw [decide_eq_true h5, h16]; rfl)
  · refine slv_aload_n eX12_isHere_8 rfl ?_
    refine slr_gw eX12_isHere_9 fX12_194 rfl ?_
    refine slv_aload_n eX12_isHere_12 rfl ?_
    refine slv_rS (As := [_, _]) eX12_isHere_13 lX12_208 rfl rfl hW (by decide) (Nat.le_of_ble_eq_true rfl) ?_
    refine slv_if_eqB eX12_isHere_16 (fun h16 => ?_) (fun h16 => ?_)
    · refine slv_iconst (v := nI 0) eX12_isHere_23 (by decide) ?_
      refine slv_zret eX12_isHere_24 rfl rfl ?_
      refine ⟨?_, rfl⟩
      first | (rw [decide_eq_false h5]; rfl) | (rw [decide_eq_true h5, h16]; rfl)
    · refine slv_iconst (v := nI 1) eX12_isHere_19 (by decide) ?_
      refine slv_goto eX12_isHere_20 ?_
      refine slv_zret eX12_isHere_24 rfl rfl ?_
      refine ⟨?_, rfl⟩
      first | (rw [decide_eq_false h5]; rfl) | (rw [decide_eq_true h5, h16]; rfl)
set_option maxRecDepth 100000 in
theorem c_X12_byteAt (h27 : a 27 = f) (h29 : v 29 = nI ln) (hl : ln ≤ 900) {k : Nat} (hk : k ≤ 2000) : sl_R YX12_byteAt 0 [.ref 68, .int (nI k)] (rf_S v w a nm M) (some (.int (if k < ln then nI (by_ f k) else -1))) (rf_S v w a nm M) := by
  refine sl_T.of_V (lv := [_, _]) (by decide) rfl (Nat.le_of_ble_eq_true rfl) ?_
  refine slv_iload_n eX12_byteAt_0 rfl ?_
  refine slv_aload_n eX12_byteAt_1 rfl ?_
  refine slr_gi eX12_byteAt_2 fX12_162 rfl (by repeat (first | exact sl_u_eq | assumption | apply rf_ne (by decide) | exact rfl)) ?_
  refine slv_icmp_geN eX12_byteAt_5 (by omega) (by omega) (fun h5 => ?_) (fun h5 => ?_)
  · refine slv_iconst (v := (-1)) eX12_byteAt_21 (by decide) ?_
    refine slv_iret eX12_byteAt_22 rfl ?_
    first | (rw [if_pos h5, by_eq]; exact ⟨rfl, rfl⟩) | (rw [if_neg (Nat.not_lt.mpr h5)]; exact ⟨rfl, rfl⟩)
  · refine slv_aload_n eX12_byteAt_8 rfl ?_
    refine slr_ga (p := 82) eX12_byteAt_9 fX12_54 rfl ?_
    refine slv_iload_n eX12_byteAt_12 rfl ?_
    refine slr_baldX (k := 27) (p := 82) (len := 900) eX12_byteAt_13 rfl (by repeat (first | exact sl_u_eq | assumption | apply rf_ne (by decide) | exact rfl)) (by omega) (by decide) rfl ?_
    refine slv_sipush (v := nI 255) eX12_byteAt_14 (by decide) ?_
    refine slv_iand eX12_byteAt_17 ?_
    refine slv_goto eX12_byteAt_18 ?_
    refine slv_iret eX12_byteAt_22 rfl ?_
    first | (rw [if_pos h5, by_eq]; exact ⟨rfl, rfl⟩) | (rw [if_neg (Nat.not_lt.mpr h5)]; exact ⟨rfl, rfl⟩)
theorem sgn_sw : ∀ c, c < 256 → Op.lookupswitch.offset [(33, 123), (38, 123), (40, 123), (41, 123), (42, 123), (43, 123), (45, 123), (47, 123), (61, 123), (91, 123), (93, 123), (94, 123), (124, 123), (126, 123)] 125 (nI c).toInt = if st_sg c = true then 123 else 125 := by decide +kernel
set_option maxRecDepth 100000 in
theorem c_X12_isSign (M : sl_M) {c : Nat} (hc : c < 256) : sl_R YX12_isSign 0 [.int (nI c)] M (some (.int (sl_bi (st_sg c)))) M := by
  have h := sgn_sw c hc
  refine sl_T.of_V (lv := [_]) (by decide) rfl (Nat.le_of_ble_eq_true rfl) ?_
  cases hs : st_sg c with
  | true =>
    rw [hs, if_pos rfl] at h
    refine slv_iload_n eX12_isSign_0 rfl ?_
    refine slv_lookup (off := 123) (t := 124) eX12_isSign_1 (by decide) h (by decide) ?_
    refine slv_iconst (v := nI 1) eX12_isSign_124 (by decide) ?_
    refine slv_zret eX12_isSign_125 rfl rfl ?_
    exact ⟨rfl, rfl⟩
  | false =>
    rw [hs, if_neg (by decide)] at h
    refine slv_iload_n eX12_isSign_0 rfl ?_
    refine slv_lookup (off := 125) (t := 126) eX12_isSign_1 (by decide) h (by decide) ?_
    refine slv_iconst (v := nI 0) eX12_isSign_126 (by decide) ?_
    refine slv_zret eX12_isSign_127 rfl rfl ?_
    exact ⟨rfl, rfl⟩
end RWD

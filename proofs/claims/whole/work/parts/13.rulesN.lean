/-! rows for numbers that are small, flags, and arrays of them -/
def sl_u {α : Type} (f : Nat → α) (k : Nat) (x : α) : Nat → α := fun j => if j = k then x else f j
theorem sl_u_eq {α : Type} {f : Nat → α} {k : Nat} {x : α} : sl_u f k x k = x := by simp [sl_u]
theorem sl_u_ne {α : Type} {f : Nat → α} {k j : Nat} {x : α} (h : j ≠ k) : sl_u f k x j = f j := by simp [sl_u, h]
theorem sl_upd_I (f : Nat → Int32) (k : Nat) (x : Int32) : upd f k x = sl_u f k x := by funext j; by_cases h : j = k <;> simp [upd, sl_u, h]
theorem sl_upd_N (f : Nat → Nat) (k x : Nat) : upd (fun i => nI (f i)) k (nI x) = fun i => nI (sl_u f k x i) := by funext j; by_cases h : j = k <;> simp [upd, sl_u, h]
theorem sl_upd_B (f : Nat → Bool) (k : Nat) (x : Bool) : upd (fun i => sl_bi (f i)) k (vp_nar .boolean (sl_bi x)) = fun i => sl_bi (sl_u f k x i) := by
  have e : vp_nar .boolean (sl_bi x) = sl_bi x := by cases x <;> rfl
  rw [e]; funext j; by_cases h : j = k <;> simp [upd, sl_u, h]
theorem sl_updL_I (f : Nat → Int64) (k : Nat) (x : Int64) : vp_updL f k x = sl_u f k x := by funext j; by_cases h : j = k <;> simp [vp_updL, sl_u, h]
section SLRN
variable {Y : sl_Y} {X : Option (Nat × (Nat → Int32))} {d kc ks : Nat} {Q : Option Value → sl_M → Prop} {pc q : Nat} {lv lv' : List (Option Value)} {st : List Value} {M : sl_M}
theorem slv_if_eqB {b : Bool} {t : Nat} (h : sl_B Y pc (fun o => .ifCond .eq o) q t) (kt : b = false → sl_V Y X d kc ks Q t lv st M) (kf : b = true → sl_V Y X d kc ks Q q lv st M) : sl_V Y X d kc ks Q pc lv (.int (sl_bi b) :: st) M := slv_if_eq h (fun g => kt ((sl_bi_eq0 b).mp g)) (fun g => kf ((sl_bi_ne0 b).mp g))
theorem slv_if_neB {b : Bool} {t : Nat} (h : sl_B Y pc (fun o => .ifCond .ne o) q t) (kt : b = true → sl_V Y X d kc ks Q t lv st M) (kf : b = false → sl_V Y X d kc ks Q q lv st M) : sl_V Y X d kc ks Q pc lv (.int (sl_bi b) :: st) M := slv_if_ne h (fun g => kt ((sl_bi_ne0 b).mp g)) (fun g => kf ((sl_bi_eq0 b).mp (by simpa using g)))
theorem slv_icmp_eqN {a b t : Nat} (h : sl_B Y pc (fun o => .if_icmp .eq o) q t) (ha : a < 2147483648) (hb : b < 2147483648) (kt : a = b → sl_V Y X d kc ks Q t lv st M) (kf : ¬ a = b → sl_V Y X d kc ks Q q lv st M) : sl_V Y X d kc ks Q pc lv (.int (nI b) :: .int (nI a) :: st) M := slv_icmp_eq h (fun g => kt ((nI_inj ha hb).mp g)) (fun g => kf (fun z => g ((nI_inj ha hb).mpr z)))
theorem slv_icmp_neN {a b t : Nat} (h : sl_B Y pc (fun o => .if_icmp .ne o) q t) (ha : a < 2147483648) (hb : b < 2147483648) (kt : ¬ a = b → sl_V Y X d kc ks Q t lv st M) (kf : a = b → sl_V Y X d kc ks Q q lv st M) : sl_V Y X d kc ks Q pc lv (.int (nI b) :: .int (nI a) :: st) M := slv_icmp_ne h (fun g => kt (fun z => g ((nI_inj ha hb).mpr z))) (fun g => kf ((nI_inj ha hb).mp (by simpa using g)))
theorem slv_icmp_ltN {a b t : Nat} (h : sl_B Y pc (fun o => .if_icmp .lt o) q t) (ha : a < 2147483648) (hb : b < 2147483648) (kt : a < b → sl_V Y X d kc ks Q t lv st M) (kf : b ≤ a → sl_V Y X d kc ks Q q lv st M) : sl_V Y X d kc ks Q pc lv (.int (nI b) :: .int (nI a) :: st) M := slv_icmp_lt h (fun g => kt ((nI_lt_iff ha hb).mp g)) (fun g => kf (Nat.le_of_not_lt (fun z => g ((nI_lt_iff ha hb).mpr z))))
theorem slv_icmp_geN {a b t : Nat} (h : sl_B Y pc (fun o => .if_icmp .ge o) q t) (ha : a < 2147483648) (hb : b < 2147483648) (kt : b ≤ a → sl_V Y X d kc ks Q t lv st M) (kf : a < b → sl_V Y X d kc ks Q q lv st M) : sl_V Y X d kc ks Q pc lv (.int (nI b) :: .int (nI a) :: st) M := slv_icmp_ge h (fun g => kt ((nI_le_iff hb ha).mp g)) (fun g => kf (Nat.lt_of_not_le (fun z => g ((nI_le_iff hb ha).mpr z))))
theorem slv_icmp_gtN {a b t : Nat} (h : sl_B Y pc (fun o => .if_icmp .gt o) q t) (ha : a < 2147483648) (hb : b < 2147483648) (kt : b < a → sl_V Y X d kc ks Q t lv st M) (kf : a ≤ b → sl_V Y X d kc ks Q q lv st M) : sl_V Y X d kc ks Q pc lv (.int (nI b) :: .int (nI a) :: st) M := slv_icmp_gt h (fun g => kt ((nI_lt_iff hb ha).mp g)) (fun g => kf (Nat.le_of_not_lt (fun z => g ((nI_lt_iff hb ha).mpr z))))
theorem slv_icmp_leN {a b t : Nat} (h : sl_B Y pc (fun o => .if_icmp .le o) q t) (ha : a < 2147483648) (hb : b < 2147483648) (kt : a ≤ b → sl_V Y X d kc ks Q t lv st M) (kf : b < a → sl_V Y X d kc ks Q q lv st M) : sl_V Y X d kc ks Q pc lv (.int (nI b) :: .int (nI a) :: st) M := slv_icmp_le h (fun g => kt ((nI_le_iff ha hb).mp g)) (fun g => kf (Nat.lt_of_not_le (fun z => g ((nI_le_iff ha hb).mpr z))))
theorem slv_if_eqN {a t : Nat} (h : sl_B Y pc (fun o => .ifCond .eq o) q t) (ha : a < 2147483648) (kt : a = 0 → sl_V Y X d kc ks Q t lv st M) (kf : ¬ a = 0 → sl_V Y X d kc ks Q q lv st M) : sl_V Y X d kc ks Q pc lv (.int (nI a) :: st) M := slv_if_eq h (fun g => kt ((nI_inj ha (by decide)).mp (show nI a = nI 0 from g))) (fun g => kf (fun z => g (show nI a = nI 0 from (nI_inj ha (by decide)).mpr z)))
theorem slv_if_neN {a t : Nat} (h : sl_B Y pc (fun o => .ifCond .ne o) q t) (ha : a < 2147483648) (kt : ¬ a = 0 → sl_V Y X d kc ks Q t lv st M) (kf : a = 0 → sl_V Y X d kc ks Q q lv st M) : sl_V Y X d kc ks Q pc lv (.int (nI a) :: st) M := slv_if_ne h (fun g => kt (fun z => g (show nI a = nI 0 from (nI_inj ha (by decide)).mpr z))) (fun g => kf ((nI_inj ha (by decide)).mp (show nI a = nI 0 from (by simpa using g : nI a = 0))))
theorem slv_if_gtN {a t : Nat} (h : sl_B Y pc (fun o => .ifCond .gt o) q t) (ha : a < 2147483648) (kt : 0 < a → sl_V Y X d kc ks Q t lv st M) (kf : a = 0 → sl_V Y X d kc ks Q q lv st M) : sl_V Y X d kc ks Q pc lv (.int (nI a) :: st) M := slv_if_gt h (fun g => kt ((nI_lt_iff (by decide) ha).mp (show nI 0 < nI a from g))) (fun g => kf (Nat.eq_zero_of_not_pos (fun z => g (show nI 0 < nI a from (nI_lt_iff (by decide) ha).mpr z))))
theorem slv_if_leN {a t : Nat} (h : sl_B Y pc (fun o => .ifCond .le o) q t) (ha : a < 2147483648) (kt : a = 0 → sl_V Y X d kc ks Q t lv st M) (kf : 0 < a → sl_V Y X d kc ks Q q lv st M) : sl_V Y X d kc ks Q pc lv (.int (nI a) :: st) M := slv_if_le h (fun g => kt (Nat.le_zero.mp ((nI_le_iff ha (by decide)).mp (show nI a ≤ nI 0 from g)))) (fun g => kf (Nat.pos_of_ne_zero (fun z => g (show nI a ≤ nI 0 from (nI_le_iff ha (by decide)).mpr (Nat.le_of_eq z)))))
theorem slv_if_ltN {a t : Nat} (h : sl_B Y pc (fun o => .ifCond .lt o) q t) (ha : a < 2147483648) (kf : sl_V Y X d kc ks Q q lv st M) : sl_V Y X d kc ks Q pc lv (.int (nI a) :: st) M := slv_if_lt h (fun g => absurd g (nI_pos ha)) (fun _ => kf)
theorem slv_if_geN {a t : Nat} (h : sl_B Y pc (fun o => .ifCond .ge o) q t) (ha : a < 2147483648) (kt : sl_V Y X d kc ks Q t lv st M) : sl_V Y X d kc ks Q pc lv (.int (nI a) :: st) M := slv_if_ge h (fun _ => kt) (fun g => absurd (nI_pos' ha) g)
theorem slv_iincN {i k : Nat} (h : sl_D Y pc (.iinc i 1) 3 q) (hv : lv[i]? = some (some (.int (nI k)))) (hi : i < Y.2.2.1) (hl : sl_s1 lv i (.int (nI (k + 1))) = lv') (kk : sl_V Y X d kc ks Q q lv' st M) : sl_V Y X d kc ks Q pc lv st M := slv_iinc h hv hi (nI_inc k) hl kk
theorem slv_idecN {i k : Nat} (h : sl_D Y pc (.iinc i (-1)) 3 q) (hv : lv[i]? = some (some (.int (nI k)))) (hi : i < Y.2.2.1) (hk : 1 ≤ k) (hl : sl_s1 lv i (.int (nI (k - 1))) = lv') (kk : sl_V Y X d kc ks Q q lv' st M) : sl_V Y X d kc ks Q pc lv st M := slv_iinc h hv hi (by rw [← nI_sub hk, Int32.sub_eq_add_neg, show -(nI 1) = Int32.ofInt (-1) from by decide]) hl kk
theorem slv_iaddN {a b : Nat} (h : sl_D Y pc .iadd 1 q) (kk : sl_V Y X d kc ks Q q lv (.int (nI (a + b)) :: st) M) : sl_V Y X d kc ks Q pc lv (.int (nI b) :: .int (nI a) :: st) M := slv_iadd h (by rw [nI_add']; exact kk)
theorem slv_imulN {a b : Nat} (h : sl_D Y pc .imul 1 q) (kk : sl_V Y X d kc ks Q q lv (.int (nI (a * b)) :: st) M) : sl_V Y X d kc ks Q pc lv (.int (nI b) :: .int (nI a) :: st) M := slv_imul h (by rw [nI_mul]; exact kk)
theorem slv_isubN {a b : Nat} (h : sl_D Y pc .isub 1 q) (hab : b ≤ a) (kk : sl_V Y X d kc ks Q q lv (.int (nI (a - b)) :: st) M) : sl_V Y X d kc ks Q pc lv (.int (nI b) :: .int (nI a) :: st) M := slv_isub h (by rw [nI_sub hab]; exact kk)
theorem slv_ialdN {a len k : Nat} {f : Nat → Int32} (h : sl_D Y pc .iaload 1 q) (hM : M a = .inl (.int, len, .inl f)) (hk : k < len) (hl : len < 2147483648) (kk : sl_V Y X d kc ks Q q lv (.int (f k) :: st) M) : sl_V Y X d kc ks Q pc lv (.int (nI k) :: .ref a :: st) M := slv_iald h hM (vp_in_nI hk (by omega)) (by rw [nI_clamp (by omega)]; exact kk)
theorem slv_baldN {a len k : Nat} {f : Nat → Int32} (h : sl_D Y pc .baload 1 q) (hM : M a = .inl (.byte, len, .inl f)) (hk : k < len) (hl : len < 2147483648) (kk : sl_V Y X d kc ks Q q lv (.int (f k) :: st) M) : sl_V Y X d kc ks Q pc lv (.int (nI k) :: .ref a :: st) M := slv_bald h hM (vp_in_nI hk (by omega)) (by rw [nI_clamp (by omega)]; exact kk)
theorem slv_zaldN {a len k : Nat} {f : Nat → Int32} (h : sl_D Y pc .baload 1 q) (hM : M a = .inl (.boolean, len, .inl f)) (hk : k < len) (hl : len < 2147483648) (kk : sl_V Y X d kc ks Q q lv (.int (f k) :: st) M) : sl_V Y X d kc ks Q pc lv (.int (nI k) :: .ref a :: st) M := slv_zald h hM (vp_in_nI hk (by omega)) (by rw [nI_clamp (by omega)]; exact kk)
theorem slv_laldN {a len k : Nat} {f : Nat → Int64} (h : sl_D Y pc .laload 1 q) (hM : M a = .inl (.long, len, .inr (.inl f))) (hk : k < len) (hl : len < 2147483648) (kk : sl_V Y X d kc ks Q q lv (.long (f k) :: st) M) : sl_V Y X d kc ks Q pc lv (.int (nI k) :: .ref a :: st) M := slv_lald h hM (vp_in_nI hk (by omega)) (by rw [nI_clamp (by omega)]; exact kk)
theorem slv_iastN {a len k x : Nat} {f : Nat → Nat} (h : sl_D Y pc .iastore 1 q) (hM : M a = .inl (.int, len, .inl fun i => nI (f i))) (hk : k < len) (hl : len < 2147483648) (kk : sl_V Y X d kc ks Q q lv st (sl_up M a (.inl (.int, len, .inl fun i => nI (sl_u f k x i))))) : sl_V Y X d kc ks Q pc lv (.int (nI x) :: .int (nI k) :: .ref a :: st) M := slv_iast h hM (vp_in_nI hk (by omega)) (by rw [nI_clamp (by omega), sl_upd_N]; exact kk)
theorem slv_iastI {a len k : Nat} {x : Int32} {f : Nat → Int32} (h : sl_D Y pc .iastore 1 q) (hM : M a = .inl (.int, len, .inl f)) (hk : k < len) (hl : len < 2147483648) (kk : sl_V Y X d kc ks Q q lv st (sl_up M a (.inl (.int, len, .inl (sl_u f k x))))) : sl_V Y X d kc ks Q pc lv (.int x :: .int (nI k) :: .ref a :: st) M := slv_iast h hM (vp_in_nI hk (by omega)) (by rw [nI_clamp (by omega), sl_upd_I]; exact kk)
theorem slv_bastI {a len k : Nat} {x : Int32} {f : Nat → Int32} (h : sl_D Y pc .bastore 1 q) (hM : M a = .inl (.byte, len, .inl f)) (hk : k < len) (hl : len < 2147483648) (kk : sl_V Y X d kc ks Q q lv st (sl_up M a (.inl (.byte, len, .inl (sl_u f k (vp_nar .byte x)))))) : sl_V Y X d kc ks Q pc lv (.int x :: .int (nI k) :: .ref a :: st) M := slv_bast h hM (vp_in_nI hk (by omega)) (by rw [nI_clamp (by omega), sl_upd_I]; exact kk)
theorem slv_zastB {a len k : Nat} {x : Bool} {f : Nat → Bool} (h : sl_D Y pc .bastore 1 q) (hM : M a = .inl (.boolean, len, .inl fun i => sl_bi (f i))) (hk : k < len) (hl : len < 2147483648) (kk : sl_V Y X d kc ks Q q lv st (sl_up M a (.inl (.boolean, len, .inl fun i => sl_bi (sl_u f k x i))))) : sl_V Y X d kc ks Q pc lv (.int (sl_bi x) :: .int (nI k) :: .ref a :: st) M := slv_zast h hM (vp_in_nI hk (by omega)) (by rw [nI_clamp (by omega), sl_upd_B]; exact kk)
theorem slv_lastI {a len k : Nat} {x : Int64} {f : Nat → Int64} (h : sl_D Y pc .lastore 1 q) (hM : M a = .inl (.long, len, .inr (.inl f))) (hk : k < len) (hl : len < 2147483648) (kk : sl_V Y X d kc ks Q q lv st (sl_up M a (.inl (.long, len, .inr (.inl (sl_u f k x)))))) : sl_V Y X d kc ks Q pc lv (.long x :: .int (nI k) :: .ref a :: st) M := slv_last h hM (vp_in_nI hk (by omega)) (by rw [nI_clamp (by omega), sl_updL_I]; exact kk)
/-- another expression for what lies on the stack -/
theorem slv_top {v w : Value} (h : v = w) (kk : sl_V Y X d kc ks Q pc lv (w :: st) M) : sl_V Y X d kc ks Q pc lv (v :: st) M := h ▸ kk
end SLRN
/-! Math.max and Math.min -/
section SLMX
variable {Y : sl_Y} {X : Option (Nat × (Nat → Int32))} {d kc ks idx : Nat} {Q : Option Value → sl_M → Prop} {pc q : Nat} {lv : List (Option Value)} {st : List Value} {M : sl_M}
theorem mx_code : Cond.code Lib.Math.max.name Lib.Math.max.code 2 (some .int) = Cond.code YJ9_max_7cf53.1 YJ9_max_7cf53.2.1 2 (some .int) := by decide +kernel
theorem mn_code : Cond.code Lib.Math.min.name Lib.Math.min.code 2 (some .int) = Cond.code YJ9_min_7cf53.1 YJ9_min_7cf53.2.1 2 (some .int) := by decide +kernel
theorem mx_name : Lib.Math.max.name = YJ9_max_7cf53.1 := by decide +kernel
theorem mn_name : Lib.Math.min.name = YJ9_min_7cf53.1 := by decide +kernel
theorem slv_max {x y : Int32} (h : sl_D Y pc (.invokestatic idx) 3 q) (L : sl_LS Y.1.cls idx YJ9_max_7cf53 2) (hd : 1 ≤ d) (h8 : (st.map fun v => v.category).sum ≤ 8) (kk : sl_V Y X d kc ks Q q lv (.int (if x < y then y else x) :: st) M) : sl_V Y X d kc ks Q pc lv (.int y :: .int x :: st) M := by
  obtain ⟨h, rfl⟩ := h
  intro p l e R s m args below meth c H locs cells slots mc ms D dA ad ad0 n n0 A d0 ls C
  have hts := dr_words C.1.2.2.2.2.2.2.1 d0
  refine va_mmax (s := s.setDrawn d0) (rest := st.map (sl_v ad)) C.1.1 C.1.2.1 (C.1.2.2.2.1.trans C.2.2.2.1.2.1.symm) C.1.2.2.2.2.2.1 (by rw [mx_name]; exact hts _ L.2.1) (by rw [mx_name]; exact hts _ L.2.2.1) (hts _ L.1.2.1) (by rw [mx_code]; exact hts _ L.1.1) (Nat.le_trans hd C.2.1.1) ?_ (by have := C.2.1.2.2; omega) (by have := C.2.1.2.2; omega) h (kk p l e R s m args below meth c H locs cells slots mc ms D dA ad ad0 n n0 A d0 ls C)
  rw [sl_cats]
  have h1 := C.2.1.2.1
  omega
theorem slv_min {x y : Int32} (h : sl_D Y pc (.invokestatic idx) 3 q) (L : sl_LS Y.1.cls idx YJ9_min_7cf53 2) (hd : 1 ≤ d) (h8 : (st.map fun v => v.category).sum ≤ 8) (kk : sl_V Y X d kc ks Q q lv (.int (if y < x then y else x) :: st) M) : sl_V Y X d kc ks Q pc lv (.int y :: .int x :: st) M := by
  obtain ⟨h, rfl⟩ := h
  intro p l e R s m args below meth c H locs cells slots mc ms D dA ad ad0 n n0 A d0 ls C
  have hts := dr_words C.1.2.2.2.2.2.2.1 d0
  refine va_mmin (s := s.setDrawn d0) (rest := st.map (sl_v ad)) C.1.1 C.1.2.1 (C.1.2.2.2.1.trans C.2.2.2.1.2.1.symm) C.1.2.2.2.2.2.1 (by rw [mn_name]; exact hts _ L.2.1) (by rw [mn_name]; exact hts _ L.2.2.1) (hts _ L.1.2.1) (by rw [mn_code]; exact hts _ L.1.1) (Nat.le_trans hd C.2.1.1) ?_ (by have := C.2.1.2.2; omega) (by have := C.2.1.2.2; omega) h ?_
  · rw [sl_cats]
    have h1 := C.2.1.2.1
    omega
  · have g := kk p l e R s m args below meth c H locs cells slots mc ms D dA ad ad0 n n0 A d0 ls C
    exact g
theorem slv_maxN {a b : Nat} (h : sl_D Y pc (.invokestatic idx) 3 q) (L : sl_LS Y.1.cls idx YJ9_max_7cf53 2) (ha : a < 2147483648) (hb : b < 2147483648) (hd : 1 ≤ d) (h8 : (st.map fun v => v.category).sum ≤ 8) (kk : sl_V Y X d kc ks Q q lv (.int (nI (max a b)) :: st) M) : sl_V Y X d kc ks Q pc lv (.int (nI b) :: .int (nI a) :: st) M := by
  refine slv_max h L hd h8 ?_
  rcases Nat.lt_or_ge a b with g | g
  · rw [if_pos (nI_lt g hb)]; rw [Nat.max_eq_right (by omega)] at kk; exact kk
  · rw [if_neg (nI_nlt g ha)]; rw [Nat.max_eq_left (by omega)] at kk; exact kk
theorem slv_minN {a b : Nat} (h : sl_D Y pc (.invokestatic idx) 3 q) (L : sl_LS Y.1.cls idx YJ9_min_7cf53 2) (ha : a < 2147483648) (hb : b < 2147483648) (hd : 1 ≤ d) (h8 : (st.map fun v => v.category).sum ≤ 8) (kk : sl_V Y X d kc ks Q q lv (.int (nI (min a b)) :: st) M) : sl_V Y X d kc ks Q pc lv (.int (nI b) :: .int (nI a) :: st) M := by
  refine slv_min h L hd h8 ?_
  rcases Nat.lt_or_ge b a with g | g
  · rw [if_pos (nI_lt g ha)]; rw [Nat.min_eq_right (by omega)] at kk; exact kk
  · rw [if_neg (nI_nlt g hb)]; rw [Nat.min_eq_left (by omega)] at kk; exact kk
end SLMX

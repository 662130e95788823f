/-! texts: String.length, charAt, indexOf over the texts that lie outside the store -/
theorem tx_w1 : Cond.fieldLink RJ0 38 "java/lang/String" "COMPACT_STRINGS" "Z" ∈ sl_g := List.mem_filter.mpr ⟨by decide +kernel, rfl⟩
theorem tx_w2 : Cond.fieldLink RJ0 9 "java/lang/String" "value" "[B" ∈ sl_g := List.mem_filter.mpr ⟨by decide +kernel, rfl⟩
theorem tx_w3 : Cond.fieldLink RJ0 15 "java/lang/String" "coder" "B" ∈ sl_g := List.mem_filter.mpr ⟨by decide +kernel, rfl⟩
theorem tx_w4 : Cond.fieldLink RJ0 1053 "jdk/internal/util/Preconditions" "SIOOBE_FORMATTER" "Ljava/util/function/BiFunction;" ∈ sl_g := List.mem_filter.mpr ⟨by decide +kernel, rfl⟩
section TXR
variable {Y Z : sl_Y} {X : Option (Nat × (Nat → Int32))} {d dd kc ks na idx j : Nat} {Q : Option Value → sl_M → Prop} {pc q : Nat} {lv : List (Option Value)} {st st0 As : List Value} {M : sl_M}
theorem slv_tcs (h : sl_D Y pc (.getstatic idx) 3 q) (w : Cond.fieldLink Y.1.cls idx "java/lang/String" "COMPACT_STRINGS" "Z" ∈ sl_g) (kk : sl_V Y X d kc ks Q q lv (.int 1 :: st) M) : sl_V Y X d kc ks Q pc lv st M := by
  obtain ⟨h, rfl⟩ := h
  intro p l e R s m args below meth c H locs cells slots mc ms D dA ad ad0 n n0 A d0 ls C
  have hts := dr_words C.1.2.2.2.2.2.2.1 d0
  exact va_gets (s := s.setDrawn d0) C.1.1 C.1.2.1 (va_Z.moved (Vm.Alike.refl s.vm) C.2.2.2.2.2.1.2.2.1) C.2.2.1.2.2.2.1 C.1.2.2.2.2.2.1 (hts _ w) (fun _ h => h) h (kk p l e R s m args below meth c H locs cells slots mc ms D dA ad ad0 n n0 A d0 ls C)
theorem slv_tgv (h : sl_D Y pc (.getfield idx) 3 q) (w : Cond.fieldLink Y.1.cls idx "java/lang/String" "value" "[B" ∈ sl_g) (hj : j < sl_sN) (kk : sl_V Y X d kc ks Q q lv (.ref (sl_X + 2 * j + 1) :: st) M) : sl_V Y X d kc ks Q pc lv (.ref (sl_X + 2 * j) :: st) M := by
  obtain ⟨h, rfl⟩ := h
  intro p l e R s m args below meth c H locs cells slots mc ms D dA ad ad0 n n0 A d0 ls C
  have hts := dr_words C.1.2.2.2.2.2.2.1 d0
  exact vk_getf (s := s.setDrawn d0) C.1.1 C.1.2.1 (va_OF.moved (Vm.Alike.refl s.vm) (C.2.2.2.2.2.1.1.1 j hj).2.2.1) C.2.2.1.2.2.2.1 C.1.2.2.2.2.2.1 (hts _ w) (fun _ h => h) h (kk p l e R s m args below meth c H locs cells slots mc ms D dA ad ad0 n n0 A d0 ls C)
theorem slv_tgc (h : sl_D Y pc (.getfield idx) 3 q) (w : Cond.fieldLink Y.1.cls idx "java/lang/String" "coder" "B" ∈ sl_g) (hj : j < sl_sN) (kk : sl_V Y X d kc ks Q q lv (.int 0 :: st) M) : sl_V Y X d kc ks Q pc lv (.ref (sl_X + 2 * j) :: st) M := by
  obtain ⟨h, rfl⟩ := h
  intro p l e R s m args below meth c H locs cells slots mc ms D dA ad ad0 n n0 A d0 ls C
  have hts := dr_words C.1.2.2.2.2.2.2.1 d0
  exact vk_getf (s := s.setDrawn d0) C.1.1 C.1.2.1 (va_OF.moved (Vm.Alike.refl s.vm) (C.2.2.2.2.2.1.1.1 j hj).2.1) C.2.2.1.2.2.2.1 C.1.2.2.2.2.2.1 (hts _ w) (fun _ h => h) h (kk p l e R s m args below meth c H locs cells slots mc ms D dA ad ad0 n n0 A d0 ls C)
theorem slv_tln (h : sl_D Y pc .arraylength 1 q) (hj : j < sl_sN) (kk : sl_V Y X d kc ks Q q lv (.int (nI (st_len j)) :: st) M) : sl_V Y X d kc ks Q pc lv (.ref (sl_X + 2 * j + 1) :: st) M := by
  obtain ⟨h, rfl⟩ := h
  intro p l e R s m args below meth c H locs cells slots mc ms D dA ad ad0 n n0 A d0 ls C
  exact va_tlen (s := s.setDrawn d0) C.1.1 C.1.2.1 (va_T.moved (Vm.Alike.refl s.vm) (C.2.2.2.2.2.1.1.1 j hj).2.2.2) C.2.2.1.2.2.2.1 rfl h (kk p l e R s m args below meth c H locs cells slots mc ms D dA ad ad0 n n0 A d0 ls C)
theorem tx_lens : ∀ j, j < 16 → st_len j < 100 := by decide
theorem slv_tbl {k : Nat} (h : sl_D Y pc .baload 1 q) (hj : j < sl_sN) (hk : k < st_len j) (kk : sl_V Y X d kc ks Q q lv (.int (st_ch j k) :: st) M) : sl_V Y X d kc ks Q pc lv (.int (nI k) :: .ref (sl_X + 2 * j + 1) :: st) M := by
  obtain ⟨h, rfl⟩ := h
  have hl := tx_lens j hj
  intro p l e R s m args below meth c H locs cells slots mc ms D dA ad ad0 n n0 A d0 ls C
  refine va_tb (s := s.setDrawn d0) C.1.1 C.1.2.1 (va_T.moved (Vm.Alike.refl s.vm) (C.2.2.2.2.2.1.1.1 j hj).2.2.2) C.2.2.1.2.2.2.1 (i := nI k) (vp_in_nI hk (by show st_len j < _; omega)) (v := .int (st_ch j k)) ?_ h (kk p l e R s m args below meth c H locs cells slots mc ms D dA ad ad0 n n0 A d0 ls C)
  show Value.int ((sl_sB.getD j []).getD (nI k).toNatClampNeg 0) = _
  rw [nI_clamp (by omega)]
  rfl
end TXR
section TXC
variable {M : sl_M}
set_option maxRecDepth 100000 in
theorem tx_coder (M : sl_M) {j : Nat} (hj : j < sl_sN) : sl_R YJ0_coder_7d493 0 [.ref (sl_X + 2 * j)] M (some (.int 0)) M := by
  refine sl_T.of_VF (lv := [_]) (by decide) rfl (Nat.le_of_ble_eq_true rfl) ?_
  refine slv_tcs eJ0_coder_7d493_0 tx_w1 ?_
  refine slv_if_eq eJ0_coder_7d493_3 (fun h => absurd h (by decide)) (fun _ => ?_)
  refine slv_aload_n eJ0_coder_7d493_6 rfl ?_
  refine slv_tgc eJ0_coder_7d493_7 tx_w3 hj ?_
  refine slv_goto eJ0_coder_7d493_10 ?_
  refine slv_zret eJ0_coder_7d493_14 rfl rfl ?_
  exact ⟨rfl, rfl⟩
set_option maxRecDepth 100000 in
theorem tx_latin (M : sl_M) {j : Nat} (hj : j < sl_sN) : sl_R YJ0_isLatin1_aae02 0 [.ref (sl_X + 2 * j)] M (some (.int 1)) M := by
  refine sl_T.of_VF (lv := [_]) (by decide) rfl (Nat.le_of_ble_eq_true rfl) ?_
  refine slv_tcs eJ0_isLatin1_aae02_0 tx_w1 ?_
  refine slv_if_eq eJ0_isLatin1_aae02_3 (fun h => absurd h (by decide)) (fun _ => ?_)
  refine slv_aload_n eJ0_isLatin1_aae02_6 rfl ?_
  refine slv_tgc eJ0_isLatin1_aae02_7 tx_w3 hj ?_
  refine slv_if_ne eJ0_isLatin1_aae02_10 (fun h => absurd rfl h) (fun _ => ?_)
  refine slv_iconst (v := 1) eJ0_isLatin1_aae02_13 (by decide) ?_
  refine slv_goto eJ0_isLatin1_aae02_14 ?_
  refine slv_zret eJ0_isLatin1_aae02_18 rfl rfl ?_
  exact ⟨rfl, rfl⟩
theorem tx_shr : ∀ j, j < 16 → nI (st_len j) >>> ((0 : Int32) &&& 31) = nI (st_len j) := by decide
set_option maxRecDepth 100000 in
theorem tx_length (M : sl_M) {j : Nat} (hj : j < sl_sN) : sl_R YJ0_length_8abf5 2 [.ref (sl_X + 2 * j)] M (some (.int (nI (st_len j)))) M := by
  refine sl_T.of_VF (lv := [_]) (by decide) rfl (Nat.le_of_ble_eq_true rfl) ?_
  refine slv_aload_n eJ0_length_8abf5_0 rfl ?_
  refine slv_tgv eJ0_length_8abf5_1 tx_w2 hj ?_
  refine slv_tln eJ0_length_8abf5_4 hj ?_
  refine slv_aload_n eJ0_length_8abf5_5 rfl ?_
  refine slv_rVs (As := []) eJ0_length_8abf5_6 lJ0_335 rfl rfl hj rfl (tx_coder M hj) (by decide) (Nat.le_of_ble_eq_true rfl) ?_
  refine slv_ishr eJ0_length_8abf5_9 ?_
  refine slv_iret eJ0_length_8abf5_10 rfl ?_
  exact ⟨by rw [tx_shr j hj], rfl⟩
/-- whatever the third argument is -/
theorem tx_chk3 {x y : Nat} (hxy : x < y) (hy : y < 1000) (v : Value) (hv : v.category = 1) (l : sl_L) (D : va_G) (dA : FieldType → ClassId) (ad : Nat → Nat) (n sz : Nat) (hn : n ≤ sl_X) (hno : ∀ k : Nat, n ≤ k → M k = sl_no) :
    MetD lw_cs l YJ3_checkIndex_8e157.1 (sl_ws YJ3_checkIndex_8e157) (sl_rm 0 0 0) (va_Pc [.int (nI x), .int (nI y), v] (fun U => U.heap.size = sz ∧ va_P D vwCl (sl_w ad dA n M) U.heap ∧ va_K D vwCl (sl_tys dA) U ∧ va_D (fun _ => True) (sl_w ad dA n M) ∧ sl_str ad (va_A (sl_w ad dA n M) sz) U)) (sl_Qc D dA ad n 0 (va_A (sl_w ad dA n M) sz) (fun r1 M1 => r1 = some (.int (nI x)) ∧ M1 = M)) 0 0 (va_A (sl_w ad dA n M) sz) := by
  have h : sl_V YJ3_checkIndex_8e157 none 0 0 0 (fun r1 M1 => r1 = some (.int (nI x)) ∧ M1 = M) 0 [some (.int (nI x)), some (.int (nI y)), none] [] M := by
    refine slv_iload_n eJ3_checkIndex_8e157_0 rfl ?_
    refine slv_if_ltN eJ3_checkIndex_8e157_1 (by omega) ?_
    refine slv_iload_n eJ3_checkIndex_8e157_4 rfl ?_
    refine slv_iload_n eJ3_checkIndex_8e157_5 rfl ?_
    refine slv_icmp_ltN eJ3_checkIndex_8e157_6 (by omega) (by omega) (fun _ => ?_) (fun h => absurd hxy (by omega))
    refine slv_iload_n eJ3_checkIndex_8e157_16 rfl ?_
    refine slv_iret eJ3_checkIndex_8e157_17 rfl ?_
    exact ⟨rfl, rfl⟩
  refine MetD.ofW (cc := YJ3_checkIndex_8e157.2.1) (maxL := 3) (ret := YJ3_checkIndex_8e157.2.2.2) (by decide) rfl ?_
  intro p e s m args below meth c s₁ B hml hv2 hd0
  obtain ⟨rfl, hsz, hP, hK, hD0, hstr⟩ := hv2
  subst hsz
  have hts := atoms_spec (ws := sl_ws YJ3_checkIndex_8e157) B.pre
  have hown : s.vm.findClass YJ3_checkIndex_8e157.1.cls = some m.cls := findClass_of_methodNamed B.named
  have hlen : (lg_sl [Value.int (nI x), Value.int (nI y), v]).length = 3 := by
    show ([Slot.val (Value.int (nI x))] ++ ([Slot.val (Value.int (nI y))] ++ ((if v.category = 2 then [Slot.val v, Slot.second] else [Slot.val v]) ++ []))).length = 3
    rw [hv]
    rfl
  have hl := lv_entry [Value.int (nI x), Value.int (nI y), v] (n := 3) (by rw [hlen]; exact Nat.le_refl 3)
  rw [lg_entry_eq]
  generalize (lg_sl [Value.int (nI x), Value.int (nI y), v] ++ List.replicate (3 - (lg_sl [Value.int (nI x), Value.int (nI y), v]).length) Slot.unset).toArray = ls at hl ⊢
  refine h p l e _ s m _ below meth c s.heap [] 0 0 0 0 D dA ad ad n n _ s.drawn ls
    ⟨⟨B.exec, B.bytes, B.returns, hml, B.notSynchronized, hown, fun w hw => hts w (List.mem_cons_of_mem _ hw), (name_of_methodNamed B.named B.method).1⟩,
     ⟨Nat.le_refl 0, Nat.le_refl 0, Nat.zero_add _, Nat.zero_add _, Nat.le_refl 0, Nat.le_refl 0⟩,
     ⟨hK, hP, hD0.self, va_S.rf, fun q g => Or.inr g⟩,
     ⟨hd0, hl.1, hl.2.1, fun i w g => ?_⟩,
     ⟨fun _ _ => rfl, Nat.le_refl n, hn, hno⟩, ⟨hstr, fun _ => ⟨rfl, rfl⟩, fun L xs g => by cases g⟩⟩
  match i, g with
  | 0, g => cases g; exact hl.2.2 (0, .int (nI x)) List.mem_cons_self
  | 1, g => cases g; exact hl.2.2 (1, .int (nI y)) (List.mem_cons_of_mem _ List.mem_cons_self)
  | 2, g => cases g
  | k + 3, g => cases g
theorem tx_run {X : Option (Nat × (Nat → Int32))} {d kc ks : Nat} {Q : Option Value → sl_M → Prop} {lv : List (Option Value)} {x y : Nat} (hxy : x < y) (hy : y < 1000) (hd : 1 ≤ d) (kk : sl_V YJ0_checkIndex_df160 X d kc ks Q 8 lv [.int (nI x)] M)
    {p : Program} {l : sl_L} {e : Env} {R : Room} {s : State} {m : MethodId} {args : Array Value} {below : List Frame} {meth : Method} {c : Code} {H : Heap} {locs : List Loc} {cells slots mc ms : Nat} {D : va_G} {dA : FieldType → ClassId} {ad ad0 : Nat → Nat} {n n0 : Nat} {A : Nat → Prop} {d0 : Drawn} {ls : Array Slot}
    (C : sl_C YJ0_checkIndex_df160 X d kc ks lv M p R s m args meth c H locs cells slots mc ms D dA ad ad0 n n0 A d0 ls) (v : Value) (hv : v.category = 1) :
    W p l e R (s.setDrawn d0) m args below meth c H locs cells slots (MQD lw_cs below (sl_Qc D dA ad0 n0 mc A Q) args s mc ms A) (F0 m 5 ls [v, .int (nI y), .int (nI x)]) := by
  have hts := dr_words C.1.2.2.2.2.2.2.1 d0
  obtain ⟨hI, l1, l2, l3⟩ := lJ0_1059
  have h5 : decode YJ0_checkIndex_df160.2.1 5 = .ok (.invokestatic 1059, 3) := eJ0_checkIndex_df160_5.1
  refine sl_back (st := []) (kc' := kc) (ks' := ks) C (va_runS_D (As := [.int (nI x), .int (nI y), v]) (rest := []) (n := 3) ⟨C.1.1, C.1.2.1, C.1.2.2.2.1, C.1.2.2.2.2.2.1, hts⟩ (tx_chk3 hxy hy v hv l D dA ad n H.size C.2.2.2.2.1.2.2.1 C.2.2.2.2.1.2.2.2) ⟨callB_of (ws' := sl_g) 3 hts (sl_good hI) rfl rfl rfl (hts _ hI.2.1) (hts _ l1) ⟨hI.2.2.2.1, hI.2.2.2.2, l3⟩ ?_, hts _ l2⟩ ⟨?_, ?_⟩ rfl rfl C.2.2.2.1.2.1 rfl (lv_room (by decide)) h5 ?_) (Nat.zero_add kc).symm (Nat.zero_add ks).symm (Or.inl rfl) (fun r1 M1 g => by obtain ⟨rfl, rfl⟩ := g; exact kk)
  · have h1 := C.2.1.1; have h2 := C.2.1.2.1; have h3 := hI.2.2.1
    refine ⟨Nat.le_trans hd h1, ?_⟩
    show 8 + (YJ3_checkIndex_8e157.2.2.1 + 11) + 40 * 0 ≤ R.locals
    omega
  · intro a U g mk h
    obtain ⟨q0, q1, qP, qK, qD, qs⟩ := h
    refine ⟨q0, q1, qP, va_K.moved (u := U) (U := U.calling g mk a) (Vm.Alike.refl U.vm) qK, qD, ?_⟩
    obtain ⟨h1, h2, h3, h4, h5, h6⟩ := qs
    exact ⟨h1.moved (Vm.Alike.refl U.vm), fun q hq => (h2 q hq).same rfl, h3.moved (Vm.Alike.refl U.vm), h4.moved (Vm.Alike.refl U.vm), fun q hq => (h5 q hq).same rfl rfl, h6.same rfl rfl⟩
  · intro U hU hW
    exact ⟨rfl, by rw [hU], by rw [hU]; exact C.2.2.1.2.1, va_K.moved hW.alike C.2.2.1.1, C.2.2.1.2.2.1.weaken (fun _ _ _ _ => trivial), C.2.2.2.2.2.1.narrow C.2.2.1.2.2.2.1.2.1 hU hW (sl_sub C)⟩
  · have h1 := C.2.1.2.2
    omega
theorem slv_chk {X : Option (Nat × (Nat → Int32))} {d kc ks : Nat} {Q : Option Value → sl_M → Prop} {lv : List (Option Value)} {x y : Nat} (hxy : x < y) (hy : y < 1000) (hd : 1 ≤ d) (kk : sl_V YJ0_checkIndex_df160 X d kc ks Q 8 lv [.int (nI x)] M) : sl_V YJ0_checkIndex_df160 X d kc ks Q 2 lv [.int (nI y), .int (nI x)] M := by
  intro p l e R s m args below meth c H locs cells slots mc ms D dA ad ad0 n n0 A d0 ls C
  have hts := dr_words C.1.2.2.2.2.2.2.1 d0
  have h2 : decode YJ0_checkIndex_df160.2.1 2 = .ok (.getstatic 1053, 3) := eJ0_checkIndex_df160_2.1
  rcases C.2.2.2.2.2.1.2.2.2.1 with hZ | ⟨t, hZ⟩
  · exact va_gets (s := s.setDrawn d0) C.1.1 C.1.2.1 (va_Z.moved (Vm.Alike.refl s.vm) hZ) C.2.2.1.2.2.2.1 C.1.2.2.2.2.2.1 (hts _ tx_w4) (fun _ h => h) h2 (tx_run hxy hy hd kk C .null rfl)
  · exact va_gets (s := s.setDrawn d0) C.1.1 C.1.2.1 (va_Z.moved (Vm.Alike.refl s.vm) hZ) C.2.2.1.2.2.2.1 C.1.2.2.2.2.2.1 (hts _ tx_w4) (fun _ h => h) h2 (tx_run hxy hy hd kk C (.ref t) rfl)
set_option maxRecDepth 100000 in
theorem tx_chk (M : sl_M) {x y : Nat} (hxy : x < y) (hy : y < 1000) : sl_R YJ0_checkIndex_df160 2 [.int (nI x), .int (nI y)] M none M := by
  refine sl_T.of_VF (lv := [_, _]) (by decide) rfl (Nat.le_of_ble_eq_true rfl) ?_
  refine slv_iload_n eJ0_checkIndex_df160_0 rfl ?_
  refine slv_iload_n eJ0_checkIndex_df160_1 rfl ?_
  refine slv_chk hxy hy (by decide) ?_
  refine slv_pop eJ0_checkIndex_df160_8 rfl ?_
  refine slv_vret eJ0_checkIndex_df160_9 rfl ?_
  exact ⟨rfl, rfl⟩
theorem tx_chr : ∀ j, j < 16 → ∀ i, i < st_len j → ((st_ch j i &&& nI 255).toUInt32 % 65536).toInt32 = st_ch j i ∧ narrow .char (.int (st_ch j i)) = .int (st_ch j i) := by decide +kernel
set_option maxRecDepth 100000 in
theorem tx_char1 (M : sl_M) {j i : Nat} (hj : j < sl_sN) (hi : i < st_len j) : sl_R YJ1_charAt_3b067 3 [.ref (sl_X + 2 * j + 1), .int (nI i)] M (some (.int (st_ch j i))) M := by
  refine sl_T.of_VF (lv := [_, _]) (by decide) rfl (Nat.le_of_ble_eq_true rfl) ?_
  have hl := tx_lens j hj
  obtain ⟨c1, c2⟩ := tx_chr j hj i hi
  refine slv_iload_n eJ1_charAt_3b067_0 rfl ?_
  refine slv_aload_n eJ1_charAt_3b067_1 rfl ?_
  refine slv_tln eJ1_charAt_3b067_2 hj ?_
  refine slv_rS (As := [_, _]) eJ1_charAt_3b067_3 lJ1_9 rfl rfl (tx_chk M hi (by omega)) (by decide) (Nat.le_of_ble_eq_true rfl) ?_
  refine slv_aload_n eJ1_charAt_3b067_6 rfl ?_
  refine slv_iload_n eJ1_charAt_3b067_7 rfl ?_
  refine slv_tbl eJ1_charAt_3b067_8 hj hi ?_
  refine slv_sipush (v := nI 255) eJ1_charAt_3b067_9 (by decide) ?_
  refine slv_iand eJ1_charAt_3b067_12 ?_
  refine slv_i2c eJ1_charAt_3b067_13 c1 ?_
  refine slv_zret eJ1_charAt_3b067_14 rfl c2 ?_
  exact ⟨rfl, rfl⟩
set_option maxRecDepth 100000 in
theorem tx_charAt (M : sl_M) {j i : Nat} (hj : j < sl_sN) (hi : i < st_len j) : sl_R YJ0_charAt_5068e 4 [.ref (sl_X + 2 * j), .int (nI i)] M (some (.int (st_ch j i))) M := by
  refine sl_T.of_VF (lv := [_, _]) (by decide) rfl (Nat.le_of_ble_eq_true rfl) ?_
  obtain ⟨c1, c2⟩ := tx_chr j hj i hi
  refine slv_aload_n eJ0_charAt_5068e_0 rfl ?_
  refine slv_rVs (As := []) eJ0_charAt_5068e_1 lJ0_492 rfl rfl hj rfl (tx_latin M hj) (by decide) (Nat.le_of_ble_eq_true rfl) ?_
  refine slv_if_eq eJ0_charAt_5068e_4 (fun h => absurd h (by decide)) (fun _ => ?_)
  refine slv_aload_n eJ0_charAt_5068e_7 rfl ?_
  refine slv_tgv eJ0_charAt_5068e_8 tx_w2 hj ?_
  refine slv_iload_n eJ0_charAt_5068e_11 rfl ?_
  refine slv_rS (As := [_, _]) eJ0_charAt_5068e_12 lJ0_495 rfl rfl (tx_char1 M hj hi) (by decide) (Nat.le_of_ble_eq_true rfl) ?_
  refine slv_zret eJ0_charAt_5068e_15 rfl c2 ?_
  exact ⟨rfl, rfl⟩
theorem tx_i2b : ∀ c, c < 256 → ∀ i, i < 14 → (st_ch 0 i = (nI c).toInt8.toInt32 ↔ st_ch 0 i = nI c) := by decide +kernel
set_option maxRecDepth 100000 in
theorem tx_ixl (M : sl_M) {c : Nat} (hc : c < 256) : ∀ (n i : Nat), i + n = 14 → sl_V YJ1_indexOfChar_4cfef none 0 0 0 (fun r1 M1 => r1 = some (.int (sl_ff (fun i => decide (st_ch 0 i = nI c)) n i)) ∧ M1 = M) 7 [some (.ref (sl_X + 2 * 0 + 1)), some (.int (nI c)), some (.int (nI 0)), some (.int (nI 14)), some (.int (nI c).toInt8.toInt32), some (.int (nI i))] [] M := by
  intro n
  induction n with
  | zero =>
    intro i hi
    refine slv_iload eJ1_indexOfChar_4cfef_7 rfl ?_
    refine slv_iload_n eJ1_indexOfChar_4cfef_9 rfl ?_
    refine slv_icmp_geN eJ1_indexOfChar_4cfef_10 (by omega) (by omega) (fun _ => ?_) (fun h => absurd h (by omega))
    refine slv_iconst (v := -1) eJ1_indexOfChar_4cfef_31 (by decide) ?_
    refine slv_iret eJ1_indexOfChar_4cfef_32 rfl ?_
    exact ⟨rfl, rfl⟩
  | succ n ih =>
    intro i hi
    refine slv_iload eJ1_indexOfChar_4cfef_7 rfl ?_
    refine slv_iload_n eJ1_indexOfChar_4cfef_9 rfl ?_
    refine slv_icmp_geN eJ1_indexOfChar_4cfef_10 (by omega) (by omega) (fun h => absurd h (by omega)) (fun _ => ?_)
    refine slv_aload_n eJ1_indexOfChar_4cfef_13 rfl ?_
    refine slv_iload eJ1_indexOfChar_4cfef_14 rfl ?_
    refine slv_tbl (j := 0) eJ1_indexOfChar_4cfef_16 (by decide) (show i < 14 by omega) ?_
    refine slv_iload eJ1_indexOfChar_4cfef_17 rfl ?_
    have hq := tx_i2b c hc i (by omega)
    refine slv_icmp_ne eJ1_indexOfChar_4cfef_19 (fun h => ?_) (fun h => ?_)
    · have h2 : ¬ st_ch 0 i = nI c := fun z => h (hq.mpr z)
      refine slv_iincN (lv' := [_, _, _, _, _, _]) eJ1_indexOfChar_4cfef_25 rfl (by decide) rfl ?_
      refine slv_goto eJ1_indexOfChar_4cfef_28 ?_
      have := ih (i + 1) (by omega)
      rw [sl_ff, decide_eq_false h2]
      exact this
    · have h2 : st_ch 0 i = nI c := hq.mp h
      refine slv_iload eJ1_indexOfChar_4cfef_22 rfl ?_
      refine slv_iret eJ1_indexOfChar_4cfef_24 rfl ?_
      rw [sl_ff, decide_eq_true h2]
      exact ⟨rfl, rfl⟩
set_option maxRecDepth 100000 in
theorem tx_ixc (M : sl_M) {c : Nat} (hc : c < 256) : sl_R YJ1_indexOfChar_4cfef 0 [.ref (sl_X + 2 * 0 + 1), .int (nI c), .int (nI 0), .int (nI 14)] M (some (.int (st_ix c))) M := by
  refine sl_T.of_VF (lv := [_, _, _, _, _, _]) (by decide) rfl (Nat.le_of_ble_eq_true rfl) ?_
  refine slv_iload_n eJ1_indexOfChar_4cfef_0 rfl ?_
  refine slv_i2b eJ1_indexOfChar_4cfef_1 rfl ?_
  refine slv_istore (lv' := [_, _, _, _, _, _]) eJ1_indexOfChar_4cfef_2 (by decide) rfl ?_
  refine slv_iload_n eJ1_indexOfChar_4cfef_4 rfl ?_
  refine slv_istore (lv' := [_, _, _, _, _, _]) eJ1_indexOfChar_4cfef_5 (by decide) rfl ?_
  exact tx_ixl M hc 14 0 rfl
set_option maxRecDepth 100000 in
theorem tx_can (M : sl_M) {c : Nat} (hc : c < 256) : sl_R YJ1_canEncode_9a6ad 0 [.int (nI c)] M (some (.int 1)) M := by
  refine sl_T.of_VF (lv := [_]) (by decide) rfl (Nat.le_of_ble_eq_true rfl) ?_
  refine slv_iload_n eJ1_canEncode_9a6ad_0 rfl ?_
  refine slv_if_ltN eJ1_canEncode_9a6ad_1 (by omega) ?_
  refine slv_iload_n eJ1_canEncode_9a6ad_4 rfl ?_
  refine slv_sipush (v := nI 255) eJ1_canEncode_9a6ad_5 (by decide) ?_
  refine slv_icmp_gtN eJ1_canEncode_9a6ad_8 (by omega) (by omega) (fun h => absurd h (by omega)) (fun _ => ?_)
  refine slv_iconst (v := 1) eJ1_canEncode_9a6ad_11 (by decide) ?_
  refine slv_goto eJ1_canEncode_9a6ad_12 ?_
  refine slv_zret eJ1_canEncode_9a6ad_16 rfl rfl ?_
  exact ⟨rfl, rfl⟩
set_option maxRecDepth 100000 in
theorem tx_ix1 (M : sl_M) {c : Nat} (hc : c < 256) : sl_R YJ1_indexOf_4cfef 3 [.ref (sl_X + 2 * 0 + 1), .int (nI c), .int (nI 0), .int (nI 14)] M (some (.int (st_ix c))) M := by
  refine sl_T.of_VF (lv := [_, _, _, _]) (by decide) rfl (Nat.le_of_ble_eq_true rfl) ?_
  refine slv_iload_n eJ1_indexOf_4cfef_0 rfl ?_
  refine slv_rS (As := [_]) eJ1_indexOf_4cfef_1 lJ1_88 rfl rfl (tx_can M hc) (by decide) (Nat.le_of_ble_eq_true rfl) ?_
  refine slv_if_ne eJ1_indexOf_4cfef_4 (fun _ => ?_) (fun h => absurd h (by decide))
  refine slv_iload_n eJ1_indexOf_4cfef_9 rfl ?_
  refine slv_iconst (v := nI 0) eJ1_indexOf_4cfef_10 (by decide) ?_
  refine slv_maxN eJ1_indexOf_4cfef_11 lJ1_92 (by omega) (by omega) (by decide) (Nat.le_of_ble_eq_true rfl) ?_
  refine slv_istore_n (i := 2) (lv' := [_, _, _, _]) eJ1_indexOf_4cfef_14 rfl (by decide) rfl ?_
  refine slv_iload_n eJ1_indexOf_4cfef_15 rfl ?_
  refine slv_aload_n eJ1_indexOf_4cfef_16 rfl ?_
  refine slv_tln (j := 0) eJ1_indexOf_4cfef_17 (by decide) ?_
  refine slv_minN eJ1_indexOf_4cfef_18 lJ1_38 (by omega) (by decide) (by decide) (Nat.le_of_ble_eq_true rfl) ?_
  refine slv_istore_n (i := 3) (lv' := [_, _, _, _]) eJ1_indexOf_4cfef_21 rfl (by decide) rfl ?_
  refine slv_iload_n eJ1_indexOf_4cfef_22 rfl ?_
  refine slv_iload_n eJ1_indexOf_4cfef_23 rfl ?_
  refine slv_icmp_ltN eJ1_indexOf_4cfef_24 (by decide) (by decide) (fun _ => ?_) (fun h => absurd h (by decide))
  refine slv_aload_n eJ1_indexOf_4cfef_29 rfl ?_
  refine slv_iload_n eJ1_indexOf_4cfef_30 rfl ?_
  refine slv_iload_n eJ1_indexOf_4cfef_31 rfl ?_
  refine slv_iload_n eJ1_indexOf_4cfef_32 rfl ?_
  refine slv_rS (As := [.ref (sl_X + 2 * 0 + 1), .int (nI c), .int (nI 0), .int (nI 14)]) eJ1_indexOf_4cfef_33 lJ1_95 rfl rfl (tx_ixc M hc) (by decide) (Nat.le_of_ble_eq_true rfl) ?_
  refine slv_iret eJ1_indexOf_4cfef_36 rfl ?_
  exact ⟨rfl, rfl⟩
set_option maxRecDepth 100000 in
theorem tx_ix2 (M : sl_M) {c : Nat} (hc : c < 256) : sl_R YJ0_indexOf_7cf53 4 [.ref (sl_X + 2 * 0), .int (nI c), .int (nI 0)] M (some (.int (st_ix c))) M := by
  refine sl_T.of_VF (lv := [_, _, _]) (by decide) rfl (Nat.le_of_ble_eq_true rfl) ?_
  refine slv_aload_n eJ0_indexOf_7cf53_0 rfl ?_
  refine slv_rVs (j := 0) (As := []) eJ0_indexOf_7cf53_1 lJ0_492 rfl rfl (by decide) rfl (tx_latin M (by decide)) (by decide) (Nat.le_of_ble_eq_true rfl) ?_
  refine slv_if_eq eJ0_indexOf_7cf53_4 (fun h => absurd h (by decide)) (fun _ => ?_)
  refine slv_aload_n eJ0_indexOf_7cf53_7 rfl ?_
  refine slv_tgv (j := 0) eJ0_indexOf_7cf53_8 tx_w2 (by decide) ?_
  refine slv_iload_n eJ0_indexOf_7cf53_11 rfl ?_
  refine slv_iload_n eJ0_indexOf_7cf53_12 rfl ?_
  refine slv_aload_n eJ0_indexOf_7cf53_13 rfl ?_
  refine slv_rVs (j := 0) (As := []) eJ0_indexOf_7cf53_14 lJ0_505 rfl rfl (by decide) rfl (tx_length M (by decide)) (by decide) (Nat.le_of_ble_eq_true rfl) ?_
  refine slv_rS (As := [.ref (sl_X + 2 * 0 + 1), .int (nI c), .int (nI 0), .int (nI 14)]) eJ0_indexOf_7cf53_17 lJ0_637 rfl rfl (tx_ix1 M hc) (by decide) (Nat.le_of_ble_eq_true rfl) ?_
  refine slv_goto eJ0_indexOf_7cf53_20 ?_
  refine slv_iret eJ0_indexOf_7cf53_36 rfl ?_
  exact ⟨rfl, rfl⟩
set_option maxRecDepth 100000 in
theorem tx_index (M : sl_M) {c : Nat} (hc : c < 256) : sl_R YJ0_indexOf_0f7a4 5 [.ref (sl_X + 2 * 0), .int (nI c)] M (some (.int (st_ix c))) M := by
  refine sl_T.of_VF (lv := [_, _]) (by decide) rfl (Nat.le_of_ble_eq_true rfl) ?_
  refine slv_aload_n eJ0_indexOf_0f7a4_0 rfl ?_
  refine slv_iload_n eJ0_indexOf_0f7a4_1 rfl ?_
  refine slv_iconst (v := nI 0) eJ0_indexOf_0f7a4_2 (by decide) ?_
  refine slv_rVs (j := 0) (As := [.int (nI c), .int (nI 0)]) eJ0_indexOf_0f7a4_3 lJ0_633 rfl rfl (by decide) rfl (tx_ix2 M hc) (by decide) (Nat.le_of_ble_eq_true rfl) ?_
  refine slv_iret eJ0_indexOf_0f7a4_6 rfl ?_
  exact ⟨rfl, rfl⟩
theorem st_ok : st_all := ⟨fun M j hj => tx_length M hj, fun M j i hj hi => tx_charAt M hj hi, fun M c hc => tx_index M hc⟩
end TXC

/-! texts: constants and calls on them; what length, charAt and indexOf must answer -/
def st_len (j : Nat) : Nat := sl_sL.getD j 0
def st_ch (j i : Nat) : Int32 := (sl_sB.getD j []).getD i 0
/-- where a sign stands among the signs; -1 -/
def st_ix (c : Nat) : Int32 := sl_ff (fun i => decide (st_ch 0 i = nI c)) 14 0
def st_all : Prop :=
  (∀ (M : sl_M) (j : Nat), j < sl_sN → sl_R YJ0_length_8abf5 2 [.ref (sl_X + 2 * j)] M (some (.int (nI (st_len j)))) M) ∧
  (∀ (M : sl_M) (j i : Nat), j < sl_sN → i < st_len j → sl_R YJ0_charAt_5068e 4 [.ref (sl_X + 2 * j), .int (nI i)] M (some (.int (st_ch j i))) M) ∧
  (∀ (M : sl_M) (c : Nat), c < 256 → sl_R YJ0_indexOf_0f7a4 5 [.ref (sl_X + 2 * 0), .int (nI c)] M (some (.int (st_ix c))) M)
section STR
variable {Y Z : sl_Y} {X : Option (Nat × (Nat → Int32))} {d dd kc ks na idx j : Nat} {Q : Option Value → sl_M → Prop} {pc q : Nat} {lv : List (Option Value)} {st st0 As : List Value} {M : sl_M}
theorem slv_ldcS {tx : String} (j : Nat) (h : sl_D Y pc (.ldc idx) 2 q) (hm : (Y.1.cls, idx, tx, j) ∈ sl_lits) (kk : sl_V Y X d kc ks Q q lv (.ref (sl_X + 2 * j) :: st) M) : sl_V Y X d kc ks Q pc lv st M := by
  obtain ⟨h, rfl⟩ := h
  intro p l e R s m args below meth c H locs cells slots mc ms D dA ad ad0 n n0 A d0 ls C
  exact va_ldcS (s := s.setDrawn d0) C.1.1 C.1.2.1 C.1.2.2.2.2.2.1 ((C.2.2.2.2.2.1.2.1 _ hm).same rfl) h (kk p l e R s m args below meth c H locs cells slots mc ms D dA ad ad0 n n0 A d0 ls C)
theorem slv_rVs {r : Option Value} {M' : sl_M} (h : sl_D Y pc (.invokevirtual idx) 3 q) (L : sl_LV Y.1.cls idx Z na) (hst : st0 = As.reverse ++ .ref (sl_X + 2 * j) :: st) (hl : As.length = na) (hj : j < sl_sN) (hc : Z.1.cls = "java/lang/String") (hT : sl_R Z dd (.ref (sl_X + 2 * j) :: As) M r M') (hd : dd + 1 ≤ d) (h8 : (st.map fun v => v.category).sum ≤ 8) (kk : sl_V Y X d kc ks Q q lv (sl_ret r st) M') : sl_V Y X d kc ks Q pc lv st0 M := by
  obtain ⟨h, rfl⟩ := h
  subst hst
  obtain ⟨hI, l1, l2, l3, l4⟩ := L
  intro p l e R s m args below meth c H locs cells slots mc ms D dA ad ad0 n n0 A d0 ls C
  have hts := dr_words C.1.2.2.2.2.2.2.1 d0
  have hrec : ∃ cellB : Cell, H[ad (sl_X + 2 * j)]? = some cellB ∧ cellB.vm.isStatics = false ∧ (s.setDrawn d0).vm.findClass Z.1.cls = some cellB.cls := by
    rw [hc]
    exact vk_recv (s := s) (adK := fun j => ad (sl_X + 2 * j)) (i := j) C.2.2.2.2.2.1.1 hj C.2.2.1.2.2.2.1
  refine sl_back (kc' := kc) (ks' := ks) C (va_runV_D (C := Z.1.cls) (b := ad (sl_X + 2 * j)) (As := As.map (sl_v ad)) (rest := st.map (sl_v ad)) (n := na) ⟨C.1.1, C.1.2.1, C.1.2.2.2.1, C.1.2.2.2.2.2.1, hts⟩ (hT l D dA ad n H.size C.2.2.2.2.1.2.2.1 C.2.2.2.2.1.2.2.2) ⟨callB_of (ws' := sl_g) na hts (sl_good hI) rfl rfl rfl (hts _ hI.2.1) (hts _ l1) ⟨hI.2.2.2.1, hI.2.2.2.2, l4⟩ ?_, hts _ l2, hts _ l3⟩ ⟨sl_blind, hrec, sl_pre C (.ref (sl_X + 2 * j) :: As)⟩ rfl (by simpa using hl) C.2.2.2.1.2.1 (by simp [sl_v]) (by rw [sl_cats]; exact lv_room h8) h ?_) (Nat.zero_add kc).symm (Nat.zero_add ks).symm (Or.inl rfl) (fun r1 M1 g => by obtain ⟨rfl, rfl⟩ := g; exact kk)
  · have h1 := C.2.1.1; have h2 := C.2.1.2.1; have h3 := hI.2.2.1
    refine ⟨Nat.le_trans hd h1, ?_⟩
    show 8 + (Z.2.2.1 + 11) + 40 * dd ≤ R.locals
    omega
  · have h1 := C.2.1.2.2
    omega
end STR

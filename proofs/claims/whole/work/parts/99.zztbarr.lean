/-! barren: the class throws, the law catches -/
theorem bn_eq {g : sg_T} {k0 : Nat} (hk0 : k0 < 2147483648) : ∀ m i k : Nat, k ≤ k0 → sg_bnk g m i (k0 - k) = (bn_r g (nI k0) m i k).elim (-1) nI := by
  intro m
  induction m with
  | zero => intro i k _; rfl
  | succ m ih =>
    intro i k hk
    rw [sg_bnk, bn_r]
    cases hb : sg_bn g i with
    | false => exact ih (i + 1) k hk
    | true =>
      simp only [cond_true]
      by_cases e : k = k0
      · subst e
        rw [if_pos rfl, decide_eq_true (Nat.sub_self k)]
        rfl
      · rw [if_neg (fun q => e ((nI_inj (by omega) (by omega)).mp q)), decide_eq_false (show ¬ k0 - k = 0 by omega)]
        have h2 := ih (i + 1) (k + 1) (by omega)
        rw [show k0 - (k + 1) = k0 - k - 1 by omega] at h2
        exact h2
theorem bn_neg {g : sg_T} {x : Int32} (hx : x < 0) : ∀ m i k : Nat, k + m < 2147483648 → bn_r g x m i k = none := by
  intro m
  induction m with
  | zero => intro i k _; rfl
  | succ m ih =>
    intro i k hk
    rw [bn_r]
    cases hb : sg_bn g i with
    | false => exact ih (i + 1) k (by omega)
    | true =>
      simp only [cond_true]
      rw [if_neg (fun q => vi_neg (k := k) (by omega) (by rw [q]; exact hx))]
      exact ih (i + 1) (k + 1) (by omega)
theorem ba_k (x : Int32) : x < 0 ∨ ∃ k0 : Nat, k0 < 2147483648 ∧ x = nI k0 := by
  cases hv : sl_vi x 2147483648 with
  | some k =>
    obtain ⟨h1, h2⟩ := vi_some hv
    exact Or.inr ⟨k, h2, h1⟩
  | none =>
    have h2 := Int32.toInt_le x
    have h3 : Int32.maxValue.toInt = 2147483647 := by decide
    have h0 : (0 : Int32).toInt = 0 := by decide
    rcases vi_none hv with c | c
    · exact Or.inl (Int32.lt_iff_toInt_lt.mpr (by omega))
    · omega
theorem ba_none {sn : Bool} {g : sg_T} {x : Int32} (h : ba_o sn g x = none) : sn = false ∨ (sn = true ∧ x < 0) ∨ (sn = true ∧ ∃ k0 : Nat, k0 < 2147483648 ∧ x = nI k0 ∧ sg_bnk g (sg_names g) 0 k0 = -1) := by
  cases sn with
  | false => exact Or.inl rfl
  | true =>
    right
    rcases ba_k x with hx | ⟨k0, hk, rfl⟩
    · exact Or.inl ⟨rfl, hx⟩
    · refine Or.inr ⟨rfl, k0, hk, rfl, ?_⟩
      have h1 := bn_eq (g := g) hk (sg_names g) 0 0 (Nat.zero_le _)
      have h2 : bn_r g (nI k0) (sg_names g) 0 0 = none := h
      rw [h2] at h1
      exact h1
theorem ba_some {sn : Bool} {g : sg_T} {x : Int32} {n : Nat} (hok : sg_ok g) (h : ba_o sn g x = some n) : sn = true ∧ n < 6 ∧ ∃ k0 : Nat, k0 < 2147483648 ∧ x = nI k0 ∧ sg_bnk g (sg_names g) 0 k0 = nI n := by
  have h6 := hok.2.2.1
  cases sn with
  | false => cases h
  | true =>
    have h2 : bn_r g x (sg_names g) 0 0 = some n := h
    have h3 := bn_lt _ _ _ _ h2
    refine ⟨rfl, by omega, ?_⟩
    rcases ba_k x with hx | ⟨k0, hk, rfl⟩
    · rw [bn_neg hx _ _ _ (by omega)] at h2
      cases h2
    · refine ⟨k0, hk, rfl, ?_⟩
      have h1 := bn_eq (g := g) hk (sg_names g) 0 0 (Nat.zero_le _)
      rw [h2] at h1
      exact h1
/-! rows over a context, whatever the end -/
section BYA
variable {Y Z : sl_Y} {X : Option (Nat × (Nat → Int32))} {d dd kc ks na idx a : Nat} {pc q : Nat} {lv : List (Option Value)} {st st0 As : List Value} {M : sl_M} {K : State → Prop}
variable {p : Program} {l : sl_L} {e : Env} {R : Room} {s : State} {m : MethodId} {args : Array Value} {below : List Frame} {meth : Method} {c : Code} {H : Heap} {locs : List Loc} {cells slots mc ms : Nat} {D : va_G} {dA : FieldType → ClassId} {ad ad0 : Nat → Nat} {n n0 : Nat} {A : Nat → Prop} {d0 : Drawn} {ls : Array Slot}
theorem thr_getf {ci k : Nat} {ty : FieldType} {fin : Bool} {fs : List Value} {v : Value} (C : sl_C Y X d kc ks lv M p R s m args meth c H locs cells slots mc ms D dA ad ad0 n n0 A d0 ls) (h : sl_D Y pc (.getfield idx) 3 q) (f : sl_FL Y.1.cls idx ci k ty fin) (hM : M a = .inr (ci, fs)) (hv : fs[k]? = some v)
    (kk : W p l e R (s.setDrawn d0) m args below meth c H locs cells slots K (F0 m q ls ((v :: st).map (sl_v ad)))) : W p l e R (s.setDrawn d0) m args below meth c H locs cells slots K (F0 m pc ls ((.ref a :: st).map (sl_v ad))) := by
  obtain ⟨h, rfl⟩ := h
  obtain ⟨Cn, T, N, tf, hCL, hk, hl, -⟩ := f
  have ha : a < n := sl_lt C.2.2.2.2.1.2.2.2 (by rw [hM]; exact sl_in_r hCL.1)
  have hts := dr_words C.1.2.2.2.2.2.2.1 d0
  exact va_get (s := s.setDrawn d0) (D := D) (ci := ci) (v := sl_v ad v) (C := Cn) (T := T) (N := N) C.1.1 C.1.2.1 hts hCL.2.1 C.1.2.2.2.2.2.1 C.2.2.1.1 C.2.2.1.2.1 a (fs := fs.map (sl_v ad)) (sl_w_get ha hM) hCL.1 k hk (hts _ hl) (fun _ g => g) (by simp [hv]) h kk
theorem thr_rV {ci : Nat} {fs : List Value} {T : u_T} {N : Nat} {r : Option Value} (C : sl_C Y X d kc ks lv M p R s m args meth c H locs cells slots mc ms D dA ad ad0 n n0 A d0 ls) (h : sl_D Y pc (.invokevirtual idx) 3 q) (L : sl_LV Y.1.cls idx Z na) (hst : st0 = As.reverse ++ .ref a :: st) (hl : As.length = na) (hM : M a = .inr (ci, fs)) (hc : vwCl[ci]? = some (Z.1.cls, T, N)) (hT : sl_R Z dd (.ref a :: As) M r M) (hd : dd + 1 ≤ d) (h8 : (st.map fun v => v.category).sum ≤ 8)
    (kk : ∀ (H1 : Heap) (locs1 : List Loc) (d1 : Drawn), sl_C Y X d kc ks lv M p R s m args meth c H1 locs1 cells slots mc ms D dA ad ad0 n n0 A d1 ls → W p l e R (s.setDrawn d1) m args below meth c H1 locs1 cells slots K (F0 m q ls ((sl_ret r st).map (sl_v ad)))) :
    W p l e R (s.setDrawn d0) m args below meth c H locs cells slots K (F0 m pc ls (st0.map (sl_v ad))) := by
  obtain ⟨h, rfl⟩ := h
  subst hst
  obtain ⟨hI, l1, l2, l3, l4⟩ := L
  have hts := dr_words C.1.2.2.2.2.2.2.1 d0
  have ha : a < n := sl_lt C.2.2.2.2.1.2.2.2 (by rw [hM]; exact sl_in_r hc)
  have hrm : (sl_rm dd 0 0).frames + 1 ≤ R.frames ∧ 8 + (Z.2.2.1 + 11) + (sl_rm dd 0 0).locals ≤ R.locals := by
    have h1 := C.2.1.1; have h2 := C.2.1.2.1; have h3 := hI.2.2.1
    refine ⟨Nat.le_trans hd h1, ?_⟩
    show 8 + (Z.2.2.1 + 11) + 40 * dd ≤ R.locals
    omega
  have hr : va_RunD lw_cs p l e R (s.setDrawn d0) m args below meth c H locs cells slots 0 0 (F0 m pc ls ((As.reverse ++ .ref a :: st).map (sl_v ad))) (st.map (sl_v ad)) (sl_Qc D dA ad n 0 (va_A (sl_w ad dA n M) H.size) (fun r1 M1 => r1 = r ∧ M1 = M) (Value.ref (ad a) :: As.map (sl_v ad)).toArray) (va_A (sl_w ad dA n M) H.size) :=
    va_runV_D (C := Z.1.cls) (b := ad a) (As := As.map (sl_v ad)) (rest := st.map (sl_v ad)) (n := na) ⟨C.1.1, C.1.2.1, C.1.2.2.2.1, C.1.2.2.2.2.2.1, hts⟩ (hT l D dA ad n H.size C.2.2.2.2.1.2.2.1 C.2.2.2.2.1.2.2.2) ⟨callB_of (ws' := sl_g) na hts (sl_good hI) rfl rfl rfl (hts _ hI.2.1) (hts _ l1) ⟨hI.2.2.2.1, hI.2.2.2.2, l4⟩ hrm, hts _ l2, hts _ l3⟩ ⟨sl_blind, va_recv C.2.2.1.1 C.2.2.1.2.1 hc (sl_w_get ha hM), sl_pre C (.ref a :: As)⟩ rfl (by simpa using hl) C.2.2.2.1.2.1 (by simp [sl_v]) (by rw [sl_cats]; exact lv_room h8) h (by have h1 := C.2.1.2.2; omega)
  intro T hT X0
  obtain ⟨v, st₀, t, T', L, d', hd', h0, X', hL, e1, e2, ⟨⟨r1, M1, ad1, n1, hv, ⟨hq1, hq2⟩, had, hn1, hnX, hno, hP1, hK1, hD1, hz0⟩, hz, hk1⟩, stp⟩ := hr T hT X0
  obtain ⟨ea, en⟩ := hz0 rfl
  rw [hq1, ea] at hv
  rw [hq2, ea, en] at hP1
  have hv2 : v = r.map (sl_v ad) := by cases hv; rfl
  subst hv2
  rw [h0] at hz hk1
  have hsub := sl_sub C
  have C' : sl_C Y X d kc ks lv M p R s m args meth c T'.heap (locs ++ L) cells slots mc ms D dA ad ad0 n n0 A d' ls := by
    obtain ⟨c1, c2, c3, c4, c5, c6⟩ := id C
    refine ⟨c1, c2, ⟨c3.1, by rw [e1]; exact hP1, c3.2.2.1, ?_, c3.2.2.2.2⟩, ⟨c4.1.trans hd', c4.2⟩, c5, c6⟩
    refine ⟨Nat.le_trans c3.2.2.2.1.1 (by rw [e1]; exact hz), fun x h1 h2 => ?_, fun x hx => ?_⟩
    · rw [e1, hk1 x (Nat.lt_of_lt_of_le h1 c3.2.2.2.1.1) (fun z => h2 (hsub x z))]
      exact c3.2.2.2.1.2.1 x h1 h2
    · rcases List.mem_append.mp hx with h | h
      · exact c3.2.2.2.1.2.2 x h
      · exact hsub _ (hL x h)
  obtain ⟨t2, a1, b1⟩ := kk T'.heap (locs ++ L) d' C' T' rfl X'
  refine ⟨t2, stp t2 ?_, b1⟩
  have e3 : (sl_ret r st).map (sl_v ad) = (r.map (sl_v ad)).toList ++ st.map (sl_v ad) := by
    cases r <;> rfl
  rw [e3] at a1
  exact a1
end BYA
/-- the context at a method's entry -/
theorem thr_C {Y : sl_Y} {ws : List Cond} {d mc ms n sz : Nat} {As : List Value} {M : sl_M} {lv : List (Option Value)} {l : Launch} {p : Program} {e : Env} {s s₁ : State} {m : MethodId} {args : Array Value} {below : List Frame} {meth : Method} {c : Code} {D : va_G} {dA : FieldType → ClassId} {ad : Nat → Nat}
    (he : sl_ent Y.2.2.1 As = lv) (hlen : (sl_ea As).length ≤ Y.2.2.1) (hsub : ∀ w ∈ sl_g, w ∈ ws) (hn : n ≤ sl_X) (hno : ∀ k : Nat, n ≤ k → M k = sl_no)
    (B : BodyLoose p l Y.1 (headSpec ws (sl_rm d mc ms)) Y.2.1 Y.2.2.1 Y.2.2.2 e s m args below meth c s₁) (hml : c.maxLocals = Y.2.2.1) (hv : sl_Pc D dA ad n M sz As args s) :
    ∃ ls : Array Slot, entryFrame m args Y.2.2.1 = F0 m 0 ls [] ∧ sl_C Y none d mc ms lv M p (headSpec ws (sl_rm d mc ms)).room s m args meth c s.heap [] 0 0 mc ms D dA ad ad n n (va_A (sl_w ad dA n M) sz) s.drawn ls := by
  subst he
  obtain ⟨rfl, hsz, hP, hK, hD0, hstr⟩ := hv
  subst hsz
  have hts := atoms_spec (ws := ws) B.pre
  have hown : s.vm.findClass Y.1.cls = some m.cls := findClass_of_methodNamed B.named
  have hl := lv_entry (As.map (sl_v ad)) (n := Y.2.2.1) (by rw [sl_ea_len]; exact hlen)
  refine ⟨(lg_sl (As.map (sl_v ad)) ++ List.replicate (Y.2.2.1 - (lg_sl (As.map (sl_v ad))).length) Slot.unset).toArray, lg_entry_eq _ _ _, ?_⟩
  exact ⟨⟨B.exec, B.bytes, B.returns, hml, B.notSynchronized, hown, fun w hw => hts w (hsub w hw), (name_of_methodNamed B.named B.method).1⟩,
     ⟨Nat.le_refl d, Nat.le_refl (40 * d), Nat.zero_add _, Nat.zero_add _, Nat.le_refl mc, Nat.le_refl ms⟩,
     ⟨hK, hP, hD0.self, va_S.rf, fun q g => Or.inr g⟩,
     ⟨Drawn.sameBut.refl _ _, hl.1, hl.2.1, fun i v g => hl.2.2 _ (sl_ent_get ad g)⟩,
     ⟨fun _ _ => rfl, Nat.le_refl n, hn, hno⟩, ⟨hstr, fun _ => ⟨rfl, rfl⟩, fun L xs g => by cases g⟩⟩
/-! the words of the throw -/
abbrev thr_W : List Cond := thr_at "SignLadders" 317 sl_nse 13 prog_33_method_4_code "java/lang/RuntimeException" ["java/lang/Exception"]
def thr_B : List Cond := [.castable sl_nse sl_nse, .declares (Bundle.initS "java/lang/RuntimeException"), .declares (Bundle.initS "java/lang/Exception"), .declares (Bundle.initS Bundle.tN)]
theorem thr_w1 : ∀ w ∈ (thr_W.filter vx_no).filter goodWord, w ∈ lw_tbl := by decide +kernel
theorem thr_w2 : ∀ w ∈ (thr_W.filter vx_no).filter (fun w => !goodWord w), w ∈ thr_B := by decide +kernel
theorem thr_w3 : ∀ w ∈ Cond.classLink "SignLadders" 313 sl_nse :: Cond.initialized sl_nse :: thr_W.filter vx_no, vx_ot w = true := by decide +kernel
theorem thr_w4 : Cond.classLink "SignLadders" 313 sl_nse ∈ sl_g := sl_gt15 117 (by decide +kernel) rfl
theorem thr_w5 : Cond.initialized sl_nse ∈ sl_g := sl_gt10 28 (by decide +kernel) rfl
theorem thr_x0 : decode prog_33_method_4_code 0 = .ok (.aload_n 0, 1) := by decide +kernel
theorem thr_x1 : decode prog_33_method_4_code 1 = .ok (.aload_n 1, 1) := by decide +kernel
theorem thr_x2 : decode prog_33_method_4_code 2 = .ok (.invokespecial 13, 3) := by decide +kernel
theorem thr_x5 : decode prog_33_method_4_code 5 = .ok (.return_, 1) := by decide +kernel
theorem thr_tx : (("SignLadders", 315, "no such barren name", 15) : String × Nat × String × Nat) ∈ sl_lits := by decide +kernel
theorem thr_hat {A : Nat → Prop} {args : Array Value} {s : State} (hts : ∀ w ∈ sl_g, w.before args s = true) (hx : sl_exs A s) : ∀ w ∈ thr_W.filter vx_no, w.before args s = true := by
  obtain ⟨⟨a1, a2, a3, a4⟩, -⟩ := hx
  refine vx_hat (B := thr_B) (fun w hw => hts w (List.mem_filter.mpr ⟨thr_w1 w hw, (List.mem_filter.mp hw).2⟩)) thr_w2 ?_
  exact vx_c (a1.use rfl) (vx_c (a2.use rfl) (vx_c (a3.use rfl) (vx_c (a4.use rfl) vx_n)))

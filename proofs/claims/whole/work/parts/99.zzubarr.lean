/-! barren by contract -/
/-- what a throw of barren leaves -/
def thr_XC (D : va_G) (dA : FieldType → ClassId) (ad : Nat → Nat) (n : Nat) (M : sl_M) (A : Nat → Prop) : String → State → State → Prop := fun E st t =>
  E = sl_nse ∧ va_P D vwCl (sl_w ad dA n M) t.heap ∧ va_F A st t
section BZA
variable {fd db sb lf lt : Nat} {sn tl : Bool} {lp : Int32} {g : sg_T} {M : sl_M} {x : Int32} {z : Nat → Int64}
/-- barren that answers -/
theorem c_X11_barren {n : Nat} (hg : sg_at db g M) (hok : sg_ok g) (hob : ob_at fd db sb sn tl lf lt lp M) (ho : ba_o sn g x = some n) : sl_R YX11_barren 2 [.ref 0, .int x] M (some (.int (nI n))) M := by
  obtain ⟨hsn, hn6, k0, hk0, rfl, hb⟩ := ba_some hok ho
  have hB := c_X2_barrenName hg hok hk0
  rw [hb] at hB
  have a0 : M 0 = _ := hob
  have g0 := hg.1
  refine sl_T.of_V (lv := [_, _, _]) (by decide) rfl (Nat.le_of_ble_eq_true rfl) ?_
  refine slv_aload_n eX11_barren_0 rfl ?_
  refine slv_getf eX11_barren_1 fX11_97 a0 rfl ?_
  refine slv_if_eqB eX11_barren_4 (fun h => absurd (h.symm.trans hsn) (by decide)) (fun _ => ?_)
  refine slv_iload_n eX11_barren_7 rfl ?_
  refine slv_if_lt eX11_barren_8 (fun h => absurd h (vi_neg hk0)) (fun _ => ?_)
  refine slv_aload_n eX11_barren_11 rfl ?_
  refine slv_getf eX11_barren_12 fX11_16 a0 rfl ?_
  refine slv_iload_n eX11_barren_15 rfl ?_
  refine slv_rV (As := [_]) eX11_barren_16 lX11_310 rfl rfl g0 rfl hB (by decide) (Nat.le_of_ble_eq_true rfl) ?_
  refine slv_goto eX11_barren_19 ?_
  refine slv_istore_n (i := 2) (lv' := [_, _, _]) eX11_barren_23 rfl (by decide) rfl ?_
  refine slv_iload_n eX11_barren_24 rfl ?_
  refine slv_iconst (v := -1) eX11_barren_25 (by decide) ?_
  refine slv_icmp_ne eX11_barren_26 (fun _ => ?_) (fun h => absurd h (nI_neg1 (by omega)))
  refine slv_iload_n eX11_barren_40 rfl ?_
  refine slv_iret eX11_barren_41 rfl ?_
  exact ⟨rfl, rfl⟩
/-- barren that throws -/
theorem thr_X11 (l : sl_L) (D : va_G) (dA : FieldType → ClassId) (ad : Nat → Nat) (n sz : Nat) (hn : n ≤ sl_X) (hno : ∀ k : Nat, n ≤ k → M k = sl_no) (hg : sg_at db g M) (hok : sg_ok g) (hob : ob_at fd db sb sn tl lf lt lp M) (ho : ba_o sn g x = none) :
    thr_Met lw_cs l YX11_barren.1 (sl_ws YX11_barren) (sl_rm 6 1 6) (sl_Pc D dA ad n M sz [.ref 0, .int x]) (fun _ _ _ _ => False) (thr_XC D dA ad n M (va_A (sl_w ad dA n M) sz)) 1 6 (va_A (sl_w ad dA n M) sz) := by
  have a0 : M 0 = _ := hob
  have g0 := hg.1
  refine thr_ofW (cc := YX11_barren.2.1) (maxL := YX11_barren.2.2.1) (ret := YX11_barren.2.2.2) (by decide) rfl ?_
  intro p e s m args below meth c s₁ B hml htab hv
  obtain ⟨ls, hE, C⟩ := thr_C (ws := sl_ws YX11_barren) (lv := [some (.ref 0), some (.int x), none]) rfl (Nat.le_of_ble_eq_true rfl) (fun w hw => List.mem_cons_of_mem _ hw) hn hno B hml hv
  rw [hE]
  generalize (headSpec (sl_ws YX11_barren) (sl_rm 6 1 6)).room = R at C ⊢
  have fin : ∀ (H1 : Heap) (locs1 : List Loc) (d1 : Drawn), sl_C YX11_barren none 6 1 6 [some (.ref 0), some (.int x), none] M p R s m args meth c H1 locs1 0 0 1 6 D dA ad ad n n (va_A (sl_w ad dA n M) sz) d1 ls →
      W p l e R (s.setDrawn d1) m args below meth c H1 locs1 0 0 (thr_MQ lw_cs below (fun _ _ _ _ => False) (thr_XC D dA ad n M (va_A (sl_w ad dA n M) sz)) args s 1 6 (va_A (sl_w ad dA n M) sz)) (F0 m 23 ls [.int (-1)]) := by
    intro H1 locs1 d1 C
    have hts := dr_words C.1.2.2.2.2.2.2.1 d1
    refine lv_istore_n (s := s.setDrawn d1) C.1.1 C.1.2.1 eX11_barren_23.1 rfl (sl_has C.2.2.2.1.2.1 C.2.2.2.1.2.2.1 C.2.2.2.1.2.2.2) (i := 2) (by decide) rfl (fun ls' h => ?_)
    have h3 := sl_st1 (ad := ad) (v := .int (-1)) h
    refine lv_iload_n (s := s.setDrawn d1) C.1.1 C.1.2.1 eX11_barren_24.1 rfl (h3.2.2 2 (.int (-1)) rfl) ?_
    refine lv_iconst (s := s.setDrawn d1) (v := -1) C.1.1 C.1.2.1 eX11_barren_25.1 (by decide) ?_
    obtain ⟨off, h26, -, t26⟩ := eX11_barren_26
    refine lv_icmp_ne (s := s.setDrawn d1) C.1.1 C.1.2.1 h26 t26 (fun q => absurd rfl q) (fun _ => ?_)
    refine thr_end C.2.2.2.1.1 ?_
    have hx := C.2.2.2.2.2.1.2.2.2.2.2
    have hx' : sl_exs (va_A (sl_w ad dA n M) sz) (s.setDrawn d1) := sl_exs.same (u := s) rfl rfl hx
    have r1 := C.2.1.1
    have r2 := C.2.1.2.1
    have r3 := C.2.1.2.2
    refine thr_make (s := s.setDrawn d1) (pc := 29) (own := "SignLadders") (cls := sl_nse) (Y1 := "java/lang/RuntimeException") (names := ["java/lang/Exception"]) (text := "no such barren name") (ik := 313) (is := 315) (ic := 317) (ix := 13) (sa := ad (sl_X + 2 * 15)) (A := va_A (sl_w ad dA n M) sz) C.1.1 C.1.2.1 l.2 thr_x0 thr_x1 thr_x2 thr_x5 C.1.2.2.2.2.2.1 (by decide) (by decide) (by decide) (hts _ thr_w4) (hts _ thr_w5) ((C.2.2.2.2.2.1.2.1 _ thr_tx).same rfl) (thr_hat hts hx') thr_w3 hx'.2.1 hx'.2.2 C.2.2.1.2.2.2.1 (h3.1.trans C.1.2.2.2.1.symm) eX11_barren_29.1 eX11_barren_32.1 eX11_barren_33.1 eX11_barren_36.1 (show 5 < R.frames by omega) (show 0 + (13 * 3 + 43) ≤ R.locals by omega) (show 0 + 1 ≤ R.cells by omega) (show 0 + 6 ≤ R.slots by omega) (fun q H2 ce hq hcv hcl hz hk2 => ?_)
    refine thr_athrow (s := s.setDrawn d1) C.1.1 C.1.2.1 eX11_barren_39.1 ?_
    have hS := C.2.2.1.2.2.2.1
    refine vx_out (s := s.setDrawn d1) (E := sl_nse) (fun y hy => (htab y hy).elim) C.1.2.2.2.2.1 hq hcv hcl (fun t ht hal => ⟨rfl, ?_, ?_, ?_⟩) hS.2.2 (Nat.le_refl 1) (Nat.le_refl 6)
    · rw [ht]
      exact C.2.2.1.2.1.kept (fun k y hy => hk2 _ (vx_lt C.2.2.1.2.1 hy))
    · rw [ht]
      exact Nat.le_trans hS.1 hz
    · intro y h1 h2
      rw [ht, hk2 y (Nat.lt_of_lt_of_le h1 hS.1)]
      exact hS.2.1 y h1 h2
  have at22 : ∀ (H1 : Heap) (locs1 : List Loc) (d1 : Drawn), sl_C YX11_barren none 6 1 6 [some (.ref 0), some (.int x), none] M p R s m args meth c H1 locs1 0 0 1 6 D dA ad ad n n (va_A (sl_w ad dA n M) sz) d1 ls →
      W p l e R (s.setDrawn d1) m args below meth c H1 locs1 0 0 (thr_MQ lw_cs below (fun _ _ _ _ => False) (thr_XC D dA ad n M (va_A (sl_w ad dA n M) sz)) args s 1 6 (va_A (sl_w ad dA n M) sz)) (F0 m 22 ls []) := by
    intro H1 locs1 d1 C
    exact lv_iconst (s := s.setDrawn d1) (v := -1) C.1.1 C.1.2.1 eX11_barren_22.1 (by decide) (fin H1 locs1 d1 C)
  obtain ⟨o4, h4, -, t4⟩ := eX11_barren_4
  obtain ⟨o8, h8, -, t8⟩ := eX11_barren_8
  obtain ⟨o19, h19, -, t19⟩ := eX11_barren_19
  refine lv_aload_n (s := s.setDrawn s.drawn) C.1.1 C.1.2.1 eX11_barren_0.1 rfl (C.2.2.2.1.2.2.2 0 (.ref 0) rfl) ?_
  refine thr_getf (st := []) C eX11_barren_1 fX11_97 a0 rfl ?_
  refine lv_if_eq (s := s.setDrawn s.drawn) (x := sl_bi sn) C.1.1 C.1.2.1 h4 t4 (fun _ => at22 _ _ _ C) (fun q4 => ?_)
  refine lv_iload_n (s := s.setDrawn s.drawn) C.1.1 C.1.2.1 eX11_barren_7.1 rfl (C.2.2.2.1.2.2.2 1 (.int x) rfl) ?_
  refine lv_if_lt (s := s.setDrawn s.drawn) (x := x) C.1.1 C.1.2.1 h8 t8 (fun _ => at22 _ _ _ C) (fun q8 => ?_)
  rcases ba_none ho with hs | ⟨-, hx⟩ | ⟨-, k0, hk0, hx, hb⟩
  · subst hs
    exact absurd rfl q4
  · exact absurd hx q8
  · have hB := c_X2_barrenName hg hok hk0
    rw [hb, ← hx] at hB
    refine lv_aload_n (s := s.setDrawn s.drawn) C.1.1 C.1.2.1 eX11_barren_11.1 rfl (C.2.2.2.1.2.2.2 0 (.ref 0) rfl) ?_
    refine thr_getf (st := []) C eX11_barren_12 fX11_16 a0 rfl ?_
    refine lv_iload_n (s := s.setDrawn s.drawn) C.1.1 C.1.2.1 eX11_barren_15.1 rfl (C.2.2.2.1.2.2.2 1 (.int x) rfl) ?_
    refine thr_rV (As := [.int x]) (st := []) (a := db) (st0 := [.int x, .ref db]) C eX11_barren_16 lX11_310 rfl rfl g0 rfl hB (by decide) (Nat.le_of_ble_eq_true rfl) (fun H1 locs1 d1 C1 => ?_)
    exact lv_goto (s := s.setDrawn d1) C1.1.1 C1.1.2.1 h19 t19 (fin H1 locs1 d1 C1)
/-- the law's own barren -/
def ba_post (sn : Bool) (g : sg_T) (x : Int32) (z : Nat → Int64) (M : sl_M) (r : Option Value) (M' : sl_M) : Prop :=
  match ba_o sn g x with
    | none => r = some (.int (nI 1)) ∧ M' = M
    | some n => r = some (.int (nI 0)) ∧ M' = sl_up M 113 (.inl (.long, 1, .inr (.inl (sl_u z 0 (nI n).toInt64))))
abbrev thr_hh : List (Nat × Nat × Nat × Nat) := [(0, 9, 12, 13)]
abbrev thr_ws : List Cond := Cond.codeWith YL_barren.1 YL_barren.2.1 YL_barren.2.2.1 YL_barren.2.2.2 thr_hh :: sl_g
theorem thr_l1 : Cond.codeWith YL_barren.1 YL_barren.2.1 YL_barren.2.2.1 YL_barren.2.2.2 thr_hh ∈ sl_g := sl_gt15 103 (by decide +kernel) rfl
theorem thr_l2 : Cond.methodLink RL 152 YL_barren.1 ∈ sl_g := sl_gt15 101 (by decide +kernel) rfl
theorem thr_l3 : Cond.static YL_barren.1 ∈ sl_g := sl_gt15 102 (by decide +kernel) rfl
theorem thr_l4 : Cond.classLink RL 13 sl_nse ∈ sl_g := sl_gt15 104 (by decide +kernel) rfl
theorem thr_l5 : Cond.initialized YL_barren.1.cls ∈ sl_g := sl_gt10 0 (by decide +kernel) rfl
set_option maxHeartbeats 1000000 in
theorem thr_L (l : sl_L) (D : va_G) (dA : FieldType → ClassId) (ad : Nat → Nat) (n sz : Nat) (hn : n ≤ sl_X) (hno : ∀ k : Nat, n ≤ k → M k = sl_no) (hg : sg_at db g M) (hok : sg_ok g) (hob : ob_at fd db sb sn tl lf lt lp M) (h113 : M 113 = .inl (.long, 1, .inr (.inl z))) :
    thr_Met lw_cs l YL_barren.1 thr_ws (sl_rm 7 1 6) (sl_Pc D dA ad n M sz [.ref 0, .int x, .ref 113]) (sl_Qc D dA ad n 1 (va_A (sl_w ad dA n M) sz) (ba_post sn g x z M)) (fun _ _ _ => False) 1 6 (va_A (sl_w ad dA n M) sz) := by
  have a0 : M 0 = _ := hob
  refine thr_ofWH (cc := YL_barren.2.1) (maxL := YL_barren.2.2.1) (ret := YL_barren.2.2.2) (hh := thr_hh) (by decide) rfl ?_
  intro p e s m args below meth c s₁ B hml htab hv
  obtain ⟨ls, hE, C⟩ := thr_C (ws := thr_ws) (lv := [some (.ref 0), some (.int x), some (.ref 113), none]) rfl (Nat.le_of_ble_eq_true rfl) (fun w hw => List.mem_cons_of_mem _ hw) hn hno B hml hv
  obtain ⟨-, hsz, -⟩ := hv
  subst hsz
  rw [hE]
  generalize (headSpec thr_ws (sl_rm 7 1 6)).room = R at C ⊢
  cases ho : ba_o sn g x with
  | some k =>
    refine thr_lift ?_
    have hV : sl_V YL_barren none 7 1 6 (ba_post sn g x z M) 0 [some (.ref 0), some (.int x), some (.ref 113), none] [] M := by
      refine slv_aload_n eL_barren_0 rfl ?_
      refine slv_iconst (v := nI 0) eL_barren_1 (by decide) ?_
      refine slv_aload_n eL_barren_2 rfl ?_
      refine slv_iload_n eL_barren_3 rfl ?_
      refine slv_rV (As := [_]) eL_barren_4 lL_7 rfl rfl a0 rfl (c_X11_barren hg hok hob ho) (by decide) (Nat.le_of_ble_eq_true rfl) ?_
      refine slv_i2l eL_barren_7 rfl ?_
      refine slv_lastI eL_barren_8 h113 (by decide) (by decide) ?_
      refine slv_goto eL_barren_9 ?_
      refine slv_iconst (v := nI 0) eL_barren_15 (by decide) ?_
      refine slv_iret eL_barren_16 rfl ?_
      unfold ba_post
      rw [ho]
      exact ⟨rfl, rfl⟩
    exact hV p l e R s m args below meth c s.heap [] 0 0 1 6 D dA ad ad n n _ s.drawn ls C
  | none =>
    have hts := dr_words C.1.2.2.2.2.2.2.1 s.drawn
    have r1 := C.2.1.1
    have r2 := C.2.1.2.1
    have r3 := C.2.1.2.2
    have h0n : (0 : Nat) < n := sl_lt hno (by rw [a0]; exact sl_in_r rfl)
    refine lv_aload_n (s := s.setDrawn s.drawn) C.1.1 C.1.2.1 eL_barren_0.1 rfl (C.2.2.2.1.2.2.2 2 (.ref 113) rfl) ?_
    refine lv_iconst (s := s.setDrawn s.drawn) (v := nI 0) C.1.1 C.1.2.1 eL_barren_1.1 (by decide) ?_
    refine lv_aload_n (s := s.setDrawn s.drawn) C.1.1 C.1.2.1 eL_barren_2.1 rfl (C.2.2.2.1.2.2.2 0 (.ref 0) rfl) ?_
    refine lv_iload_n (s := s.setDrawn s.drawn) C.1.1 C.1.2.1 eL_barren_3.1 rfl (C.2.2.2.1.2.2.2 1 (.int x) rfl) ?_
    have hr : thr_Run lw_cs p l e R (s.setDrawn s.drawn) m args below meth c s.heap [] 0 0 1 6 (F0 m 4 ls [.int x, .ref (ad 0), .int (nI 0), .ref (ad 113)]) [.int (nI 0), .ref (ad 113)] ((fun _ _ _ _ => False) (Value.ref (ad 0) :: [.int x]).toArray) (thr_XC D dA ad n M (va_A (sl_w ad dA n M) s.heap.size)) (va_A (sl_w ad dA n M) s.heap.size) :=
      thr_runV (C := YX11_barren.1.cls) (b := ad 0) (As := [.int x]) (n := 1) (index := 7) ⟨C.1.1, C.1.2.1, C.1.2.2.2.1, C.1.2.2.2.2.2.1, hts⟩ (thr_X11 l D dA ad n s.heap.size hn hno hg hok hob ho) ⟨callB_of (ws' := sl_g) 1 hts (sl_good lL_7.1) rfl rfl rfl (hts _ lL_7.1.2.1) (hts _ lL_7.2.1) ⟨lL_7.1.2.2.2.1, lL_7.1.2.2.2.2, lL_7.2.2.2.2⟩ ⟨(show 6 + 1 ≤ R.frames by omega), (show 8 + (3 + 11) + 40 * 6 ≤ R.locals by omega)⟩, hts _ lL_7.2.2.1, hts _ lL_7.2.2.2.1⟩ ⟨sl_blind, va_recv C.2.2.1.1 C.2.2.1.2.1 (q0 := 0) (ci := 10) rfl (sl_w_get h0n a0), sl_pre C [.ref 0, .int x]⟩ rfl rfl C.2.2.2.1.2.1 rfl (lv_room (Nat.le_of_ble_eq_true rfl)) eL_barren_4.1 (by omega)
    intro T hT X0
    obtain ⟨d', hd', hz⟩ := hr T hT X0
    rcases hz with ⟨v, st₀, t, T', L, h0, X', hL, e1, e2, hf, stp⟩ | ⟨q, st₀, t, T', L, E, ce, h0, X', hL, e1, e2, ⟨hE9, hP', hz1, hk1⟩, hce, hcv, hcl, stp⟩
    · exact hf.elim
    · subst hE9
      rw [h0] at hz1 hk1
      have hx := C.2.2.2.2.2.1.2.2.2.2.2
      have hcast : (Cond.castable sl_nse sl_nse).before args (s.setDrawn d') = true := va_Nw.use rfl (va_Nw.same (U := s.setDrawn d') rfl rfl hx.1.1)
      have hW : W p l e R (s.setDrawn d') m args below meth c T'.heap ([] ++ L) (0 + 1) (0 + 6) (thr_MQ lw_cs below (sl_Qc D dA ad n 1 (va_A (sl_w ad dA n M) s.heap.size) (ba_post sn g x z M)) (fun _ _ _ => False) args s 1 6 (va_A (sl_w ad dA n M) s.heap.size)) (F0 m 12 ls [.ref q]) := by
        refine lv_astore_n (s := s.setDrawn d') C.1.1 C.1.2.1 eL_barren_12.1 rfl (sl_has C.2.2.2.1.2.1 C.2.2.2.1.2.2.1 C.2.2.2.1.2.2.2) (i := 3) (by decide) rfl (fun ls' h => ?_)
        refine thr_lift ?_
        have h13 : sl_V YL_barren none 7 0 0 (ba_post sn g x z M) 13 [] [] M := by
          refine slv_iconst (v := nI 1) eL_barren_13 (by decide) ?_
          refine slv_iret eL_barren_14 rfl ?_
          unfold ba_post
          rw [ho]
          exact ⟨rfl, rfl⟩
        have hS := C.2.2.1.2.2.2.1
        exact h13 p l e R s m args below meth c T'.heap ([] ++ L) (0 + 1) (0 + 6) 1 6 D dA ad ad n n _ d' ls'
          ⟨C.1, ⟨r1, r2, rfl, rfl, r3.2.2⟩, ⟨C.2.2.1.1, by rw [e1]; exact hP', C.2.2.1.2.2.1, ⟨by rw [e1]; exact hz1, fun y g1 g2 => by rw [e1]; exact hk1 y g1 g2, fun y hy => hL y (by simpa using hy)⟩, C.2.2.1.2.2.2.2⟩,
           ⟨C.2.2.2.1.1.trans hd', h.1, h.2.1, fun i v q => by simp at q⟩, C.2.2.2.2⟩
      obtain ⟨t2, q1, q2⟩ := vx_catch (s := s.setDrawn d') (own := RL) (name := sl_nse) (E := sl_nse) (ce := ce) (q := q) (H := T'.heap) (locs := [] ++ L) (cells := 0 + 1) (slots := 0 + 6) (pc := 4) (ls := ls) (rest := [.int (nI 0), .ref (ad 113)]) (p := p) (l := l) (e := e) (R := R) (m := m) (args := args) (below := below) (meth := meth) (c := c)
        (Q := thr_MQ lw_cs below (sl_Qc D dA ad n 1 (va_A (sl_w ad dA n M) s.heap.size) (ba_post sn g x z M)) (fun _ _ _ => False) args s 1 6 (va_A (sl_w ad dA n M) s.heap.size))
        C.1.2.2.2.2.2.1 [] ⟨0, 9, 12, 13⟩ [] htab (fun y hy => nomatch hy) (by decide) (by decide) ((dr_words C.1.2.2.2.2.2.2.1 d') _ thr_l4) hcast (by rw [e1]; exact hce) hcv hcl hW T' rfl X'
      exact ⟨t2, stp.trans q1, q2⟩
end BZA
theorem ba_ok : ba_all 1 6 := by
  intro X kc ks Q lv fd db sb sn tl lf lt lp g M z x hdb hg hok hob h113 hlv hk
  intro p l e R s m args below meth c H locs cells slots mc ms D dA ad ad0 n n0 A d0 ls C
  have hts := dr_words C.1.2.2.2.2.2.2.1 d0
  have r1 := C.2.1.1
  have r2 := C.2.1.2.1
  have r3 := C.2.1.2.2
  have hG : GoodIn sl_g thr_ws := by
    intro w hw
    rcases List.mem_cons.mp hw with rfl | hw
    · exact ⟨thr_l1, sl_gg _ thr_l1⟩
    · exact ⟨hw, sl_gg _ hw⟩
  have hr : va_RunD lw_cs p l e R (s.setDrawn d0) m args below meth c H locs cells slots 1 6 (F0 m 1029 ls (([.ref 113, .int x, .ref 0] : List Value).map (sl_v ad))) (([] : List Value).map (sl_v ad)) (sl_Qc D dA ad n 1 (va_A (sl_w ad dA n M) H.size) (ba_post sn g x z M) ([.ref (ad 0), .int x, .ref (ad 113)] : List Value).toArray) (va_A (sl_w ad dA n M) H.size) :=
    thr_runSW (hh := thr_hh) (As := [.ref (ad 0), .int x, .ref (ad 113)]) (n := 3) (index := 152) (own := RL) ⟨C.1.1, C.1.2.1, C.1.2.2.2.1, C.1.2.2.2.2.2.1, hts⟩ (thr_L (x := x) l D dA ad n H.size C.2.2.2.2.1.2.2.1 C.2.2.2.2.1.2.2.2 hg hok hob h113)
      ⟨⟨rfl, rfl, (show 7 + 1 ≤ R.frames by omega), (show 8 + (4 + 11) + 40 * 7 ≤ R.locals by omega), pay_in hts hG, List.mem_cons_self⟩, hts _ thr_l1, hts _ thr_l5, ⟨by decide, by decide⟩, fun sig hsig => by
        have h2 : (parseMethodDescriptor YL_barren.1.desc).map (fun d => d.parameters.length) = some 3 := by decide +kernel
        rw [hsig] at h2
        exact (Option.some.inj h2).symm, hts _ thr_l2, hts _ thr_l3⟩ ⟨sl_blind, sl_pre C [.ref 0, .int x, .ref 113]⟩ rfl rfl C.2.2.2.1.2.1 rfl (lv_room (Nat.le_of_ble_eq_true rfl)) eL_law_1029.1 (by omega)
  exact sl_back (st := []) C hr rfl rfl (Or.inr ⟨(fun k h => by cases h), hlv⟩) hk

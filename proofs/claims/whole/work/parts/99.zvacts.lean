/-! kind, aside, undo: both answer alike -/
def ac_kF {α : Type} (c : Nat) (f : Nat → α) (x : α) : Nat → α := if c < 10 then sl_u f c x else sl_u (va_cpy f f 1 0 9) 9 x
theorem ac_kf_h {α : Type} (h : α → Int32) (c : Nat) (f : Nat → α) (x : α) : ac_kf c (fun i => h (f i)) (h x) = fun i => h (ac_kF c f x i) := by
  funext i
  unfold ac_kf ac_kF ac_sh va_cpy
  by_cases hc : c < 10
  · rw [if_pos hc, if_pos hc]
    by_cases e : i = c
    · rw [e, sl_u_eq, sl_u_eq]
    · rw [sl_u_ne e, sl_u_ne e]
  · rw [if_neg hc, if_neg hc]
    by_cases e : i = 9
    · rw [e, sl_u_eq, sl_u_eq]
    · rw [sl_u_ne e, sl_u_ne e]
      split <;> rfl
theorem ac_ok_map {v v' : Nat → Int32} {a a' : Nat → Nat → Int32} {ak ak' : Nat → Option Nat} {av av' : Nat → Nat} (d : Nat) (hv : ∀ k, k ∈ [14, 15, 16] → v' k = v k) (ha : ∀ k, k ∈ [3, 4, 5, 6, 7] → a' k = a k) : ∀ (n : Nat) (g : sg_T), (∀ i, i < n → ak' i = ak (i + d) ∧ av' i = av (i + d) ∧ a' 24 i = a 24 (i + d) ∧ a' 25 i = a 25 (i + d)) → ac_ok (n + d) g ak av v a → ac_ok n g ak' av' v' a' := by
  intro n
  induction n with
  | zero => intro g _ _; trivial
  | succ n ih =>
    intro g he h
    rw [show n + 1 + d = (n + d) + 1 by omega] at h
    obtain ⟨⟨h1, h2, h3, h4⟩, h5⟩ := h
    obtain ⟨e1, e2, e3, e4⟩ := he n (by omega)
    have key : un_g g (ak' n) (av' n) = un_g g (ak (n + d)) (av (n + d)) := by rw [e1, e2]
    refine ⟨?_, ?_⟩
    · rw [key, e1, e2, e3, e4]
      refine ⟨h1, h2, rf_G_same h3 (fun k hk => ?_) ha, h4⟩
      by_cases q1 : k = 23
      · rw [q1, sl_u_eq, sl_u_eq]
      · rw [sl_u_ne q1, sl_u_ne q1]
        by_cases q2 : k = 22
        · rw [q2, sl_u_eq, sl_u_eq]
        · rw [sl_u_ne q2, sl_u_ne q2]
          exact hv k (by simp only [List.mem_cons, List.mem_nil_iff, or_false] at hk ⊢; omega)
    · rw [key]
      exact ih _ (fun i hi => he i (by omega)) h5
theorem ac_ok_push {v v' : Nat → Int32} {a a' : Nat → Nat → Int32} {ak : Nat → Option Nat} {av : Nat → Nat} {c : Nat} {g g' : sg_T} {k0 : Option Nat} {x0 : Nat} (hc : c ≤ 10) (h : ac_ok c g ak av v a) (hg : un_g g' k0 x0 = g) (hok : sg_ok g) (hst : sg_str g) (hG : rf_G g v a) (hk : ∀ r, k0 = some r → r < 12) (hx : x0 < 1000) (hx2 : k0 = none → x0 ≤ 2) (hv : ∀ k, k ∈ [14, 15, 16] → v' k = v k) (ha : ∀ k, k ∈ [3, 4, 5, 6, 7] → a' k = a k) (h24 : a' 24 = ac_kf c (a 24) (v 22)) (h25 : a' 25 = ac_kf c (a 25) (v 23)) : ac_ok (ac_kc c) g' (ac_kF c ak k0) (ac_kF c av x0) v' a' := by
  have hGG : ∀ y z, y = v 22 → z = v 23 → rf_G g (sl_u (sl_u v' 22 y) 23 z) a' := fun y z ey ez => rf_G_same hG (fun k hk => by
    by_cases q1 : k = 23
    · rw [q1, sl_u_eq, ez]
    · rw [sl_u_ne q1]
      by_cases q2 : k = 22
      · rw [q2, sl_u_eq, ey]
      · rw [sl_u_ne q2]
        exact hv k (by simp only [List.mem_cons, List.mem_nil_iff, or_false] at hk ⊢; omega)) ha
  unfold ac_kc
  by_cases hc10 : c < 10
  · rw [if_pos hc10]
    have f1 : ac_kF c ak k0 = sl_u ak c k0 := by unfold ac_kF; rw [if_pos hc10]
    have f2 : ac_kF c av x0 = sl_u av c x0 := by unfold ac_kF; rw [if_pos hc10]
    have f3 : a' 24 = sl_u (a 24) c (v 22) := by rw [h24]; unfold ac_kf; rw [if_pos hc10]
    have f4 : a' 25 = sl_u (a 25) c (v 23) := by rw [h25]; unfold ac_kf; rw [if_pos hc10]
    rw [f1, f2]
    refine ⟨?_, ?_⟩
    · rw [sl_u_eq, sl_u_eq, hg]
      exact ⟨hok, hst, hGG _ _ (by rw [f3, sl_u_eq]) (by rw [f4, sl_u_eq]), hk, hx, hx2⟩
    · rw [sl_u_eq, sl_u_eq, hg]
      exact ac_ok_map 0 hv ha c g (fun i hi => ⟨sl_u_ne (by omega), sl_u_ne (by omega), by rw [f3]; exact sl_u_ne (by omega), by rw [f4]; exact sl_u_ne (by omega)⟩) h
  · rw [if_neg hc10]
    have e10 : c = 10 := by omega
    subst e10
    have f1 : ac_kF 10 ak k0 = sl_u (va_cpy ak ak 1 0 9) 9 k0 := rfl
    have f2 : ac_kF 10 av x0 = sl_u (va_cpy av av 1 0 9) 9 x0 := rfl
    have f3 : a' 24 = sl_u (va_cpy (a 24) (a 24) 1 0 9) 9 (v 22) := h24
    have f4 : a' 25 = sl_u (va_cpy (a 25) (a 25) 1 0 9) 9 (v 23) := h25
    have hcp : ∀ {α : Type} (f : Nat → α) (i : Nat), i < 9 → va_cpy f f 1 0 9 i = f (i + 1) := fun f i hi => by
      unfold va_cpy
      rw [if_pos (by omega), show 1 + (i - 0) = i + 1 by omega]
    rw [f1, f2]
    refine ⟨?_, ?_⟩
    · rw [sl_u_eq, sl_u_eq, hg]
      exact ⟨hok, hst, hGG _ _ (by rw [f3, sl_u_eq]) (by rw [f4, sl_u_eq]), hk, hx, hx2⟩
    · rw [sl_u_eq, sl_u_eq, hg]
      exact ac_ok_map 1 hv ha 9 g (fun i hi => ⟨(sl_u_ne (by omega)).trans (hcp ak i hi), (sl_u_ne (by omega)).trans (hcp av i hi), by rw [f3]; exact (sl_u_ne (by omega)).trans (hcp _ i hi), by rw [f4]; exact (sl_u_ne (by omega)).trans (hcp _ i hi)⟩) h
section AGA
variable {C : cT} {v : Nat → Int32} {w : Int64} {a : Nat → Nat → Int32} {nm : Nat → Int64} {M : sl_M}
theorem c_X12_kind_t {g : sg_T} {c k : Nat} {x : Int32} (h21 : v 21 = sl_bi true) (hG : rf_G g v a) (hc : c ≤ 10) (h26 : v 26 = nI c) (hx : sl_vi x 3 = some k) : sl_R YX12_kind 1 [.ref 68, .int x] (rf_S v w a nm M) (some (.int (an_kind true g x).1)) (rf_S (rf_gd (sl_u (rm_v c (sl_u v 0 (nI 0))) 22 (nI k)) 0) w (rm_a c v a) nm M) := by
  have h := c_X12_kind (w := w) (nm := nm) (M := M) h21 (fun _ => hG) hc h26 x
  rw [hx] at h
  exact h
theorem c_X12_kind_n {g : sg_T} {c : Nat} {sn : Bool} {x : Int32} (h21 : v 21 = sl_bi sn) (hG : sn = true → rf_G g v a) (hc : c ≤ 10) (h26 : v 26 = nI c) (hx : sn = true → sl_vi x 3 = none) : sl_R YX12_kind 1 [.ref 68, .int x] (rf_S v w a nm M) (some (.int (an_kind sn g x).1)) (rf_S (rf_an v (an_kind sn g x).2) w a nm M) := by
  cases sn with
  | false => exact c_X12_kind (w := w) (nm := nm) (M := M) h21 hG hc h26 x
  | true =>
    have h := c_X12_kind (w := w) (nm := nm) (M := M) h21 hG hc h26 x
    rw [hx rfl] at h
    exact h
/-- the kind changed -/
abbrev cT.wkind (C : cT) (k : Nat) : cT := ((C.fd, C.db, C.sb, C.sn, false, C.lf, 0, C.lp), C.2.1, ((k, C.g.2), C.gs), C.2.2.2.1, C.2.2.2.2.1, C.2.2.2.2.2.1, (ac_kc C.c, ac_kF C.c C.ak none, ac_kF C.c C.av (sg_kind C.g)), C.2.2.2.2.2.2.2)
set_option maxRecDepth 100000 in
theorem ag_kind (hA : clA C M) (hS : rf_S v w a nm M = M) (h113 : ∃ z : Nat → Int64, M 113 = .inl (.long, 1, .inr (.inl z))) (hK : clK C) (hR : lwR C v a) (x : Int32) : lw_ag 2 1 YX11_kind YX12_kind [.int x] M := by
  have hb : C.db = 2 ∨ C.db = 10 := by have := hK.1; omega
  have hb2 : C.sb = 2 ∨ C.sb = 10 := by have := hK.1; omega
  have hok := hK.2.2.1.1
  have hc := hK.2.1.2.2.1
  have hX := fun e => lwR_x hK hR e
  have e0 : ob_set C.fd C.db C.sb C.sn C.tl C.lf C.lt C.lp M = M := ob_self hA.1
  have h1 := c_X11_kind (fd := C.fd) (db := C.db) (sb := C.sb) (sn := C.sn) (tl := C.tl) (lf := C.lf) (lt := C.lt) (lp := C.lp) hb hA.2.2.1 hok hA.2.2.2.2.2.2.2.1 hc x
  have hk : okA (an_kind C.sn C.g x) := by
    unfold an_kind
    repeat' (first | exact okA_ok _ | exact okA_no (by decide) | exact okA_low | refine okA_cond ?_ ?_ | split)
  cases hsn : C.sn with
  | false =>
    have h1' := h1
    simp only [hsn] at h1'
    rw [← hsn] at h1'
    exact ag_q hA hS h113 hK hR hk h1' (fun M => c_X12_kind_n hR.1.2.2.2.2.2.1 (fun e => (hX e).1) hc hR.1.2.2.2.2.2.2.2.1 (fun e => by rw [hsn] at e; cases e)) (fun _ _ _ h => qA_an h)
  | true =>
    cases hx : sl_vi x 3 with
    | none =>
      have h1' := h1
      simp only [hsn, hx] at h1'
      rw [← hsn] at h1'
      exact ag_q hA hS h113 hK hR hk h1' (fun M => c_X12_kind_n hR.1.2.2.2.2.2.1 (fun e => (hX e).1) hc hR.1.2.2.2.2.2.2.2.1 (fun _ => hx)) (fun _ _ _ h => qA_an h)
    | some k =>
      simp only [hsn, hx] at h1
      have h2 := fun M => c_X12_kind_t (w := w) (nm := nm) (M := M) (by rw [← hsn]; exact hR.1.2.2.2.2.2.1) (hX hsn).1 hc hR.1.2.2.2.2.2.2.2.1 hx
      have hk3 := (vi_some hx).2
      obtain ⟨x1, x2, x3, x4, x5, x6, x7⟩ := hX hsn
      rw [← hsn, e0] at h1
      have eo : ac_kf C.c (fun i => sl_io (C.ak i)) (-1) = fun i => sl_io (ac_kF C.c C.ak none i) := ac_kf_h sl_io C.c C.ak none
      have ew : ac_kf C.c (fun i => nI (C.av i)) (nI (sg_kind C.g)) = fun i => nI (ac_kF C.c C.av (sg_kind C.g) i) := ac_kf_h nI C.c C.av (sg_kind C.g)
      rw [eo, ew] at h1
      obtain ⟨g0, g1, g2, g3, g4, g5, g6, g7, g8, g9, g10⟩ := hA
      have hA1 : clA (C.wkind k) (ob_set C.fd C.db C.sb C.sn false C.lf 0 C.lp (gp_G C.db (k, C.g.2) (ac_set (ac_kc C.c) (fun i => sl_io (ac_kF C.c C.ak none i)) (fun i => nI (ac_kF C.c C.av (sg_kind C.g) i)) M))) := ⟨ob_of, t_ob_1 (t_gs_1 hb (t_ac_1 g1)), t_ob_sg hb gp_Gof, t_ob_sg hb2 (t_gs_sg hb2 hb (by have := hK.1; omega) (t_ac_sg hb2 g3)), t_ob_gr (t_gs_gr hb (t_ac_gr g4)), t_ob_rl (t_gs_rl hb (t_ac_rl g5)), t_ob_ld (t_gs_ld hb (t_ac_ld g6)), t_ob_ac (t_gs_ac hb ac_of), ⟨(ob_out (by decide)).trans ((gs_out (by omega)).trans ((ac_out (by decide)).trans g8.1)), (ob_out (by decide)).trans ((gs_out (by omega)).trans ((ac_out (by decide)).trans g8.2.1)), (ob_out (by decide)).trans ((gs_out (by omega)).trans ((ac_out (by decide)).trans g8.2.2.1)), (ob_out (by decide)).trans ((gs_out (by omega)).trans ((ac_out (by decide)).trans g8.2.2.2.1)), (ob_out (by decide)).trans ((gs_out (by omega)).trans ((ac_out (by decide)).trans g8.2.2.2.2))⟩, t_ob_rg (Or.inl rfl) (t_gs_rg (Or.inl rfl) hb (t_ac_rg (Or.inl rfl) g9)), t_ob_rg (Or.inr rfl) (t_gs_rg (Or.inr rfl) hb (t_ac_rg (Or.inr rfl) g10))⟩
      have hout : ∀ j, 68 ≤ j → (ob_set C.fd C.db C.sb C.sn false C.lf 0 C.lp (gp_G C.db (k, C.g.2) (ac_set (ac_kc C.c) (fun i => sl_io (ac_kF C.c C.ak none i)) (fun i => nI (ac_kF C.c C.av (sg_kind C.g) i)) M))) j = M j := fun j hj => (ob_out (by omega)).trans ((gs_out (by omega)).trans (ac_out (by omega)))
      refine ⟨_, h1, ?_⟩
      rintro _ M1 ⟨rfl, hM1⟩
      rw [← hM1] at hA1 hout
      have hS1 : rf_S v w a nm M1 = M1 := rf_keep hS (fun k q _ => hout k q)
      refine ⟨_, rfl, ⟨rf_c v w, by rw [← hS1]; exact rf_68⟩, _, by have := h2 M1; rw [hS1] at this; exact this, ?_⟩
      rintro _ _ ⟨rfl, rfl⟩
      refine ⟨by rw [hsn], C.wkind k, _, w, _, nm, clA_lo hK.1 hA1 (fun k hk => rf_lo hk), rf_rf, h113.imp (fun z hz => (rf_hi (by decide)).trans ((hout 113 (by decide)).trans hz)), ?_, ?_⟩
      · refine ⟨hK.1, ⟨hK.2.1.1, (show (0 : Nat) < 100 by decide), ?_, hK.2.1.2.2.2⟩, ⟨sg_k_ok (by omega) hok, hK.2.2.1.2.1, hK.2.2.1.2.2.1, hK.2.2.1.2.2.2⟩, hK.2.2.2⟩
        show ac_kc C.c ≤ 10
        unfold ac_kc; split <;> omega
      · obtain ⟨⟨a1, a2, a3, a4, a5, a6, a7, a8, a9⟩, b1, b2, b3, b4⟩ := hR
        obtain ⟨c1, c2, c3, c4⟩ := b2 hsn
        refine ⟨⟨rfl, rfl, a3, a4, a5, a6, rfl, rfl, a9⟩, fun e => ?_, fun _ => ⟨c1, ?_, c3, c4⟩, ac_ok_push hc b3 rfl hok c1 c2 (fun r e => by cases e) (by have := hok.1; omega) (fun _ => hok.1) (fun j hj => ?_) (fun j hj => ?_) rfl rfl, fun e => (by cases e)⟩
        · have e' : C.sn = false := e
          rw [hsn] at e'; cases e'
        · obtain ⟨d1, d2, d3, d4, d5, d6, d7⟩ := c2
          exact ⟨d1, d2, d3, rfl, d5, d6, d7⟩
        · simp only [List.mem_cons, List.mem_nil_iff, or_false] at hj
          rcases hj with q | q | q <;> subst q <;> rfl
        · simp only [List.mem_cons, List.mem_nil_iff, or_false] at hj
          rcases hj with q | q | q | q | q <;> subst q <;> rfl
end AGA

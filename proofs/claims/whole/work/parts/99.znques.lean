/-! the questions of the grammar: both answer alike -/
def okA (A : an_T) : Prop := A.2 ≠ 4 ∧ A.2 ≠ 6 ∧ A.2 < 100
theorem okA_ok (x : Int32) : okA (an_ok x) := ⟨by show (0 : Nat) ≠ 4; decide, by show (0 : Nat) ≠ 6; decide, by show (0 : Nat) < 100; decide⟩
theorem okA_no {k : Nat} (h : k ≠ 4 ∧ k ≠ 6 ∧ k < 100) : okA (an_no k) := h
theorem okA_low : okA an_low := ⟨by show (1 : Nat) ≠ 4; decide, by show (1 : Nat) ≠ 6; decide, by show (1 : Nat) < 100; decide⟩
theorem okA_cond {b : Bool} {x y : an_T} (hx : okA x) (hy : okA y) : okA (cond b x y) := by cases b <;> assumption
section AGR
variable {C : cT} {v : Nat → Int32} {w : Int64} {a : Nat → Nat → Int32} {nm : Nat → Int64} {M : sl_M}
theorem lwR_x (hK : clK C) (h : lwR C v a) (e : C.sn = true) : rf_G C.g v a ∧ rf_R C.l C.t C.s a ∧ rl_z (sg_terms C.g) C.s ∧ rf_K C.rn C.rk C.kn C.nu v a ∧ sg_str C.g ∧ rlaid C.g C.s C.rn C.rk C.kn C.nu v a ∧ C.e = sg_terms C.g := by
  obtain ⟨c1, c2, ⟨d1, d2, d3, d4⟩, e1, e2, e3, e4, e5, rk0, ba0, e6, e7, e8, e9⟩ := h.2.2.1 e
  have hok := hK.2.2.1.1
  have k1 : rf_K C.rn C.rk C.kn C.nu v a := by rw [e6, e7, e8, e9]; exact d4 rk0 ba0
  have k2 : rl_z (sg_terms C.g) C.s := by rw [e4]; exact rl_z_S hok c1
  refine ⟨c2, ?_, k2, k1, c1, ⟨c2, by rw [e4]; exact d3, k1, k2, by rw [e4]; exact ro_g_r hok c1⟩, e5⟩
  rw [e2, e3, e4]
  exact ⟨fun i _ => ⟨by rw [d1], by rw [d2]⟩, fun i _ => by rw [d3]⟩
theorem ag_about (hA : clA C M) (hS : rf_S v w a nm M = M) (h113 : ∃ z : Nat → Int64, M 113 = .inl (.long, 1, .inr (.inl z))) (hK : clK C) (hR : lwR C v a) (x : Int32) : lw_ag 1 1 YX11_about YX12_about [.int x] M := by
  have hb : C.db = 2 ∨ C.db = 10 := by have := hK.1; omega
  have hok := hK.2.2.1.1
  have he := hK.2.1.2.2.2
  obtain ⟨hkn, hnu, hrn⟩ := hK.2.2.2.2.2.2.1
  have r21 := hR.1.2.2.2.2.2.1
  have hX := fun e => lwR_x hK hR e
  have hG := fun e => (hX e).1
  have hRR := fun e => (hX e).2.1
  have hZ := fun e => (hX e).2.2.1
  have hKK := fun e => (hX e).2.2.2.1
  have hk : okA (an_about C.sn C.g x) := by
    unfold an_about
    repeat' (first | exact okA_ok _ | exact okA_no (by decide) | exact okA_low | refine okA_cond ?_ ?_ | split)
  exact ag_q hA hS h113 hK hR hk (c_X11_about hb hA.2.2.1 x) (fun M => (c_X12_about r21 hG x)) (fun _ _ _ h => qA_an h)
theorem ag_rule (hA : clA C M) (hS : rf_S v w a nm M = M) (h113 : ∃ z : Nat → Int64, M 113 = .inl (.long, 1, .inr (.inl z))) (hK : clK C) (hR : lwR C v a) (x y : Int32) : lw_ag 1 2 YX11_rule YX12_rule [.int x, .int y] M := by
  have hb : C.db = 2 ∨ C.db = 10 := by have := hK.1; omega
  have hok := hK.2.2.1.1
  have he := hK.2.1.2.2.2
  obtain ⟨hkn, hnu, hrn⟩ := hK.2.2.2.2.2.2.1
  have r21 := hR.1.2.2.2.2.2.1
  have hX := fun e => lwR_x hK hR e
  have hG := fun e => (hX e).1
  have hRR := fun e => (hX e).2.1
  have hZ := fun e => (hX e).2.2.1
  have hKK := fun e => (hX e).2.2.2.1
  have hk : okA (an_rule C.sn C.g x y) := by
    unfold an_rule
    repeat' (first | exact okA_ok _ | exact okA_no (by decide) | exact okA_low | refine okA_cond ?_ ?_ | split)
  exact ag_q hA hS h113 hK hR hk (c_X11_rule hb hA.2.2.1 hok x y) (fun M => (c_X12_rule r21 hok hG x y)) (fun _ _ _ h => qA_an h)
theorem ag_item (hA : clA C M) (hS : rf_S v w a nm M = M) (h113 : ∃ z : Nat → Int64, M 113 = .inl (.long, 1, .inr (.inl z))) (hK : clK C) (hR : lwR C v a) (x y : Int32) : lw_ag 1 2 YX11_item YX12_item [.int x, .int y] M := by
  have hb : C.db = 2 ∨ C.db = 10 := by have := hK.1; omega
  have hok := hK.2.2.1.1
  have he := hK.2.1.2.2.2
  obtain ⟨hkn, hnu, hrn⟩ := hK.2.2.2.2.2.2.1
  have r21 := hR.1.2.2.2.2.2.1
  have hX := fun e => lwR_x hK hR e
  have hG := fun e => (hX e).1
  have hRR := fun e => (hX e).2.1
  have hZ := fun e => (hX e).2.2.1
  have hKK := fun e => (hX e).2.2.2.1
  have hk : okA (an_item C.sn C.g x y) := by
    unfold an_item
    repeat' (first | exact okA_ok _ | exact okA_no (by decide) | exact okA_low | refine okA_cond ?_ ?_ | split)
  exact ag_q hA hS h113 hK hR hk (c_X11_item hb hA.2.2.1 hok x y) (fun M => (c_X12_item r21 hok hG x y)) (fun _ _ _ h => qA_an h)
theorem ag_sign (hA : clA C M) (hS : rf_S v w a nm M = M) (h113 : ∃ z : Nat → Int64, M 113 = .inl (.long, 1, .inr (.inl z))) (hK : clK C) (hR : lwR C v a) (x : Int32) : lw_ag 1 2 YX11_sign YX12_sign [.int x] M := by
  have hb : C.db = 2 ∨ C.db = 10 := by have := hK.1; omega
  have hok := hK.2.2.1.1
  have he := hK.2.1.2.2.2
  obtain ⟨hkn, hnu, hrn⟩ := hK.2.2.2.2.2.2.1
  have r21 := hR.1.2.2.2.2.2.1
  have hX := fun e => lwR_x hK hR e
  have hG := fun e => (hX e).1
  have hRR := fun e => (hX e).2.1
  have hZ := fun e => (hX e).2.2.1
  have hKK := fun e => (hX e).2.2.2.1
  have hk : okA (an_sign C.sn C.g x) := by
    unfold an_sign
    repeat' (first | exact okA_ok _ | exact okA_no (by decide) | exact okA_low | refine okA_cond ?_ ?_ | split)
  exact ag_q hA hS h113 hK hR hk (c_X11_sign hb hA.2.2.1 hok x) (fun M => (c_X12_sign r21 hok hG x)) (fun _ _ _ h => qA_an h)
theorem ag_edge (hA : clA C M) (hS : rf_S v w a nm M = M) (h113 : ∃ z : Nat → Int64, M 113 = .inl (.long, 1, .inr (.inl z))) (hK : clK C) (hR : lwR C v a) (x y : Int32) : lw_ag 1 1 YX11_edge YX12_edge [.int x, .int y] M := by
  have hb : C.db = 2 ∨ C.db = 10 := by have := hK.1; omega
  have hok := hK.2.2.1.1
  have he := hK.2.1.2.2.2
  obtain ⟨hkn, hnu, hrn⟩ := hK.2.2.2.2.2.2.1
  have r21 := hR.1.2.2.2.2.2.1
  have hX := fun e => lwR_x hK hR e
  have hG := fun e => (hX e).1
  have hRR := fun e => (hX e).2.1
  have hZ := fun e => (hX e).2.2.1
  have hKK := fun e => (hX e).2.2.2.1
  have hk : okA (an_edge C.sn C.g C.l C.t x y) := by
    unfold an_edge
    repeat' (first | exact okA_ok _ | exact okA_no (by decide) | exact okA_low | refine okA_cond ?_ ?_ | split)
  exact ag_q hA hS h113 hK hR hk (c_X11_edge hb hA.2.2.1 hok hA.2.2.2.2.2.1 x y) (fun M => (c_X12_edge r21 hok hG hRR x y)) (fun _ _ _ h => qA_an h)
theorem ag_relation (hA : clA C M) (hS : rf_S v w a nm M = M) (h113 : ∃ z : Nat → Int64, M 113 = .inl (.long, 1, .inr (.inl z))) (hK : clK C) (hR : lwR C v a) (x y : Int32) : lw_ag 1 2 YX11_relation YX12_relation [.int x, .int y] M := by
  have hb : C.db = 2 ∨ C.db = 10 := by have := hK.1; omega
  have hok := hK.2.2.1.1
  have he := hK.2.1.2.2.2
  obtain ⟨hkn, hnu, hrn⟩ := hK.2.2.2.2.2.2.1
  have r21 := hR.1.2.2.2.2.2.1
  have hX := fun e => lwR_x hK hR e
  have hG := fun e => (hX e).1
  have hRR := fun e => (hX e).2.1
  have hZ := fun e => (hX e).2.2.1
  have hKK := fun e => (hX e).2.2.2.1
  have hk : okA (an_relation C.sn C.g C.s x y) := by
    unfold an_relation
    repeat' (first | exact okA_ok _ | exact okA_no (by decide) | exact okA_low | refine okA_cond ?_ ?_ | split)
  exact ag_q hA hS h113 hK hR hk (c_X11_relation hb hA.2.2.1 hok hA.2.2.2.2.2.1 x y) (fun M => (c_X12_relation r21 hok hG hRR x y)) (fun _ _ _ h => qA_an h)
theorem ag_related (hA : clA C M) (hS : rf_S v w a nm M = M) (h113 : ∃ z : Nat → Int64, M 113 = .inl (.long, 1, .inr (.inl z))) (hK : clK C) (hR : lwR C v a) (x : Int32) : lw_ag 1 1 YX11_related YX12_related [.int x] M := by
  have hb : C.db = 2 ∨ C.db = 10 := by have := hK.1; omega
  have hok := hK.2.2.1.1
  have he := hK.2.1.2.2.2
  obtain ⟨hkn, hnu, hrn⟩ := hK.2.2.2.2.2.2.1
  have r21 := hR.1.2.2.2.2.2.1
  have hX := fun e => lwR_x hK hR e
  have hG := fun e => (hX e).1
  have hRR := fun e => (hX e).2.1
  have hZ := fun e => (hX e).2.2.1
  have hKK := fun e => (hX e).2.2.2.1
  have hk : okA (an_related C.sn C.s x) := by
    unfold an_related
    repeat' (first | exact okA_ok _ | exact okA_no (by decide) | exact okA_low | refine okA_cond ?_ ?_ | split)
  exact ag_q hA hS h113 hK hR hk (c_X11_related hA.2.2.2.2.2.1 x) (fun M => (c_X12_related r21 hok hG hRR hZ x)) (fun _ _ _ h => qA_an h)
theorem ag_clashes (hA : clA C M) (hS : rf_S v w a nm M = M) (h113 : ∃ z : Nat → Int64, M 113 = .inl (.long, 1, .inr (.inl z))) (hK : clK C) (hR : lwR C v a) : lw_ag 3 2 YX11_clashes YX12_clashes [] M := by
  have hb : C.db = 2 ∨ C.db = 10 := by have := hK.1; omega
  have hok := hK.2.2.1.1
  have he := hK.2.1.2.2.2
  obtain ⟨hkn, hnu, hrn⟩ := hK.2.2.2.2.2.2.1
  have r21 := hR.1.2.2.2.2.2.1
  have hX := fun e => lwR_x hK hR e
  have hG := fun e => (hX e).1
  have hRR := fun e => (hX e).2.1
  have hZ := fun e => (hX e).2.2.1
  have hKK := fun e => (hX e).2.2.2.1
  have hk : okA (an_clashes C.sn C.s) := by
    unfold an_clashes
    repeat' (first | exact okA_ok _ | exact okA_no (by decide) | exact okA_low | refine okA_cond ?_ ?_ | split)
  exact ag_q hA hS h113 hK hR hk (c_X11_clashes hA.2.2.2.2.2.1) (fun M => (c_X12_clashes r21 hok hG hRR hZ)) (fun _ _ _ h => qA_an h)
theorem ag_clash (hA : clA C M) (hS : rf_S v w a nm M = M) (h113 : ∃ z : Nat → Int64, M 113 = .inl (.long, 1, .inr (.inl z))) (hK : clK C) (hR : lwR C v a) (x : Int32) : lw_ag 3 1 YX11_clash YX12_clash [.int x] M := by
  have hb : C.db = 2 ∨ C.db = 10 := by have := hK.1; omega
  have hok := hK.2.2.1.1
  have he := hK.2.1.2.2.2
  obtain ⟨hkn, hnu, hrn⟩ := hK.2.2.2.2.2.2.1
  have r21 := hR.1.2.2.2.2.2.1
  have hX := fun e => lwR_x hK hR e
  have hG := fun e => (hX e).1
  have hRR := fun e => (hX e).2.1
  have hZ := fun e => (hX e).2.2.1
  have hKK := fun e => (hX e).2.2.2.1
  have hk : okA (an_clash C.sn C.s x) := by
    unfold an_clash
    repeat' (first | exact okA_ok _ | exact okA_no (by decide) | exact okA_low | refine okA_cond ?_ ?_ | split)
  exact ag_q hA hS h113 hK hR hk (c_X11_clash hA.2.2.2.2.2.1 x) (fun M => (c_X12_clash r21 hok hG hRR hZ x)) (fun _ _ _ h => qA_an h)
theorem ag_doubles (hA : clA C M) (hS : rf_S v w a nm M = M) (h113 : ∃ z : Nat → Int64, M 113 = .inl (.long, 1, .inr (.inl z))) (hK : clK C) (hR : lwR C v a) : lw_ag 4 2 YX11_doubles YX12_doubles [] M := by
  have hb : C.db = 2 ∨ C.db = 10 := by have := hK.1; omega
  have hok := hK.2.2.1.1
  have he := hK.2.1.2.2.2
  obtain ⟨hkn, hnu, hrn⟩ := hK.2.2.2.2.2.2.1
  have r21 := hR.1.2.2.2.2.2.1
  have hX := fun e => lwR_x hK hR e
  have hG := fun e => (hX e).1
  have hRR := fun e => (hX e).2.1
  have hZ := fun e => (hX e).2.2.1
  have hKK := fun e => (hX e).2.2.2.1
  have hk : okA (an_doubles C.sn C.g) := by
    unfold an_doubles
    repeat' (first | exact okA_ok _ | exact okA_no (by decide) | exact okA_low | refine okA_cond ?_ ?_ | split)
  exact ag_q hA hS h113 hK hR hk (c_X11_doubles hb hA.2.2.1 hok) (fun M => (c_X12_doubles r21 hok hG)) (fun _ _ _ h => qA_an h)
theorem ag_function (hA : clA C M) (hS : rf_S v w a nm M = M) (h113 : ∃ z : Nat → Int64, M 113 = .inl (.long, 1, .inr (.inl z))) (hK : clK C) (hR : lwR C v a) (x y : Int32) : lw_ag 1 2 YX11_function YX12_function [.int x, .int y] M := by
  have hb : C.db = 2 ∨ C.db = 10 := by have := hK.1; omega
  have hok := hK.2.2.1.1
  have he := hK.2.1.2.2.2
  obtain ⟨hkn, hnu, hrn⟩ := hK.2.2.2.2.2.2.1
  have r21 := hR.1.2.2.2.2.2.1
  have hX := fun e => lwR_x hK hR e
  have hG := fun e => (hX e).1
  have hRR := fun e => (hX e).2.1
  have hZ := fun e => (hX e).2.2.1
  have hKK := fun e => (hX e).2.2.2.1
  have hk : okA (an_function C.sn C.g C.rn C.nu C.kn x y) := by
    unfold an_function
    repeat' (first | exact okA_ok _ | exact okA_no (by decide) | exact okA_low | refine okA_cond ?_ ?_ | split)
  exact ag_q hA hS h113 hK hR hk (c_X11_function hb hA.2.2.1 hok hA.2.2.2.2.2.2.1 hkn (by omega) x y) (fun M => (c_X12_function r21 hok hG hKK x y)) (fun _ _ _ h => qA_an h)
theorem ag_highest (hA : clA C M) (hS : rf_S v w a nm M = M) (h113 : ∃ z : Nat → Int64, M 113 = .inl (.long, 1, .inr (.inl z))) (hK : clK C) (hR : lwR C v a) : lw_ag 2 1 YX11_highest YX12_highest [] M := by
  have hb : C.db = 2 ∨ C.db = 10 := by have := hK.1; omega
  have hok := hK.2.2.1.1
  have he := hK.2.1.2.2.2
  obtain ⟨hkn, hnu, hrn⟩ := hK.2.2.2.2.2.2.1
  have r21 := hR.1.2.2.2.2.2.1
  have hX := fun e => lwR_x hK hR e
  have hG := fun e => (hX e).1
  have hRR := fun e => (hX e).2.1
  have hZ := fun e => (hX e).2.2.1
  have hKK := fun e => (hX e).2.2.2.1
  have hk : okA (an_highest C.sn C.e C.rn C.nu C.kn) := by
    unfold an_highest
    repeat' (first | exact okA_ok _ | exact okA_no (by decide) | exact okA_low | refine okA_cond ?_ ?_ | split)
  have ee : an_highest C.sn (sg_terms C.g) C.rn C.nu C.kn = an_highest C.sn C.e C.rn C.nu C.kn := by
    cases hs : C.sn with
    | false => rfl
    | true => rw [(hX hs).2.2.2.2.2.2]
  have h2 := fun M => ((c_X12_highest r21 hok hG hKK) : sl_R YX12_highest 1 _ (rf_S v w a nm M) _ _)
  rw [ee] at h2
  exact ag_q hA hS h113 hK hR hk (c_X11_highest hA.2.2.2.2.2.2.1 he hkn hnu (by omega)) h2 (fun _ _ _ h => qA_an h)
theorem ag_hidden (hA : clA C M) (hS : rf_S v w a nm M = M) (h113 : ∃ z : Nat → Int64, M 113 = .inl (.long, 1, .inr (.inl z))) (hK : clK C) (hR : lwR C v a) (x : Int32) : lw_ag 3 2 YX11_hidden YX12_hidden [.int x] M := by
  have hb : C.db = 2 ∨ C.db = 10 := by have := hK.1; omega
  have hok := hK.2.2.1.1
  have he := hK.2.1.2.2.2
  obtain ⟨hkn, hnu, hrn⟩ := hK.2.2.2.2.2.2.1
  have r21 := hR.1.2.2.2.2.2.1
  have hX := fun e => lwR_x hK hR e
  have hG := fun e => (hX e).1
  have hRR := fun e => (hX e).2.1
  have hZ := fun e => (hX e).2.2.1
  have hKK := fun e => (hX e).2.2.2.1
  have hk : okA (an_hidden C.sn (sg_terms C.g) C.rn C.s C.nu C.kn x) := by
    unfold an_hidden
    repeat' (first | exact okA_ok _ | exact okA_no (by decide) | exact okA_low | refine okA_cond ?_ ?_ | split)
  exact ag_q hA hS h113 hK hR hk (c_X11_hidden hb hA.2.2.1 hok hA.2.2.2.2.2.1 hA.2.2.2.2.2.2.1 hkn hnu (by omega) x) (fun M => (c_X12_hidden r21 hok hG hRR hKK x)) (fun _ _ _ h => qA_an h)
theorem ag_knotted (hA : clA C M) (hS : rf_S v w a nm M = M) (h113 : ∃ z : Nat → Int64, M 113 = .inl (.long, 1, .inr (.inl z))) (hK : clK C) (hR : lwR C v a) : lw_ag 1 2 YX11_knotted YX12_knotted [] M := by
  have hb : C.db = 2 ∨ C.db = 10 := by have := hK.1; omega
  have hok := hK.2.2.1.1
  have he := hK.2.1.2.2.2
  obtain ⟨hkn, hnu, hrn⟩ := hK.2.2.2.2.2.2.1
  have r21 := hR.1.2.2.2.2.2.1
  have hX := fun e => lwR_x hK hR e
  have hG := fun e => (hX e).1
  have hRR := fun e => (hX e).2.1
  have hZ := fun e => (hX e).2.2.1
  have hKK := fun e => (hX e).2.2.2.1
  have hk : okA (an_knotted C.sn C.e C.kn) := by
    unfold an_knotted
    repeat' (first | exact okA_ok _ | exact okA_no (by decide) | exact okA_low | refine okA_cond ?_ ?_ | split)
  have ee : an_knotted C.sn (sg_terms C.g) C.kn = an_knotted C.sn C.e C.kn := by
    cases hs : C.sn with
    | false => rfl
    | true => rw [(hX hs).2.2.2.2.2.2]
  have h2 := fun M => ((c_X12_knotted r21 hok hG hKK) : sl_R YX12_knotted 2 _ (rf_S v w a nm M) _ _)
  rw [ee] at h2
  exact ag_q hA hS h113 hK hR hk (c_X11_knotted hA.2.2.2.2.2.2.1 he hkn) h2 (fun _ _ _ h => qA_an h)
theorem ag_ring (hA : clA C M) (hS : rf_S v w a nm M = M) (h113 : ∃ z : Nat → Int64, M 113 = .inl (.long, 1, .inr (.inl z))) (hK : clK C) (hR : lwR C v a) : lw_ag 1 1 YX11_ring YX12_ring [] M := by
  have hb : C.db = 2 ∨ C.db = 10 := by have := hK.1; omega
  have hok := hK.2.2.1.1
  have he := hK.2.1.2.2.2
  obtain ⟨hkn, hnu, hrn⟩ := hK.2.2.2.2.2.2.1
  have r21 := hR.1.2.2.2.2.2.1
  have hX := fun e => lwR_x hK hR e
  have hG := fun e => (hX e).1
  have hRR := fun e => (hX e).2.1
  have hZ := fun e => (hX e).2.2.1
  have hKK := fun e => (hX e).2.2.2.1
  have hk : okA (an_ring C.sn C.rn) := by
    unfold an_ring
    repeat' (first | exact okA_ok _ | exact okA_no (by decide) | exact okA_low | refine okA_cond ?_ ?_ | split)
  exact ag_q hA hS h113 hK hR hk (c_X11_ring hA.2.2.2.2.2.2.1) (fun M => (c_X12_ring r21 hKK)) (fun _ _ _ h => qA_an h)
theorem ag_ringAt (hA : clA C M) (hS : rf_S v w a nm M = M) (h113 : ∃ z : Nat → Int64, M 113 = .inl (.long, 1, .inr (.inl z))) (hK : clK C) (hR : lwR C v a) (x : Int32) : lw_ag 1 1 YX11_ringAt YX12_ringAt [.int x] M := by
  have hb : C.db = 2 ∨ C.db = 10 := by have := hK.1; omega
  have hok := hK.2.2.1.1
  have he := hK.2.1.2.2.2
  obtain ⟨hkn, hnu, hrn⟩ := hK.2.2.2.2.2.2.1
  have r21 := hR.1.2.2.2.2.2.1
  have hX := fun e => lwR_x hK hR e
  have hG := fun e => (hX e).1
  have hRR := fun e => (hX e).2.1
  have hZ := fun e => (hX e).2.2.1
  have hKK := fun e => (hX e).2.2.2.1
  have hk : okA (an_ringAt C.sn C.rn C.rk x) := by
    unfold an_ringAt
    repeat' (first | exact okA_ok _ | exact okA_no (by decide) | exact okA_low | refine okA_cond ?_ ?_ | split)
  exact ag_q hA hS h113 hK hR hk (c_X11_ringAt hA.2.2.2.2.2.2.1 hrn x) (fun M => (c_X12_ringAt r21 hKK x)) (fun _ _ _ h => qA_an h)
end AGR

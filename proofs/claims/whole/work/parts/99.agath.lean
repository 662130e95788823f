/-! the reference gathers a handle -/
/-- the stack's side, as the class has it -/
def rsk (S : rd_T) (v : Nat → Int32) (a : Nat → Nat → Int32) : Prop := v 61 = nI (rd_tp S) ∧ ∀ i, i ≤ rd_tp S → a 54 i = nI (rd_stk S i) ∧ a 58 i = sl_bi (rd_beh S i).isSome ∧ ∀ k, rd_beh S i = some k → a 55 i = nd_bi (rd_nd S) k ∧ a 59 i = sl_bi (nd_rl (rd_nd S) k) ∧ a 70 i = nI k
theorem rsk_F {S : rd_T} {v v' : Nat → Int32} {a a' : Nat → Nat → Int32} (h : rsk S v a) (hF : rhF v a v' a') : rsk S v' a' := by
  refine ⟨(hF.1 _ (by decide)).trans h.1, fun i hi => ?_⟩
  rw [hF.2 _ (by decide), hF.2 _ (by decide), hF.2 _ (by decide), hF.2 _ (by decide), hF.2 _ (by decide)]
  exact h.2 i hi
theorem hn_vn_2 {o : Option Nat} {n : Nat} (h : n < 31) : hn_vn o n ≤ n + 1 := by
  cases o with
  | none => exact Nat.le_succ n
  | some k => show hn_an n ≤ n + 1; rw [hn_an1 h]; exact Nat.le_refl _
section RGT
variable {w : Int64} {nm : Nat → Int64} {M : sl_M} {S : rd_T} {fr : Nat} {b1 : Int32}
set_option maxRecDepth 100000 in
theorem rg_L (htp : rd_tp S ≤ 15) (hfr : 1 ≤ fr) : ∀ (m i : Nat) (H : hn_T) (vm : Nat) (v : Nat → Int32) (a : Nat → Nat → Int32), i + m = rd_tp S + 1 → fr ≤ i → rH (rd_nd S) H vm v a → H.2.2.1 ≤ 2 * (i - fr) + 1 → vm ≤ i - fr + 1 → rsk S v a → ∀ Q : Option Value → sl_M → Prop, (∀ v' a' vm' z, rH (rd_nd S) (hn_gt (rd_stk S) (rd_beh S) m i H) vm' v' a' → rhF v a v' a' → sl_V YX12_reduces none 6 0 0 Q 102 [some (.ref 68), some (.int b1), some (.int (nI fr)), z] [] (rf_S v' w a' nm M)) → sl_V YX12_reduces none 6 0 0 Q 58 [some (.ref 68), some (.int b1), some (.int (nI fr)), some (.int (nI i))] [] (rf_S v w a nm M) := by
  intro m
  induction m with
  | zero =>
    intro i H vm v a hi hf hH hn hvm hk Q hQ
    have k1 := hk.1
    refine slv_iload_n eX12_reduces_58 rfl ?_
    refine slv_aload_n eX12_reduces_59 rfl ?_
    refine slr_gi eX12_reduces_60 fX12_438 rfl (by repeat (first | exact sl_u_eq | assumption | apply rf_ne (by decide) | exact rfl)) ?_
    refine slv_icmp_gtN eX12_reduces_63 (by omega) (by omega) (fun h63 => ?_) (fun h63 => absurd h63 (by omega))
    exact hQ v a vm _ hH ⟨fun _ _ => rfl, fun _ _ => rfl⟩
  | succ m ih =>
    intro i H vm v a hi hf hH hn hvm hk Q hQ
    have k1 := hk.1
    obtain ⟨c1, c2, c3⟩ := hk.2 i (by omega)
    obtain ⟨⟨e1, e2⟩, e3, e4, e5, e6⟩ := hH
    have hn31 : H.2.2.1 < 31 := by omega
    have hF1 : rhF v a (sl_u v 77 (nI (H.2.2.1 + 1))) (sl_u a 67 (sl_u (a 67) H.2.2.1 (nI (rd_stk S i)))) := ⟨fun k hk => sl_u_ne (fun e => hk (by rw [e]; decide)), fun k hk => sl_u_ne (fun e => hk (by rw [e]; decide))⟩
    have hH1 : rH (rd_nd S) (H.1, H.2.1, hn_an H.2.2.1, hn_ai H.2.2.1 H.2.2.2 (rd_stk S i)) vm (sl_u v 77 (nI (H.2.2.1 + 1))) (sl_u a 67 (sl_u (a 67) H.2.2.1 (nI (rd_stk S i)))) := by
      rw [hn_an1 hn31, hn_ai1 hn31]
      refine ⟨⟨rfl, e2⟩, fun j hj => ?_, e4, e5, e6⟩
      have hj' : j < H.2.2.1 + 1 := hj
      show sl_u (a 67) H.2.2.1 (nI (rd_stk S i)) j = nI (sl_u H.2.2.2 H.2.2.1 (rd_stk S i) j)
      by_cases e : j = H.2.2.1
      · rw [e, sl_u_eq, sl_u_eq]
      · rw [sl_u_ne e, sl_u_ne e]
        exact e3 j (by omega)
    have hk1 := rsk_F hk hF1
    obtain ⟨d1, d2, d3⟩ := hk1.2 i (by omega)
    have hTV := c_X12_takesValue (w := w) (nm := nm) (M := M) (i := i) (o := rd_beh S i) (by omega) d2 d3 hH1 (by simp only; rw [hn_an1 hn31]; omega) (by omega)
    have hgo : hn_gt (rd_stk S) (rd_beh S) (m + 1) i H = hn_gt (rd_stk S) (rd_beh S) m (i + 1) (hn_tv (rd_beh S i) (H.1, H.2.1, hn_an H.2.2.1, hn_ai H.2.2.1 H.2.2.2 (rd_stk S i))) := rfl
    rw [hgo] at hQ
    have hnn : hn_vn (rd_beh S i) (hn_an H.2.2.1) ≤ 2 * (i + 1 - fr) + 1 := by
      rw [hn_an1 hn31]
      have := hn_vn_2 (o := rd_beh S i) (n := H.2.2.1 + 1) (by omega)
      omega
    refine slv_iload_n eX12_reduces_58 rfl ?_
    refine slv_aload_n eX12_reduces_59 rfl ?_
    refine slr_gi eX12_reduces_60 fX12_438 rfl (by repeat (first | exact sl_u_eq | assumption | apply rf_ne (by decide) | exact rfl)) ?_
    refine slv_icmp_gtN eX12_reduces_63 (by omega) (by omega) (fun h63 => absurd h63 (by omega)) (fun h63 => ?_)
    refine slv_aload_n eX12_reduces_66 rfl ?_
    refine slr_ga (p := 103) eX12_reduces_67 fX12_119 rfl ?_
    refine slv_aload_n eX12_reduces_70 rfl ?_
    refine slr_gi eX12_reduces_71 fX12_466 rfl (by repeat (first | exact sl_u_eq | assumption | apply rf_ne (by decide) | exact rfl)) ?_
    refine slv_aload_n eX12_reduces_74 rfl ?_
    refine slr_ga (p := 96) eX12_reduces_75 fX12_98 rfl ?_
    refine slv_iload_n eX12_reduces_78 rfl ?_
    refine slr_ialdX (k := 54) (p := 96) (len := 16) eX12_reduces_79 rfl (by repeat (first | exact sl_u_eq | assumption | apply rf_ne (by decide) | exact rfl)) (by omega) (by decide) c1 ?_
    refine slr_iastX (k := 67) (p := 103) (len := 33) eX12_reduces_80 rfl (by repeat (first | exact sl_u_eq | assumption | apply rf_ne (by decide) | exact rfl)) (by omega) (by decide) (rf_t67 _ _ _ _ _) ?_
    refine slv_aload_n eX12_reduces_81 rfl ?_
    refine slv_dup eX12_reduces_82 rfl ?_
    refine slr_gi eX12_reduces_83 fX12_466 rfl (by repeat (first | exact sl_u_eq | assumption | apply rf_ne (by decide) | exact rfl)) ?_
    refine slv_iconst (v := nI 1) eX12_reduces_86 (by decide) ?_
    refine slv_iaddN eX12_reduces_87 ?_
    refine slr_pi eX12_reduces_88 fX12_466 (Nat.le_of_ble_eq_true rfl) rf_s77 ?_
    refine slv_aload_n eX12_reduces_91 rfl ?_
    refine slv_iload_n eX12_reduces_92 rfl ?_
    refine slv_callV (As := [_]) eX12_reduces_93 lX12_472 rfl rfl rf_68 rfl hTV (by decide) (Nat.le_of_ble_eq_true rfl) (Nat.zero_add _).symm (Nat.zero_add _).symm (Or.inl rfl) ?_
    rintro _ _ ⟨rfl, v2, a2, vm2, rfl, hH2, hF2, hv2⟩
    refine slv_iincN (lv' := [_, _, _, _]) eX12_reduces_96 rfl (by decide) rfl ?_
    refine slv_goto eX12_reduces_99 ?_
    exact ih (i + 1) _ vm2 v2 a2 (by omega) (by omega) hH2 hnn (by omega) (rsk_F hk1 hF2) Q (fun v' a' vm' z q1 q2 => hQ v' a' vm' z q1 (rhF_t (rhF_t hF1 hF2) q2))
end RGT

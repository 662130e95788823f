/-! the reference's handle: items and values -/
abbrev hn_T : Type := Option Nat × Option Nat × Nat × (Nat → Nat)
def rH (D : nd_T) (H : hn_T) (vm : Nat) (v : Nat → Int32) (a : Nat → Nat → Int32) : Prop :=
  (v 77 = nI H.2.2.1 ∧ v 78 = nI vm) ∧ (∀ j, j < H.2.2.1 → a 67 j = nI (H.2.2.2 j)) ∧
  ((vm = 0 ↔ H.1 = none) ∧ (vm ≤ 1 ↔ H.2.1 = none)) ∧
  (∀ k, H.1 = some k → a 69 0 = nI k ∧ a 68 0 = nd_bi D k ∧ a 76 0 = sl_bi (nd_rl D k)) ∧
  ∀ k, H.2.1 = some k → a 69 1 = nI k ∧ a 68 1 = nd_bi D k ∧ a 76 1 = sl_bi (nd_rl D k)
/-- a value more -/
abbrev hn_tv (o : Option Nat) (H : hn_T) : hn_T := (hn_v1 o H.1, hn_v2 o H.1 H.2.1, hn_vn o H.2.2.1, hn_vi o H.2.2.1 H.2.2.2)
def rhF (v : Nat → Int32) (a : Nat → Nat → Int32) (v' : Nat → Int32) (a' : Nat → Nat → Int32) : Prop := (∀ k, k ∉ [77, 78] → v' k = v k) ∧ ∀ k, k ∉ [67, 68, 76, 69] → a' k = a k
theorem rhF_t {v v1 v2 : Nat → Int32} {a a1 a2 : Nat → Nat → Int32} (h : rhF v a v1 a1) (h2 : rhF v1 a1 v2 a2) : rhF v a v2 a2 := ⟨fun k hk => (h2.1 k hk).trans (h.1 k hk), fun k hk => (h2.2 k hk).trans (h.2 k hk)⟩
theorem hn_an1 {n : Nat} (h : n < 31) : hn_an n = n + 1 := by unfold hn_an; rw [if_pos h]
theorem hn_ai1 {n : Nat} (h : n < 31) (it : Nat → Nat) (x : Nat) : hn_ai n it x = sl_u it n x := by unfold hn_ai; rw [if_pos h]
section RVL
variable {v : Nat → Int32} {w : Int64} {a : Nat → Nat → Int32} {nm : Nat → Int64} {M : sl_M} {D : nd_T} {H : hn_T} {vm : Nat}
set_option maxRecDepth 100000 in
theorem c_X12_takesValue {i : Nat} {o : Option Nat} (hi : i < 16) (h1 : a 58 i = sl_bi o.isSome) (h2 : ∀ k, o = some k → a 55 i = nd_bi D k ∧ a 59 i = sl_bi (nd_rl D k) ∧ a 70 i = nI k) (hH : rH D H vm v a) (hn : H.2.2.1 < 31) (hvm : vm < 16) : sl_T YX12_takesValue 0 0 0 (fun r M' => r = none ∧ ∃ v' a' vm', M' = rf_S v' w a' nm M ∧ rH D (hn_tv o H) vm' v' a' ∧ rhF v a v' a' ∧ vm' ≤ vm + 1) [.ref 68, .int (nI i)] (rf_S v w a nm M) := by
  obtain ⟨⟨k1, k2⟩, k3, ⟨k4, k5⟩, k6, k7⟩ := hH
  refine sl_T.of_V (lv := [_, _]) (by decide) rfl (Nat.le_of_ble_eq_true rfl) ?_
  cases o with
  | none =>
    refine slv_aload_n eX12_takesValue_0 rfl ?_
    refine slr_ga (p := 100) eX12_takesValue_1 fX12_110 rfl ?_
    refine slv_iload_n eX12_takesValue_4 rfl ?_
    refine slr_zaldX (k := 58) (p := 100) (len := 16) eX12_takesValue_5 rfl (by repeat (first | exact sl_u_eq | assumption | apply rf_ne (by decide) | exact rfl)) (by omega) (by decide) h1 ?_
    refine slv_if_neB eX12_takesValue_6 (fun h6 => absurd h6 (by decide)) (fun h6 => ?_)
    refine slv_vret eX12_takesValue_9 rfl ?_
    exact ⟨rfl, v, a, vm, rfl, ⟨⟨k1, k2⟩, k3, ⟨k4, k5⟩, k6, k7⟩, ⟨fun _ _ => rfl, fun _ _ => rfl⟩, by omega⟩
  | some k =>
    obtain ⟨b1, b2, b3⟩ := h2 k rfl
    refine slv_aload_n eX12_takesValue_0 rfl ?_
    refine slr_ga (p := 100) eX12_takesValue_1 fX12_110 rfl ?_
    refine slv_iload_n eX12_takesValue_4 rfl ?_
    refine slr_zaldX (k := 58) (p := 100) (len := 16) eX12_takesValue_5 rfl (by repeat (first | exact sl_u_eq | assumption | apply rf_ne (by decide) | exact rfl)) (by omega) (by decide) h1 ?_
    refine slv_if_neB eX12_takesValue_6 (fun h6 => ?_) (fun h6 => absurd h6 (fun q => by cases q))
    refine slv_aload_n eX12_takesValue_10 rfl ?_
    refine slr_ga (p := 103) eX12_takesValue_11 fX12_119 rfl ?_
    refine slv_aload_n eX12_takesValue_14 rfl ?_
    refine slr_gi eX12_takesValue_15 fX12_466 rfl (by repeat (first | exact sl_u_eq | assumption | apply rf_ne (by decide) | exact rfl)) ?_
    refine slv_bipush (v := nI 100) eX12_takesValue_18 (by decide) ?_
    refine slr_iastX (k := 67) (p := 103) (len := 33) eX12_takesValue_20 rfl (by repeat (first | exact sl_u_eq | assumption | apply rf_ne (by decide) | exact rfl)) (by omega) (by decide) (rf_t67 _ _ _ _ _) ?_
    refine slv_aload_n eX12_takesValue_21 rfl ?_
    refine slv_dup eX12_takesValue_22 rfl ?_
    refine slr_gi eX12_takesValue_23 fX12_466 rfl (by repeat (first | exact sl_u_eq | assumption | apply rf_ne (by decide) | exact rfl)) ?_
    refine slv_iconst (v := nI 1) eX12_takesValue_26 (by decide) ?_
    refine slv_iaddN eX12_takesValue_27 ?_
    refine slr_pi eX12_takesValue_28 fX12_466 (Nat.le_of_ble_eq_true rfl) rf_s77 ?_
    refine slv_aload_n eX12_takesValue_31 rfl ?_
    refine slr_ga (p := 104) eX12_takesValue_32 fX12_122 rfl ?_
    refine slv_aload_n eX12_takesValue_35 rfl ?_
    refine slr_gi eX12_takesValue_36 fX12_469 rfl (by repeat (first | exact sl_u_eq | assumption | apply rf_ne (by decide) | exact rfl)) ?_
    refine slv_aload_n eX12_takesValue_39 rfl ?_
    refine slr_ga (p := 97) eX12_takesValue_40 fX12_101 rfl ?_
    refine slv_iload_n eX12_takesValue_43 rfl ?_
    refine slr_ialdX (k := 55) (p := 97) (len := 16) eX12_takesValue_44 rfl (by repeat (first | exact sl_u_eq | assumption | apply rf_ne (by decide) | exact rfl)) (by omega) (by decide) b1 ?_
    refine slr_iastX (k := 68) (p := 104) (len := 17) eX12_takesValue_45 rfl (by repeat (first | exact sl_u_eq | assumption | apply rf_ne (by decide) | exact rfl)) (by omega) (by decide) (rf_t68 _ _ _ _ _) ?_
    refine slv_aload_n eX12_takesValue_46 rfl ?_
    refine slr_ga (p := 112) eX12_takesValue_47 fX12_146 rfl ?_
    refine slv_aload_n eX12_takesValue_50 rfl ?_
    refine slr_gi eX12_takesValue_51 fX12_469 rfl (by repeat (first | exact sl_u_eq | assumption | apply rf_ne (by decide) | exact rfl)) ?_
    refine slv_aload_n eX12_takesValue_54 rfl ?_
    refine slr_ga (p := 101) eX12_takesValue_55 fX12_113 rfl ?_
    refine slv_iload_n eX12_takesValue_58 rfl ?_
    refine slr_zaldX (k := 59) (p := 101) (len := 16) eX12_takesValue_59 rfl (by repeat (first | exact sl_u_eq | assumption | apply rf_ne (by decide) | exact rfl)) (by omega) (by decide) b2 ?_
    refine slr_zastX (k := 76) (p := 112) (len := 17) eX12_takesValue_60 rfl (by repeat (first | exact sl_u_eq | assumption | apply rf_ne (by decide) | exact rfl)) (by omega) (by decide) (sl_nar_bi _) (rf_t76 _ _ _ _ _) ?_
    refine slv_aload_n eX12_takesValue_61 rfl ?_
    refine slr_ga (p := 105) eX12_takesValue_62 fX12_125 rfl ?_
    refine slv_aload_n eX12_takesValue_65 rfl ?_
    refine slr_gi eX12_takesValue_66 fX12_469 rfl (by repeat (first | exact sl_u_eq | assumption | apply rf_ne (by decide) | exact rfl)) ?_
    refine slv_aload_n eX12_takesValue_69 rfl ?_
    refine slr_ga (p := 106) eX12_takesValue_70 fX12_128 rfl ?_
    refine slv_iload_n eX12_takesValue_73 rfl ?_
    refine slr_ialdX (k := 70) (p := 106) (len := 16) eX12_takesValue_74 rfl (by repeat (first | exact sl_u_eq | assumption | apply rf_ne (by decide) | exact rfl)) (by omega) (by decide) b3 ?_
    refine slr_iastX (k := 69) (p := 105) (len := 17) eX12_takesValue_75 rfl (by repeat (first | exact sl_u_eq | assumption | apply rf_ne (by decide) | exact rfl)) (by omega) (by decide) (rf_t69 _ _ _ _ _) ?_
    refine slv_aload_n eX12_takesValue_76 rfl ?_
    refine slv_dup eX12_takesValue_77 rfl ?_
    refine slr_gi eX12_takesValue_78 fX12_469 rfl (by repeat (first | exact sl_u_eq | assumption | apply rf_ne (by decide) | exact rfl)) ?_
    refine slv_iconst (v := nI 1) eX12_takesValue_81 (by decide) ?_
    refine slv_iaddN eX12_takesValue_82 ?_
    refine slr_pi eX12_takesValue_83 fX12_469 (Nat.le_of_ble_eq_true rfl) rf_s78 ?_
    refine slv_vret eX12_takesValue_86 rfl ?_
    refine ⟨rfl, _, _, vm + 1, rfl, ⟨⟨?_, rfl⟩, fun j hj => ?_, ⟨⟨fun q => by omega, fun q => ?_⟩, ?_⟩, fun c hc => ?_, fun c hc => ?_⟩, ⟨fun c hc => ?_, fun c hc => ?_⟩, Nat.le_refl _⟩
    · show nI (H.2.2.1 + 1) = nI (hn_an H.2.2.1)
      rw [hn_an1 hn]
    · have hj' : j < hn_an H.2.2.1 := hj
      rw [hn_an1 hn] at hj'
      show sl_u (a 67) H.2.2.1 (nI 100) j = nI (hn_ai H.2.2.1 H.2.2.2 100 j)
      rw [hn_ai1 hn]
      by_cases e : j = H.2.2.1
      · rw [e, sl_u_eq, sl_u_eq]
      · rw [sl_u_ne e, sl_u_ne e]
        exact k3 j (by omega)
    · have q' : hn_v1 (some k) H.1 = none := q
      cases hf : H.1 with
      | none => rw [hf] at q'; cases q'
      | some j => rw [hf] at q'; cases q'
    · show vm + 1 ≤ 1 ↔ hn_v2 (some k) H.1 H.2.1 = none
      cases hf : H.1 with
      | none =>
        have := k4.mpr hf
        show vm + 1 ≤ 1 ↔ H.2.1 = none
        rw [← k5]
        omega
      | some j =>
        have h0 : vm ≠ 0 := fun q => by rw [k4.mp q] at hf; cases hf
        cases hs : H.2.1 with
        | none => exact ⟨fun q => by omega, fun q => by cases q⟩
        | some z => exact ⟨fun q => by omega, fun q => by cases q⟩
    · have hc' : hn_v1 (some k) H.1 = some c := hc
      show sl_u (a 69) vm (nI k) 0 = nI c ∧ sl_u (a 68) vm (nd_bi D k) 0 = nd_bi D c ∧ sl_u (a 76) vm (sl_bi (nd_rl D k)) 0 = sl_bi (nd_rl D c)
      cases hf : H.1 with
      | none =>
        rw [hf] at hc'
        have e : k = c := Option.some.inj hc'
        rw [k4.mpr hf, sl_u_eq, sl_u_eq, sl_u_eq, e]
        exact ⟨rfl, rfl, rfl⟩
      | some j =>
        rw [hf] at hc'
        have e : j = c := Option.some.inj hc'
        have h0 : vm ≠ 0 := fun q => by rw [k4.mp q] at hf; cases hf
        rw [sl_u_ne (by omega), sl_u_ne (by omega), sl_u_ne (by omega)]
        exact k6 c (by rw [hf, e])
    · have hc' : hn_v2 (some k) H.1 H.2.1 = some c := hc
      show sl_u (a 69) vm (nI k) 1 = nI c ∧ sl_u (a 68) vm (nd_bi D k) 1 = nd_bi D c ∧ sl_u (a 76) vm (sl_bi (nd_rl D k)) 1 = sl_bi (nd_rl D c)
      cases hf : H.1 with
      | none =>
        rw [hf] at hc'
        have hc2 : H.2.1 = some c := hc'
        have h0 := k4.mpr hf
        have := k5.mp (by omega)
        rw [this] at hc2
        cases hc2
      | some j =>
        rw [hf] at hc'
        have h0 : vm ≠ 0 := fun q => by rw [k4.mp q] at hf; cases hf
        cases hs : H.2.1 with
        | none =>
          rw [hs] at hc'
          have e : k = c := Option.some.inj hc'
          have h1 : vm = 1 := by have := k5.mpr hs; omega
          rw [h1, sl_u_eq, sl_u_eq, sl_u_eq, e]
          exact ⟨rfl, rfl, rfl⟩
        | some z =>
          rw [hs] at hc'
          have e : z = c := Option.some.inj hc'
          have h1 : ¬ vm ≤ 1 := fun q => by rw [k5.mp q] at hs; cases hs
          rw [sl_u_ne (by omega), sl_u_ne (by omega), sl_u_ne (by omega)]
          exact k7 c (by rw [hs, e])
    · rw [sl_u_ne (fun e => hc (by rw [e]; decide)), sl_u_ne (fun e => hc (by rw [e]; decide))]
    · rw [sl_u_ne (fun e => hc (by rw [e]; decide)), sl_u_ne (fun e => hc (by rw [e]; decide)), sl_u_ne (fun e => hc (by rw [e]; decide)), sl_u_ne (fun e => hc (by rw [e]; decide))]
end RVL

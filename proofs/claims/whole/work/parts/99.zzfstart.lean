/-! the law: how it begins -/
theorem slv_nwi {Y : sl_Y} {X : Option (Nat × (Nat → Int32))} {d kc ks kc' ks' : Nat} {Q : Option Value → sl_M → Prop} {pc q idx : Nat} {lv : List (Option Value)} {st : List Value} {M : sl_M} {Z : sl_Y} {na a dd mc' ms' nn : Nat} {st0 : List Value} {As : List Value} {Q' : Option Value → sl_M → Prop} (h : sl_D Y pc (.invokespecial idx) 3 q) (L : sl_LI Y.1.cls idx Z na) (hst : st0 = As.reverse ++ .ref a :: st) (hl : As.length = na) (hT : sl_T Z dd mc' ms' Q' (.ref a :: As) M) (hd : dd + 1 ≤ d) (h8 : (st.map fun v => v.category).sum ≤ 8) (hk : kc = mc' + kc') (hs : ks = ms' + ks') (hw : nw nn M) (h1 : sl_rt nn st = true) (h2 : sl_rl nn lv = true) (kk : ∀ (r : Option Value) (M' : sl_M), Q' r M' → sl_V Y X d kc' ks' Q q lv (sl_ret r st) M') : sl_V Y X d kc ks Q pc lv st0 M := slv_callI h L hst hl hT hd h8 hk hs (Or.inr ⟨nw_val hw h1, nw_vlv hw h2⟩) kk
def st_S : rd_T := ((0, 0, 0, 0, 0, false, 0), (fun _ => 0, fun _ => 0, fun _ => some 0), (0, fun _ => 0, fun _ => some 0, fun _ => some 0, fun _ => 0, fun _ => 0, fun _ => false, fun _ => 0), (some 0, some 0, 0, fun _ => 0), (false, 0))
def st_g : sg_T := (0, 0, 0, 0, fun _ => 0, fun _ => 0, fun _ => 0, fun _ => 0, fun _ => 0, fun _ => 0, fun _ => false)
def st_C : cT := ((0, 2, 10, false, false, 0, 0, 0), (fun _ => 0), (st_g, st_g), ((0, 0, 0, 0, false, false, 0, 0, 0, 0), .null, .null, 0), (0, fun _ => 0, fun _ => 0, fun _ => 0), (0, 0, fun _ => 0, fun _ => 0, fun _ => 0, fun _ => 0, fun _ => 0, fun _ => 0), (0, fun _ => some 0, fun _ => 0), (.int 0, .int 0, .null, .int 0, .int 0, fun _ => 0, fun _ => 0, fun _ => false, fun _ => 0), (0, .null, .null, .null, .null, st_S), (0, .null, .null, .null, .null, st_S))
def st_v : Nat → Int32 := fun k => if k = 2 then -1 else 0
set_option maxRecDepth 100000 in
theorem st_A {M : sl_M} (f0 : M 0 = .inr (10, [.ref 1, .int 0, .ref 2, .ref 10, .int 0, .ref 18, .ref 19, .ref 23, .ref 30, .ref 33, .ref 38, .ref 53, .int 0, .int 0, .int 0, .int 0])) (f1 : M 1 = .inl (.byte, 900, .inl fun _ => 0)) (f2 : M 2 = .inr (2, [.int 0, .int 0, .int 0, .int 0, .ref 3, .ref 4, .ref 5, .ref 6, .ref 7, .ref 8, .ref 9])) (f3 : M 3 = .inl (.int, 6, .inl fun _ => 0)) (f4 : M 4 = .inl (.int, 11, .inl fun _ => 0)) (f5 : M 5 = .inl (.int, 12, .inl fun _ => 0)) (f6 : M 6 = .inl (.int, 12, .inl fun _ => 0)) (f7 : M 7 = .inl (.int, 12, .inl fun _ => 0)) (f8 : M 8 = .inl (.int, 60, .inl fun _ => 0)) (f9 : M 9 = .inl (.boolean, 12, .inl fun _ => 0)) (f10 : M 10 = .inr (2, [.int 0, .int 0, .int 0, .int 0, .ref 11, .ref 12, .ref 13, .ref 14, .ref 15, .ref 16, .ref 17])) (f11 : M 11 = .inl (.int, 6, .inl fun _ => 0)) (f12 : M 12 = .inl (.int, 11, .inl fun _ => 0)) (f13 : M 13 = .inl (.int, 12, .inl fun _ => 0)) (f14 : M 14 = .inl (.int, 12, .inl fun _ => 0)) (f15 : M 15 = .inl (.int, 12, .inl fun _ => 0)) (f16 : M 16 = .inl (.int, 60, .inl fun _ => 0)) (f17 : M 17 = .inl (.boolean, 12, .inl fun _ => 0)) (f18 : M 18 = .inr (3, [.int 0, .int 0, .null, .int 0, .int 0, .null, .int 0, .int 0, .int 0, .int 0, .int 0, .int 0, .int 0])) (f19 : M 19 = .inr (9, [.ref 20, .ref 21, .int 0, .ref 22])) (f20 : M 20 = .inl (.int, 6, .inl fun _ => 0)) (f21 : M 21 = .inl (.int, 6, .inl fun _ => 0)) (f22 : M 22 = .inl (.int, 144, .inl fun _ => 0)) (f23 : M 23 = .inr (5, [.int 0, .ref 24, .int 0, .ref 25, .ref 26, .ref 27, .ref 28, .ref 29])) (f24 : M 24 = .inl (.int, 28, .inl fun _ => 0)) (f25 : M 25 = .inl (.int, 28, .inl fun _ => 0)) (f26 : M 26 = .inl (.int, 28, .inl fun _ => 0)) (f27 : M 27 = .inl (.int, 28, .inl fun _ => 0)) (f28 : M 28 = .inl (.int, 28, .inl fun _ => 0)) (f29 : M 29 = .inl (.int, 28, .inl fun _ => 0)) (f30 : M 30 = .inr (0, [.int 0, .ref 31, .ref 32])) (f31 : M 31 = .inl (.int, 10, .inl fun _ => 0)) (f32 : M 32 = .inl (.int, 10, .inl fun _ => 0)) (f33 : M 33 = .inr (1, [.int 0, .int 0, .ref 34, .ref 35, .ref 36, .ref 37, .null, .int 0, .int 0])) (f34 : M 34 = .inl (.int, 60, .inl fun _ => 0)) (f35 : M 35 = .inl (.int, 60, .inl fun _ => 0)) (f36 : M 36 = .inl (.boolean, 60, .inl fun _ => 0)) (f37 : M 37 = .inl (.int, 60, .inl fun _ => 0)) (f38 : M 38 = .inr (7, [.int 0, .int 0, .int 0, .int 0, .int 0, .ref 39, .null, .null, .null, .null, .int 0, .int 0, .int 0, .ref 47, .ref 48, .ref 49, .ref 50, .ref 52])) (f39 : M 39 = .inr (6, [.int 0, .ref 40, .ref 41, .ref 42, .ref 43, .ref 44, .ref 45, .ref 46])) (f40 : M 40 = .inl (.int, 60, .inl fun _ => 0)) (f41 : M 41 = .inl (.int, 60, .inl fun _ => 0)) (f42 : M 42 = .inl (.int, 60, .inl fun _ => 0)) (f43 : M 43 = .inl (.int, 60, .inl fun _ => 0)) (f44 : M 44 = .inl (.int, 60, .inl fun _ => 0)) (f45 : M 45 = .inl (.boolean, 60, .inl fun _ => 0)) (f46 : M 46 = .inl (.int, 60, .inl fun _ => 0)) (f47 : M 47 = .inl (.int, 16, .inl fun _ => 0)) (f48 : M 48 = .inl (.int, 16, .inl fun _ => 0)) (f49 : M 49 = .inl (.int, 16, .inl fun _ => 0)) (f50 : M 50 = .inr (4, [.int 0, .int 0, .int 0, .ref 51])) (f51 : M 51 = .inl (.int, 31, .inl fun _ => 0)) (f52 : M 52 = .inr (8, [.int 0, .int 0])) (f53 : M 53 = .inr (7, [.int 0, .int 0, .int 0, .int 0, .int 0, .ref 54, .null, .null, .null, .null, .int 0, .int 0, .int 0, .ref 62, .ref 63, .ref 64, .ref 65, .ref 67])) (f54 : M 54 = .inr (6, [.int 0, .ref 55, .ref 56, .ref 57, .ref 58, .ref 59, .ref 60, .ref 61])) (f55 : M 55 = .inl (.int, 60, .inl fun _ => 0)) (f56 : M 56 = .inl (.int, 60, .inl fun _ => 0)) (f57 : M 57 = .inl (.int, 60, .inl fun _ => 0)) (f58 : M 58 = .inl (.int, 60, .inl fun _ => 0)) (f59 : M 59 = .inl (.int, 60, .inl fun _ => 0)) (f60 : M 60 = .inl (.boolean, 60, .inl fun _ => 0)) (f61 : M 61 = .inl (.int, 60, .inl fun _ => 0)) (f62 : M 62 = .inl (.int, 16, .inl fun _ => 0)) (f63 : M 63 = .inl (.int, 16, .inl fun _ => 0)) (f64 : M 64 = .inl (.int, 16, .inl fun _ => 0)) (f65 : M 65 = .inr (4, [.int 0, .int 0, .int 0, .ref 66])) (f66 : M 66 = .inl (.int, 31, .inl fun _ => 0)) (f67 : M 67 = .inr (8, [.int 0, .int 0])) : clA st_C M := by
  exact ⟨f0, f1, ⟨f2, f3, f4, f5, f6, f7, f8, f9⟩, ⟨f10, f11, f12, f13, f14, f15, f16, f17⟩, f18, ⟨f19, f20, f21, f22⟩, ⟨f23, f24, f25, f26, f27, f28, f29⟩, ⟨f30, f31, f32⟩, ⟨f33, f34, f35, f36, f37⟩, ⟨f38, f47, f48, f49, f39, f40, f41, f42, f43, f44, f45, f46, f50, f51, f52⟩, ⟨f53, f62, f63, f64, f54, f55, f56, f57, f58, f59, f60, f61, f65, f66, f67⟩⟩
set_option maxRecDepth 100000 in
theorem st_R {M : sl_M} (f68 : M 68 = .inr (11, [.int 0, .int 0, .int (-1), .ref 69, .ref 70, .ref 71, .ref 72, .ref 73, .ref 74, .ref 75, .ref 76, .ref 77, .ref 78, .ref 79, .int 0, .int 0, .int 0, .int 0, .int 0, .int 0, .int 0, .int 0, .int 0, .int 0, .ref 80, .ref 81, .int 0, .ref 82, .int 0, .int 0, .int 0, .int 0, .int 0, .int 0, .int 0, .long 0, .ref 83, .ref 84, .ref 85, .ref 86, .ref 87, .ref 88, .ref 89, .ref 90, .int 0, .ref 91, .ref 92, .ref 93, .ref 94, .ref 95, .int 0, .int 0, .int 0, .int 0, .ref 96, .ref 97, .ref 98, .ref 99, .ref 100, .ref 101, .ref 102, .int 0, .int 0, .int 0, .int 0, .int 0, .int 0, .ref 103, .ref 104, .ref 105, .ref 106, .ref 107, .ref 108, .ref 109, .ref 110, .ref 111, .ref 112, .int 0, .int 0, .int 0, .int 0])) (f69 : M 69 = .inl (.int, 12, .inl fun _ => 0)) (f70 : M 70 = .inl (.int, 60, .inl fun _ => 0)) (f71 : M 71 = .inl (.int, 12, .inl fun _ => 0)) (f72 : M 72 = .inl (.int, 12, .inl fun _ => 0)) (f73 : M 73 = .inl (.int, 11, .inl fun _ => 0)) (f74 : M 74 = .inl (.int, 12, .inl fun _ => 0)) (f75 : M 75 = .inl (.int, 60, .inl fun _ => 0)) (f76 : M 76 = .inl (.int, 12, .inl fun _ => 0)) (f77 : M 77 = .inl (.int, 12, .inl fun _ => 0)) (f78 : M 78 = .inl (.int, 11, .inl fun _ => 0)) (f79 : M 79 = .inl (.long, 6, .inr (.inl fun _ => 0))) (f80 : M 80 = .inl (.int, 10, .inl fun _ => 0)) (f81 : M 81 = .inl (.int, 10, .inl fun _ => 0)) (f82 : M 82 = .inl (.byte, 900, .inl fun _ => 0)) (f83 : M 83 = .inl (.int, 6, .inl fun _ => 0)) (f84 : M 84 = .inl (.int, 6, .inl fun _ => 0)) (f85 : M 85 = .inl (.int, 144, .inl fun _ => 0)) (f86 : M 86 = .inl (.int, 32, .inl fun _ => 0)) (f87 : M 87 = .inl (.int, 32, .inl fun _ => 0)) (f88 : M 88 = .inl (.int, 32, .inl fun _ => 0)) (f89 : M 89 = .inl (.boolean, 1024, .inl fun _ => 0)) (f90 : M 90 = .inl (.boolean, 1024, .inl fun _ => 0)) (f91 : M 91 = .inl (.int, 33, .inl fun _ => 0)) (f92 : M 92 = .inl (.int, 61, .inl fun _ => 0)) (f93 : M 93 = .inl (.int, 61, .inl fun _ => 0)) (f94 : M 94 = .inl (.int, 61, .inl fun _ => 0)) (f95 : M 95 = .inl (.boolean, 61, .inl fun _ => 0)) (f96 : M 96 = .inl (.int, 16, .inl fun _ => 0)) (f97 : M 97 = .inl (.int, 16, .inl fun _ => 0)) (f98 : M 98 = .inl (.int, 16, .inl fun _ => 0)) (f99 : M 99 = .inl (.int, 122, .inl fun _ => 0)) (f100 : M 100 = .inl (.boolean, 16, .inl fun _ => 0)) (f101 : M 101 = .inl (.boolean, 16, .inl fun _ => 0)) (f102 : M 102 = .inl (.boolean, 16, .inl fun _ => 0)) (f103 : M 103 = .inl (.int, 33, .inl fun _ => 0)) (f104 : M 104 = .inl (.int, 17, .inl fun _ => 0)) (f105 : M 105 = .inl (.int, 17, .inl fun _ => 0)) (f106 : M 106 = .inl (.int, 16, .inl fun _ => 0)) (f107 : M 107 = .inl (.int, 122, .inl fun _ => 0)) (f108 : M 108 = .inl (.int, 122, .inl fun _ => 0)) (f109 : M 109 = .inl (.int, 122, .inl fun _ => 0)) (f110 : M 110 = .inl (.int, 122, .inl fun _ => 0)) (f111 : M 111 = .inl (.boolean, 122, .inl fun _ => 0)) (f112 : M 112 = .inl (.boolean, 17, .inl fun _ => 0)) : rf_S st_v 0 (fun _ _ => 0) (fun _ => 0) M = M := by
  funext k
  by_cases h1 : k < 68
  · exact rf_lo h1
  · by_cases h2 : k < 113
    · rcases (show k = 68 ∨ k = 69 ∨ k = 70 ∨ k = 71 ∨ k = 72 ∨ k = 73 ∨ k = 74 ∨ k = 75 ∨ k = 76 ∨ k = 77 ∨ k = 78 ∨ k = 79 ∨ k = 80 ∨ k = 81 ∨ k = 82 ∨ k = 83 ∨ k = 84 ∨ k = 85 ∨ k = 86 ∨ k = 87 ∨ k = 88 ∨ k = 89 ∨ k = 90 ∨ k = 91 ∨ k = 92 ∨ k = 93 ∨ k = 94 ∨ k = 95 ∨ k = 96 ∨ k = 97 ∨ k = 98 ∨ k = 99 ∨ k = 100 ∨ k = 101 ∨ k = 102 ∨ k = 103 ∨ k = 104 ∨ k = 105 ∨ k = 106 ∨ k = 107 ∨ k = 108 ∨ k = 109 ∨ k = 110 ∨ k = 111 ∨ k = 112 by omega) with q | q | q | q | q | q | q | q | q | q | q | q | q | q | q | q | q | q | q | q | q | q | q | q | q | q | q | q | q | q | q | q | q | q | q | q | q | q | q | q | q | q | q | q | q
      · subst q; exact f68.symm
      · subst q; exact f69.symm
      · subst q; exact f70.symm
      · subst q; exact f71.symm
      · subst q; exact f72.symm
      · subst q; exact f73.symm
      · subst q; exact f74.symm
      · subst q; exact f75.symm
      · subst q; exact f76.symm
      · subst q; exact f77.symm
      · subst q; exact f78.symm
      · subst q; exact f79.symm
      · subst q; exact f80.symm
      · subst q; exact f81.symm
      · subst q; exact f82.symm
      · subst q; exact f83.symm
      · subst q; exact f84.symm
      · subst q; exact f85.symm
      · subst q; exact f86.symm
      · subst q; exact f87.symm
      · subst q; exact f88.symm
      · subst q; exact f89.symm
      · subst q; exact f90.symm
      · subst q; exact f91.symm
      · subst q; exact f92.symm
      · subst q; exact f93.symm
      · subst q; exact f94.symm
      · subst q; exact f95.symm
      · subst q; exact f96.symm
      · subst q; exact f97.symm
      · subst q; exact f98.symm
      · subst q; exact f99.symm
      · subst q; exact f100.symm
      · subst q; exact f101.symm
      · subst q; exact f102.symm
      · subst q; exact f103.symm
      · subst q; exact f104.symm
      · subst q; exact f105.symm
      · subst q; exact f106.symm
      · subst q; exact f107.symm
      · subst q; exact f108.symm
      · subst q; exact f109.symm
      · subst q; exact f110.symm
      · subst q; exact f111.symm
      · subst q; exact f112.symm
    · exact rf_hi (by omega)
theorem st_rest : rd_rest st_S := ⟨fun _ _ => (by show (0 : Nat) < 12; decide), fun _ _ => (by show (0 : Nat) < 60; decide), fun i k _ e => (by have := Option.some.inj (show some 0 = some k from e); omega), fun k _ => Nat.zero_le _, fun _ _ => (by show (0 : Nat) < 1000; decide), fun k j _ e => (by have := Option.some.inj (show some 0 = some j from e); omega), fun k j _ e => (by have := Option.some.inj (show some 0 = some j from e); omega), fun k _ => Nat.zero_le _⟩
theorem st_gok : sg_ok st_g := ⟨Nat.zero_le _, Nat.zero_le _, Nat.zero_le _, Nat.zero_le _, fun _ _ => (by show (0 : Nat) < 256; decide), fun _ _ => ⟨(by show (0 : Nat) < 6; decide), (by show (0 : Nat) < 9; decide), Nat.zero_le _⟩, fun _ _ => (by show (0 : Nat) < 106; decide), fun r h => absurd h (Nat.not_lt_zero r)⟩
theorem st_gz : sg_z st_g := fun _ _ => ⟨rfl, rfl⟩
theorem st_K : clK st_C := ⟨Or.inl ⟨rfl, rfl⟩, ⟨Nat.zero_le _, (by show (0 : Nat) < 100; decide), Nat.zero_le _, Nat.zero_le _⟩, ⟨st_gok, st_gok, st_gz, st_gz⟩, ⟨Nat.zero_le _, (by show (0 : Nat) < 256; decide)⟩, ⟨fun _ _ => ⟨rfl, rfl⟩, fun _ _ => rfl⟩, fun _ _ => ⟨rfl, rfl, rfl, rfl, rfl⟩, ⟨fun _ _ => (by show (0 : Nat) < 28; decide), fun _ _ => (by show (0 : Nat) < 1000000; decide), Nat.zero_le _⟩, st_rest, st_rest, Nat.zero_le _, (by show (0 : Nat) < 100; decide)⟩
theorem st_L : lwR st_C st_v (fun _ _ => 0) := ⟨⟨rfl, rfl, rfl, rfl, rfl, rfl, rfl, rfl, ⟨fun _ _ => ⟨rfl, rfl⟩, fun _ _ => rfl⟩⟩, fun _ => ⟨rfl, rfl⟩, fun e => (by cases e), trivial, fun e => (by cases e)⟩
section LWS
variable {L : Nat} {xs : Nat → Int32} {mB sB : Nat} {Q : Option Value → sl_M → Prop}
set_option maxRecDepth 100000 in
theorem lw_all (hRR : rr_all) (hSS : st_all) (hB : ba_all mB sB) (hL : L ≤ 3072) (hQ : ∀ M, Q (some (.int (nI 1))) M) : sl_V YL_law (some (L, xs)) 70 (114 + 512 * mB) (7598 + 512 * sB) Q 0 [some (.ref (sl_X + 500)), none, none, none, none, none, none] [] (fun _ => sl_no) := by
  have hw : nw 0 (fun _ => sl_no) := ⟨fun _ _ => rfl, fun _ _ _ => rfl, fun k h => absurd h (Nat.not_lt_zero k)⟩
  refine slv_nwo (kc' := 113 + 512 * mB) (ks' := 7582 + 512 * sB) eL_law_0 nL_8 hw (by decide) rfl (by decide) rfl (by decide) (by omega) (by omega) (fun hw => ?_)
  refine slv_dup eL_law_3 rfl ?_
  refine slv_nwi (As := []) (kc' := 46 + 512 * mB) (ks' := 4727 + 512 * sB) eL_law_4 lL_15 rfl rfl (c_X11_init_0 hw sl_up_eq) (by decide) (Nat.le_of_ble_eq_true rfl) (by omega) (by omega) hw rfl (by decide) ?_
  rintro _ M1 ⟨rfl, ⟨f0, f1, f2, f3, f4, f5, f6, f7, f8, f9, f10, f11, f12, f13, f14, f15, f16, f17, f18, f19, f20, f21, f22, f23, f24, f25, f26, f27, f28, f29, f30, f31, f32, f33, f34, f35, f36, f37, f38, f39, f40, f41, f42, f43, f44, f45, f46, f47, f48, f49, f50, f51, f52, f53, f54, f55, f56, f57, f58, f59, f60, f61, f62, f63, f64, f65, f66, f67⟩, hw⟩
  refine slv_astore_n (lv' := [some (.ref (sl_X + 500)), some (.ref 0), none, none, none, none, none]) eL_law_7 rfl (by decide) rfl ?_
  refine slv_nwo (kc' := 45 + 512 * mB) (ks' := 4646 + 512 * sB) eL_law_8 nL_16 hw (by decide) rfl (by decide) rfl (by decide) (by omega) (by omega) (fun hw => ?_)
  refine slv_dup eL_law_11 rfl ?_
  refine slv_nwi (As := []) (kc' := 1 + 512 * mB) (ks' := 1 + 512 * sB) eL_law_12 lL_18 rfl rfl (c_X12_init_68 hw sl_up_eq) (by decide) (Nat.le_of_ble_eq_true rfl) (by omega) (by omega) hw rfl (by decide) ?_
  rintro _ M2 ⟨rfl, ⟨f68, f69, f70, f71, f72, f73, f74, f75, f76, f77, f78, f79, f80, f81, f82, f83, f84, f85, f86, f87, f88, f89, f90, f91, f92, f93, f94, f95, f96, f97, f98, f99, f100, f101, f102, f103, f104, f105, f106, f107, f108, f109, f110, f111, f112⟩, hfr, hw⟩
  refine slv_astore_n (lv' := [some (.ref (sl_X + 500)), some (.ref 0), some (.ref 68), none, none, none, none]) eL_law_15 rfl (by decide) rfl ?_
  refine slv_iconst (v := nI 1) eL_law_16 (by decide) ?_
  refine slv_nwa (a0 := (1, .inr (.inl fun _ => 0))) (kc' := 512 * mB) (ks' := 512 * sB) eL_law_17 rfl rfl ac_long (fun _ => rfl) (by decide) (by decide) (by decide) hw (by decide) rfl (by decide) (by omega) (by omega) (fun hw => ?_)
  refine slv_astore_n (lv' := [some (.ref (sl_X + 500)), some (.ref 0), some (.ref 68), some (.ref 113), none, none, none]) eL_law_19 rfl (by decide) rfl ?_
  refine slv_iconst (v := nI 0) eL_law_20 (by decide) ?_
  refine slv_istore (lv' := [some (.ref (sl_X + 500)), some (.ref 0), some (.ref 68), some (.ref 113), some (.int (nI 0)), none, none]) eL_law_21 (by decide) rfl ?_
  have hA := st_A f0 f1 f2 f3 f4 f5 f6 f7 f8 f9 f10 f11 f12 f13 f14 f15 f16 f17 f18 f19 f20 f21 f22 f23 f24 f25 f26 f27 f28 f29 f30 f31 f32 f33 f34 f35 f36 f37 f38 f39 f40 f41 f42 f43 f44 f45 f46 f47 f48 f49 f50 f51 f52 f53 f54 f55 f56 f57 f58 f59 f60 f61 f62 f63 f64 f65 f66 f67
  have e1 : ∀ k, k < 68 → sl_up M2 113 (.inl (.long, 1, .inr (.inl fun _ => 0))) k = M1 k := fun k hk => (up_out (by omega)).trans ((hfr k hk).trans (up_out (by omega)))
  have hR2 := st_R (M := M2) f68 f69 f70 f71 f72 f73 f74 f75 f76 f77 f78 f79 f80 f81 f82 f83 f84 f85 f86 f87 f88 f89 f90 f91 f92 f93 f94 f95 f96 f97 f98 f99 f100 f101 f102 f103 f104 f105 f106 f107 f108 f109 f110 f111 f112
  refine lw_loop hRR hSS hB hL hQ 512 0 none none _ (by omega) (by omega) ⟨st_C, st_v, 0, fun _ _ => 0, fun _ => 0, clA_lo (Or.inl ⟨rfl, rfl⟩) hA e1, rf_keep hR2 (fun k h1 h2 => up_out (by omega)), ⟨fun _ => 0, sl_up_eq⟩, st_K, st_L⟩ (Or.inl rfl) (Or.inl rfl)
end LWS

/-! the reference, at 68: its numbers v (by the place of the field), its word w, its rows a (by the place of the field), its names nm -/
def rf_c (v : Nat → Int32) (w : Int64) : List Value := [.int (v 0), .int (v 1), .int (v 2), .ref 69, .ref 70, .ref 71, .ref 72, .ref 73, .ref 74, .ref 75, .ref 76, .ref 77, .ref 78, .ref 79, .int (v 14), .int (v 15), .int (v 16), .int (v 17), .int (v 18), .int (v 19), .int (v 20), .int (v 21), .int (v 22), .int (v 23), .ref 80, .ref 81, .int (v 26), .ref 82, .int (v 28), .int (v 29), .int (v 30), .int (v 31), .int (v 32), .int (v 33), .int (v 34), .long w, .ref 83, .ref 84, .ref 85, .ref 86, .ref 87, .ref 88, .ref 89, .ref 90, .int (v 44), .ref 91, .ref 92, .ref 93, .ref 94, .ref 95, .int (v 50), .int (v 51), .int (v 52), .int (v 53), .ref 96, .ref 97, .ref 98, .ref 99, .ref 100, .ref 101, .ref 102, .int (v 61), .int (v 62), .int (v 63), .int (v 64), .int (v 65), .int (v 66), .ref 103, .ref 104, .ref 105, .ref 106, .ref 107, .ref 108, .ref 109, .ref 110, .ref 111, .ref 112, .int (v 77), .int (v 78), .int (v 79), .int (v 80)]
def rf_L (v : Nat → Int32) (w : Int64) (a : Nat → Nat → Int32) (nm : Nat → Int64) : List sl_E := [.inr (11, rf_c v w), .inl (.int, 12, .inl (a 3)), .inl (.int, 60, .inl (a 4)), .inl (.int, 12, .inl (a 5)), .inl (.int, 12, .inl (a 6)), .inl (.int, 11, .inl (a 7)), .inl (.int, 12, .inl (a 8)), .inl (.int, 60, .inl (a 9)), .inl (.int, 12, .inl (a 10)), .inl (.int, 12, .inl (a 11)), .inl (.int, 11, .inl (a 12)), .inl (.long, 6, .inr (.inl nm)), .inl (.int, 10, .inl (a 24)), .inl (.int, 10, .inl (a 25)), .inl (.byte, 900, .inl (a 27)), .inl (.int, 6, .inl (a 36)), .inl (.int, 6, .inl (a 37)), .inl (.int, 144, .inl (a 38)), .inl (.int, 32, .inl (a 39)), .inl (.int, 32, .inl (a 40)), .inl (.int, 32, .inl (a 41)), .inl (.boolean, 1024, .inl (a 42)), .inl (.boolean, 1024, .inl (a 43)), .inl (.int, 33, .inl (a 45)), .inl (.int, 61, .inl (a 46)), .inl (.int, 61, .inl (a 47)), .inl (.int, 61, .inl (a 48)), .inl (.boolean, 61, .inl (a 49)), .inl (.int, 16, .inl (a 54)), .inl (.int, 16, .inl (a 55)), .inl (.int, 16, .inl (a 56)), .inl (.int, 122, .inl (a 57)), .inl (.boolean, 16, .inl (a 58)), .inl (.boolean, 16, .inl (a 59)), .inl (.boolean, 16, .inl (a 60)), .inl (.int, 33, .inl (a 67)), .inl (.int, 17, .inl (a 68)), .inl (.int, 17, .inl (a 69)), .inl (.int, 16, .inl (a 70)), .inl (.int, 122, .inl (a 71)), .inl (.int, 122, .inl (a 72)), .inl (.int, 122, .inl (a 73)), .inl (.int, 122, .inl (a 74)), .inl (.boolean, 122, .inl (a 75)), .inl (.boolean, 17, .inl (a 76))]
def rf_P (L : List sl_E) (M : sl_M) : sl_M := fun k => if k < 68 then M k else if k < 113 then L.getD (k - 68) sl_no else M k
def rf_S (v : Nat → Int32) (w : Int64) (a : Nat → Nat → Int32) (nm : Nat → Int64) (M : sl_M) : sl_M := rf_P (rf_L v w a nm) M
theorem rf_up {L L' : List sl_E} {M : sl_M} {j : Nat} {e : sl_E} (hj : j < 45) (hl : L.length = 45) (hs : L.set j e = L') : sl_up (rf_P L M) (68 + j) e = rf_P L' M := by
  subst hs
  funext k
  simp only [sl_up, rf_P]
  by_cases h : k = 68 + j
  · subst h
    rw [if_pos rfl, if_neg (by omega), if_pos (by omega), show 68 + j - 68 = j by omega, List.getD_eq_getElem?_getD, List.getElem?_set_self (by omega)]
    rfl
  · rw [if_neg h]
    by_cases h1 : k < 68
    · rw [if_pos h1, if_pos h1]
    · rw [if_neg h1, if_neg h1]
      by_cases h2 : k < 113
      · rw [if_pos h2, if_pos h2, List.getD_eq_getElem?_getD, List.getD_eq_getElem?_getD, List.getElem?_set_ne (by omega)]
      · rw [if_neg h2, if_neg h2]
theorem rf_68 {v : Nat → Int32} {w : Int64} {a : Nat → Nat → Int32} {nm : Nat → Int64} {M : sl_M} : rf_S v w a nm M 68 = .inr (11, rf_c v w) := rfl
theorem rf_lo {v : Nat → Int32} {w : Int64} {a : Nat → Nat → Int32} {nm : Nat → Int64} {M : sl_M} {k : Nat} (h : k < 68) : rf_S v w a nm M k = M k := by simp [rf_S, rf_P, h]
theorem rf_hi {v : Nat → Int32} {w : Int64} {a : Nat → Nat → Int32} {nm : Nat → Int64} {M : sl_M} {k : Nat} (h : 113 ≤ k) : rf_S v w a nm M k = M k := by
  have h1 : ¬ k < 68 := by omega
  have h2 : ¬ k < 113 := by omega
  simp [rf_S, rf_P, h1, h2]
theorem rf_out {v : Nat → Int32} {w : Int64} {a : Nat → Nat → Int32} {nm : Nat → Int64} {M : sl_M} {k : Nat} {e : sl_E} (h : k < 68 ∨ 113 ≤ k) : sl_up (rf_S v w a nm M) k e = rf_S v w a nm (sl_up M k e) := by
  funext j
  simp only [sl_up, rf_S, rf_P]
  by_cases h1 : j = k
  · subst h1
    rcases h with g | g
    · simp [g]
    · have h1 : ¬ j < 68 := by omega
      have h2 : ¬ j < 113 := by omega
      simp [h1, h2]
  · simp [h1]
theorem rf_u68 {v v' : Nat → Int32} {w w' : Int64} {a : Nat → Nat → Int32} {nm : Nat → Int64} {M : sl_M} : sl_up (rf_S v w a nm M) 68 (.inr (11, rf_c v' w')) = rf_S v' w' a nm M := rf_up (j := 0) (by decide) rfl rfl
theorem rf_s0 (v : Nat → Int32) (w : Int64) (x : Int32) : (rf_c v w).set 0 (.int x) = rf_c (sl_u v 0 x) w := rfl
theorem rf_s1 (v : Nat → Int32) (w : Int64) (x : Int32) : (rf_c v w).set 1 (.int x) = rf_c (sl_u v 1 x) w := rfl
theorem rf_s2 (v : Nat → Int32) (w : Int64) (x : Int32) : (rf_c v w).set 2 (.int x) = rf_c (sl_u v 2 x) w := rfl
theorem rf_t3 (v : Nat → Int32) (w : Int64) (a : Nat → Nat → Int32) (nm : Nat → Int64) (M : sl_M) (g : Nat → Int32) : sl_up (rf_S v w a nm M) 69 (.inl (.int, 12, .inl g)) = rf_S v w (sl_u a 3 g) nm M := rf_up (j := 1) (by decide) rfl rfl
theorem rf_t4 (v : Nat → Int32) (w : Int64) (a : Nat → Nat → Int32) (nm : Nat → Int64) (M : sl_M) (g : Nat → Int32) : sl_up (rf_S v w a nm M) 70 (.inl (.int, 60, .inl g)) = rf_S v w (sl_u a 4 g) nm M := rf_up (j := 2) (by decide) rfl rfl
theorem rf_t5 (v : Nat → Int32) (w : Int64) (a : Nat → Nat → Int32) (nm : Nat → Int64) (M : sl_M) (g : Nat → Int32) : sl_up (rf_S v w a nm M) 71 (.inl (.int, 12, .inl g)) = rf_S v w (sl_u a 5 g) nm M := rf_up (j := 3) (by decide) rfl rfl
theorem rf_t6 (v : Nat → Int32) (w : Int64) (a : Nat → Nat → Int32) (nm : Nat → Int64) (M : sl_M) (g : Nat → Int32) : sl_up (rf_S v w a nm M) 72 (.inl (.int, 12, .inl g)) = rf_S v w (sl_u a 6 g) nm M := rf_up (j := 4) (by decide) rfl rfl
theorem rf_t7 (v : Nat → Int32) (w : Int64) (a : Nat → Nat → Int32) (nm : Nat → Int64) (M : sl_M) (g : Nat → Int32) : sl_up (rf_S v w a nm M) 73 (.inl (.int, 11, .inl g)) = rf_S v w (sl_u a 7 g) nm M := rf_up (j := 5) (by decide) rfl rfl
theorem rf_t8 (v : Nat → Int32) (w : Int64) (a : Nat → Nat → Int32) (nm : Nat → Int64) (M : sl_M) (g : Nat → Int32) : sl_up (rf_S v w a nm M) 74 (.inl (.int, 12, .inl g)) = rf_S v w (sl_u a 8 g) nm M := rf_up (j := 6) (by decide) rfl rfl
theorem rf_t9 (v : Nat → Int32) (w : Int64) (a : Nat → Nat → Int32) (nm : Nat → Int64) (M : sl_M) (g : Nat → Int32) : sl_up (rf_S v w a nm M) 75 (.inl (.int, 60, .inl g)) = rf_S v w (sl_u a 9 g) nm M := rf_up (j := 7) (by decide) rfl rfl
theorem rf_t10 (v : Nat → Int32) (w : Int64) (a : Nat → Nat → Int32) (nm : Nat → Int64) (M : sl_M) (g : Nat → Int32) : sl_up (rf_S v w a nm M) 76 (.inl (.int, 12, .inl g)) = rf_S v w (sl_u a 10 g) nm M := rf_up (j := 8) (by decide) rfl rfl
theorem rf_t11 (v : Nat → Int32) (w : Int64) (a : Nat → Nat → Int32) (nm : Nat → Int64) (M : sl_M) (g : Nat → Int32) : sl_up (rf_S v w a nm M) 77 (.inl (.int, 12, .inl g)) = rf_S v w (sl_u a 11 g) nm M := rf_up (j := 9) (by decide) rfl rfl
theorem rf_t12 (v : Nat → Int32) (w : Int64) (a : Nat → Nat → Int32) (nm : Nat → Int64) (M : sl_M) (g : Nat → Int32) : sl_up (rf_S v w a nm M) 78 (.inl (.int, 11, .inl g)) = rf_S v w (sl_u a 12 g) nm M := rf_up (j := 10) (by decide) rfl rfl
theorem rf_t13 (v : Nat → Int32) (w : Int64) (a : Nat → Nat → Int32) (nm : Nat → Int64) (M : sl_M) (g : Nat → Int64) : sl_up (rf_S v w a nm M) 79 (.inl (.long, 6, .inr (.inl g))) = rf_S v w a g M := rf_up (j := 11) (by decide) rfl rfl
theorem rf_s14 (v : Nat → Int32) (w : Int64) (x : Int32) : (rf_c v w).set 14 (.int x) = rf_c (sl_u v 14 x) w := rfl
theorem rf_s15 (v : Nat → Int32) (w : Int64) (x : Int32) : (rf_c v w).set 15 (.int x) = rf_c (sl_u v 15 x) w := rfl
theorem rf_s16 (v : Nat → Int32) (w : Int64) (x : Int32) : (rf_c v w).set 16 (.int x) = rf_c (sl_u v 16 x) w := rfl
theorem rf_s17 (v : Nat → Int32) (w : Int64) (x : Int32) : (rf_c v w).set 17 (.int x) = rf_c (sl_u v 17 x) w := rfl
theorem rf_s18 (v : Nat → Int32) (w : Int64) (x : Int32) : (rf_c v w).set 18 (.int x) = rf_c (sl_u v 18 x) w := rfl
theorem rf_s19 (v : Nat → Int32) (w : Int64) (x : Int32) : (rf_c v w).set 19 (.int x) = rf_c (sl_u v 19 x) w := rfl
theorem rf_s20 (v : Nat → Int32) (w : Int64) (x : Int32) : (rf_c v w).set 20 (.int x) = rf_c (sl_u v 20 x) w := rfl
theorem rf_s21 (v : Nat → Int32) (w : Int64) (x : Int32) : (rf_c v w).set 21 (.int x) = rf_c (sl_u v 21 x) w := rfl
theorem rf_s22 (v : Nat → Int32) (w : Int64) (x : Int32) : (rf_c v w).set 22 (.int x) = rf_c (sl_u v 22 x) w := rfl
theorem rf_s23 (v : Nat → Int32) (w : Int64) (x : Int32) : (rf_c v w).set 23 (.int x) = rf_c (sl_u v 23 x) w := rfl
theorem rf_t24 (v : Nat → Int32) (w : Int64) (a : Nat → Nat → Int32) (nm : Nat → Int64) (M : sl_M) (g : Nat → Int32) : sl_up (rf_S v w a nm M) 80 (.inl (.int, 10, .inl g)) = rf_S v w (sl_u a 24 g) nm M := rf_up (j := 12) (by decide) rfl rfl
theorem rf_t25 (v : Nat → Int32) (w : Int64) (a : Nat → Nat → Int32) (nm : Nat → Int64) (M : sl_M) (g : Nat → Int32) : sl_up (rf_S v w a nm M) 81 (.inl (.int, 10, .inl g)) = rf_S v w (sl_u a 25 g) nm M := rf_up (j := 13) (by decide) rfl rfl
theorem rf_s26 (v : Nat → Int32) (w : Int64) (x : Int32) : (rf_c v w).set 26 (.int x) = rf_c (sl_u v 26 x) w := rfl
theorem rf_t27 (v : Nat → Int32) (w : Int64) (a : Nat → Nat → Int32) (nm : Nat → Int64) (M : sl_M) (g : Nat → Int32) : sl_up (rf_S v w a nm M) 82 (.inl (.byte, 900, .inl g)) = rf_S v w (sl_u a 27 g) nm M := rf_up (j := 14) (by decide) rfl rfl
theorem rf_s28 (v : Nat → Int32) (w : Int64) (x : Int32) : (rf_c v w).set 28 (.int x) = rf_c (sl_u v 28 x) w := rfl
theorem rf_s29 (v : Nat → Int32) (w : Int64) (x : Int32) : (rf_c v w).set 29 (.int x) = rf_c (sl_u v 29 x) w := rfl
theorem rf_s30 (v : Nat → Int32) (w : Int64) (x : Int32) : (rf_c v w).set 30 (.int x) = rf_c (sl_u v 30 x) w := rfl
theorem rf_s31 (v : Nat → Int32) (w : Int64) (x : Int32) : (rf_c v w).set 31 (.int x) = rf_c (sl_u v 31 x) w := rfl
theorem rf_s32 (v : Nat → Int32) (w : Int64) (x : Int32) : (rf_c v w).set 32 (.int x) = rf_c (sl_u v 32 x) w := rfl
theorem rf_s33 (v : Nat → Int32) (w : Int64) (x : Int32) : (rf_c v w).set 33 (.int x) = rf_c (sl_u v 33 x) w := rfl
theorem rf_s34 (v : Nat → Int32) (w : Int64) (x : Int32) : (rf_c v w).set 34 (.int x) = rf_c (sl_u v 34 x) w := rfl
theorem rf_s35 (v : Nat → Int32) (w x : Int64) : (rf_c v w).set 35 (.long x) = rf_c v x := rfl
theorem rf_t36 (v : Nat → Int32) (w : Int64) (a : Nat → Nat → Int32) (nm : Nat → Int64) (M : sl_M) (g : Nat → Int32) : sl_up (rf_S v w a nm M) 83 (.inl (.int, 6, .inl g)) = rf_S v w (sl_u a 36 g) nm M := rf_up (j := 15) (by decide) rfl rfl
theorem rf_t37 (v : Nat → Int32) (w : Int64) (a : Nat → Nat → Int32) (nm : Nat → Int64) (M : sl_M) (g : Nat → Int32) : sl_up (rf_S v w a nm M) 84 (.inl (.int, 6, .inl g)) = rf_S v w (sl_u a 37 g) nm M := rf_up (j := 16) (by decide) rfl rfl
theorem rf_t38 (v : Nat → Int32) (w : Int64) (a : Nat → Nat → Int32) (nm : Nat → Int64) (M : sl_M) (g : Nat → Int32) : sl_up (rf_S v w a nm M) 85 (.inl (.int, 144, .inl g)) = rf_S v w (sl_u a 38 g) nm M := rf_up (j := 17) (by decide) rfl rfl
theorem rf_t39 (v : Nat → Int32) (w : Int64) (a : Nat → Nat → Int32) (nm : Nat → Int64) (M : sl_M) (g : Nat → Int32) : sl_up (rf_S v w a nm M) 86 (.inl (.int, 32, .inl g)) = rf_S v w (sl_u a 39 g) nm M := rf_up (j := 18) (by decide) rfl rfl
theorem rf_t40 (v : Nat → Int32) (w : Int64) (a : Nat → Nat → Int32) (nm : Nat → Int64) (M : sl_M) (g : Nat → Int32) : sl_up (rf_S v w a nm M) 87 (.inl (.int, 32, .inl g)) = rf_S v w (sl_u a 40 g) nm M := rf_up (j := 19) (by decide) rfl rfl
theorem rf_t41 (v : Nat → Int32) (w : Int64) (a : Nat → Nat → Int32) (nm : Nat → Int64) (M : sl_M) (g : Nat → Int32) : sl_up (rf_S v w a nm M) 88 (.inl (.int, 32, .inl g)) = rf_S v w (sl_u a 41 g) nm M := rf_up (j := 20) (by decide) rfl rfl
theorem rf_t42 (v : Nat → Int32) (w : Int64) (a : Nat → Nat → Int32) (nm : Nat → Int64) (M : sl_M) (g : Nat → Int32) : sl_up (rf_S v w a nm M) 89 (.inl (.boolean, 1024, .inl g)) = rf_S v w (sl_u a 42 g) nm M := rf_up (j := 21) (by decide) rfl rfl
theorem rf_t43 (v : Nat → Int32) (w : Int64) (a : Nat → Nat → Int32) (nm : Nat → Int64) (M : sl_M) (g : Nat → Int32) : sl_up (rf_S v w a nm M) 90 (.inl (.boolean, 1024, .inl g)) = rf_S v w (sl_u a 43 g) nm M := rf_up (j := 22) (by decide) rfl rfl
theorem rf_s44 (v : Nat → Int32) (w : Int64) (x : Int32) : (rf_c v w).set 44 (.int x) = rf_c (sl_u v 44 x) w := rfl
theorem rf_t45 (v : Nat → Int32) (w : Int64) (a : Nat → Nat → Int32) (nm : Nat → Int64) (M : sl_M) (g : Nat → Int32) : sl_up (rf_S v w a nm M) 91 (.inl (.int, 33, .inl g)) = rf_S v w (sl_u a 45 g) nm M := rf_up (j := 23) (by decide) rfl rfl
theorem rf_t46 (v : Nat → Int32) (w : Int64) (a : Nat → Nat → Int32) (nm : Nat → Int64) (M : sl_M) (g : Nat → Int32) : sl_up (rf_S v w a nm M) 92 (.inl (.int, 61, .inl g)) = rf_S v w (sl_u a 46 g) nm M := rf_up (j := 24) (by decide) rfl rfl
theorem rf_t47 (v : Nat → Int32) (w : Int64) (a : Nat → Nat → Int32) (nm : Nat → Int64) (M : sl_M) (g : Nat → Int32) : sl_up (rf_S v w a nm M) 93 (.inl (.int, 61, .inl g)) = rf_S v w (sl_u a 47 g) nm M := rf_up (j := 25) (by decide) rfl rfl
theorem rf_t48 (v : Nat → Int32) (w : Int64) (a : Nat → Nat → Int32) (nm : Nat → Int64) (M : sl_M) (g : Nat → Int32) : sl_up (rf_S v w a nm M) 94 (.inl (.int, 61, .inl g)) = rf_S v w (sl_u a 48 g) nm M := rf_up (j := 26) (by decide) rfl rfl
theorem rf_t49 (v : Nat → Int32) (w : Int64) (a : Nat → Nat → Int32) (nm : Nat → Int64) (M : sl_M) (g : Nat → Int32) : sl_up (rf_S v w a nm M) 95 (.inl (.boolean, 61, .inl g)) = rf_S v w (sl_u a 49 g) nm M := rf_up (j := 27) (by decide) rfl rfl
theorem rf_s50 (v : Nat → Int32) (w : Int64) (x : Int32) : (rf_c v w).set 50 (.int x) = rf_c (sl_u v 50 x) w := rfl
theorem rf_s51 (v : Nat → Int32) (w : Int64) (x : Int32) : (rf_c v w).set 51 (.int x) = rf_c (sl_u v 51 x) w := rfl
theorem rf_s52 (v : Nat → Int32) (w : Int64) (x : Int32) : (rf_c v w).set 52 (.int x) = rf_c (sl_u v 52 x) w := rfl
theorem rf_s53 (v : Nat → Int32) (w : Int64) (x : Int32) : (rf_c v w).set 53 (.int x) = rf_c (sl_u v 53 x) w := rfl
theorem rf_t54 (v : Nat → Int32) (w : Int64) (a : Nat → Nat → Int32) (nm : Nat → Int64) (M : sl_M) (g : Nat → Int32) : sl_up (rf_S v w a nm M) 96 (.inl (.int, 16, .inl g)) = rf_S v w (sl_u a 54 g) nm M := rf_up (j := 28) (by decide) rfl rfl
theorem rf_t55 (v : Nat → Int32) (w : Int64) (a : Nat → Nat → Int32) (nm : Nat → Int64) (M : sl_M) (g : Nat → Int32) : sl_up (rf_S v w a nm M) 97 (.inl (.int, 16, .inl g)) = rf_S v w (sl_u a 55 g) nm M := rf_up (j := 29) (by decide) rfl rfl
theorem rf_t56 (v : Nat → Int32) (w : Int64) (a : Nat → Nat → Int32) (nm : Nat → Int64) (M : sl_M) (g : Nat → Int32) : sl_up (rf_S v w a nm M) 98 (.inl (.int, 16, .inl g)) = rf_S v w (sl_u a 56 g) nm M := rf_up (j := 30) (by decide) rfl rfl
theorem rf_t57 (v : Nat → Int32) (w : Int64) (a : Nat → Nat → Int32) (nm : Nat → Int64) (M : sl_M) (g : Nat → Int32) : sl_up (rf_S v w a nm M) 99 (.inl (.int, 122, .inl g)) = rf_S v w (sl_u a 57 g) nm M := rf_up (j := 31) (by decide) rfl rfl
theorem rf_t58 (v : Nat → Int32) (w : Int64) (a : Nat → Nat → Int32) (nm : Nat → Int64) (M : sl_M) (g : Nat → Int32) : sl_up (rf_S v w a nm M) 100 (.inl (.boolean, 16, .inl g)) = rf_S v w (sl_u a 58 g) nm M := rf_up (j := 32) (by decide) rfl rfl
theorem rf_t59 (v : Nat → Int32) (w : Int64) (a : Nat → Nat → Int32) (nm : Nat → Int64) (M : sl_M) (g : Nat → Int32) : sl_up (rf_S v w a nm M) 101 (.inl (.boolean, 16, .inl g)) = rf_S v w (sl_u a 59 g) nm M := rf_up (j := 33) (by decide) rfl rfl
theorem rf_t60 (v : Nat → Int32) (w : Int64) (a : Nat → Nat → Int32) (nm : Nat → Int64) (M : sl_M) (g : Nat → Int32) : sl_up (rf_S v w a nm M) 102 (.inl (.boolean, 16, .inl g)) = rf_S v w (sl_u a 60 g) nm M := rf_up (j := 34) (by decide) rfl rfl
theorem rf_s61 (v : Nat → Int32) (w : Int64) (x : Int32) : (rf_c v w).set 61 (.int x) = rf_c (sl_u v 61 x) w := rfl
theorem rf_s62 (v : Nat → Int32) (w : Int64) (x : Int32) : (rf_c v w).set 62 (.int x) = rf_c (sl_u v 62 x) w := rfl
theorem rf_s63 (v : Nat → Int32) (w : Int64) (x : Int32) : (rf_c v w).set 63 (.int x) = rf_c (sl_u v 63 x) w := rfl
theorem rf_s64 (v : Nat → Int32) (w : Int64) (x : Int32) : (rf_c v w).set 64 (.int x) = rf_c (sl_u v 64 x) w := rfl
theorem rf_s65 (v : Nat → Int32) (w : Int64) (x : Int32) : (rf_c v w).set 65 (.int x) = rf_c (sl_u v 65 x) w := rfl
theorem rf_s66 (v : Nat → Int32) (w : Int64) (x : Int32) : (rf_c v w).set 66 (.int x) = rf_c (sl_u v 66 x) w := rfl
theorem rf_t67 (v : Nat → Int32) (w : Int64) (a : Nat → Nat → Int32) (nm : Nat → Int64) (M : sl_M) (g : Nat → Int32) : sl_up (rf_S v w a nm M) 103 (.inl (.int, 33, .inl g)) = rf_S v w (sl_u a 67 g) nm M := rf_up (j := 35) (by decide) rfl rfl
theorem rf_t68 (v : Nat → Int32) (w : Int64) (a : Nat → Nat → Int32) (nm : Nat → Int64) (M : sl_M) (g : Nat → Int32) : sl_up (rf_S v w a nm M) 104 (.inl (.int, 17, .inl g)) = rf_S v w (sl_u a 68 g) nm M := rf_up (j := 36) (by decide) rfl rfl
theorem rf_t69 (v : Nat → Int32) (w : Int64) (a : Nat → Nat → Int32) (nm : Nat → Int64) (M : sl_M) (g : Nat → Int32) : sl_up (rf_S v w a nm M) 105 (.inl (.int, 17, .inl g)) = rf_S v w (sl_u a 69 g) nm M := rf_up (j := 37) (by decide) rfl rfl
theorem rf_t70 (v : Nat → Int32) (w : Int64) (a : Nat → Nat → Int32) (nm : Nat → Int64) (M : sl_M) (g : Nat → Int32) : sl_up (rf_S v w a nm M) 106 (.inl (.int, 16, .inl g)) = rf_S v w (sl_u a 70 g) nm M := rf_up (j := 38) (by decide) rfl rfl
theorem rf_t71 (v : Nat → Int32) (w : Int64) (a : Nat → Nat → Int32) (nm : Nat → Int64) (M : sl_M) (g : Nat → Int32) : sl_up (rf_S v w a nm M) 107 (.inl (.int, 122, .inl g)) = rf_S v w (sl_u a 71 g) nm M := rf_up (j := 39) (by decide) rfl rfl
theorem rf_t72 (v : Nat → Int32) (w : Int64) (a : Nat → Nat → Int32) (nm : Nat → Int64) (M : sl_M) (g : Nat → Int32) : sl_up (rf_S v w a nm M) 108 (.inl (.int, 122, .inl g)) = rf_S v w (sl_u a 72 g) nm M := rf_up (j := 40) (by decide) rfl rfl
theorem rf_t73 (v : Nat → Int32) (w : Int64) (a : Nat → Nat → Int32) (nm : Nat → Int64) (M : sl_M) (g : Nat → Int32) : sl_up (rf_S v w a nm M) 109 (.inl (.int, 122, .inl g)) = rf_S v w (sl_u a 73 g) nm M := rf_up (j := 41) (by decide) rfl rfl
theorem rf_t74 (v : Nat → Int32) (w : Int64) (a : Nat → Nat → Int32) (nm : Nat → Int64) (M : sl_M) (g : Nat → Int32) : sl_up (rf_S v w a nm M) 110 (.inl (.int, 122, .inl g)) = rf_S v w (sl_u a 74 g) nm M := rf_up (j := 42) (by decide) rfl rfl
theorem rf_t75 (v : Nat → Int32) (w : Int64) (a : Nat → Nat → Int32) (nm : Nat → Int64) (M : sl_M) (g : Nat → Int32) : sl_up (rf_S v w a nm M) 111 (.inl (.boolean, 122, .inl g)) = rf_S v w (sl_u a 75 g) nm M := rf_up (j := 43) (by decide) rfl rfl
theorem rf_t76 (v : Nat → Int32) (w : Int64) (a : Nat → Nat → Int32) (nm : Nat → Int64) (M : sl_M) (g : Nat → Int32) : sl_up (rf_S v w a nm M) 112 (.inl (.boolean, 17, .inl g)) = rf_S v w (sl_u a 76 g) nm M := rf_up (j := 44) (by decide) rfl rfl
theorem rf_s77 (v : Nat → Int32) (w : Int64) (x : Int32) : (rf_c v w).set 77 (.int x) = rf_c (sl_u v 77 x) w := rfl
theorem rf_s78 (v : Nat → Int32) (w : Int64) (x : Int32) : (rf_c v w).set 78 (.int x) = rf_c (sl_u v 78 x) w := rfl
theorem rf_s79 (v : Nat → Int32) (w : Int64) (x : Int32) : (rf_c v w).set 79 (.int x) = rf_c (sl_u v 79 x) w := rfl
theorem rf_s80 (v : Nat → Int32) (w : Int64) (x : Int32) : (rf_c v w).set 80 (.int x) = rf_c (sl_u v 80 x) w := rfl
theorem rf_ne {α : Type} {f : Nat → α} {k j : Nat} {x c : α} (h : j ≠ k) (e : f j = c) : sl_u f k x j = c := (sl_u_ne h).trans e
theorem rf_fr {α : Type} {f f' : Nat → α} {l : List Nat} {j : Nat} {c : α} (hf : ∀ k, k ∉ l → f' k = f k) (h : j ∉ l) (e : f j = c) : f' j = c := (hf j h).trans e
section RFR
variable {Y : sl_Y} {X : Option (Nat × (Nat → Int32))} {d kc ks : Nat} {Q : Option Value → sl_M → Prop} {pc q : Nat} {lv : List (Option Value)} {st : List Value} {M : sl_M} {v : Nat → Int32} {w : Int64} {a : Nat → Nat → Int32} {nm : Nat → Int64}
theorem slr_gi {idx k : Nat} {ty : FieldType} {fin : Bool} {x : Int32} (h : sl_D Y pc (.getfield idx) 3 q) (f : sl_FL Y.1.cls idx 11 k ty fin) (hk : (rf_c v w)[k]? = some (.int (v k))) (hx : v k = x) (kk : sl_V Y X d kc ks Q q lv (.int x :: st) (rf_S v w a nm M)) : sl_V Y X d kc ks Q pc lv (.ref 68 :: st) (rf_S v w a nm M) := by
  subst hx
  exact slv_getf h f rf_68 hk kk
theorem slr_ga {idx k p : Nat} {ty : FieldType} {fin : Bool} (h : sl_D Y pc (.getfield idx) 3 q) (f : sl_FL Y.1.cls idx 11 k ty fin) (hk : (rf_c v w)[k]? = some (.ref p)) (kk : sl_V Y X d kc ks Q q lv (.ref p :: st) (rf_S v w a nm M)) : sl_V Y X d kc ks Q pc lv (.ref 68 :: st) (rf_S v w a nm M) := slv_getf h f rf_68 hk kk
theorem slr_gw {idx : Nat} {ty : FieldType} {fin : Bool} {x : Int64} (h : sl_D Y pc (.getfield idx) 3 q) (f : sl_FL Y.1.cls idx 11 35 ty fin) (hx : w = x) (kk : sl_V Y X d kc ks Q q lv (.long x :: st) (rf_S v w a nm M)) : sl_V Y X d kc ks Q pc lv (.ref 68 :: st) (rf_S v w a nm M) := by
  subst hx
  exact slv_getf h f rf_68 rfl kk
theorem slr_pi {idx k : Nat} {x : Int32} (h : sl_D Y pc (.putfield idx) 3 q) (f : sl_FL Y.1.cls idx 11 k .int false) (hk : k < 81) (hs : ∀ (v : Nat → Int32) (w : Int64) (x : Int32), (rf_c v w).set k (.int x) = rf_c (sl_u v k x) w) (kk : sl_V Y X d kc ks Q q lv st (rf_S (sl_u v k x) w a nm M)) : sl_V Y X d kc ks Q pc lv (.int x :: .ref 68 :: st) (rf_S v w a nm M) :=
  slv_putf h f rf_68 hk rfl rfl (hs v w x) (by rw [rf_u68]; exact kk)
theorem slr_pz {idx k : Nat} {x : Int32} (h : sl_D Y pc (.putfield idx) 3 q) (f : sl_FL Y.1.cls idx 11 k .boolean false) (hk : k < 81) (hn : narrow .boolean (.int x) = .int x) (hfit : fits .boolean (.int x) = true) (hs : ∀ (v : Nat → Int32) (w : Int64) (x : Int32), (rf_c v w).set k (.int x) = rf_c (sl_u v k x) w) (kk : sl_V Y X d kc ks Q q lv st (rf_S (sl_u v k x) w a nm M)) : sl_V Y X d kc ks Q pc lv (.int x :: .ref 68 :: st) (rf_S v w a nm M) :=
  slv_putf h f rf_68 hk hn hfit (hs v w x) (by rw [rf_u68]; exact kk)
theorem slr_pw {idx : Nat} {x : Int64} (h : sl_D Y pc (.putfield idx) 3 q) (f : sl_FL Y.1.cls idx 11 35 .long false) (kk : sl_V Y X d kc ks Q q lv st (rf_S v x a nm M)) : sl_V Y X d kc ks Q pc lv (.long x :: .ref 68 :: st) (rf_S v w a nm M) :=
  slv_putf h f rf_68 (show 35 < 81 by decide) rfl rfl (rf_s35 v w x) (by rw [rf_u68]; exact kk)
theorem slr_ialdX {p len k i : Nat} {f : Nat → Int32} {x : Int32} (h : sl_D Y pc .iaload 1 q) (hM : rf_S v w a nm M p = .inl (.int, len, .inl (a k))) (hf : a k = f) (hi : i < len) (hl : len < 2147483648) (hx : f i = x) (kk : sl_V Y X d kc ks Q q lv (.int x :: st) (rf_S v w a nm M)) : sl_V Y X d kc ks Q pc lv (.int (nI i) :: .ref p :: st) (rf_S v w a nm M) := by
  subst hf hx
  exact slv_ialdN h hM hi hl kk
theorem slr_baldX {p len k i : Nat} {f : Nat → Int32} {x : Int32} (h : sl_D Y pc .baload 1 q) (hM : rf_S v w a nm M p = .inl (.byte, len, .inl (a k))) (hf : a k = f) (hi : i < len) (hl : len < 2147483648) (hx : f i = x) (kk : sl_V Y X d kc ks Q q lv (.int x :: st) (rf_S v w a nm M)) : sl_V Y X d kc ks Q pc lv (.int (nI i) :: .ref p :: st) (rf_S v w a nm M) := by
  subst hf hx
  exact slv_baldN h hM hi hl kk
theorem slr_zaldX {p len k i : Nat} {f : Nat → Int32} {x : Int32} (h : sl_D Y pc .baload 1 q) (hM : rf_S v w a nm M p = .inl (.boolean, len, .inl (a k))) (hf : a k = f) (hi : i < len) (hl : len < 2147483648) (hx : f i = x) (kk : sl_V Y X d kc ks Q q lv (.int x :: st) (rf_S v w a nm M)) : sl_V Y X d kc ks Q pc lv (.int (nI i) :: .ref p :: st) (rf_S v w a nm M) := by
  subst hf hx
  exact slv_zaldN h hM hi hl kk
theorem slr_laldX {i : Nat} {x : Int64} (h : sl_D Y pc .laload 1 q) (hi : i < 6) (hx : nm i = x) (kk : sl_V Y X d kc ks Q q lv (.long x :: st) (rf_S v w a nm M)) : sl_V Y X d kc ks Q pc lv (.int (nI i) :: .ref 79 :: st) (rf_S v w a nm M) := by
  subst hx
  exact slv_laldN h (show rf_S v w a nm M 79 = .inl (.long, 6, .inr (.inl nm)) from rfl) hi (by decide) kk
theorem slr_lastX {i : Nat} {x : Int64} (h : sl_D Y pc .lastore 1 q) (hi : i < 6) (kk : sl_V Y X d kc ks Q q lv st (rf_S v w a (sl_u nm i x) M)) : sl_V Y X d kc ks Q pc lv (.long x :: .int (nI i) :: .ref 79 :: st) (rf_S v w a nm M) :=
  slv_lastI h (show rf_S v w a nm M 79 = .inl (.long, 6, .inr (.inl nm)) from rfl) hi (by decide) (by rw [rf_t13]; exact kk)
theorem slr_iastX {p len k i : Nat} {f : Nat → Int32} {x : Int32} (h : sl_D Y pc .iastore 1 q) (hM : rf_S v w a nm M p = .inl (.int, len, .inl (a k))) (hf : a k = f) (hi : i < len) (hl : len < 2147483648) (ht : ∀ g : Nat → Int32, sl_up (rf_S v w a nm M) p (.inl (.int, len, .inl g)) = rf_S v w (sl_u a k g) nm M) (kk : sl_V Y X d kc ks Q q lv st (rf_S v w (sl_u a k (sl_u f i x)) nm M)) : sl_V Y X d kc ks Q pc lv (.int x :: .int (nI i) :: .ref p :: st) (rf_S v w a nm M) := by
  subst hf
  exact slv_iastI h hM hi hl (by rw [ht]; exact kk)
theorem slr_bastX {p len k i : Nat} {f : Nat → Int32} {x : Int32} (h : sl_D Y pc .bastore 1 q) (hM : rf_S v w a nm M p = .inl (.byte, len, .inl (a k))) (hf : a k = f) (hi : i < len) (hl : len < 2147483648) (ht : ∀ g : Nat → Int32, sl_up (rf_S v w a nm M) p (.inl (.byte, len, .inl g)) = rf_S v w (sl_u a k g) nm M) (kk : sl_V Y X d kc ks Q q lv st (rf_S v w (sl_u a k (sl_u f i (vp_nar .byte x))) nm M)) : sl_V Y X d kc ks Q pc lv (.int x :: .int (nI i) :: .ref p :: st) (rf_S v w a nm M) := by
  subst hf
  exact slv_bastI h hM hi hl (by rw [ht]; exact kk)
theorem slr_zastX {p len k i : Nat} {f : Nat → Int32} {x y : Int32} (h : sl_D Y pc .bastore 1 q) (hM : rf_S v w a nm M p = .inl (.boolean, len, .inl (a k))) (hf : a k = f) (hi : i < len) (hl : len < 2147483648) (hn : vp_nar .boolean x = y) (ht : ∀ g : Nat → Int32, sl_up (rf_S v w a nm M) p (.inl (.boolean, len, .inl g)) = rf_S v w (sl_u a k g) nm M) (kk : sl_V Y X d kc ks Q q lv st (rf_S v w (sl_u a k (sl_u f i y)) nm M)) : sl_V Y X d kc ks Q pc lv (.int x :: .int (nI i) :: .ref p :: st) (rf_S v w a nm M) := by
  subst hf hn
  exact slv_zast h hM (vp_in_nI hi (by omega)) (by rw [nI_clamp (by omega), sl_upd_I, ht]; exact kk)
theorem sl_nar_bi (b : Bool) : vp_nar .boolean (sl_bi b) = sl_bi b := by cases b <;> rfl
end RFR

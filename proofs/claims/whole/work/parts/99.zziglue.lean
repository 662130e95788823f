/-! the start of the law: texts, statics, nest links -/
def gl_tm : Nat → Term
  | 0 => .string "SignLadders$GrammarReader" 70
  | 1 => .string "SignLadders$GrammarReader" 115
  | 2 => .string "SignLadders$GrammarReader" 121
  | 3 => .string "SignLadders$GrammarReader" 126
  | 4 => .string "SignLadders$GrammarReader" 131
  | 5 => .string "SignLadders$GrammarReader" 133
  | 6 => .string "SignLadders$GrammarReader" 135
  | 7 => .string "SignLadders$GrammarReader" 137
  | 8 => .string "SignLadders$GrammarReader" 139
  | 9 => .string "SignLadders$GrammarReader" 208
  | 10 => .string "SignLadders$GrammarReader" 210
  | 11 => .string "SignLadders$GrammarReader" 212
  | 12 => .string "SignLadders$GrammarReader" 214
  | 13 => .string "SignLadders$GrammarReader" 216
  | 14 => .string "SignLadders$GrammarReader" 218
  | _ => .string "SignLadders" 315
def gl_giv : Cond := Jvm.Cond.and given_1 narrow_1
theorem gl_e1 : ∀ i, i < 16 → Cond.exactly (gl_tm i) "java/lang/String" ∈ flatC gl_giv := by decide +kernel
theorem gl_e2 : ∀ i, i < 16 → Cond.eq (.field (gl_tm i) "java/lang/String" "coder" "B") (.int 0) ∈ flatC gl_giv := by decide +kernel
theorem gl_e3 : ∀ i, i < 16 → Cond.arrayOf (.field (gl_tm i) "java/lang/String" "value" "[B") .byte ∈ flatC gl_giv := by decide +kernel
theorem gl_e4 : ∀ i, i < 16 → Cond.eq (.length (.field (gl_tm i) "java/lang/String" "value" "[B")) (.int (Int32.ofNat (sl_sL.getD i 0))) ∈ flatC gl_giv := by decide +kernel
theorem gl_e5 : ∀ i, i < 16 → ∀ j, j < sl_sL.getD i 0 → Cond.eq (.elem (.field (gl_tm i) "java/lang/String" "value" "[B") (.int (Int32.ofNat j))) (.int ((sl_sB.getD i []).getD j 0)) ∈ flatC gl_giv := by decide +kernel
theorem gl_e6 : ∀ q ∈ sl_lits, gl_tm q.2.2.2 = .string q.1 q.2.1 ∨ Cond.eq (gl_tm q.2.2.2) (.string q.1 q.2.1) ∈ flatC gl_giv := by decide +kernel
theorem gl_e7 : ∀ q ∈ sl_lits, q.2.2.2 < 16 ∧ Cond.stringRef q.1 q.2.1 q.2.2.1 ∈ lw_tbl := by decide +kernel
theorem gl_e8 : ∀ q ∈ sl_nest, Cond.methodLinkNest q.1 q.2.1 q.2.2.1 q.2.2.2 ∈ lw_tbl := by decide +kernel
theorem gl_e9 : ∀ i, i < 16 → ∀ j, j < 16 → Int32.ofNat (sl_sL.getD i 0) = Int32.ofNat (sl_sL.getD j 0) → (∀ k, k < sl_sL.getD i 0 → k < sl_sL.getD j 0 → (sl_sB.getD i []).getD k 0 = (sl_sB.getD j []).getD k 0) → i = j := by decide +kernel
theorem gl_e10 : ∀ i, i < 16 → sl_sL.getD i 0 < 2 ^ 31 := by decide +kernel
theorem gl_one {args : Array Value} {s : State} {A : Nat → Prop} (hg : gl_giv.before args s = true) (hA : ∀ a : Nat, a < s.heap.size → ¬ A a) (i : Nat) (hi : i < 16) : ∃ q : Nat × Nat, (gl_tm i).eval args s none [] s = some (.ref q.1) ∧ va_O "java/lang/String" q.1 A s s.heap ∧ va_OF "java/lang/String" "coder" "B" (.int 0) q.1 A s s.heap ∧ va_OF "java/lang/String" "value" "[B" (.ref q.2) q.1 A s s.heap ∧ va_T .byte q.2 (sl_sL.getD i 0) (fun j => .int ((sl_sB.getD i []).getD j 0)) A s s.heap := by
  have hf := flat_of_before _ hg
  obtain ⟨k, v, h1, h2⟩ := vk_Sof (args := args) (s := s) (N := 1) (tm := fun _ => gl_tm i) (len := [sl_sL.getD i 0]) (byt := [sl_sB.getD i []]) (A := A)
    (fun j hj => by obtain rfl : j = 0 := by omega
                    exact gl_e10 i hi)
    (fun j hj => hf _ (gl_e1 i hi)) (fun j hj => hf _ (gl_e2 i hi)) (fun j hj => hf _ (gl_e3 i hi))
    (fun j hj => by obtain rfl : j = 0 := by omega
                    exact hf _ (gl_e4 i hi))
    (fun j hj k hk => by obtain rfl : j = 0 := by omega
                         exact hf _ (gl_e5 i hi k hk))
    (fun a b ha hb hne => absurd (show a = b by omega) hne) hA
  exact ⟨(k 0, v 0), h2 0 Nat.one_pos, h1.1 0 Nat.one_pos⟩
theorem gl_OFu {o n d : String} {v w : Value} {t : Nat} {A : Nat → Prop} {U : State} {H : Heap} (h : va_OF o n d v t A U H) (g : va_OF o n d w t A U H) : v = w := by
  obtain ⟨cf, k, i, f, cell, a1, -, a3, -, a5, -⟩ := h
  obtain ⟨cf', k', i', f', cell', b1, -, b3, -, b5, -⟩ := g
  cases a1.symm.trans b1
  cases a3.symm.trans b3
  exact Option.some.inj (a5.symm.trans b5)
theorem gl_str {args : Array Value} {s : State} {b : Nat} (hts : ∀ w ∈ lw_tbl, w.before args s = true) (hg : gl_giv.before args s = true) : ∃ ad : Nat → Nat, ad (sl_X + 500) = b ∧ sl_str ad (fun q => s.heap.size ≤ q) s := by
  have hA : ∀ a : Nat, a < s.heap.size → ¬ s.heap.size ≤ a := fun a h1 h2 => by omega
  have hf := flat_of_before _ hg
  have h0 : ∀ i : Nat, ∃ q : Nat × Nat, i < 16 → (gl_tm i).eval args s none [] s = some (.ref q.1) ∧ va_O "java/lang/String" q.1 (fun q => s.heap.size ≤ q) s s.heap ∧ va_OF "java/lang/String" "coder" "B" (.int 0) q.1 (fun q => s.heap.size ≤ q) s s.heap ∧ va_OF "java/lang/String" "value" "[B" (.ref q.2) q.1 (fun q => s.heap.size ≤ q) s s.heap ∧ va_T .byte q.2 (sl_sL.getD i 0) (fun j => .int ((sl_sB.getD i []).getD j 0)) (fun q => s.heap.size ≤ q) s s.heap := by
    intro i
    by_cases hi : i < 16
    · obtain ⟨q, hq⟩ := gl_one hg hA i hi
      exact ⟨q, fun _ => hq⟩
    · exact ⟨(0, 0), fun h => absurd h hi⟩
  obtain ⟨f, hf1⟩ := Classical.axiomOfChoice h0
  refine ⟨fun k => if k = sl_X + 500 then b else if (k - sl_X) % 2 = 0 then (f ((k - sl_X) / 2)).1 else (f ((k - sl_X) / 2)).2, if_pos rfl, ?_⟩
  have e1 : ∀ j : Nat, j < 16 → (if sl_X + 2 * j = sl_X + 500 then b else if (sl_X + 2 * j - sl_X) % 2 = 0 then (f ((sl_X + 2 * j - sl_X) / 2)).1 else (f ((sl_X + 2 * j - sl_X) / 2)).2) = (f j).1 := by
    intro j hj
    rw [if_neg (by omega), if_pos (by omega), show (sl_X + 2 * j - sl_X) / 2 = j by omega]
  have e2 : ∀ j : Nat, j < 16 → (if sl_X + 2 * j + 1 = sl_X + 500 then b else if (sl_X + 2 * j + 1 - sl_X) % 2 = 0 then (f ((sl_X + 2 * j + 1 - sl_X) / 2)).1 else (f ((sl_X + 2 * j + 1 - sl_X) / 2)).2) = (f j).2 := by
    intro j hj
    rw [if_neg (by omega), if_neg (by omega), show (sl_X + 2 * j + 1 - sl_X) / 2 = j by omega]
  refine ⟨⟨fun i hi => ?_, fun i j hi hj he => ?_⟩, fun q hq => ?_, ?_, ?_, fun q hq => va_Nw.of rfl (hts _ (gl_e8 q hq)), ⟨va_Nw.of rfl (hts _ (by decide +kernel)), va_Nw.of rfl (hts _ (by decide +kernel)), va_Nw.of rfl (hts _ (by decide +kernel)), va_Nw.of rfl (hts _ (by decide +kernel))⟩, vx_Zqof (hts _ (by decide +kernel)) (hts _ (by decide +kernel)) (hf _ (by decide +kernel)) hA, vx_Zqof (hts _ (by decide +kernel)) (hts _ (by decide +kernel)) (hf _ (by decide +kernel)) hA⟩
  · show va_O _ (if _ then _ else _) _ _ _ ∧ va_OF _ _ _ _ (if _ then _ else _) _ _ _ ∧ va_OF _ _ _ (.ref (if _ then _ else _)) (if _ then _ else _) _ _ _ ∧ va_T _ (if _ then _ else _) _ _ _ _ _
    rw [e1 i hi, e2 i hi]
    exact (hf1 i hi).2
  · have he' : (f i).1 = (f j).1 := by
      rw [← e1 i hi, ← e1 j hj]
      exact he
    obtain ⟨-, -, -, a4, a5⟩ := hf1 i hi
    obtain ⟨-, -, -, b4, b5⟩ := hf1 j hj
    rw [← he'] at b4
    have e4 : (f i).2 = (f j).2 := Value.ref.inj (gl_OFu a4 b4)
    rw [← e4] at b5
    obtain ⟨c1, p1, -, -, -, p5, p6, -⟩ := a5
    obtain ⟨c2, q1, -, -, -, q5, q6, -⟩ := b5
    cases p1.symm.trans q1
    exact gl_e9 i hi j hj (p5.symm.trans q5) (fun k h1 h2 => Value.int.inj (Option.some.inj ((p6 k h1).symm.trans (q6 k h2))))
  · show vk_R _ _ _ (if _ then _ else _) _
    obtain ⟨h1, h2⟩ := gl_e7 q hq
    rw [e1 _ h1]
    refine vk_R.of (hts _ h2) ?_
    rcases gl_e6 q hq with g | g
    · rw [← g]
      exact (hf1 _ h1).1
    · exact va_eqR (hf _ g) (hf1 _ h1).1
  · exact va_Zof (hts _ (by decide +kernel)) (hts _ (by decide +kernel)) (va_eqi (hf _ (by decide +kernel))) hA
  · exact va_Zqof (hts _ (by decide +kernel)) (hts _ (by decide +kernel)) (hf _ (by decide +kernel)) hA

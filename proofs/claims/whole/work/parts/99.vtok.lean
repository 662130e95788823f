/-! the tokens: signs in range, reals canonical -/
def tkP (q : fs_T) : Prop := ∀ j, j < q.2.1 → q.2.2.2.1 j < 256 ∧ (q.2.2.2.1 j = 0 → q.2.2.2.2.2.1 j = true → fl_b (q.2.2.2.2.2.2 j).toUInt32 = q.2.2.2.2.2.2 j)
theorem fs_add_P {x : Nat} {r : Bool} {o : Int32} {be : Nat} {bd : Option Nat} {cn at_ : Nat} {sg pl : Nat → Nat} {rl : Nat → Bool} {bt : Nat → Int32} (h : tkP (bd, cn, at_, sg, pl, rl, bt)) (hx : x < 256) (ho : r = true → fl_b o.toUInt32 = o) : tkP (fs_add x r o be bd cn at_ sg pl rl bt) := by
  unfold fs_add
  split
  · exact h
  · intro j hj
    have hj' : j < cn + 1 := hj
    show sl_u sg cn x j < 256 ∧ (sl_u sg cn x j = 0 → sl_u rl cn r j = true → fl_b (sl_u bt cn o j).toUInt32 = sl_u bt cn o j)
    by_cases e : j = cn
    · rw [e, sl_u_eq, sl_u_eq, sl_u_eq]
      exact ⟨hx, fun _ => ho⟩
    · rw [sl_u_ne e, sl_u_ne e, sl_u_ne e]
      exact h j (by show j < cn; omega)
theorem fs_nx_P {f : Nat → Int32} {ln : Nat} {bd : Option Nat} {cn at_ : Nat} {sg pl : Nat → Nat} {rl : Nat → Bool} {bt : Nat → Int32} (h : tkP (bd, cn, at_, sg, pl, rl, bt)) : tkP (fs_nx f ln bd cn at_ sg pl rl bt) := by
  unfold fs_nx
  split
  · exact h
  · cases fm_dg f ln at_ with
    | true =>
      show tkP (fs_op f ln bd cn at_ sg pl rl bt)
      unfold fs_op
      cases fo_bad f ln at_ with
      | true => exact h
      | false =>
        refine fs_add_P h (by omega) (fun q => ?_)
        unfold fo_v
        rw [q, cond_true, ← fl_div]
        exact fl_b_b _
    | false =>
      cases st_sg (by_ f at_) with
      | true => exact fs_add_P h (by_lt f at_) (fun q => by cases q)
      | false => exact h
theorem fs_all_P {f : Nat → Int32} {ln : Nat} : ∀ (n : Nat) (q : fs_T), tkP q → tkP (fs_all f ln n q) := by
  intro n
  induction n with
  | zero => intro q h; exact h
  | succ n ih =>
    intro q h
    have e : fs_all f ln (n + 1) q = cond (decide (q.2.2.1 < ln) && q.1.isNone) (fs_all f ln n (fs_nx f ln q.1 q.2.1 q.2.2.1 q.2.2.2.1 q.2.2.2.2.1 q.2.2.2.2.2.1 q.2.2.2.2.2.2)) q := rfl
    rw [e]
    cases (decide (q.2.2.1 < ln) && q.1.isNone) with
    | false => exact h
    | true => exact ih _ (fs_nx_P h)
theorem fs_all_ok {f : Nat → Int32} {ln : Nat} (hl : ln ≤ 900) : ∀ (n : Nat) (q : fs_T), q.2.1 ≤ 60 → q.2.2.1 ≤ 900 → (∀ k, q.1 = some k → k < 900) → (fs_all f ln n q).2.1 ≤ 60 ∧ (fs_all f ln n q).2.2.1 ≤ 900 ∧ ∀ k, (fs_all f ln n q).1 = some k → k < 900 := by
  intro n
  induction n with
  | zero => intro q h1 h2 h3; exact ⟨h1, h2, h3⟩
  | succ n ih =>
    intro q h1 h2 h3
    have e : fs_all f ln (n + 1) q = cond (decide (q.2.2.1 < ln) && q.1.isNone) (fs_all f ln n (fs_nx f ln q.1 q.2.1 q.2.2.1 q.2.2.2.1 q.2.2.2.2.1 q.2.2.2.2.2.1 q.2.2.2.2.2.2)) q := rfl
    rw [e]
    cases hc : (decide (q.2.2.1 < ln) && q.1.isNone) with
    | false => exact ⟨h1, h2, h3⟩
    | true =>
      rw [Bool.and_eq_true] at hc
      have z := fs_nx_ok (f := f) hl (bd := q.1) (cn := q.2.1) (at_ := q.2.2.1) (sg := q.2.2.2.1) (pl := q.2.2.2.2.1) (rl := q.2.2.2.2.2.1) (bt := q.2.2.2.2.2.2) h1 (of_decide_eq_true hc.1) h3
      exact ih _ z.1 z.2.1 z.2.2
/-- what a told formula is read by: grammar, length, tokens, relations, numbers, how -/
def rxE (g : sg_T) (ln : Nat) (q : fs_T) (o : Nat → Nat → Int32) : rx_T := (g, (if q.1 = none then q.2.1 else 0, ln, q.2.2.2.1, q.2.2.2.2.1, q.2.2.2.2.2.1, q.2.2.2.2.2.2), o)
theorem rxE_ok {g : sg_T} {ln : Nat} {q : fs_T} {o : Nat → Nat → Int32} (hok : sg_ok g) (hs : sg_str g) (hc : q.2.1 ≤ 60) (hP : tkP q) (hro : ro_g (sg_terms g) o) : rdE (rxE g ln q o) := by
  refine ⟨hok, hs, ?_, fun j hj => hP j ?_, hro⟩
  · show (if q.1 = none then q.2.1 else 0) ≤ 60
    split <;> omega
  · have hj' : j < (if q.1 = none then q.2.1 else 0) := hj
    split at hj' <;> omega
theorem rxE_t {g : sg_T} {ln : Nat} {q : fs_T} {o : Nat → Nat → Int32} {v : Nat → Int32} {a : Nat → Nat → Int32} (hn : q.1 = none) (h : tkI g q v a) (h1 : a 46 q.2.1 = nI (sg_terms g)) (h2 : a 47 q.2.1 = nI ln) : rtk (rxE g ln q o) a := by
  have e : rx_tc (rxE g ln q o) = q.2.1 := by show (if q.1 = none then q.2.1 else 0) = q.2.1; rw [if_pos hn]
  refine ⟨fun j hj => h.2 j (by rw [e] at hj; exact hj), ?_, ?_⟩
  · rw [e]; exact h1
  · rw [e]; exact h2

/-! THE CLAIM OUT OF ONE WALK OF THE LAW'S BODY. Your part is whole_start (and what it stands on); all else here is the same for every law, but numbers. -/
def R_law : String := "SignLaddersLaw"
def lw_P (b : Addr) (xs : List Int32) (args : Array Value) (s : State) : Prop := args = #[.ref b] ∧ s.IntsAt b xs ∧ xs.length ≤ 3072 ∧ (Jvm.Cond.and given_1 narrow_1).before args s = true
/-- what a walk over the start with the record d0 says of its end, said of the start itself -/
theorem lw_closed {s t : State} {o : Outcome} {d0 : Drawn} {L : List Loc} {k n : Nat} (hd0 : s.drawn.sameBut d0 lw_cs) (hv : ∃ v, o = .returned v) (hW : (s.setDrawn d0).WarmedH t.vm) (hs : (s.setDrawn d0).sameButNew ({ t with vm := s.vm } : State) L k n) : State.butDraws s t lw_cs (fun t1 => Framed s o t1 L k n) := by
  have h2 : t.drawn = d0 := congrArg State.drawn hs.1
  refine ⟨⟨hv, hW, State.sameButNew.setDrawn hs s.drawn⟩, ?_, by decide⟩
  rw [h2]
  exact hd0
def lw_Q (_ : Array Value) (s : State) (o : Outcome) (t : State) : Prop := o = .returned (some (.int 1)) ∧ State.butDraws s t lw_cs (fun t1 => Framed s o t1 [] 601024 7293034)
def lw_Z (below : List Frame) (a : Array Value) (s : State) : State → Prop := fun t => ∃ o, t.status = .running ∧ Ended t below o ∧ lw_Q a s o t
/-- what holds at the law's entry: the machine, the code, the tables' words (any of lw_tbl by 'hts w (by decide +kernel)'), the script of L ints xs at the cell b, what the Statement gives of the start (any of its parts by flat_of_before) -/
def lw_At (p : Program) (s : State) (m : MethodId) (meth : Method) (c : Code) (b L : Nat) (xs : Nat → Int32) : Prop :=
  p.tables.exec = Jvm.exec ∧ c.code = code ∧ meth.sig.returnType = ret ∧ c.maxLocals = 7 ∧ s.vm.findClass R_law = some m.cls ∧ (∀ w ∈ lw_tbl, w.before #[Value.ref b] s = true) ∧ va_X b L xs s s.heap ∧ b < s.heap.size ∧ meth.locks = false ∧ (Jvm.Cond.and given_1 narrow_1).before #[Value.ref b] s = true ∧ meth.name = "law"
theorem gl_start {p : Program} {e : Env} {s : State} {m : MethodId} {below : List Frame} {meth : Method} {c : Code} (l : Launch) (htr : l.stackTraces = false) {b L : Nat} {xs : Nat → Int32} (hV : ∀ Q : Option Value → sl_M → Prop, (∀ M, Q (some (.int (nI 1))) M) → sl_V YL_law (some (L, xs)) 70 601024 7293034 Q 0 [some (.ref (sl_X + 500)), none, none, none, none, none, none] [] (fun _ => sl_no)) (C0 : lw_At p s m meth c b L xs) : W p l e room_1 s m #[Value.ref b] below meth c s.heap [] 0 0 (lw_Z below #[Value.ref b] s) (entryFrame m ([Value.ref b] : List Value).toArray 7) := by
  obtain ⟨hx, hc, hr, hml, hown, hts, hX, hb, hlk, hg, hnm⟩ := C0
  refine W.base ?_
  obtain ⟨D, dA, hK⟩ := gl_K hts
  obtain ⟨ad, had, hstr⟩ := gl_str (b := b) hts hg
  have hl := lv_entry [Value.ref b] (n := 7) (show 1 ≤ 7 by decide)
  rw [lg_entry_eq]
  generalize (lg_sl [Value.ref b] ++ List.replicate (7 - (lg_sl [Value.ref b]).length) Slot.unset).toArray = ls at hl ⊢
  have h := hV (fun r _ => r = some (.int (nI 1))) (fun _ => rfl) p ⟨l, htr⟩ e room_1 s m #[Value.ref b] below meth c s.heap [] 0 0 601024 7293034 D dA ad ad 0 0 (fun q => s.heap.size ≤ q) s.drawn ls
    ⟨⟨hx, hc, hr, hml, hlk, hown, fun w hw => hts w (gl_sub hw), hnm⟩,
     ⟨by decide, by decide, by decide, by decide, by decide, by decide⟩,
     ⟨hK, ?_, ?_, va_S.rf, fun q g => g⟩,
     ⟨Drawn.sameBut.refl _ _, hl.1, hl.2.1, fun i v g => ?_⟩,
     ⟨fun _ _ => rfl, Nat.le_refl 0, by decide, fun _ _ => rfl⟩, ⟨hstr, fun _ => ⟨rfl, rfl⟩, fun L' xs' g => ?_⟩⟩
  · intro T hT X
    obtain ⟨t, a1, d, hd, o, b1, b2, b3, L', b5, b6⟩ := h T hT X
    obtain ⟨⟨r, M1, ad1, n1, ho, hq, -⟩, -⟩ := b3
    subst hq
    refine ⟨t, a1, o, b1, b2, ho, lw_closed hd b5.1 b5.2.1 (State.sameButNew.sift b5.2.2 (fun x hx => Or.inr (b6 x hx)))⟩
  · intro k q hq
    cases hq
  · refine ⟨?_, ?_⟩
    · intro k1 k2 q1 q2 h1
      cases h1
    · intro k q hq
      cases hq
  · match i, g with
    | 0, g =>
      cases g
      show ls[0]? = some (.val (.ref (ad (sl_X + 500))))
      rw [had]
      exact hl.2.2 (0, .ref b) List.mem_cons_self
    | 1, g => cases g
    | 2, g => cases g
    | 3, g => cases g
    | 4, g => cases g
    | 5, g => cases g
    | 6, g => cases g
    | k + 7, g => cases g
  · cases g
    rw [had]
    exact ⟨hX, hb, fun g => by omega⟩

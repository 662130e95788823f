/-! the reference is told a formula -/
/-- what a told formula comes to: refused, or length and how -/
def fq_ask (sn : Bool) (fd : Nat) (s : Nat → Int32) (rn : Nat) (x y : Int32) : Sum Nat (Nat × Nat) := match sl_vr sn y 2 with
  | none => .inl 1
  | some how => match sl_vi x (fd + 1) with
    | none => .inl 2
    | some ln => cond (an_can s rn how) (.inr (ln, how)) (.inl 5)
/-- the formula that the reference was told -/
def ftold (g : sg_T) (ln : Nat) (q : fs_T) (how : Nat) (v : Nat → Int32) (a : Nat → Nat → Int32) : Prop := v 52 = nI how ∧ v 51 = sl_io q.1 ∧ v 50 = nI (if q.1 = none then q.2.1 else 0) ∧ (q.1 = none → rtk (rxE g ln q (fun _ _ => 0)) a)
/-- what answering may change -/
def rqF (v : Nat → Int32) (a : Nat → Nat → Int32) (v' : Nat → Int32) (a' : Nat → Nat → Int32) : Prop := (∀ k, k ∉ [0, 1, 2, 61, 64, 65, 77, 78, 79, 80, 62, 63, 66] → v' k = v k) ∧ ∀ k, k ∉ [67, 68, 76, 69, 58, 55, 59, 70, 71, 72, 73, 74, 75, 57, 54, 56, 60] → a' k = a k
theorem rsF_q {v v1 : Nat → Int32} {a a1 : Nat → Nat → Int32} (h : rsF v a v1 a1) : rqF v a v1 a1 := by
  refine ⟨fun k hk => h.1 k (fun q => hk ?_), h.2⟩
  simp only [List.mem_cons, List.mem_nil_iff, or_false] at q ⊢
  omega
theorem rqF_t {v v1 v2 : Nat → Int32} {a a1 a2 : Nat → Nat → Int32} (h : rqF v a v1 a1) (h2 : rqF v1 a1 v2 a2) : rqF v a v2 a2 := ⟨fun k hk => (h2.1 k hk).trans (h.1 k hk), fun k hk => (h2.2 k hk).trans (h.2 k hk)⟩
theorem rqF_v {v v1 : Nat → Int32} {a : Nat → Nat → Int32} (h : ∀ k, k ∉ [0, 1, 2] → v1 k = v k) : rqF v a v1 a := by
  refine ⟨fun k hk => h k (fun q => hk ?_), fun _ _ => rfl⟩
  simp only [List.mem_cons, List.mem_nil_iff, or_false] at q ⊢
  omega
theorem gd_v (v : Nat → Int32) (n : Nat) : ∀ k, k ∉ [0, 1, 2] → rf_gd v n k = v k := fun k hk => by
  show sl_u (sl_u v 1 (nI n)) 2 (-1) k = v k
  rw [sl_u_ne (fun e => hk (by rw [e]; decide)), sl_u_ne (fun e => hk (by rw [e]; decide))]
theorem rqF_l {v v1 : Nat → Int32} {a a1 : Nat → Nat → Int32} (h : rqF v a v1 a1) {Lv La : List Nat} (h1 : ∀ k, k ∈ Lv → k ∉ [0, 1, 2, 61, 64, 65, 77, 78, 79, 80, 62, 63, 66]) (h2 : ∀ k, k ∈ La → k ∉ [67, 68, 76, 69, 58, 55, 59, 70, 71, 72, 73, 74, 75, 57, 54, 56, 60]) : (∀ k, k ∈ Lv → v1 k = v k) ∧ ∀ k, k ∈ La → a1 k = a k := ⟨fun k hk => h.1 k (h1 k hk), fun k hk => h.2 k (h2 k hk)⟩
theorem ftold_F {g : sg_T} {ln : Nat} {q : fs_T} {how : Nat} {v v1 : Nat → Int32} {a a1 : Nat → Nat → Int32} (h : ftold g ln q how v a) (hF : rqF v a v1 a1) : ftold g ln q how v1 a1 := by
  obtain ⟨f1, f2⟩ := rqF_l (Lv := [52, 51, 50]) (La := [47, 46, 48, 49]) hF (by decide) (by decide)
  exact ⟨(f1 _ (by decide)).trans h.1, (f1 _ (by decide)).trans h.2.1, (f1 _ (by decide)).trans h.2.2.1, fun q => rtk_F (h.2.2.2 q) f2⟩
/-- what a reading stands on -/
def rlaid (g : sg_T) (s : Nat → Int32) (rn : Nat) (rk kn nu : Nat → Nat) (v : Nat → Int32) (a : Nat → Nat → Int32) : Prop := rf_G g v a ∧ a 38 = s ∧ rf_K rn rk kn nu v a ∧ rl_z (sg_terms g) s ∧ ro_g (sg_terms g) (ro_r s)
theorem rlaid_F {g : sg_T} {s : Nat → Int32} {rn : Nat} {rk kn nu : Nat → Nat} {v v' : Nat → Int32} {a a' : Nat → Nat → Int32} (h : rlaid g s rn rk kn nu v a) (hv : ∀ k, k ∈ [14, 15, 16, 22, 23, 44] → v' k = v k) (ha : ∀ k, k ∈ [3, 4, 5, 6, 7, 38, 39, 40, 45] → a' k = a k) : rlaid g s rn rk kn nu v' a' := by
  refine ⟨rf_G_same h.1 (fun k hk => hv k ?_) (fun k hk => ha k ?_), (ha _ (by decide)).trans h.2.1, rf_K_F h.2.2.1 (fun k hk => hv k ?_) (fun k hk => ha k ?_), h.2.2.2⟩
  all_goals
    simp only [List.mem_cons, List.mem_nil_iff, or_false] at hk ⊢
    omega
theorem rlaid_q {g : sg_T} {s : Nat → Int32} {rn : Nat} {rk kn nu : Nat → Nat} {v v' : Nat → Int32} {a a' : Nat → Nat → Int32} (h : rlaid g s rn rk kn nu v a) (hF : rqF v a v' a') : rlaid g s rn rk kn nu v' a' := by
  obtain ⟨f1, f2⟩ := rqF_l (Lv := [14, 15, 16, 22, 23, 44]) (La := [3, 4, 5, 6, 7, 38, 39, 40, 45]) hF (by decide) (by decide)
  exact rlaid_F h f1 f2
theorem ro_g_o {g : sg_T} {s : Nat → Int32} {kn nu : Nat → Nat} (h : ro_g (sg_terms g) (ro_r s)) (how : Nat) : ro_g (sg_terms g) (ro_o s (sg_terms g) nu kn how) := by
  unfold ro_o
  split
  · exact h
  · exact ro_g_f _ _ _
/-- the reading of the formula told -/
def rdS (g : sg_T) (ln : Nat) (q : fs_T) (s : Nat → Int32) (nu kn : Nat → Nat) (how : Nat) (S0 : rd_T) : rd_T := rd_run (rxE g ln q (ro_o s (sg_terms g) nu kn how)) 121 (rd_new (rxE g ln q (ro_o s (sg_terms g) nu kn how)) q.1 S0)
section RFT
variable {v : Nat → Int32} {w : Int64} {a : Nat → Nat → Int32} {nm : Nat → Int64} {M : sl_M} {g : sg_T} {s : Nat → Int32} {rn : Nat} {rk kn nu : Nat → Nat} {q : fs_T} {ln how : Nat} {S0 : rd_T}
/-- read by the other way too -/
theorem rd_by (hok : sg_ok g) (hst : sg_str g) (hL : rlaid g s rn rk kn nu v a) (hT : v 51 = sl_io q.1 ∧ (q.1 = none → rtk (rxE g ln q (fun _ _ => 0)) a)) (hc : q.2.1 ≤ 60) (hP : tkP q) (hbd : ∀ k, q.1 = some k → k < 2147483648) (hh : how < 2) (h0 : how = 1 → rn = 0) (hr : rd_rest S0) : sl_T YX12_readsBy 8 0 0 (fun o M' => o = none ∧ ∃ v' a', M' = rf_S v' w a' nm M ∧ rqR (rdS g ln q s nu kn how S0) v' a' ∧ rsF v a v' a') [.ref 68, .int (nI how)] (rf_S v w a nm M) :=
  c_X12_readsBy (E := rxE g ln q (ro_o s (sg_terms g) nu kn how)) hbd hT.1 (rxE_ok hok hst hc hP (ro_g_o hL.2.2.2.2 how)) hL.1 hL.2.1 hL.2.2.1 h0 hh rfl hT.2 hr
theorem an_can_1 {s : Nat → Int32} {rn how : Nat} (h : an_can s rn how = true) : how = 1 → rn = 0 := fun e => by
  subst e
  unfold an_can at h
  rw [if_neg (by decide)] at h
  exact of_decide_eq_true h
end RFT

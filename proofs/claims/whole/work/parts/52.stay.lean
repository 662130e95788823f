theorem t_ac_sg {c : Nat} {o : Nat → Int32} {w : Nat → Int32} {d : Nat} {G : sg_T} (h2d : d = 2 ∨ d = 10) {M : sl_M} (h : sg_at d G M) : sg_at d G (ac_set c o w M) := by
  obtain ⟨z0, z1, z2, z3, z4, z5, z6, z7⟩ := h
  exact ⟨(ac_out (by omega)).trans z0, (ac_out (by omega)).trans z1, (ac_out (by omega)).trans z2, (ac_out (by omega)).trans z3, (ac_out (by omega)).trans z4, (ac_out (by omega)).trans z5, (ac_out (by omega)).trans z6, (ac_out (by omega)).trans z7⟩
theorem t_ac_rl {c : Nat} {o : Nat → Int32} {w : Nat → Int32} {e1 : Nat} {l1 t1 s1 : Nat → Int32} {M : sl_M} (h : rl_at e1 l1 t1 s1 M) : rl_at e1 l1 t1 s1 (ac_set c o w M) := by
  obtain ⟨z0, z1, z2, z3⟩ := h
  exact ⟨(ac_out (by omega)).trans z0, (ac_out (by omega)).trans z1, (ac_out (by omega)).trans z2, (ac_out (by omega)).trans z3⟩
theorem t_ac_ld {c : Nat} {o : Nat → Int32} {w : Nat → Int32} {r1 e1 : Nat} {k1 k2 n1 b1 : Nat → Nat} {a1 a2 : Nat → Int32} {M : sl_M} (h : ld_at r1 e1 k1 k2 a1 a2 n1 b1 M) : ld_at r1 e1 k1 k2 a1 a2 n1 b1 (ac_set c o w M) := by
  obtain ⟨z0, z1, z2, z3, z4, z5, z6⟩ := h
  exact ⟨(ac_out (by omega)).trans z0, (ac_out (by omega)).trans z1, (ac_out (by omega)).trans z2, (ac_out (by omega)).trans z3, (ac_out (by omega)).trans z4, (ac_out (by omega)).trans z5, (ac_out (by omega)).trans z6⟩
theorem t_ac_fm {c : Nat} {o : Nat → Int32} {w : Nat → Int32} {ln1 cn1 at1 : Nat} {bd1 : Option Nat} {sg1 pl1 : Nat → Nat} {rl1 : Nat → Bool} {bt1 : Nat → Int32} {M : sl_M} (h : fm_at ln1 bd1 cn1 at1 sg1 pl1 rl1 bt1 M) : fm_at ln1 bd1 cn1 at1 sg1 pl1 rl1 bt1 (ac_set c o w M) := by
  obtain ⟨z0, z1, z2, z3, z4⟩ := h
  exact ⟨(ac_out (by omega)).trans z0, (ac_out (by omega)).trans z1, (ac_out (by omega)).trans z2, (ac_out (by omega)).trans z3, (ac_out (by omega)).trans z4⟩
theorem t_ac_rg {c : Nat} {o : Nat → Int32} {w : Nat → Int32} {d ho1 : Nat} {gv1 rv1 lv1 fv1 : Value} {S1 : rd_T} (h3d : d = 38 ∨ d = 53) {M : sl_M} (h : rg_A d ho1 gv1 rv1 lv1 fv1 S1 M) : rg_A d ho1 gv1 rv1 lv1 fv1 S1 (ac_set c o w M) := by
  obtain ⟨z0, z1, z2, z3, z4, z5, z6, z7, z8, z9, z10, z11, z12, z13, z14⟩ := h
  exact ⟨(ac_out (by omega)).trans z0, (ac_out (by omega)).trans z1, (ac_out (by omega)).trans z2, (ac_out (by omega)).trans z3, (ac_out (by omega)).trans z4, (ac_out (by omega)).trans z5, (ac_out (by omega)).trans z6, (ac_out (by omega)).trans z7, (ac_out (by omega)).trans z8, (ac_out (by omega)).trans z9, (ac_out (by omega)).trans z10, (ac_out (by omega)).trans z11, (ac_out (by omega)).trans z12, (ac_out (by omega)).trans z13, (ac_out (by omega)).trans z14⟩
theorem t_ac_gr {c : Nat} {o : Nat → Int32} {w : Nat → Int32} {fa1 pl1 ln1 x1 st1 tk1 tp1 sg1 : Nat} {bv1 mv1 : Value} {hd1 en1 : Bool} {wd1 : Int32} {M : sl_M} (h : gr_at fa1 pl1 bv1 ln1 x1 mv1 st1 hd1 en1 tk1 tp1 wd1 sg1 M) : gr_at fa1 pl1 bv1 ln1 x1 mv1 st1 hd1 en1 tk1 tp1 wd1 sg1 (ac_set c o w M) := by
  have h0 : M 18 = _ := h
  exact (ac_out (by omega)).trans h0
theorem t_ac_1 {c : Nat} {o : Nat → Int32} {w : Nat → Int32} {x : sl_E} {M : sl_M} (h : M 1 = x) : ac_set c o w M 1 = x := (ac_out (by omega)).trans h
theorem t_gs_sg {b : Nat} {kd : Nat} {R : Nat} {N : Nat} {T : Nat} {w : Nat → Int32} {s : Nat → Nat} {hd : Nat → Nat} {dd : Nat → Nat} {ln : Nat → Nat} {im : Nat → Nat} {p : Nat → Bool} {d : Nat} {G : sg_T} (h2d : d = 2 ∨ d = 10) (hb : b = 2 ∨ b = 10) (hn : b ≠ d) {M : sl_M} (h : sg_at d G M) : sg_at d G (gs_set b kd R N T w s hd dd ln im p M) := by
  obtain ⟨z0, z1, z2, z3, z4, z5, z6, z7⟩ := h
  exact ⟨(gs_out (by omega)).trans z0, (gs_out (by omega)).trans z1, (gs_out (by omega)).trans z2, (gs_out (by omega)).trans z3, (gs_out (by omega)).trans z4, (gs_out (by omega)).trans z5, (gs_out (by omega)).trans z6, (gs_out (by omega)).trans z7⟩
theorem t_gs_rl {b : Nat} {kd : Nat} {R : Nat} {N : Nat} {T : Nat} {w : Nat → Int32} {s : Nat → Nat} {hd : Nat → Nat} {dd : Nat → Nat} {ln : Nat → Nat} {im : Nat → Nat} {p : Nat → Bool} {e1 : Nat} {l1 t1 s1 : Nat → Int32} (hb : b = 2 ∨ b = 10) {M : sl_M} (h : rl_at e1 l1 t1 s1 M) : rl_at e1 l1 t1 s1 (gs_set b kd R N T w s hd dd ln im p M) := by
  obtain ⟨z0, z1, z2, z3⟩ := h
  exact ⟨(gs_out (by omega)).trans z0, (gs_out (by omega)).trans z1, (gs_out (by omega)).trans z2, (gs_out (by omega)).trans z3⟩
theorem t_gs_ld {b : Nat} {kd : Nat} {R : Nat} {N : Nat} {T : Nat} {w : Nat → Int32} {s : Nat → Nat} {hd : Nat → Nat} {dd : Nat → Nat} {ln : Nat → Nat} {im : Nat → Nat} {p : Nat → Bool} {r1 e1 : Nat} {k1 k2 n1 b1 : Nat → Nat} {a1 a2 : Nat → Int32} (hb : b = 2 ∨ b = 10) {M : sl_M} (h : ld_at r1 e1 k1 k2 a1 a2 n1 b1 M) : ld_at r1 e1 k1 k2 a1 a2 n1 b1 (gs_set b kd R N T w s hd dd ln im p M) := by
  obtain ⟨z0, z1, z2, z3, z4, z5, z6⟩ := h
  exact ⟨(gs_out (by omega)).trans z0, (gs_out (by omega)).trans z1, (gs_out (by omega)).trans z2, (gs_out (by omega)).trans z3, (gs_out (by omega)).trans z4, (gs_out (by omega)).trans z5, (gs_out (by omega)).trans z6⟩
theorem t_gs_ac {b : Nat} {kd : Nat} {R : Nat} {N : Nat} {T : Nat} {w : Nat → Int32} {s : Nat → Nat} {hd : Nat → Nat} {dd : Nat → Nat} {ln : Nat → Nat} {im : Nat → Nat} {p : Nat → Bool} {c1 : Nat} {o1 w1 : Nat → Int32} (hb : b = 2 ∨ b = 10) {M : sl_M} (h : ac_at c1 o1 w1 M) : ac_at c1 o1 w1 (gs_set b kd R N T w s hd dd ln im p M) := by
  obtain ⟨z0, z1, z2⟩ := h
  exact ⟨(gs_out (by omega)).trans z0, (gs_out (by omega)).trans z1, (gs_out (by omega)).trans z2⟩
theorem t_gs_fm {b : Nat} {kd : Nat} {R : Nat} {N : Nat} {T : Nat} {w : Nat → Int32} {s : Nat → Nat} {hd : Nat → Nat} {dd : Nat → Nat} {ln : Nat → Nat} {im : Nat → Nat} {p : Nat → Bool} {ln1 cn1 at1 : Nat} {bd1 : Option Nat} {sg1 pl1 : Nat → Nat} {rl1 : Nat → Bool} {bt1 : Nat → Int32} (hb : b = 2 ∨ b = 10) {M : sl_M} (h : fm_at ln1 bd1 cn1 at1 sg1 pl1 rl1 bt1 M) : fm_at ln1 bd1 cn1 at1 sg1 pl1 rl1 bt1 (gs_set b kd R N T w s hd dd ln im p M) := by
  obtain ⟨z0, z1, z2, z3, z4⟩ := h
  exact ⟨(gs_out (by omega)).trans z0, (gs_out (by omega)).trans z1, (gs_out (by omega)).trans z2, (gs_out (by omega)).trans z3, (gs_out (by omega)).trans z4⟩
theorem t_gs_rg {b : Nat} {kd : Nat} {R : Nat} {N : Nat} {T : Nat} {w : Nat → Int32} {s : Nat → Nat} {hd : Nat → Nat} {dd : Nat → Nat} {ln : Nat → Nat} {im : Nat → Nat} {p : Nat → Bool} {d ho1 : Nat} {gv1 rv1 lv1 fv1 : Value} {S1 : rd_T} (h3d : d = 38 ∨ d = 53) (hb : b = 2 ∨ b = 10) {M : sl_M} (h : rg_A d ho1 gv1 rv1 lv1 fv1 S1 M) : rg_A d ho1 gv1 rv1 lv1 fv1 S1 (gs_set b kd R N T w s hd dd ln im p M) := by
  obtain ⟨z0, z1, z2, z3, z4, z5, z6, z7, z8, z9, z10, z11, z12, z13, z14⟩ := h
  exact ⟨(gs_out (by omega)).trans z0, (gs_out (by omega)).trans z1, (gs_out (by omega)).trans z2, (gs_out (by omega)).trans z3, (gs_out (by omega)).trans z4, (gs_out (by omega)).trans z5, (gs_out (by omega)).trans z6, (gs_out (by omega)).trans z7, (gs_out (by omega)).trans z8, (gs_out (by omega)).trans z9, (gs_out (by omega)).trans z10, (gs_out (by omega)).trans z11, (gs_out (by omega)).trans z12, (gs_out (by omega)).trans z13, (gs_out (by omega)).trans z14⟩
theorem t_gs_gr {b : Nat} {kd : Nat} {R : Nat} {N : Nat} {T : Nat} {w : Nat → Int32} {s : Nat → Nat} {hd : Nat → Nat} {dd : Nat → Nat} {ln : Nat → Nat} {im : Nat → Nat} {p : Nat → Bool} {fa1 pl1 ln1 x1 st1 tk1 tp1 sg1 : Nat} {bv1 mv1 : Value} {hd1 en1 : Bool} {wd1 : Int32} (hb : b = 2 ∨ b = 10) {M : sl_M} (h : gr_at fa1 pl1 bv1 ln1 x1 mv1 st1 hd1 en1 tk1 tp1 wd1 sg1 M) : gr_at fa1 pl1 bv1 ln1 x1 mv1 st1 hd1 en1 tk1 tp1 wd1 sg1 (gs_set b kd R N T w s hd dd ln im p M) := by
  have h0 : M 18 = _ := h
  exact (gs_out (by omega)).trans h0
theorem t_gs_1 {b : Nat} {kd : Nat} {R : Nat} {N : Nat} {T : Nat} {w : Nat → Int32} {s : Nat → Nat} {hd : Nat → Nat} {dd : Nat → Nat} {ln : Nat → Nat} {im : Nat → Nat} {p : Nat → Bool} (hb : b = 2 ∨ b = 10) {x : sl_E} {M : sl_M} (h : M 1 = x) : gs_set b kd R N T w s hd dd ln im p M 1 = x := (gs_out (by omega)).trans h
theorem t_rl_sg {e : Nat} {l : Nat → Int32} {t : Nat → Int32} {s : Nat → Int32} {d : Nat} {G : sg_T} (h2d : d = 2 ∨ d = 10) {M : sl_M} (h : sg_at d G M) : sg_at d G (rl_set e l t s M) := by
  obtain ⟨z0, z1, z2, z3, z4, z5, z6, z7⟩ := h
  exact ⟨(rl_out (by omega)).trans z0, (rl_out (by omega)).trans z1, (rl_out (by omega)).trans z2, (rl_out (by omega)).trans z3, (rl_out (by omega)).trans z4, (rl_out (by omega)).trans z5, (rl_out (by omega)).trans z6, (rl_out (by omega)).trans z7⟩
theorem t_rl_ld {e : Nat} {l : Nat → Int32} {t : Nat → Int32} {s : Nat → Int32} {r1 e1 : Nat} {k1 k2 n1 b1 : Nat → Nat} {a1 a2 : Nat → Int32} {M : sl_M} (h : ld_at r1 e1 k1 k2 a1 a2 n1 b1 M) : ld_at r1 e1 k1 k2 a1 a2 n1 b1 (rl_set e l t s M) := by
  obtain ⟨z0, z1, z2, z3, z4, z5, z6⟩ := h
  exact ⟨(rl_out (by omega)).trans z0, (rl_out (by omega)).trans z1, (rl_out (by omega)).trans z2, (rl_out (by omega)).trans z3, (rl_out (by omega)).trans z4, (rl_out (by omega)).trans z5, (rl_out (by omega)).trans z6⟩
theorem t_rl_ac {e : Nat} {l : Nat → Int32} {t : Nat → Int32} {s : Nat → Int32} {c1 : Nat} {o1 w1 : Nat → Int32} {M : sl_M} (h : ac_at c1 o1 w1 M) : ac_at c1 o1 w1 (rl_set e l t s M) := by
  obtain ⟨z0, z1, z2⟩ := h
  exact ⟨(rl_out (by omega)).trans z0, (rl_out (by omega)).trans z1, (rl_out (by omega)).trans z2⟩
theorem t_rl_fm {e : Nat} {l : Nat → Int32} {t : Nat → Int32} {s : Nat → Int32} {ln1 cn1 at1 : Nat} {bd1 : Option Nat} {sg1 pl1 : Nat → Nat} {rl1 : Nat → Bool} {bt1 : Nat → Int32} {M : sl_M} (h : fm_at ln1 bd1 cn1 at1 sg1 pl1 rl1 bt1 M) : fm_at ln1 bd1 cn1 at1 sg1 pl1 rl1 bt1 (rl_set e l t s M) := by
  obtain ⟨z0, z1, z2, z3, z4⟩ := h
  exact ⟨(rl_out (by omega)).trans z0, (rl_out (by omega)).trans z1, (rl_out (by omega)).trans z2, (rl_out (by omega)).trans z3, (rl_out (by omega)).trans z4⟩
theorem t_rl_rg {e : Nat} {l : Nat → Int32} {t : Nat → Int32} {s : Nat → Int32} {d ho1 : Nat} {gv1 rv1 lv1 fv1 : Value} {S1 : rd_T} (h3d : d = 38 ∨ d = 53) {M : sl_M} (h : rg_A d ho1 gv1 rv1 lv1 fv1 S1 M) : rg_A d ho1 gv1 rv1 lv1 fv1 S1 (rl_set e l t s M) := by
  obtain ⟨z0, z1, z2, z3, z4, z5, z6, z7, z8, z9, z10, z11, z12, z13, z14⟩ := h
  exact ⟨(rl_out (by omega)).trans z0, (rl_out (by omega)).trans z1, (rl_out (by omega)).trans z2, (rl_out (by omega)).trans z3, (rl_out (by omega)).trans z4, (rl_out (by omega)).trans z5, (rl_out (by omega)).trans z6, (rl_out (by omega)).trans z7, (rl_out (by omega)).trans z8, (rl_out (by omega)).trans z9, (rl_out (by omega)).trans z10, (rl_out (by omega)).trans z11, (rl_out (by omega)).trans z12, (rl_out (by omega)).trans z13, (rl_out (by omega)).trans z14⟩
theorem t_rl_gr {e : Nat} {l : Nat → Int32} {t : Nat → Int32} {s : Nat → Int32} {fa1 pl1 ln1 x1 st1 tk1 tp1 sg1 : Nat} {bv1 mv1 : Value} {hd1 en1 : Bool} {wd1 : Int32} {M : sl_M} (h : gr_at fa1 pl1 bv1 ln1 x1 mv1 st1 hd1 en1 tk1 tp1 wd1 sg1 M) : gr_at fa1 pl1 bv1 ln1 x1 mv1 st1 hd1 en1 tk1 tp1 wd1 sg1 (rl_set e l t s M) := by
  have h0 : M 18 = _ := h
  exact (rl_out (by omega)).trans h0
theorem t_rl_1 {e : Nat} {l : Nat → Int32} {t : Nat → Int32} {s : Nat → Int32} {x : sl_E} {M : sl_M} (h : M 1 = x) : rl_set e l t s M 1 = x := (rl_out (by omega)).trans h
theorem t_ld_sg {rn : Nat} {e : Nat} {rk : Nat → Nat} {kn : Nat → Nat} {ar : Nat → Int32} {re : Nat → Int32} {nu : Nat → Nat} {ba : Nat → Nat} {d : Nat} {G : sg_T} (h2d : d = 2 ∨ d = 10) {M : sl_M} (h : sg_at d G M) : sg_at d G (ld_set rn e rk kn ar re nu ba M) := by
  obtain ⟨z0, z1, z2, z3, z4, z5, z6, z7⟩ := h
  exact ⟨(ld_out (by omega)).trans z0, (ld_out (by omega)).trans z1, (ld_out (by omega)).trans z2, (ld_out (by omega)).trans z3, (ld_out (by omega)).trans z4, (ld_out (by omega)).trans z5, (ld_out (by omega)).trans z6, (ld_out (by omega)).trans z7⟩
theorem t_ld_rl {rn : Nat} {e : Nat} {rk : Nat → Nat} {kn : Nat → Nat} {ar : Nat → Int32} {re : Nat → Int32} {nu : Nat → Nat} {ba : Nat → Nat} {e1 : Nat} {l1 t1 s1 : Nat → Int32} {M : sl_M} (h : rl_at e1 l1 t1 s1 M) : rl_at e1 l1 t1 s1 (ld_set rn e rk kn ar re nu ba M) := by
  obtain ⟨z0, z1, z2, z3⟩ := h
  exact ⟨(ld_out (by omega)).trans z0, (ld_out (by omega)).trans z1, (ld_out (by omega)).trans z2, (ld_out (by omega)).trans z3⟩
theorem t_ld_ac {rn : Nat} {e : Nat} {rk : Nat → Nat} {kn : Nat → Nat} {ar : Nat → Int32} {re : Nat → Int32} {nu : Nat → Nat} {ba : Nat → Nat} {c1 : Nat} {o1 w1 : Nat → Int32} {M : sl_M} (h : ac_at c1 o1 w1 M) : ac_at c1 o1 w1 (ld_set rn e rk kn ar re nu ba M) := by
  obtain ⟨z0, z1, z2⟩ := h
  exact ⟨(ld_out (by omega)).trans z0, (ld_out (by omega)).trans z1, (ld_out (by omega)).trans z2⟩
theorem t_ld_fm {rn : Nat} {e : Nat} {rk : Nat → Nat} {kn : Nat → Nat} {ar : Nat → Int32} {re : Nat → Int32} {nu : Nat → Nat} {ba : Nat → Nat} {ln1 cn1 at1 : Nat} {bd1 : Option Nat} {sg1 pl1 : Nat → Nat} {rl1 : Nat → Bool} {bt1 : Nat → Int32} {M : sl_M} (h : fm_at ln1 bd1 cn1 at1 sg1 pl1 rl1 bt1 M) : fm_at ln1 bd1 cn1 at1 sg1 pl1 rl1 bt1 (ld_set rn e rk kn ar re nu ba M) := by
  obtain ⟨z0, z1, z2, z3, z4⟩ := h
  exact ⟨(ld_out (by omega)).trans z0, (ld_out (by omega)).trans z1, (ld_out (by omega)).trans z2, (ld_out (by omega)).trans z3, (ld_out (by omega)).trans z4⟩
theorem t_ld_rg {rn : Nat} {e : Nat} {rk : Nat → Nat} {kn : Nat → Nat} {ar : Nat → Int32} {re : Nat → Int32} {nu : Nat → Nat} {ba : Nat → Nat} {d ho1 : Nat} {gv1 rv1 lv1 fv1 : Value} {S1 : rd_T} (h3d : d = 38 ∨ d = 53) {M : sl_M} (h : rg_A d ho1 gv1 rv1 lv1 fv1 S1 M) : rg_A d ho1 gv1 rv1 lv1 fv1 S1 (ld_set rn e rk kn ar re nu ba M) := by
  obtain ⟨z0, z1, z2, z3, z4, z5, z6, z7, z8, z9, z10, z11, z12, z13, z14⟩ := h
  exact ⟨(ld_out (by omega)).trans z0, (ld_out (by omega)).trans z1, (ld_out (by omega)).trans z2, (ld_out (by omega)).trans z3, (ld_out (by omega)).trans z4, (ld_out (by omega)).trans z5, (ld_out (by omega)).trans z6, (ld_out (by omega)).trans z7, (ld_out (by omega)).trans z8, (ld_out (by omega)).trans z9, (ld_out (by omega)).trans z10, (ld_out (by omega)).trans z11, (ld_out (by omega)).trans z12, (ld_out (by omega)).trans z13, (ld_out (by omega)).trans z14⟩
theorem t_ld_gr {rn : Nat} {e : Nat} {rk : Nat → Nat} {kn : Nat → Nat} {ar : Nat → Int32} {re : Nat → Int32} {nu : Nat → Nat} {ba : Nat → Nat} {fa1 pl1 ln1 x1 st1 tk1 tp1 sg1 : Nat} {bv1 mv1 : Value} {hd1 en1 : Bool} {wd1 : Int32} {M : sl_M} (h : gr_at fa1 pl1 bv1 ln1 x1 mv1 st1 hd1 en1 tk1 tp1 wd1 sg1 M) : gr_at fa1 pl1 bv1 ln1 x1 mv1 st1 hd1 en1 tk1 tp1 wd1 sg1 (ld_set rn e rk kn ar re nu ba M) := by
  have h0 : M 18 = _ := h
  exact (ld_out (by omega)).trans h0
theorem t_ld_1 {rn : Nat} {e : Nat} {rk : Nat → Nat} {kn : Nat → Nat} {ar : Nat → Int32} {re : Nat → Int32} {nu : Nat → Nat} {ba : Nat → Nat} {x : sl_E} {M : sl_M} (h : M 1 = x) : ld_set rn e rk kn ar re nu ba M 1 = x := (ld_out (by omega)).trans h
theorem t_fm_sg {ln : Nat} {bd : Option Nat} {cn : Nat} {at_ : Nat} {sg : Nat → Nat} {pl : Nat → Nat} {rl : Nat → Bool} {bt : Nat → Int32} {d : Nat} {G : sg_T} (h2d : d = 2 ∨ d = 10) {M : sl_M} (h : sg_at d G M) : sg_at d G (fm_set ln bd cn at_ sg pl rl bt M) := by
  obtain ⟨z0, z1, z2, z3, z4, z5, z6, z7⟩ := h
  exact ⟨(fm_out (by omega)).trans z0, (fm_out (by omega)).trans z1, (fm_out (by omega)).trans z2, (fm_out (by omega)).trans z3, (fm_out (by omega)).trans z4, (fm_out (by omega)).trans z5, (fm_out (by omega)).trans z6, (fm_out (by omega)).trans z7⟩
theorem t_fm_rl {ln : Nat} {bd : Option Nat} {cn : Nat} {at_ : Nat} {sg : Nat → Nat} {pl : Nat → Nat} {rl : Nat → Bool} {bt : Nat → Int32} {e1 : Nat} {l1 t1 s1 : Nat → Int32} {M : sl_M} (h : rl_at e1 l1 t1 s1 M) : rl_at e1 l1 t1 s1 (fm_set ln bd cn at_ sg pl rl bt M) := by
  obtain ⟨z0, z1, z2, z3⟩ := h
  exact ⟨(fm_out (by omega)).trans z0, (fm_out (by omega)).trans z1, (fm_out (by omega)).trans z2, (fm_out (by omega)).trans z3⟩
theorem t_fm_ld {ln : Nat} {bd : Option Nat} {cn : Nat} {at_ : Nat} {sg : Nat → Nat} {pl : Nat → Nat} {rl : Nat → Bool} {bt : Nat → Int32} {r1 e1 : Nat} {k1 k2 n1 b1 : Nat → Nat} {a1 a2 : Nat → Int32} {M : sl_M} (h : ld_at r1 e1 k1 k2 a1 a2 n1 b1 M) : ld_at r1 e1 k1 k2 a1 a2 n1 b1 (fm_set ln bd cn at_ sg pl rl bt M) := by
  obtain ⟨z0, z1, z2, z3, z4, z5, z6⟩ := h
  exact ⟨(fm_out (by omega)).trans z0, (fm_out (by omega)).trans z1, (fm_out (by omega)).trans z2, (fm_out (by omega)).trans z3, (fm_out (by omega)).trans z4, (fm_out (by omega)).trans z5, (fm_out (by omega)).trans z6⟩
theorem t_fm_ac {ln : Nat} {bd : Option Nat} {cn : Nat} {at_ : Nat} {sg : Nat → Nat} {pl : Nat → Nat} {rl : Nat → Bool} {bt : Nat → Int32} {c1 : Nat} {o1 w1 : Nat → Int32} {M : sl_M} (h : ac_at c1 o1 w1 M) : ac_at c1 o1 w1 (fm_set ln bd cn at_ sg pl rl bt M) := by
  obtain ⟨z0, z1, z2⟩ := h
  exact ⟨(fm_out (by omega)).trans z0, (fm_out (by omega)).trans z1, (fm_out (by omega)).trans z2⟩
theorem t_fm_rg {ln : Nat} {bd : Option Nat} {cn : Nat} {at_ : Nat} {sg : Nat → Nat} {pl : Nat → Nat} {rl : Nat → Bool} {bt : Nat → Int32} {d ho1 : Nat} {gv1 rv1 lv1 fv1 : Value} {S1 : rd_T} (h3d : d = 38 ∨ d = 53) {M : sl_M} (h : rg_A d ho1 gv1 rv1 lv1 fv1 S1 M) : rg_A d ho1 gv1 rv1 lv1 fv1 S1 (fm_set ln bd cn at_ sg pl rl bt M) := by
  obtain ⟨z0, z1, z2, z3, z4, z5, z6, z7, z8, z9, z10, z11, z12, z13, z14⟩ := h
  exact ⟨(fm_out (by omega)).trans z0, (fm_out (by omega)).trans z1, (fm_out (by omega)).trans z2, (fm_out (by omega)).trans z3, (fm_out (by omega)).trans z4, (fm_out (by omega)).trans z5, (fm_out (by omega)).trans z6, (fm_out (by omega)).trans z7, (fm_out (by omega)).trans z8, (fm_out (by omega)).trans z9, (fm_out (by omega)).trans z10, (fm_out (by omega)).trans z11, (fm_out (by omega)).trans z12, (fm_out (by omega)).trans z13, (fm_out (by omega)).trans z14⟩
theorem t_fm_gr {ln : Nat} {bd : Option Nat} {cn : Nat} {at_ : Nat} {sg : Nat → Nat} {pl : Nat → Nat} {rl : Nat → Bool} {bt : Nat → Int32} {fa1 pl1 ln1 x1 st1 tk1 tp1 sg1 : Nat} {bv1 mv1 : Value} {hd1 en1 : Bool} {wd1 : Int32} {M : sl_M} (h : gr_at fa1 pl1 bv1 ln1 x1 mv1 st1 hd1 en1 tk1 tp1 wd1 sg1 M) : gr_at fa1 pl1 bv1 ln1 x1 mv1 st1 hd1 en1 tk1 tp1 wd1 sg1 (fm_set ln bd cn at_ sg pl rl bt M) := by
  have h0 : M 18 = _ := h
  exact (fm_out (by omega)).trans h0
theorem t_fm_1 {ln : Nat} {bd : Option Nat} {cn : Nat} {at_ : Nat} {sg : Nat → Nat} {pl : Nat → Nat} {rl : Nat → Bool} {bt : Nat → Int32} {x : sl_E} {M : sl_M} (h : M 1 = x) : fm_set ln bd cn at_ sg pl rl bt M 1 = x := (fm_out (by omega)).trans h
theorem t_gr_sg {fa : Nat} {pl : Nat} {bv : Value} {ln : Nat} {a : Nat} {mv : Value} {st : Nat} {hd : Bool} {en : Bool} {tk : Nat} {tp : Nat} {wd : Int32} {sg : Nat} {d : Nat} {G : sg_T} (h2d : d = 2 ∨ d = 10) {M : sl_M} (h : sg_at d G M) : sg_at d G (gr_set fa pl bv ln a mv st hd en tk tp wd sg M) := by
  obtain ⟨z0, z1, z2, z3, z4, z5, z6, z7⟩ := h
  exact ⟨(gr_out (by omega)).trans z0, (gr_out (by omega)).trans z1, (gr_out (by omega)).trans z2, (gr_out (by omega)).trans z3, (gr_out (by omega)).trans z4, (gr_out (by omega)).trans z5, (gr_out (by omega)).trans z6, (gr_out (by omega)).trans z7⟩
theorem t_gr_rl {fa : Nat} {pl : Nat} {bv : Value} {ln : Nat} {a : Nat} {mv : Value} {st : Nat} {hd : Bool} {en : Bool} {tk : Nat} {tp : Nat} {wd : Int32} {sg : Nat} {e1 : Nat} {l1 t1 s1 : Nat → Int32} {M : sl_M} (h : rl_at e1 l1 t1 s1 M) : rl_at e1 l1 t1 s1 (gr_set fa pl bv ln a mv st hd en tk tp wd sg M) := by
  obtain ⟨z0, z1, z2, z3⟩ := h
  exact ⟨(gr_out (by omega)).trans z0, (gr_out (by omega)).trans z1, (gr_out (by omega)).trans z2, (gr_out (by omega)).trans z3⟩
theorem t_gr_ld {fa : Nat} {pl : Nat} {bv : Value} {ln : Nat} {a : Nat} {mv : Value} {st : Nat} {hd : Bool} {en : Bool} {tk : Nat} {tp : Nat} {wd : Int32} {sg : Nat} {r1 e1 : Nat} {k1 k2 n1 b1 : Nat → Nat} {a1 a2 : Nat → Int32} {M : sl_M} (h : ld_at r1 e1 k1 k2 a1 a2 n1 b1 M) : ld_at r1 e1 k1 k2 a1 a2 n1 b1 (gr_set fa pl bv ln a mv st hd en tk tp wd sg M) := by
  obtain ⟨z0, z1, z2, z3, z4, z5, z6⟩ := h
  exact ⟨(gr_out (by omega)).trans z0, (gr_out (by omega)).trans z1, (gr_out (by omega)).trans z2, (gr_out (by omega)).trans z3, (gr_out (by omega)).trans z4, (gr_out (by omega)).trans z5, (gr_out (by omega)).trans z6⟩
theorem t_gr_ac {fa : Nat} {pl : Nat} {bv : Value} {ln : Nat} {a : Nat} {mv : Value} {st : Nat} {hd : Bool} {en : Bool} {tk : Nat} {tp : Nat} {wd : Int32} {sg : Nat} {c1 : Nat} {o1 w1 : Nat → Int32} {M : sl_M} (h : ac_at c1 o1 w1 M) : ac_at c1 o1 w1 (gr_set fa pl bv ln a mv st hd en tk tp wd sg M) := by
  obtain ⟨z0, z1, z2⟩ := h
  exact ⟨(gr_out (by omega)).trans z0, (gr_out (by omega)).trans z1, (gr_out (by omega)).trans z2⟩
theorem t_gr_fm {fa : Nat} {pl : Nat} {bv : Value} {ln : Nat} {a : Nat} {mv : Value} {st : Nat} {hd : Bool} {en : Bool} {tk : Nat} {tp : Nat} {wd : Int32} {sg : Nat} {ln1 cn1 at1 : Nat} {bd1 : Option Nat} {sg1 pl1 : Nat → Nat} {rl1 : Nat → Bool} {bt1 : Nat → Int32} {M : sl_M} (h : fm_at ln1 bd1 cn1 at1 sg1 pl1 rl1 bt1 M) : fm_at ln1 bd1 cn1 at1 sg1 pl1 rl1 bt1 (gr_set fa pl bv ln a mv st hd en tk tp wd sg M) := by
  obtain ⟨z0, z1, z2, z3, z4⟩ := h
  exact ⟨(gr_out (by omega)).trans z0, (gr_out (by omega)).trans z1, (gr_out (by omega)).trans z2, (gr_out (by omega)).trans z3, (gr_out (by omega)).trans z4⟩
theorem t_gr_rg {fa : Nat} {pl : Nat} {bv : Value} {ln : Nat} {a : Nat} {mv : Value} {st : Nat} {hd : Bool} {en : Bool} {tk : Nat} {tp : Nat} {wd : Int32} {sg : Nat} {d ho1 : Nat} {gv1 rv1 lv1 fv1 : Value} {S1 : rd_T} (h3d : d = 38 ∨ d = 53) {M : sl_M} (h : rg_A d ho1 gv1 rv1 lv1 fv1 S1 M) : rg_A d ho1 gv1 rv1 lv1 fv1 S1 (gr_set fa pl bv ln a mv st hd en tk tp wd sg M) := by
  obtain ⟨z0, z1, z2, z3, z4, z5, z6, z7, z8, z9, z10, z11, z12, z13, z14⟩ := h
  exact ⟨(gr_out (by omega)).trans z0, (gr_out (by omega)).trans z1, (gr_out (by omega)).trans z2, (gr_out (by omega)).trans z3, (gr_out (by omega)).trans z4, (gr_out (by omega)).trans z5, (gr_out (by omega)).trans z6, (gr_out (by omega)).trans z7, (gr_out (by omega)).trans z8, (gr_out (by omega)).trans z9, (gr_out (by omega)).trans z10, (gr_out (by omega)).trans z11, (gr_out (by omega)).trans z12, (gr_out (by omega)).trans z13, (gr_out (by omega)).trans z14⟩
theorem t_gr_1 {fa : Nat} {pl : Nat} {bv : Value} {ln : Nat} {a : Nat} {mv : Value} {st : Nat} {hd : Bool} {en : Bool} {tk : Nat} {tp : Nat} {wd : Int32} {sg : Nat} {x : sl_E} {M : sl_M} (h : M 1 = x) : gr_set fa pl bv ln a mv st hd en tk tp wd sg M 1 = x := (gr_out (by omega)).trans h
theorem t_rg_sg {b : Nat} {ho : Nat} {fa : Nat} {pl : Int32} {sp : Nat} {mo : Nat} {gv : Value} {rv : Value} {lv : Value} {fv : Value} {nx : Nat} {en : Bool} {tp : Nat} {stk : Nat → Nat} {tok : Nat → Nat} {beh : Nat → Option Nat} {c : Nat} {ru : Nat → Nat} {fi : Nat → Option Nat} {se : Nat → Option Nat} {de : Nat → Nat} {si : Nat → Nat} {rl : Nat → Bool} {bi : Nat → Int32} {f : Option Nat} {s : Option Nat} {n : Nat} {it : Nat → Nat} {r : Bool} {i : Int32} {d : Nat} {G : sg_T} (h2d : d = 2 ∨ d = 10) (hb : b = 38 ∨ b = 53) {M : sl_M} (h : sg_at d G M) : sg_at d G (rg_set b ho fa pl sp mo gv rv lv fv nx en tp stk tok beh c ru fi se de si rl bi f s n it r i M) := by
  obtain ⟨z0, z1, z2, z3, z4, z5, z6, z7⟩ := h
  exact ⟨(rg_out (by omega)).trans z0, (rg_out (by omega)).trans z1, (rg_out (by omega)).trans z2, (rg_out (by omega)).trans z3, (rg_out (by omega)).trans z4, (rg_out (by omega)).trans z5, (rg_out (by omega)).trans z6, (rg_out (by omega)).trans z7⟩
theorem t_rg_rl {b : Nat} {ho : Nat} {fa : Nat} {pl : Int32} {sp : Nat} {mo : Nat} {gv : Value} {rv : Value} {lv : Value} {fv : Value} {nx : Nat} {en : Bool} {tp : Nat} {stk : Nat → Nat} {tok : Nat → Nat} {beh : Nat → Option Nat} {c : Nat} {ru : Nat → Nat} {fi : Nat → Option Nat} {se : Nat → Option Nat} {de : Nat → Nat} {si : Nat → Nat} {rl : Nat → Bool} {bi : Nat → Int32} {f : Option Nat} {s : Option Nat} {n : Nat} {it : Nat → Nat} {r : Bool} {i : Int32} {e1 : Nat} {l1 t1 s1 : Nat → Int32} (hb : b = 38 ∨ b = 53) {M : sl_M} (h : rl_at e1 l1 t1 s1 M) : rl_at e1 l1 t1 s1 (rg_set b ho fa pl sp mo gv rv lv fv nx en tp stk tok beh c ru fi se de si rl bi f s n it r i M) := by
  obtain ⟨z0, z1, z2, z3⟩ := h
  exact ⟨(rg_out (by omega)).trans z0, (rg_out (by omega)).trans z1, (rg_out (by omega)).trans z2, (rg_out (by omega)).trans z3⟩
theorem t_rg_ld {b : Nat} {ho : Nat} {fa : Nat} {pl : Int32} {sp : Nat} {mo : Nat} {gv : Value} {rv : Value} {lv : Value} {fv : Value} {nx : Nat} {en : Bool} {tp : Nat} {stk : Nat → Nat} {tok : Nat → Nat} {beh : Nat → Option Nat} {c : Nat} {ru : Nat → Nat} {fi : Nat → Option Nat} {se : Nat → Option Nat} {de : Nat → Nat} {si : Nat → Nat} {rl : Nat → Bool} {bi : Nat → Int32} {f : Option Nat} {s : Option Nat} {n : Nat} {it : Nat → Nat} {r : Bool} {i : Int32} {r1 e1 : Nat} {k1 k2 n1 b1 : Nat → Nat} {a1 a2 : Nat → Int32} (hb : b = 38 ∨ b = 53) {M : sl_M} (h : ld_at r1 e1 k1 k2 a1 a2 n1 b1 M) : ld_at r1 e1 k1 k2 a1 a2 n1 b1 (rg_set b ho fa pl sp mo gv rv lv fv nx en tp stk tok beh c ru fi se de si rl bi f s n it r i M) := by
  obtain ⟨z0, z1, z2, z3, z4, z5, z6⟩ := h
  exact ⟨(rg_out (by omega)).trans z0, (rg_out (by omega)).trans z1, (rg_out (by omega)).trans z2, (rg_out (by omega)).trans z3, (rg_out (by omega)).trans z4, (rg_out (by omega)).trans z5, (rg_out (by omega)).trans z6⟩
theorem t_rg_ac {b : Nat} {ho : Nat} {fa : Nat} {pl : Int32} {sp : Nat} {mo : Nat} {gv : Value} {rv : Value} {lv : Value} {fv : Value} {nx : Nat} {en : Bool} {tp : Nat} {stk : Nat → Nat} {tok : Nat → Nat} {beh : Nat → Option Nat} {c : Nat} {ru : Nat → Nat} {fi : Nat → Option Nat} {se : Nat → Option Nat} {de : Nat → Nat} {si : Nat → Nat} {rl : Nat → Bool} {bi : Nat → Int32} {f : Option Nat} {s : Option Nat} {n : Nat} {it : Nat → Nat} {r : Bool} {i : Int32} {c1 : Nat} {o1 w1 : Nat → Int32} (hb : b = 38 ∨ b = 53) {M : sl_M} (h : ac_at c1 o1 w1 M) : ac_at c1 o1 w1 (rg_set b ho fa pl sp mo gv rv lv fv nx en tp stk tok beh c ru fi se de si rl bi f s n it r i M) := by
  obtain ⟨z0, z1, z2⟩ := h
  exact ⟨(rg_out (by omega)).trans z0, (rg_out (by omega)).trans z1, (rg_out (by omega)).trans z2⟩
theorem t_rg_fm {b : Nat} {ho : Nat} {fa : Nat} {pl : Int32} {sp : Nat} {mo : Nat} {gv : Value} {rv : Value} {lv : Value} {fv : Value} {nx : Nat} {en : Bool} {tp : Nat} {stk : Nat → Nat} {tok : Nat → Nat} {beh : Nat → Option Nat} {c : Nat} {ru : Nat → Nat} {fi : Nat → Option Nat} {se : Nat → Option Nat} {de : Nat → Nat} {si : Nat → Nat} {rl : Nat → Bool} {bi : Nat → Int32} {f : Option Nat} {s : Option Nat} {n : Nat} {it : Nat → Nat} {r : Bool} {i : Int32} {ln1 cn1 at1 : Nat} {bd1 : Option Nat} {sg1 pl1 : Nat → Nat} {rl1 : Nat → Bool} {bt1 : Nat → Int32} (hb : b = 38 ∨ b = 53) {M : sl_M} (h : fm_at ln1 bd1 cn1 at1 sg1 pl1 rl1 bt1 M) : fm_at ln1 bd1 cn1 at1 sg1 pl1 rl1 bt1 (rg_set b ho fa pl sp mo gv rv lv fv nx en tp stk tok beh c ru fi se de si rl bi f s n it r i M) := by
  obtain ⟨z0, z1, z2, z3, z4⟩ := h
  exact ⟨(rg_out (by omega)).trans z0, (rg_out (by omega)).trans z1, (rg_out (by omega)).trans z2, (rg_out (by omega)).trans z3, (rg_out (by omega)).trans z4⟩
theorem t_rg_rg {b : Nat} {ho : Nat} {fa : Nat} {pl : Int32} {sp : Nat} {mo : Nat} {gv : Value} {rv : Value} {lv : Value} {fv : Value} {nx : Nat} {en : Bool} {tp : Nat} {stk : Nat → Nat} {tok : Nat → Nat} {beh : Nat → Option Nat} {c : Nat} {ru : Nat → Nat} {fi : Nat → Option Nat} {se : Nat → Option Nat} {de : Nat → Nat} {si : Nat → Nat} {rl : Nat → Bool} {bi : Nat → Int32} {f : Option Nat} {s : Option Nat} {n : Nat} {it : Nat → Nat} {r : Bool} {i : Int32} {d ho1 : Nat} {gv1 rv1 lv1 fv1 : Value} {S1 : rd_T} (h3d : d = 38 ∨ d = 53) (hb : b = 38 ∨ b = 53) (hn : b ≠ d) {M : sl_M} (h : rg_A d ho1 gv1 rv1 lv1 fv1 S1 M) : rg_A d ho1 gv1 rv1 lv1 fv1 S1 (rg_set b ho fa pl sp mo gv rv lv fv nx en tp stk tok beh c ru fi se de si rl bi f s n it r i M) := by
  obtain ⟨z0, z1, z2, z3, z4, z5, z6, z7, z8, z9, z10, z11, z12, z13, z14⟩ := h
  exact ⟨(rg_out (by omega)).trans z0, (rg_out (by omega)).trans z1, (rg_out (by omega)).trans z2, (rg_out (by omega)).trans z3, (rg_out (by omega)).trans z4, (rg_out (by omega)).trans z5, (rg_out (by omega)).trans z6, (rg_out (by omega)).trans z7, (rg_out (by omega)).trans z8, (rg_out (by omega)).trans z9, (rg_out (by omega)).trans z10, (rg_out (by omega)).trans z11, (rg_out (by omega)).trans z12, (rg_out (by omega)).trans z13, (rg_out (by omega)).trans z14⟩
theorem t_rg_gr {b : Nat} {ho : Nat} {fa : Nat} {pl : Int32} {sp : Nat} {mo : Nat} {gv : Value} {rv : Value} {lv : Value} {fv : Value} {nx : Nat} {en : Bool} {tp : Nat} {stk : Nat → Nat} {tok : Nat → Nat} {beh : Nat → Option Nat} {c : Nat} {ru : Nat → Nat} {fi : Nat → Option Nat} {se : Nat → Option Nat} {de : Nat → Nat} {si : Nat → Nat} {rl : Nat → Bool} {bi : Nat → Int32} {f : Option Nat} {s : Option Nat} {n : Nat} {it : Nat → Nat} {r : Bool} {i : Int32} {fa1 pl1 ln1 x1 st1 tk1 tp1 sg1 : Nat} {bv1 mv1 : Value} {hd1 en1 : Bool} {wd1 : Int32} (hb : b = 38 ∨ b = 53) {M : sl_M} (h : gr_at fa1 pl1 bv1 ln1 x1 mv1 st1 hd1 en1 tk1 tp1 wd1 sg1 M) : gr_at fa1 pl1 bv1 ln1 x1 mv1 st1 hd1 en1 tk1 tp1 wd1 sg1 (rg_set b ho fa pl sp mo gv rv lv fv nx en tp stk tok beh c ru fi se de si rl bi f s n it r i M) := by
  have h0 : M 18 = _ := h
  exact (rg_out (by omega)).trans h0
theorem t_rg_1 {b : Nat} {ho : Nat} {fa : Nat} {pl : Int32} {sp : Nat} {mo : Nat} {gv : Value} {rv : Value} {lv : Value} {fv : Value} {nx : Nat} {en : Bool} {tp : Nat} {stk : Nat → Nat} {tok : Nat → Nat} {beh : Nat → Option Nat} {c : Nat} {ru : Nat → Nat} {fi : Nat → Option Nat} {se : Nat → Option Nat} {de : Nat → Nat} {si : Nat → Nat} {rl : Nat → Bool} {bi : Nat → Int32} {f : Option Nat} {s : Option Nat} {n : Nat} {it : Nat → Nat} {r : Bool} {i : Int32} (hb : b = 38 ∨ b = 53) {x : sl_E} {M : sl_M} (h : M 1 = x) : rg_set b ho fa pl sp mo gv rv lv fv nx en tp stk tok beh c ru fi se de si rl bi f s n it r i M 1 = x := (rg_out (by omega)).trans h
theorem up_out {a k : Nat} {x : sl_E} {M : sl_M} (h : k ≠ a) : sl_up M a x k = M k := by simp [sl_up, h]
theorem t_tp_sg {x : sl_E} {d : Nat} {G : sg_T} (h2d : d = 2 ∨ d = 10) {M : sl_M} (h : sg_at d G M) : sg_at d G (sl_up M 1 x) := by
  obtain ⟨z0, z1, z2, z3, z4, z5, z6, z7⟩ := h
  exact ⟨(up_out (by omega)).trans z0, (up_out (by omega)).trans z1, (up_out (by omega)).trans z2, (up_out (by omega)).trans z3, (up_out (by omega)).trans z4, (up_out (by omega)).trans z5, (up_out (by omega)).trans z6, (up_out (by omega)).trans z7⟩
theorem t_tp_rl {x : sl_E} {e1 : Nat} {l1 t1 s1 : Nat → Int32} {M : sl_M} (h : rl_at e1 l1 t1 s1 M) : rl_at e1 l1 t1 s1 (sl_up M 1 x) := by
  obtain ⟨z0, z1, z2, z3⟩ := h
  exact ⟨(up_out (by omega)).trans z0, (up_out (by omega)).trans z1, (up_out (by omega)).trans z2, (up_out (by omega)).trans z3⟩
theorem t_tp_ld {x : sl_E} {r1 e1 : Nat} {k1 k2 n1 b1 : Nat → Nat} {a1 a2 : Nat → Int32} {M : sl_M} (h : ld_at r1 e1 k1 k2 a1 a2 n1 b1 M) : ld_at r1 e1 k1 k2 a1 a2 n1 b1 (sl_up M 1 x) := by
  obtain ⟨z0, z1, z2, z3, z4, z5, z6⟩ := h
  exact ⟨(up_out (by omega)).trans z0, (up_out (by omega)).trans z1, (up_out (by omega)).trans z2, (up_out (by omega)).trans z3, (up_out (by omega)).trans z4, (up_out (by omega)).trans z5, (up_out (by omega)).trans z6⟩
theorem t_tp_ac {x : sl_E} {c1 : Nat} {o1 w1 : Nat → Int32} {M : sl_M} (h : ac_at c1 o1 w1 M) : ac_at c1 o1 w1 (sl_up M 1 x) := by
  obtain ⟨z0, z1, z2⟩ := h
  exact ⟨(up_out (by omega)).trans z0, (up_out (by omega)).trans z1, (up_out (by omega)).trans z2⟩
theorem t_tp_fm {x : sl_E} {ln1 cn1 at1 : Nat} {bd1 : Option Nat} {sg1 pl1 : Nat → Nat} {rl1 : Nat → Bool} {bt1 : Nat → Int32} {M : sl_M} (h : fm_at ln1 bd1 cn1 at1 sg1 pl1 rl1 bt1 M) : fm_at ln1 bd1 cn1 at1 sg1 pl1 rl1 bt1 (sl_up M 1 x) := by
  obtain ⟨z0, z1, z2, z3, z4⟩ := h
  exact ⟨(up_out (by omega)).trans z0, (up_out (by omega)).trans z1, (up_out (by omega)).trans z2, (up_out (by omega)).trans z3, (up_out (by omega)).trans z4⟩
theorem t_tp_rg {x : sl_E} {d ho1 : Nat} {gv1 rv1 lv1 fv1 : Value} {S1 : rd_T} (h3d : d = 38 ∨ d = 53) {M : sl_M} (h : rg_A d ho1 gv1 rv1 lv1 fv1 S1 M) : rg_A d ho1 gv1 rv1 lv1 fv1 S1 (sl_up M 1 x) := by
  obtain ⟨z0, z1, z2, z3, z4, z5, z6, z7, z8, z9, z10, z11, z12, z13, z14⟩ := h
  exact ⟨(up_out (by omega)).trans z0, (up_out (by omega)).trans z1, (up_out (by omega)).trans z2, (up_out (by omega)).trans z3, (up_out (by omega)).trans z4, (up_out (by omega)).trans z5, (up_out (by omega)).trans z6, (up_out (by omega)).trans z7, (up_out (by omega)).trans z8, (up_out (by omega)).trans z9, (up_out (by omega)).trans z10, (up_out (by omega)).trans z11, (up_out (by omega)).trans z12, (up_out (by omega)).trans z13, (up_out (by omega)).trans z14⟩
theorem t_tp_gr {x : sl_E} {fa1 pl1 ln1 x1 st1 tk1 tp1 sg1 : Nat} {bv1 mv1 : Value} {hd1 en1 : Bool} {wd1 : Int32} {M : sl_M} (h : gr_at fa1 pl1 bv1 ln1 x1 mv1 st1 hd1 en1 tk1 tp1 wd1 sg1 M) : gr_at fa1 pl1 bv1 ln1 x1 mv1 st1 hd1 en1 tk1 tp1 wd1 sg1 (sl_up M 1 x) := by
  have h0 : M 18 = _ := h
  exact (up_out (by omega)).trans h0
theorem t_ob_sg {x : sl_E} {d : Nat} {G : sg_T} (h2d : d = 2 ∨ d = 10) {M : sl_M} (h : sg_at d G M) : sg_at d G (sl_up M 0 x) := by
  obtain ⟨z0, z1, z2, z3, z4, z5, z6, z7⟩ := h
  exact ⟨(up_out (by omega)).trans z0, (up_out (by omega)).trans z1, (up_out (by omega)).trans z2, (up_out (by omega)).trans z3, (up_out (by omega)).trans z4, (up_out (by omega)).trans z5, (up_out (by omega)).trans z6, (up_out (by omega)).trans z7⟩
theorem t_ob_rl {x : sl_E} {e1 : Nat} {l1 t1 s1 : Nat → Int32} {M : sl_M} (h : rl_at e1 l1 t1 s1 M) : rl_at e1 l1 t1 s1 (sl_up M 0 x) := by
  obtain ⟨z0, z1, z2, z3⟩ := h
  exact ⟨(up_out (by omega)).trans z0, (up_out (by omega)).trans z1, (up_out (by omega)).trans z2, (up_out (by omega)).trans z3⟩
theorem t_ob_ld {x : sl_E} {r1 e1 : Nat} {k1 k2 n1 b1 : Nat → Nat} {a1 a2 : Nat → Int32} {M : sl_M} (h : ld_at r1 e1 k1 k2 a1 a2 n1 b1 M) : ld_at r1 e1 k1 k2 a1 a2 n1 b1 (sl_up M 0 x) := by
  obtain ⟨z0, z1, z2, z3, z4, z5, z6⟩ := h
  exact ⟨(up_out (by omega)).trans z0, (up_out (by omega)).trans z1, (up_out (by omega)).trans z2, (up_out (by omega)).trans z3, (up_out (by omega)).trans z4, (up_out (by omega)).trans z5, (up_out (by omega)).trans z6⟩
theorem t_ob_ac {x : sl_E} {c1 : Nat} {o1 w1 : Nat → Int32} {M : sl_M} (h : ac_at c1 o1 w1 M) : ac_at c1 o1 w1 (sl_up M 0 x) := by
  obtain ⟨z0, z1, z2⟩ := h
  exact ⟨(up_out (by omega)).trans z0, (up_out (by omega)).trans z1, (up_out (by omega)).trans z2⟩
theorem t_ob_fm {x : sl_E} {ln1 cn1 at1 : Nat} {bd1 : Option Nat} {sg1 pl1 : Nat → Nat} {rl1 : Nat → Bool} {bt1 : Nat → Int32} {M : sl_M} (h : fm_at ln1 bd1 cn1 at1 sg1 pl1 rl1 bt1 M) : fm_at ln1 bd1 cn1 at1 sg1 pl1 rl1 bt1 (sl_up M 0 x) := by
  obtain ⟨z0, z1, z2, z3, z4⟩ := h
  exact ⟨(up_out (by omega)).trans z0, (up_out (by omega)).trans z1, (up_out (by omega)).trans z2, (up_out (by omega)).trans z3, (up_out (by omega)).trans z4⟩
theorem t_ob_rg {x : sl_E} {d ho1 : Nat} {gv1 rv1 lv1 fv1 : Value} {S1 : rd_T} (h3d : d = 38 ∨ d = 53) {M : sl_M} (h : rg_A d ho1 gv1 rv1 lv1 fv1 S1 M) : rg_A d ho1 gv1 rv1 lv1 fv1 S1 (sl_up M 0 x) := by
  obtain ⟨z0, z1, z2, z3, z4, z5, z6, z7, z8, z9, z10, z11, z12, z13, z14⟩ := h
  exact ⟨(up_out (by omega)).trans z0, (up_out (by omega)).trans z1, (up_out (by omega)).trans z2, (up_out (by omega)).trans z3, (up_out (by omega)).trans z4, (up_out (by omega)).trans z5, (up_out (by omega)).trans z6, (up_out (by omega)).trans z7, (up_out (by omega)).trans z8, (up_out (by omega)).trans z9, (up_out (by omega)).trans z10, (up_out (by omega)).trans z11, (up_out (by omega)).trans z12, (up_out (by omega)).trans z13, (up_out (by omega)).trans z14⟩
theorem t_ob_gr {x : sl_E} {fa1 pl1 ln1 x1 st1 tk1 tp1 sg1 : Nat} {bv1 mv1 : Value} {hd1 en1 : Bool} {wd1 : Int32} {M : sl_M} (h : gr_at fa1 pl1 bv1 ln1 x1 mv1 st1 hd1 en1 tk1 tp1 wd1 sg1 M) : gr_at fa1 pl1 bv1 ln1 x1 mv1 st1 hd1 en1 tk1 tp1 wd1 sg1 (sl_up M 0 x) := by
  have h0 : M 18 = _ := h
  exact (up_out (by omega)).trans h0
theorem t_ob_1 {x y : sl_E} {M : sl_M} (h : M 1 = y) : sl_up M 0 x 1 = y := (up_out (by decide)).trans h

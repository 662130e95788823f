/-! what the reference does by a rule -/
def doQ (w : Int64) (nm : Nat → Int64) (M : sl_M) (V : Nat × Bool × Int32) (v : Nat → Int32) (a : Nat → Nat → Int32) (Q : Option Value → sl_M → Prop) : Prop := ∀ v', (∀ k, k ∉ [79, 80, 62] → v' k = v k) → v' 62 = nI V.1 → (V.1 = 0 → v' 80 = sl_bi V.2.1 ∧ v' 79 = V.2.2) → Q none (rf_S v' w a nm M)
section RDO
variable {v : Nat → Int32} {w : Int64} {a : Nat → Nat → Int32} {nm : Nat → Int64} {M : sl_M} {Q : Option Value → sl_M → Prop}
set_option maxRecDepth 100000 in
theorem do_228 {k : Nat} {R : Bool} {B : Int32} (hk : k ≤ 2) (hkn : v 22 = nI k) (hf : v 62 = nI 0) (hr : v 80 = sl_bi R) (hb : v 79 = B) (hQ : doQ w nm M (rd_vk k (R, B)) v a Q) {l1 l2 : Option Value} : sl_V YX12_does none 4 0 0 Q 228 [some (.ref 68), l1, l2] [] (rf_S v w a nm M) := by
  have h5 : k = cond R 1 2 → Q none (rf_S (sl_u v 62 (nI 5)) w a nm M) := fun e => hQ _ (fun j hj => sl_u_ne (fun q => hj (by rw [q]; decide))) (by unfold rd_vk; rw [if_pos e]; exact sl_u_eq) (fun q => by unfold rd_vk at q; rw [if_pos e] at q; cases q)
  have h0 : ¬ k = cond R 1 2 → Q none (rf_S v w a nm M) := fun e => hQ v (fun _ _ => rfl) (by unfold rd_vk; rw [if_neg e]; exact hf) (fun _ => ⟨hr, hb⟩)
  cases R with
  | true =>
    by_cases e : k = 1
    · have q := h5 e
      refine slv_aload_n eX12_does_228 rfl ?_
      refine slr_gi eX12_does_229 fX12_441 rfl (by repeat (first | exact sl_u_eq | assumption | apply rf_ne (by decide) | exact rfl)) ?_
      refine slv_if_ne eX12_does_232 (fun h232 => absurd rfl h232) (fun h232 => ?_)
      refine slv_aload_n eX12_does_235 rfl ?_
      refine slr_gi eX12_does_236 fX12_327 rfl (by repeat (first | exact sl_u_eq | assumption | apply rf_ne (by decide) | exact rfl)) ?_
      refine slv_iconst (v := nI 1) eX12_does_239 (by decide) ?_
      refine slv_icmp_neN eX12_does_240 (by omega) (by omega) (fun h240 => absurd h240 (by omega)) (fun h240 => ?_)
      refine slv_aload_n eX12_does_243 rfl ?_
      refine slr_gi eX12_does_244 fX12_483 rfl (by repeat (first | exact sl_u_eq | assumption | apply rf_ne (by decide) | exact rfl)) ?_
      refine slv_if_neB eX12_does_247 (fun h247 => ?_) (fun h247 => absurd h247 (by decide))
      refine slv_aload_n eX12_does_265 rfl ?_
      refine slv_iconst (v := nI 5) eX12_does_266 (by decide) ?_
      refine slr_pi eX12_does_267 fX12_441 (Nat.le_of_ble_eq_true rfl) rf_s62 ?_
      refine slv_vret eX12_does_270 rfl ?_
      exact q
    · have q := h0 e
      by_cases e2 : k = 2
      · refine slv_aload_n eX12_does_228 rfl ?_
        refine slr_gi eX12_does_229 fX12_441 rfl (by repeat (first | exact sl_u_eq | assumption | apply rf_ne (by decide) | exact rfl)) ?_
        refine slv_if_ne eX12_does_232 (fun h232 => absurd rfl h232) (fun h232 => ?_)
        refine slv_aload_n eX12_does_235 rfl ?_
        refine slr_gi eX12_does_236 fX12_327 rfl (by repeat (first | exact sl_u_eq | assumption | apply rf_ne (by decide) | exact rfl)) ?_
        refine slv_iconst (v := nI 1) eX12_does_239 (by decide) ?_
        refine slv_icmp_neN eX12_does_240 (by omega) (by omega) (fun h240 => ?_) (fun h240 => absurd h240 e)
        refine slv_aload_n eX12_does_250 rfl ?_
        refine slr_gi eX12_does_251 fX12_327 rfl (by repeat (first | exact sl_u_eq | assumption | apply rf_ne (by decide) | exact rfl)) ?_
        refine slv_iconst (v := nI 2) eX12_does_254 (by decide) ?_
        refine slv_icmp_neN eX12_does_255 (by omega) (by omega) (fun h255 => absurd h255 (by omega)) (fun h255 => ?_)
        refine slv_aload_n eX12_does_258 rfl ?_
        refine slr_gi eX12_does_259 fX12_483 rfl (by repeat (first | exact sl_u_eq | assumption | apply rf_ne (by decide) | exact rfl)) ?_
        refine slv_if_neB eX12_does_262 (fun h262 => ?_) (fun h262 => absurd h262 (by decide))
        refine slv_vret eX12_does_270 rfl ?_
        exact q
      · refine slv_aload_n eX12_does_228 rfl ?_
        refine slr_gi eX12_does_229 fX12_441 rfl (by repeat (first | exact sl_u_eq | assumption | apply rf_ne (by decide) | exact rfl)) ?_
        refine slv_if_ne eX12_does_232 (fun h232 => absurd rfl h232) (fun h232 => ?_)
        refine slv_aload_n eX12_does_235 rfl ?_
        refine slr_gi eX12_does_236 fX12_327 rfl (by repeat (first | exact sl_u_eq | assumption | apply rf_ne (by decide) | exact rfl)) ?_
        refine slv_iconst (v := nI 1) eX12_does_239 (by decide) ?_
        refine slv_icmp_neN eX12_does_240 (by omega) (by omega) (fun h240 => ?_) (fun h240 => absurd h240 e)
        refine slv_aload_n eX12_does_250 rfl ?_
        refine slr_gi eX12_does_251 fX12_327 rfl (by repeat (first | exact sl_u_eq | assumption | apply rf_ne (by decide) | exact rfl)) ?_
        refine slv_iconst (v := nI 2) eX12_does_254 (by decide) ?_
        refine slv_icmp_neN eX12_does_255 (by omega) (by omega) (fun h255 => ?_) (fun h255 => absurd h255 e2)
        refine slv_vret eX12_does_270 rfl ?_
        exact q
  | false =>
    by_cases e : k = 2
    · have q := h5 e
      refine slv_aload_n eX12_does_228 rfl ?_
      refine slr_gi eX12_does_229 fX12_441 rfl (by repeat (first | exact sl_u_eq | assumption | apply rf_ne (by decide) | exact rfl)) ?_
      refine slv_if_ne eX12_does_232 (fun h232 => absurd rfl h232) (fun h232 => ?_)
      refine slv_aload_n eX12_does_235 rfl ?_
      refine slr_gi eX12_does_236 fX12_327 rfl (by repeat (first | exact sl_u_eq | assumption | apply rf_ne (by decide) | exact rfl)) ?_
      refine slv_iconst (v := nI 1) eX12_does_239 (by decide) ?_
      refine slv_icmp_neN eX12_does_240 (by omega) (by omega) (fun h240 => ?_) (fun h240 => absurd h240 (by omega))
      refine slv_aload_n eX12_does_250 rfl ?_
      refine slr_gi eX12_does_251 fX12_327 rfl (by repeat (first | exact sl_u_eq | assumption | apply rf_ne (by decide) | exact rfl)) ?_
      refine slv_iconst (v := nI 2) eX12_does_254 (by decide) ?_
      refine slv_icmp_neN eX12_does_255 (by omega) (by omega) (fun h255 => absurd h255 (by omega)) (fun h255 => ?_)
      refine slv_aload_n eX12_does_258 rfl ?_
      refine slr_gi eX12_does_259 fX12_483 rfl (by repeat (first | exact sl_u_eq | assumption | apply rf_ne (by decide) | exact rfl)) ?_
      refine slv_if_neB eX12_does_262 (fun h262 => absurd h262 (by decide)) (fun h262 => ?_)
      refine slv_aload_n eX12_does_265 rfl ?_
      refine slv_iconst (v := nI 5) eX12_does_266 (by decide) ?_
      refine slr_pi eX12_does_267 fX12_441 (Nat.le_of_ble_eq_true rfl) rf_s62 ?_
      refine slv_vret eX12_does_270 rfl ?_
      exact q
    · have q := h0 e
      by_cases e1 : k = 1
      · refine slv_aload_n eX12_does_228 rfl ?_
        refine slr_gi eX12_does_229 fX12_441 rfl (by repeat (first | exact sl_u_eq | assumption | apply rf_ne (by decide) | exact rfl)) ?_
        refine slv_if_ne eX12_does_232 (fun h232 => absurd rfl h232) (fun h232 => ?_)
        refine slv_aload_n eX12_does_235 rfl ?_
        refine slr_gi eX12_does_236 fX12_327 rfl (by repeat (first | exact sl_u_eq | assumption | apply rf_ne (by decide) | exact rfl)) ?_
        refine slv_iconst (v := nI 1) eX12_does_239 (by decide) ?_
        refine slv_icmp_neN eX12_does_240 (by omega) (by omega) (fun h240 => absurd h240 (by omega)) (fun h240 => ?_)
        refine slv_aload_n eX12_does_243 rfl ?_
        refine slr_gi eX12_does_244 fX12_483 rfl (by repeat (first | exact sl_u_eq | assumption | apply rf_ne (by decide) | exact rfl)) ?_
        refine slv_if_neB eX12_does_247 (fun h247 => absurd h247 (by decide)) (fun h247 => ?_)
        refine slv_aload_n eX12_does_250 rfl ?_
        refine slr_gi eX12_does_251 fX12_327 rfl (by repeat (first | exact sl_u_eq | assumption | apply rf_ne (by decide) | exact rfl)) ?_
        refine slv_iconst (v := nI 2) eX12_does_254 (by decide) ?_
        refine slv_icmp_neN eX12_does_255 (by omega) (by omega) (fun h255 => ?_) (fun h255 => absurd h255 e)
        refine slv_vret eX12_does_270 rfl ?_
        exact q
      · refine slv_aload_n eX12_does_228 rfl ?_
        refine slr_gi eX12_does_229 fX12_441 rfl (by repeat (first | exact sl_u_eq | assumption | apply rf_ne (by decide) | exact rfl)) ?_
        refine slv_if_ne eX12_does_232 (fun h232 => absurd rfl h232) (fun h232 => ?_)
        refine slv_aload_n eX12_does_235 rfl ?_
        refine slr_gi eX12_does_236 fX12_327 rfl (by repeat (first | exact sl_u_eq | assumption | apply rf_ne (by decide) | exact rfl)) ?_
        refine slv_iconst (v := nI 1) eX12_does_239 (by decide) ?_
        refine slv_icmp_neN eX12_does_240 (by omega) (by omega) (fun h240 => ?_) (fun h240 => absurd h240 e1)
        refine slv_aload_n eX12_does_250 rfl ?_
        refine slr_gi eX12_does_251 fX12_327 rfl (by repeat (first | exact sl_u_eq | assumption | apply rf_ne (by decide) | exact rfl)) ?_
        refine slv_iconst (v := nI 2) eX12_does_254 (by decide) ?_
        refine slv_icmp_neN eX12_does_255 (by omega) (by omega) (fun h255 => ?_) (fun h255 => absurd h255 e)
        refine slv_vret eX12_does_270 rfl ?_
        exact q
end RDO

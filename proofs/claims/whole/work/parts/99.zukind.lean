/-! the kind is nothing to edges and relations -/
set_option maxRecDepth 100000 in
theorem rl_LT_k (g : sg_T) (k : Nat) : rl_LT (k, g.2) = rl_LT g := rfl
set_option maxRecDepth 100000 in
theorem rl_S_k (g : sg_T) (k : Nat) : rl_S (k, g.2) = rl_S g := rfl

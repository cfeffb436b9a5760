/-! what the floating numbers of a progress answer (12x.fp) -/
theorem fp_ok : FPok := fun a b h0 h1 h2 h3 => n32_of (fdiv_nn h0 h1 h2 h3)

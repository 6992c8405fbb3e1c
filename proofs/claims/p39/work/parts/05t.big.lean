set_option maxRecDepth 100000 in
theorem tw_518 : Cond.code yL_act cL_act 19 (some .boolean) ∈ eg_T := eg_in 541 rfl (by decide +kernel)

set_option maxRecDepth 20000 in
theorem wc_try1 : encS mw_I0 = 0 := by decide +kernel
theorem wc_try2 : wcI 7 0 = 100 ∧ wcI 17 16 = 160 ∧ wcI 29 1 = 10 := by decide +kernel

/-! THE RUNS of the law, box by box, by the kernel. -/
set_option maxRecDepth 100000 in
theorem e_rb9 : e_acc 1300000 (0, e_pg 0, 0, 0, 30) (e_pg 0) (e_entry 9 [(10, 6)]) [] [] (0, e_tnew 9) (e_ivp e_iv0 6 (2147483666, 2147483666)) = true := by decide +kernel
set_option maxRecDepth 100000 in
theorem e_rb10 : e_acc 1300000 (0, e_pg 0, 0, 0, 30) (e_pg 0) (e_entry 9 [(10, 6)]) [] [] (0, e_tnew 9) (e_ivp e_iv0 6 (2147483667, 2147483667)) = true := by decide +kernel

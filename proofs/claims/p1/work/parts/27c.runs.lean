/-! THE RUNS of the law, box by box, by the kernel. -/
set_option maxRecDepth 100000 in
theorem e_rb6 : e_acc 1300000 (0, e_pg 0, 0, 0, 30) (e_pg 0) (e_entry 9 [(10, 6)]) [] [] (0, e_tnew 9) (e_ivp (e_ivp e_iv0 6 (2147483660, 2147483660)) 1 (2147483651, 2147483658)) = true := by decide +kernel
set_option maxRecDepth 100000 in
theorem e_rb7 : e_acc 1300000 (0, e_pg 0, 0, 0, 30) (e_pg 0) (e_entry 9 [(10, 6)]) [] [] (0, e_tnew 9) (e_ivp (e_ivp e_iv0 6 (2147483660, 2147483660)) 1 (2147483659, 4294967295)) = true := by decide +kernel
set_option maxRecDepth 100000 in
theorem e_rb8 : e_acc 1300000 (0, e_pg 0, 0, 0, 30) (e_pg 0) (e_entry 9 [(10, 6)]) [] [] (0, e_tnew 9) (e_ivp e_iv0 6 (2147483661, 2147483665)) = true := by decide +kernel

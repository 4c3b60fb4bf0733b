/-! THE RUNS of the law, box by box, by the kernel. -/
set_option maxRecDepth 100000 in
theorem e_rl0 : e_acc 1300000 (0, e_pg 0, 0, 0, 30) (e_pg 0) (e_entry 9 [(10, 0)]) [] [] (0, e_tnew 9) e_iv0 = true := by decide +kernel
set_option maxRecDepth 100000 in
theorem e_rl1 : e_acc 1300000 (0, e_pg 0, 0, 0, 30) (e_pg 0) (e_entry 9 [(10, 1)]) [] [] (0, e_tnew 9) e_iv0 = true := by decide +kernel
set_option maxRecDepth 100000 in
theorem e_rl2 : e_acc 1300000 (0, e_pg 0, 0, 0, 30) (e_pg 0) (e_entry 9 [(10, 2)]) [] [] (0, e_tnew 9) e_iv0 = true := by decide +kernel
set_option maxRecDepth 100000 in
theorem e_rl3 : e_acc 1300000 (0, e_pg 0, 0, 0, 30) (e_pg 0) (e_entry 9 [(10, 3)]) [] [] (0, e_tnew 9) e_iv0 = true := by decide +kernel
set_option maxRecDepth 100000 in
theorem e_rl4 : e_acc 1300000 (0, e_pg 0, 0, 0, 30) (e_pg 0) (e_entry 9 [(10, 4)]) [] [] (0, e_tnew 9) e_iv0 = true := by decide +kernel
set_option maxRecDepth 100000 in
theorem e_rl5 : e_acc 1300000 (0, e_pg 0, 0, 0, 30) (e_pg 0) (e_entry 9 [(10, 5)]) [] [] (0, e_tnew 9) e_iv0 = true := by decide +kernel
set_option maxRecDepth 100000 in
theorem e_rb0 : e_acc 1300000 (0, e_pg 0, 0, 0, 30) (e_pg 0) (e_entry 9 [(10, 6)]) [] [] (0, e_tnew 9) (e_ivp e_iv0 6 (2147483648, 2147483648)) = true := by decide +kernel
set_option maxRecDepth 100000 in
theorem e_rb1 : e_acc 1300000 (0, e_pg 0, 0, 0, 30) (e_pg 0) (e_entry 9 [(10, 6)]) [] [] (0, e_tnew 9) (e_ivp e_iv0 6 (2147483649, 2147483656)) = true := by decide +kernel
set_option maxRecDepth 100000 in
theorem e_rb2 : e_acc 1300000 (0, e_pg 0, 0, 0, 30) (e_pg 0) (e_entry 9 [(10, 6)]) [] [] (0, e_tnew 9) (e_ivp e_iv0 6 (2147483657, 2147483659)) = true := by decide +kernel
set_option maxRecDepth 100000 in
theorem e_rb3 : e_acc 1300000 (0, e_pg 0, 0, 0, 30) (e_pg 0) (e_entry 9 [(10, 6)]) [] [] (0, e_tnew 9) (e_ivp (e_ivp e_iv0 6 (2147483660, 2147483660)) 1 (0, 2147483648)) = true := by decide +kernel

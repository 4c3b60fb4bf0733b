/-! THE RUNS of the law, box by box, by the kernel. -/
set_option maxRecDepth 100000 in
theorem e_rb73 : e_acc 1100000 (0, e_pg 0, 0, 0, 30) (e_pg 0) (e_entry 9 [(10, 6)]) [] [] (0, e_tnew 9) (e_ivp (e_ivp (e_ivp e_iv0 6 (2147483682, 2147483682)) 1 (2147483650, 2147483650)) 2 (2147483652, 2147483652)) = true := by decide +kernel
set_option maxRecDepth 100000 in
theorem e_rb74 : e_acc 1100000 (0, e_pg 0, 0, 0, 30) (e_pg 0) (e_entry 9 [(10, 6)]) [] [] (0, e_tnew 9) (e_ivp (e_ivp (e_ivp e_iv0 6 (2147483682, 2147483682)) 1 (2147483650, 2147483650)) 2 (2147483653, 2147483653)) = true := by decide +kernel
set_option maxRecDepth 100000 in
theorem e_rb75 : e_acc 1100000 (0, e_pg 0, 0, 0, 30) (e_pg 0) (e_entry 9 [(10, 6)]) [] [] (0, e_tnew 9) (e_ivp (e_ivp (e_ivp e_iv0 6 (2147483682, 2147483682)) 1 (2147483650, 2147483650)) 2 (2147483654, 2147483654)) = true := by decide +kernel
set_option maxRecDepth 100000 in
theorem e_rb76 : e_acc 1100000 (0, e_pg 0, 0, 0, 30) (e_pg 0) (e_entry 9 [(10, 6)]) [] [] (0, e_tnew 9) (e_ivp (e_ivp (e_ivp e_iv0 6 (2147483682, 2147483682)) 1 (2147483650, 2147483650)) 2 (2147483655, 2147483655)) = true := by decide +kernel
set_option maxRecDepth 100000 in
theorem e_rb77 : e_acc 1100000 (0, e_pg 0, 0, 0, 30) (e_pg 0) (e_entry 9 [(10, 6)]) [] [] (0, e_tnew 9) (e_ivp (e_ivp (e_ivp e_iv0 6 (2147483682, 2147483682)) 1 (2147483650, 2147483650)) 2 (2147483656, 2147483656)) = true := by decide +kernel
set_option maxRecDepth 100000 in
theorem e_rb78 : e_acc 1100000 (0, e_pg 0, 0, 0, 30) (e_pg 0) (e_entry 9 [(10, 6)]) [] [] (0, e_tnew 9) (e_ivp (e_ivp (e_ivp e_iv0 6 (2147483682, 2147483682)) 1 (2147483650, 2147483650)) 2 (2147483657, 2147483657)) = true := by decide +kernel
set_option maxRecDepth 100000 in
theorem e_rb79 : e_acc 1100000 (0, e_pg 0, 0, 0, 30) (e_pg 0) (e_entry 9 [(10, 6)]) [] [] (0, e_tnew 9) (e_ivp (e_ivp (e_ivp e_iv0 6 (2147483682, 2147483682)) 1 (2147483650, 2147483650)) 2 (2147483658, 2147483658)) = true := by decide +kernel

/-! THE RUNS of the law, box by box, by the kernel. -/
set_option maxRecDepth 100000 in
theorem e_rb80 : e_acc 1100000 (0, e_pg 0, 0, 0, 30) (e_pg 0) (e_entry 9 [(10, 6)]) [] [] (0, e_tnew 9) (e_ivp (e_ivp (e_ivp e_iv0 6 (2147483682, 2147483682)) 1 (2147483650, 2147483650)) 2 (2147483659, 2147483659)) = true := by decide +kernel
set_option maxRecDepth 100000 in
theorem e_rb81 : e_acc 1100000 (0, e_pg 0, 0, 0, 30) (e_pg 0) (e_entry 9 [(10, 6)]) [] [] (0, e_tnew 9) (e_ivp (e_ivp (e_ivp e_iv0 6 (2147483682, 2147483682)) 1 (2147483650, 2147483650)) 2 (2147483660, 2147483660)) = true := by decide +kernel
set_option maxRecDepth 100000 in
theorem e_rb82 : e_acc 1100000 (0, e_pg 0, 0, 0, 30) (e_pg 0) (e_entry 9 [(10, 6)]) [] [] (0, e_tnew 9) (e_ivp (e_ivp (e_ivp e_iv0 6 (2147483682, 2147483682)) 1 (2147483650, 2147483650)) 2 (2147483661, 4294967295)) = true := by decide +kernel
set_option maxRecDepth 100000 in
theorem e_rb83 : e_acc 1100000 (0, e_pg 0, 0, 0, 30) (e_pg 0) (e_entry 9 [(10, 6)]) [] [] (0, e_tnew 9) (e_ivp (e_ivp (e_ivp e_iv0 6 (2147483682, 2147483682)) 1 (2147483651, 2147483651)) 2 (0, 2147483648)) = true := by decide +kernel
set_option maxRecDepth 100000 in
theorem e_rb84 : e_acc 1100000 (0, e_pg 0, 0, 0, 30) (e_pg 0) (e_entry 9 [(10, 6)]) [] [] (0, e_tnew 9) (e_ivp (e_ivp (e_ivp e_iv0 6 (2147483682, 2147483682)) 1 (2147483651, 2147483651)) 2 (2147483649, 2147483649)) = true := by decide +kernel
set_option maxRecDepth 100000 in
theorem e_rb85 : e_acc 1100000 (0, e_pg 0, 0, 0, 30) (e_pg 0) (e_entry 9 [(10, 6)]) [] [] (0, e_tnew 9) (e_ivp (e_ivp (e_ivp e_iv0 6 (2147483682, 2147483682)) 1 (2147483651, 2147483651)) 2 (2147483650, 2147483650)) = true := by decide +kernel
set_option maxRecDepth 100000 in
theorem e_rb86 : e_acc 1100000 (0, e_pg 0, 0, 0, 30) (e_pg 0) (e_entry 9 [(10, 6)]) [] [] (0, e_tnew 9) (e_ivp (e_ivp (e_ivp e_iv0 6 (2147483682, 2147483682)) 1 (2147483651, 2147483651)) 2 (2147483651, 2147483651)) = true := by decide +kernel
set_option maxRecDepth 100000 in
theorem e_rb87 : e_acc 1100000 (0, e_pg 0, 0, 0, 30) (e_pg 0) (e_entry 9 [(10, 6)]) [] [] (0, e_tnew 9) (e_ivp (e_ivp (e_ivp e_iv0 6 (2147483682, 2147483682)) 1 (2147483651, 2147483651)) 2 (2147483652, 2147483652)) = true := by decide +kernel

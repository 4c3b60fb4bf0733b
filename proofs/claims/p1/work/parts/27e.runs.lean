/-! THE RUNS of the law, box by box, by the kernel. -/
set_option maxRecDepth 100000 in
theorem e_rb43 : e_acc 1100000 (0, e_pg 0, 0, 0, 30) (e_pg 0) (e_entry 9 [(10, 6)]) [] [] (0, e_tnew 9) (e_ivp (e_ivp (e_ivp e_iv0 6 (2147483682, 2147483682)) 1 (2147483648, 2147483648)) 2 (2147483650, 2147483650)) = true := by decide +kernel
set_option maxRecDepth 100000 in
theorem e_rb44 : e_acc 1100000 (0, e_pg 0, 0, 0, 30) (e_pg 0) (e_entry 9 [(10, 6)]) [] [] (0, e_tnew 9) (e_ivp (e_ivp (e_ivp e_iv0 6 (2147483682, 2147483682)) 1 (2147483648, 2147483648)) 2 (2147483651, 2147483651)) = true := by decide +kernel
set_option maxRecDepth 100000 in
theorem e_rb45 : e_acc 1100000 (0, e_pg 0, 0, 0, 30) (e_pg 0) (e_entry 9 [(10, 6)]) [] [] (0, e_tnew 9) (e_ivp (e_ivp (e_ivp e_iv0 6 (2147483682, 2147483682)) 1 (2147483648, 2147483648)) 2 (2147483652, 2147483652)) = true := by decide +kernel
set_option maxRecDepth 100000 in
theorem e_rb46 : e_acc 1100000 (0, e_pg 0, 0, 0, 30) (e_pg 0) (e_entry 9 [(10, 6)]) [] [] (0, e_tnew 9) (e_ivp (e_ivp (e_ivp e_iv0 6 (2147483682, 2147483682)) 1 (2147483648, 2147483648)) 2 (2147483653, 2147483653)) = true := by decide +kernel
set_option maxRecDepth 100000 in
theorem e_rb47 : e_acc 1100000 (0, e_pg 0, 0, 0, 30) (e_pg 0) (e_entry 9 [(10, 6)]) [] [] (0, e_tnew 9) (e_ivp (e_ivp (e_ivp e_iv0 6 (2147483682, 2147483682)) 1 (2147483648, 2147483648)) 2 (2147483654, 2147483654)) = true := by decide +kernel
set_option maxRecDepth 100000 in
theorem e_rb48 : e_acc 1100000 (0, e_pg 0, 0, 0, 30) (e_pg 0) (e_entry 9 [(10, 6)]) [] [] (0, e_tnew 9) (e_ivp (e_ivp (e_ivp e_iv0 6 (2147483682, 2147483682)) 1 (2147483648, 2147483648)) 2 (2147483655, 2147483655)) = true := by decide +kernel
set_option maxRecDepth 100000 in
theorem e_rb49 : e_acc 1100000 (0, e_pg 0, 0, 0, 30) (e_pg 0) (e_entry 9 [(10, 6)]) [] [] (0, e_tnew 9) (e_ivp (e_ivp (e_ivp e_iv0 6 (2147483682, 2147483682)) 1 (2147483648, 2147483648)) 2 (2147483656, 2147483656)) = true := by decide +kernel

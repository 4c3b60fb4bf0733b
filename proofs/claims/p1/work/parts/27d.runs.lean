/-! THE RUNS of the law, box by box, by the kernel. -/
set_option maxRecDepth 100000 in
theorem e_rb32 : e_acc 1100000 (0, e_pg 0, 0, 0, 30) (e_pg 0) (e_entry 9 [(10, 6)]) [] [] (0, e_tnew 9) (e_ivp (e_ivp e_iv0 6 (2147483667, 2147483667)) 1 (2147483656, 4294967295)) = true := by decide +kernel
set_option maxRecDepth 100000 in
theorem e_rb33 : e_acc 1100000 (0, e_pg 0, 0, 0, 30) (e_pg 0) (e_entry 9 [(10, 6)]) [] [] (0, e_tnew 9) (e_ivp (e_ivp e_iv0 6 (2147483668, 2147483668)) 1 (0, 2147483649)) = true := by decide +kernel
set_option maxRecDepth 100000 in
theorem e_rb34 : e_acc 1100000 (0, e_pg 0, 0, 0, 30) (e_pg 0) (e_entry 9 [(10, 6)]) [] [] (0, e_tnew 9) (e_ivp (e_ivp e_iv0 6 (2147483668, 2147483668)) 1 (2147483650, 2147483651)) = true := by decide +kernel
set_option maxRecDepth 100000 in
theorem e_rb35 : e_acc 1100000 (0, e_pg 0, 0, 0, 30) (e_pg 0) (e_entry 9 [(10, 6)]) [] [] (0, e_tnew 9) (e_ivp (e_ivp e_iv0 6 (2147483668, 2147483668)) 1 (2147483652, 2147483653)) = true := by decide +kernel
set_option maxRecDepth 100000 in
theorem e_rb36 : e_acc 1100000 (0, e_pg 0, 0, 0, 30) (e_pg 0) (e_entry 9 [(10, 6)]) [] [] (0, e_tnew 9) (e_ivp (e_ivp e_iv0 6 (2147483668, 2147483668)) 1 (2147483654, 2147483657)) = true := by decide +kernel
set_option maxRecDepth 100000 in
theorem e_rb37 : e_acc 1100000 (0, e_pg 0, 0, 0, 30) (e_pg 0) (e_entry 9 [(10, 6)]) [] [] (0, e_tnew 9) (e_ivp (e_ivp e_iv0 6 (2147483668, 2147483668)) 1 (2147483658, 4294967295)) = true := by decide +kernel
set_option maxRecDepth 100000 in
theorem e_rb38 : e_acc 1100000 (0, e_pg 0, 0, 0, 30) (e_pg 0) (e_entry 9 [(10, 6)]) [] [] (0, e_tnew 9) (e_ivp e_iv0 6 (2147483669, 2147483673)) = true := by decide +kernel
set_option maxRecDepth 100000 in
theorem e_rb39 : e_acc 1100000 (0, e_pg 0, 0, 0, 30) (e_pg 0) (e_entry 9 [(10, 6)]) [] [] (0, e_tnew 9) (e_ivp e_iv0 6 (2147483674, 2147483681)) = true := by decide +kernel
set_option maxRecDepth 100000 in
theorem e_rb40 : e_acc 1100000 (0, e_pg 0, 0, 0, 30) (e_pg 0) (e_entry 9 [(10, 6)]) [] [] (0, e_tnew 9) (e_ivp (e_ivp e_iv0 6 (2147483682, 2147483682)) 1 (0, 2147483647)) = true := by decide +kernel
set_option maxRecDepth 100000 in
theorem e_rb41 : e_acc 1100000 (0, e_pg 0, 0, 0, 30) (e_pg 0) (e_entry 9 [(10, 6)]) [] [] (0, e_tnew 9) (e_ivp (e_ivp (e_ivp e_iv0 6 (2147483682, 2147483682)) 1 (2147483648, 2147483648)) 2 (0, 2147483648)) = true := by decide +kernel
set_option maxRecDepth 100000 in
theorem e_rb42 : e_acc 1100000 (0, e_pg 0, 0, 0, 30) (e_pg 0) (e_entry 9 [(10, 6)]) [] [] (0, e_tnew 9) (e_ivp (e_ivp (e_ivp e_iv0 6 (2147483682, 2147483682)) 1 (2147483648, 2147483648)) 2 (2147483649, 2147483649)) = true := by decide +kernel

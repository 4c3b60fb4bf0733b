/-! THE RUNS of the law, box by box, by the kernel. -/
set_option maxRecDepth 100000 in
theorem e_rb22 : e_acc 1100000 (0, e_pg 0, 0, 0, 30) (e_pg 0) (e_entry 9 [(10, 6)]) [] [] (0, e_tnew 9) (e_ivp (e_ivp e_iv0 6 (2147483660, 2147483660)) 1 (2147483652, 2147483663)) = true := by decide +kernel
set_option maxRecDepth 100000 in
theorem e_rb23 : e_acc 1100000 (0, e_pg 0, 0, 0, 30) (e_pg 0) (e_entry 9 [(10, 6)]) [] [] (0, e_tnew 9) (e_ivp (e_ivp e_iv0 6 (2147483660, 2147483660)) 1 (2147483664, 4294967295)) = true := by decide +kernel
set_option maxRecDepth 100000 in
theorem e_rb24 : e_acc 1100000 (0, e_pg 0, 0, 0, 30) (e_pg 0) (e_entry 9 [(10, 6)]) [] [] (0, e_tnew 9) (e_ivp e_iv0 6 (2147483661, 2147483665)) = true := by decide +kernel
set_option maxRecDepth 100000 in
theorem e_rb25 : e_acc 1100000 (0, e_pg 0, 0, 0, 30) (e_pg 0) (e_entry 9 [(10, 6)]) [] [] (0, e_tnew 9) (e_ivp (e_ivp e_iv0 6 (2147483666, 2147483666)) 1 (0, 2147483649)) = true := by decide +kernel
set_option maxRecDepth 100000 in
theorem e_rb26 : e_acc 1100000 (0, e_pg 0, 0, 0, 30) (e_pg 0) (e_entry 9 [(10, 6)]) [] [] (0, e_tnew 9) (e_ivp (e_ivp e_iv0 6 (2147483666, 2147483666)) 1 (2147483650, 2147483652)) = true := by decide +kernel
set_option maxRecDepth 100000 in
theorem e_rb27 : e_acc 1100000 (0, e_pg 0, 0, 0, 30) (e_pg 0) (e_entry 9 [(10, 6)]) [] [] (0, e_tnew 9) (e_ivp (e_ivp e_iv0 6 (2147483666, 2147483666)) 1 (2147483653, 2147483655)) = true := by decide +kernel
set_option maxRecDepth 100000 in
theorem e_rb28 : e_acc 1100000 (0, e_pg 0, 0, 0, 30) (e_pg 0) (e_entry 9 [(10, 6)]) [] [] (0, e_tnew 9) (e_ivp (e_ivp e_iv0 6 (2147483666, 2147483666)) 1 (2147483656, 4294967295)) = true := by decide +kernel
set_option maxRecDepth 100000 in
theorem e_rb29 : e_acc 1100000 (0, e_pg 0, 0, 0, 30) (e_pg 0) (e_entry 9 [(10, 6)]) [] [] (0, e_tnew 9) (e_ivp (e_ivp e_iv0 6 (2147483667, 2147483667)) 1 (0, 2147483649)) = true := by decide +kernel
set_option maxRecDepth 100000 in
theorem e_rb30 : e_acc 1100000 (0, e_pg 0, 0, 0, 30) (e_pg 0) (e_entry 9 [(10, 6)]) [] [] (0, e_tnew 9) (e_ivp (e_ivp e_iv0 6 (2147483667, 2147483667)) 1 (2147483650, 2147483652)) = true := by decide +kernel
set_option maxRecDepth 100000 in
theorem e_rb31 : e_acc 1100000 (0, e_pg 0, 0, 0, 30) (e_pg 0) (e_entry 9 [(10, 6)]) [] [] (0, e_tnew 9) (e_ivp (e_ivp e_iv0 6 (2147483667, 2147483667)) 1 (2147483653, 2147483655)) = true := by decide +kernel

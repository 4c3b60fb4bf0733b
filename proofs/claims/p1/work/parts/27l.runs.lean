/-! THE RUNS of the law, box by box, by the kernel. -/
set_option maxRecDepth 100000 in
theorem e_rb94 : e_acc 1100000 (0, e_pg 0, 0, 0, 30) (e_pg 0) (e_entry 9 [(10, 6)]) [] [] (0, e_tnew 9) (e_ivp (e_ivp (e_ivp e_iv0 6 (2147483682, 2147483682)) 1 (2147483651, 2147483651)) 2 (2147483659, 2147483659)) = true := by decide +kernel
set_option maxRecDepth 100000 in
theorem e_rb95 : e_acc 1100000 (0, e_pg 0, 0, 0, 30) (e_pg 0) (e_entry 9 [(10, 6)]) [] [] (0, e_tnew 9) (e_ivp (e_ivp (e_ivp e_iv0 6 (2147483682, 2147483682)) 1 (2147483651, 2147483651)) 2 (2147483660, 2147483660)) = true := by decide +kernel
set_option maxRecDepth 100000 in
theorem e_rb96 : e_acc 1100000 (0, e_pg 0, 0, 0, 30) (e_pg 0) (e_entry 9 [(10, 6)]) [] [] (0, e_tnew 9) (e_ivp (e_ivp (e_ivp e_iv0 6 (2147483682, 2147483682)) 1 (2147483651, 2147483651)) 2 (2147483661, 4294967295)) = true := by decide +kernel
set_option maxRecDepth 100000 in
theorem e_rb97 : e_acc 1100000 (0, e_pg 0, 0, 0, 30) (e_pg 0) (e_entry 9 [(10, 6)]) [] [] (0, e_tnew 9) (e_ivp (e_ivp e_iv0 6 (2147483682, 2147483682)) 1 (2147483652, 4294967295)) = true := by decide +kernel
set_option maxRecDepth 100000 in
theorem e_rb98 : e_acc 1100000 (0, e_pg 0, 0, 0, 30) (e_pg 0) (e_entry 9 [(10, 6)]) [] [] (0, e_tnew 9) (e_ivp e_iv0 6 (2147483683, 2147483690)) = true := by decide +kernel
set_option maxRecDepth 100000 in
theorem e_rb99 : e_acc 1100000 (0, e_pg 0, 0, 0, 30) (e_pg 0) (e_entry 9 [(10, 6)]) [] [] (0, e_tnew 9) (e_ivp e_iv0 6 (2147483691, 2147483691)) = true := by decide +kernel
set_option maxRecDepth 100000 in
theorem e_rb100 : e_acc 1100000 (0, e_pg 0, 0, 0, 30) (e_pg 0) (e_entry 9 [(10, 6)]) [] [] (0, e_tnew 9) (e_ivp e_iv0 6 (2147483692, 2147483711)) = true := by decide +kernel

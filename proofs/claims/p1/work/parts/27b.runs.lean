/-! THE RUNS of the law, box by box, by the kernel. -/
set_option maxRecDepth 100000 in
theorem e_rb12 : e_acc 1100000 (0, e_pg 0, 0, 0, 30) (e_pg 0) (e_entry 9 [(10, 6)]) [] [] (0, e_tnew 9) (e_ivp (e_ivp (e_ivp e_iv0 6 (2147483660, 2147483660)) 1 (2147483649, 2147483649)) 2 (2147483652, 2147483657)) = true := by decide +kernel
set_option maxRecDepth 100000 in
theorem e_rb13 : e_acc 1100000 (0, e_pg 0, 0, 0, 30) (e_pg 0) (e_entry 9 [(10, 6)]) [] [] (0, e_tnew 9) (e_ivp (e_ivp (e_ivp e_iv0 6 (2147483660, 2147483660)) 1 (2147483649, 2147483649)) 2 (2147483658, 4294967295)) = true := by decide +kernel
set_option maxRecDepth 100000 in
theorem e_rb14 : e_acc 1100000 (0, e_pg 0, 0, 0, 30) (e_pg 0) (e_entry 9 [(10, 6)]) [] [] (0, e_tnew 9) (e_ivp (e_ivp (e_ivp e_iv0 6 (2147483660, 2147483660)) 1 (2147483650, 2147483650)) 2 (0, 2147483649)) = true := by decide +kernel
set_option maxRecDepth 100000 in
theorem e_rb15 : e_acc 1100000 (0, e_pg 0, 0, 0, 30) (e_pg 0) (e_entry 9 [(10, 6)]) [] [] (0, e_tnew 9) (e_ivp (e_ivp (e_ivp e_iv0 6 (2147483660, 2147483660)) 1 (2147483650, 2147483650)) 2 (2147483650, 2147483651)) = true := by decide +kernel
set_option maxRecDepth 100000 in
theorem e_rb16 : e_acc 1100000 (0, e_pg 0, 0, 0, 30) (e_pg 0) (e_entry 9 [(10, 6)]) [] [] (0, e_tnew 9) (e_ivp (e_ivp (e_ivp e_iv0 6 (2147483660, 2147483660)) 1 (2147483650, 2147483650)) 2 (2147483652, 2147483657)) = true := by decide +kernel
set_option maxRecDepth 100000 in
theorem e_rb17 : e_acc 1100000 (0, e_pg 0, 0, 0, 30) (e_pg 0) (e_entry 9 [(10, 6)]) [] [] (0, e_tnew 9) (e_ivp (e_ivp (e_ivp e_iv0 6 (2147483660, 2147483660)) 1 (2147483650, 2147483650)) 2 (2147483658, 4294967295)) = true := by decide +kernel
set_option maxRecDepth 100000 in
theorem e_rb18 : e_acc 1100000 (0, e_pg 0, 0, 0, 30) (e_pg 0) (e_entry 9 [(10, 6)]) [] [] (0, e_tnew 9) (e_ivp (e_ivp (e_ivp e_iv0 6 (2147483660, 2147483660)) 1 (2147483651, 2147483651)) 2 (0, 2147483649)) = true := by decide +kernel
set_option maxRecDepth 100000 in
theorem e_rb19 : e_acc 1100000 (0, e_pg 0, 0, 0, 30) (e_pg 0) (e_entry 9 [(10, 6)]) [] [] (0, e_tnew 9) (e_ivp (e_ivp (e_ivp e_iv0 6 (2147483660, 2147483660)) 1 (2147483651, 2147483651)) 2 (2147483650, 2147483651)) = true := by decide +kernel
set_option maxRecDepth 100000 in
theorem e_rb20 : e_acc 1100000 (0, e_pg 0, 0, 0, 30) (e_pg 0) (e_entry 9 [(10, 6)]) [] [] (0, e_tnew 9) (e_ivp (e_ivp (e_ivp e_iv0 6 (2147483660, 2147483660)) 1 (2147483651, 2147483651)) 2 (2147483652, 2147483657)) = true := by decide +kernel
set_option maxRecDepth 100000 in
theorem e_rb21 : e_acc 1100000 (0, e_pg 0, 0, 0, 30) (e_pg 0) (e_entry 9 [(10, 6)]) [] [] (0, e_tnew 9) (e_ivp (e_ivp (e_ivp e_iv0 6 (2147483660, 2147483660)) 1 (2147483651, 2147483651)) 2 (2147483658, 4294967295)) = true := by decide +kernel

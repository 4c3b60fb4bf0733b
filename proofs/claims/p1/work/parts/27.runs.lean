theorem e_cuts : ∀ k, k < 50 → e_acc (e_kf k) (e_kI k) (e_kc k) (e_kl k) [] (e_ks k) (e_kw k) e_iv0 = true := sorry
theorem e_runs {rho : Nat → Int32} {L : Nat} (hL : L ≤ 6) (hI : e_IV rho e_iv0) (h6 : 2147483648 ≤ e_o (rho 6) ∧ e_o (rho 6) ≤ 2147483711) : ∃ iv, e_IV rho iv ∧ e_acc 1100000 (0, e_pg 0, 0, 0, 30) (e_pg 0) (e_entry 9 [(10, L)]) [] [] (0, e_tnew 9) iv = true := sorry

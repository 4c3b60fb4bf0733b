/-! EVERY SCRIPT LIES IN A BOX. -/
theorem e_runs {rho : Nat → Int32} {L : Nat} (hL : L ≤ 6) (hI : e_IV rho e_iv0) (h6 : 2147483648 ≤ e_o (rho 6) ∧ e_o (rho 6) ≤ 2147483711) : ∃ iv, e_IV rho iv ∧ e_acc 1300000 (0, e_pg 0, 0, 0, 30) (e_pg 0) (e_entry 9 [(10, L)]) [] [] (0, e_tnew 9) iv = true := by
  by_cases l0 : L = 0
  · subst l0
    exact ⟨_, hI, e_rl0⟩
  by_cases l1 : L = 1
  · subst l1
    exact ⟨_, hI, e_rl1⟩
  by_cases l2 : L = 2
  · subst l2
    exact ⟨_, hI, e_rl2⟩
  by_cases l3 : L = 3
  · subst l3
    exact ⟨_, hI, e_rl3⟩
  by_cases l4 : L = 4
  · subst l4
    exact ⟨_, hI, e_rl4⟩
  by_cases l5 : L = 5
  · subst l5
    exact ⟨_, hI, e_rl5⟩
  obtain rfl : L = 6 := by omega
  have b1 := e_o_lt (rho 1)
  have b2 := e_o_lt (rho 2)
  have b3 := e_o_lt (rho 3)
  have b4 := e_o_lt (rho 4)
  have b5 := e_o_lt (rho 5)
  by_cases q1 : e_o (rho 6) ≤ 2147483648
  · exact ⟨_, (hI.put 6 (lo := 2147483648) (hi := 2147483648) (by omega) (by omega)), e_rb0⟩
  by_cases q2 : e_o (rho 6) ≤ 2147483656
  · exact ⟨_, (hI.put 6 (lo := 2147483649) (hi := 2147483656) (by omega) (by omega)), e_rb1⟩
  by_cases q3 : e_o (rho 6) ≤ 2147483659
  · exact ⟨_, (hI.put 6 (lo := 2147483657) (hi := 2147483659) (by omega) (by omega)), e_rb2⟩
  by_cases q4 : e_o (rho 6) ≤ 2147483660
  · by_cases q5 : e_o (rho 1) ≤ 2147483648
    · exact ⟨_, ((hI.put 6 (lo := 2147483660) (hi := 2147483660) (by omega) (by omega)).put 1 (lo := 0) (hi := 2147483648) (by omega) (by omega)), e_rb3⟩
    by_cases q6 : e_o (rho 1) ≤ 2147483649
    · exact ⟨_, ((hI.put 6 (lo := 2147483660) (hi := 2147483660) (by omega) (by omega)).put 1 (lo := 2147483649) (hi := 2147483649) (by omega) (by omega)), e_rb4⟩
    by_cases q7 : e_o (rho 1) ≤ 2147483650
    · exact ⟨_, ((hI.put 6 (lo := 2147483660) (hi := 2147483660) (by omega) (by omega)).put 1 (lo := 2147483650) (hi := 2147483650) (by omega) (by omega)), e_rb5⟩
    by_cases q8 : e_o (rho 1) ≤ 2147483658
    · exact ⟨_, ((hI.put 6 (lo := 2147483660) (hi := 2147483660) (by omega) (by omega)).put 1 (lo := 2147483651) (hi := 2147483658) (by omega) (by omega)), e_rb6⟩
    exact ⟨_, ((hI.put 6 (lo := 2147483660) (hi := 2147483660) (by omega) (by omega)).put 1 (lo := 2147483659) (hi := 4294967295) (by omega) (by omega)), e_rb7⟩
  by_cases q9 : e_o (rho 6) ≤ 2147483665
  · exact ⟨_, (hI.put 6 (lo := 2147483661) (hi := 2147483665) (by omega) (by omega)), e_rb8⟩
  by_cases q10 : e_o (rho 6) ≤ 2147483666
  · exact ⟨_, (hI.put 6 (lo := 2147483666) (hi := 2147483666) (by omega) (by omega)), e_rb9⟩
  by_cases q11 : e_o (rho 6) ≤ 2147483667
  · exact ⟨_, (hI.put 6 (lo := 2147483667) (hi := 2147483667) (by omega) (by omega)), e_rb10⟩
  by_cases q12 : e_o (rho 6) ≤ 2147483668
  · by_cases q13 : e_o (rho 1) ≤ 2147483652
    · exact ⟨_, ((hI.put 6 (lo := 2147483668) (hi := 2147483668) (by omega) (by omega)).put 1 (lo := 0) (hi := 2147483652) (by omega) (by omega)), e_rb11⟩
    exact ⟨_, ((hI.put 6 (lo := 2147483668) (hi := 2147483668) (by omega) (by omega)).put 1 (lo := 2147483653) (hi := 4294967295) (by omega) (by omega)), e_rb12⟩
  by_cases q14 : e_o (rho 6) ≤ 2147483681
  · exact ⟨_, (hI.put 6 (lo := 2147483669) (hi := 2147483681) (by omega) (by omega)), e_rb13⟩
  by_cases q15 : e_o (rho 6) ≤ 2147483688
  · exact ⟨_, (hI.put 6 (lo := 2147483682) (hi := 2147483688) (by omega) (by omega)), e_rb14⟩
  exact ⟨_, (hI.put 6 (lo := 2147483689) (hi := 2147483711) (by omega) (by omega)), e_rb15⟩

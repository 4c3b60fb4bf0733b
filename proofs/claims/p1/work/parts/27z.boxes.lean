/-! EVERY SCRIPT LIES IN A BOX. -/
theorem e_runs {rho : Nat → Int32} {L : Nat} (hL : L ≤ 6) (hI : e_IV rho e_iv0) (h6 : 2147483648 ≤ e_o (rho 6) ∧ e_o (rho 6) ≤ 2147483711) : ∃ iv, e_IV rho iv ∧ e_acc 1100000 (0, e_pg 0, 0, 0, 30) (e_pg 0) (e_entry 9 [(10, L)]) [] [] (0, e_tnew 9) iv = true := by
  by_cases l0 : L = 0
  · subst l0
    exact ⟨_, hI, e_rl0⟩
  by_cases l1 : L = 1
  · subst l1
    exact ⟨_, hI, e_rl1⟩
  by_cases l2 : L = 2
  · subst l2
    exact ⟨_, hI, e_rl2⟩
  by_cases l3 : L = 3
  · subst l3
    exact ⟨_, hI, e_rl3⟩
  by_cases l4 : L = 4
  · subst l4
    exact ⟨_, hI, e_rl4⟩
  by_cases l5 : L = 5
  · subst l5
    exact ⟨_, hI, e_rl5⟩
  obtain rfl : L = 6 := by omega
  have b1 := e_o_lt (rho 1)
  have b2 := e_o_lt (rho 2)
  have b3 := e_o_lt (rho 3)
  have b4 := e_o_lt (rho 4)
  have b5 := e_o_lt (rho 5)
  by_cases q1 : e_o (rho 6) ≤ 2147483648
  · exact ⟨_, (hI.put 6 (lo := 2147483648) (hi := 2147483648) (by omega) (by omega)), e_rb0⟩
  by_cases q2 : e_o (rho 6) ≤ 2147483653
  · exact ⟨_, (hI.put 6 (lo := 2147483649) (hi := 2147483653) (by omega) (by omega)), e_rb1⟩
  by_cases q3 : e_o (rho 6) ≤ 2147483656
  · exact ⟨_, (hI.put 6 (lo := 2147483654) (hi := 2147483656) (by omega) (by omega)), e_rb2⟩
  by_cases q4 : e_o (rho 6) ≤ 2147483657
  · exact ⟨_, (hI.put 6 (lo := 2147483657) (hi := 2147483657) (by omega) (by omega)), e_rb3⟩
  by_cases q5 : e_o (rho 6) ≤ 2147483659
  · exact ⟨_, (hI.put 6 (lo := 2147483658) (hi := 2147483659) (by omega) (by omega)), e_rb4⟩
  by_cases q6 : e_o (rho 6) ≤ 2147483660
  · by_cases q7 : e_o (rho 1) ≤ 2147483647
    · exact ⟨_, ((hI.put 6 (lo := 2147483660) (hi := 2147483660) (by omega) (by omega)).put 1 (lo := 0) (hi := 2147483647) (by omega) (by omega)), e_rb5⟩
    by_cases q8 : e_o (rho 1) ≤ 2147483648
    · by_cases q9 : e_o (rho 2) ≤ 2147483649
      · exact ⟨_, (((hI.put 6 (lo := 2147483660) (hi := 2147483660) (by omega) (by omega)).put 1 (lo := 2147483648) (hi := 2147483648) (by omega) (by omega)).put 2 (lo := 0) (hi := 2147483649) (by omega) (by omega)), e_rb6⟩
      by_cases q10 : e_o (rho 2) ≤ 2147483651
      · exact ⟨_, (((hI.put 6 (lo := 2147483660) (hi := 2147483660) (by omega) (by omega)).put 1 (lo := 2147483648) (hi := 2147483648) (by omega) (by omega)).put 2 (lo := 2147483650) (hi := 2147483651) (by omega) (by omega)), e_rb7⟩
      by_cases q11 : e_o (rho 2) ≤ 2147483657
      · exact ⟨_, (((hI.put 6 (lo := 2147483660) (hi := 2147483660) (by omega) (by omega)).put 1 (lo := 2147483648) (hi := 2147483648) (by omega) (by omega)).put 2 (lo := 2147483652) (hi := 2147483657) (by omega) (by omega)), e_rb8⟩
      exact ⟨_, (((hI.put 6 (lo := 2147483660) (hi := 2147483660) (by omega) (by omega)).put 1 (lo := 2147483648) (hi := 2147483648) (by omega) (by omega)).put 2 (lo := 2147483658) (hi := 4294967295) (by omega) (by omega)), e_rb9⟩
    by_cases q12 : e_o (rho 1) ≤ 2147483649
    · by_cases q13 : e_o (rho 2) ≤ 2147483649
      · exact ⟨_, (((hI.put 6 (lo := 2147483660) (hi := 2147483660) (by omega) (by omega)).put 1 (lo := 2147483649) (hi := 2147483649) (by omega) (by omega)).put 2 (lo := 0) (hi := 2147483649) (by omega) (by omega)), e_rb10⟩
      by_cases q14 : e_o (rho 2) ≤ 2147483651
      · exact ⟨_, (((hI.put 6 (lo := 2147483660) (hi := 2147483660) (by omega) (by omega)).put 1 (lo := 2147483649) (hi := 2147483649) (by omega) (by omega)).put 2 (lo := 2147483650) (hi := 2147483651) (by omega) (by omega)), e_rb11⟩
      by_cases q15 : e_o (rho 2) ≤ 2147483657
      · exact ⟨_, (((hI.put 6 (lo := 2147483660) (hi := 2147483660) (by omega) (by omega)).put 1 (lo := 2147483649) (hi := 2147483649) (by omega) (by omega)).put 2 (lo := 2147483652) (hi := 2147483657) (by omega) (by omega)), e_rb12⟩
      exact ⟨_, (((hI.put 6 (lo := 2147483660) (hi := 2147483660) (by omega) (by omega)).put 1 (lo := 2147483649) (hi := 2147483649) (by omega) (by omega)).put 2 (lo := 2147483658) (hi := 4294967295) (by omega) (by omega)), e_rb13⟩
    by_cases q16 : e_o (rho 1) ≤ 2147483650
    · by_cases q17 : e_o (rho 2) ≤ 2147483649
      · exact ⟨_, (((hI.put 6 (lo := 2147483660) (hi := 2147483660) (by omega) (by omega)).put 1 (lo := 2147483650) (hi := 2147483650) (by omega) (by omega)).put 2 (lo := 0) (hi := 2147483649) (by omega) (by omega)), e_rb14⟩
      by_cases q18 : e_o (rho 2) ≤ 2147483651
      · exact ⟨_, (((hI.put 6 (lo := 2147483660) (hi := 2147483660) (by omega) (by omega)).put 1 (lo := 2147483650) (hi := 2147483650) (by omega) (by omega)).put 2 (lo := 2147483650) (hi := 2147483651) (by omega) (by omega)), e_rb15⟩
      by_cases q19 : e_o (rho 2) ≤ 2147483657
      · exact ⟨_, (((hI.put 6 (lo := 2147483660) (hi := 2147483660) (by omega) (by omega)).put 1 (lo := 2147483650) (hi := 2147483650) (by omega) (by omega)).put 2 (lo := 2147483652) (hi := 2147483657) (by omega) (by omega)), e_rb16⟩
      exact ⟨_, (((hI.put 6 (lo := 2147483660) (hi := 2147483660) (by omega) (by omega)).put 1 (lo := 2147483650) (hi := 2147483650) (by omega) (by omega)).put 2 (lo := 2147483658) (hi := 4294967295) (by omega) (by omega)), e_rb17⟩
    by_cases q20 : e_o (rho 1) ≤ 2147483651
    · by_cases q21 : e_o (rho 2) ≤ 2147483649
      · exact ⟨_, (((hI.put 6 (lo := 2147483660) (hi := 2147483660) (by omega) (by omega)).put 1 (lo := 2147483651) (hi := 2147483651) (by omega) (by omega)).put 2 (lo := 0) (hi := 2147483649) (by omega) (by omega)), e_rb18⟩
      by_cases q22 : e_o (rho 2) ≤ 2147483651
      · exact ⟨_, (((hI.put 6 (lo := 2147483660) (hi := 2147483660) (by omega) (by omega)).put 1 (lo := 2147483651) (hi := 2147483651) (by omega) (by omega)).put 2 (lo := 2147483650) (hi := 2147483651) (by omega) (by omega)), e_rb19⟩
      by_cases q23 : e_o (rho 2) ≤ 2147483657
      · exact ⟨_, (((hI.put 6 (lo := 2147483660) (hi := 2147483660) (by omega) (by omega)).put 1 (lo := 2147483651) (hi := 2147483651) (by omega) (by omega)).put 2 (lo := 2147483652) (hi := 2147483657) (by omega) (by omega)), e_rb20⟩
      exact ⟨_, (((hI.put 6 (lo := 2147483660) (hi := 2147483660) (by omega) (by omega)).put 1 (lo := 2147483651) (hi := 2147483651) (by omega) (by omega)).put 2 (lo := 2147483658) (hi := 4294967295) (by omega) (by omega)), e_rb21⟩
    by_cases q24 : e_o (rho 1) ≤ 2147483663
    · exact ⟨_, ((hI.put 6 (lo := 2147483660) (hi := 2147483660) (by omega) (by omega)).put 1 (lo := 2147483652) (hi := 2147483663) (by omega) (by omega)), e_rb22⟩
    exact ⟨_, ((hI.put 6 (lo := 2147483660) (hi := 2147483660) (by omega) (by omega)).put 1 (lo := 2147483664) (hi := 4294967295) (by omega) (by omega)), e_rb23⟩
  by_cases q25 : e_o (rho 6) ≤ 2147483665
  · exact ⟨_, (hI.put 6 (lo := 2147483661) (hi := 2147483665) (by omega) (by omega)), e_rb24⟩
  by_cases q26 : e_o (rho 6) ≤ 2147483666
  · by_cases q27 : e_o (rho 1) ≤ 2147483649
    · exact ⟨_, ((hI.put 6 (lo := 2147483666) (hi := 2147483666) (by omega) (by omega)).put 1 (lo := 0) (hi := 2147483649) (by omega) (by omega)), e_rb25⟩
    by_cases q28 : e_o (rho 1) ≤ 2147483652
    · exact ⟨_, ((hI.put 6 (lo := 2147483666) (hi := 2147483666) (by omega) (by omega)).put 1 (lo := 2147483650) (hi := 2147483652) (by omega) (by omega)), e_rb26⟩
    by_cases q29 : e_o (rho 1) ≤ 2147483655
    · exact ⟨_, ((hI.put 6 (lo := 2147483666) (hi := 2147483666) (by omega) (by omega)).put 1 (lo := 2147483653) (hi := 2147483655) (by omega) (by omega)), e_rb27⟩
    exact ⟨_, ((hI.put 6 (lo := 2147483666) (hi := 2147483666) (by omega) (by omega)).put 1 (lo := 2147483656) (hi := 4294967295) (by omega) (by omega)), e_rb28⟩
  by_cases q30 : e_o (rho 6) ≤ 2147483667
  · by_cases q31 : e_o (rho 1) ≤ 2147483649
    · exact ⟨_, ((hI.put 6 (lo := 2147483667) (hi := 2147483667) (by omega) (by omega)).put 1 (lo := 0) (hi := 2147483649) (by omega) (by omega)), e_rb29⟩
    by_cases q32 : e_o (rho 1) ≤ 2147483652
    · exact ⟨_, ((hI.put 6 (lo := 2147483667) (hi := 2147483667) (by omega) (by omega)).put 1 (lo := 2147483650) (hi := 2147483652) (by omega) (by omega)), e_rb30⟩
    by_cases q33 : e_o (rho 1) ≤ 2147483655
    · exact ⟨_, ((hI.put 6 (lo := 2147483667) (hi := 2147483667) (by omega) (by omega)).put 1 (lo := 2147483653) (hi := 2147483655) (by omega) (by omega)), e_rb31⟩
    exact ⟨_, ((hI.put 6 (lo := 2147483667) (hi := 2147483667) (by omega) (by omega)).put 1 (lo := 2147483656) (hi := 4294967295) (by omega) (by omega)), e_rb32⟩
  by_cases q34 : e_o (rho 6) ≤ 2147483668
  · by_cases q35 : e_o (rho 1) ≤ 2147483649
    · exact ⟨_, ((hI.put 6 (lo := 2147483668) (hi := 2147483668) (by omega) (by omega)).put 1 (lo := 0) (hi := 2147483649) (by omega) (by omega)), e_rb33⟩
    by_cases q36 : e_o (rho 1) ≤ 2147483651
    · exact ⟨_, ((hI.put 6 (lo := 2147483668) (hi := 2147483668) (by omega) (by omega)).put 1 (lo := 2147483650) (hi := 2147483651) (by omega) (by omega)), e_rb34⟩
    by_cases q37 : e_o (rho 1) ≤ 2147483653
    · exact ⟨_, ((hI.put 6 (lo := 2147483668) (hi := 2147483668) (by omega) (by omega)).put 1 (lo := 2147483652) (hi := 2147483653) (by omega) (by omega)), e_rb35⟩
    by_cases q38 : e_o (rho 1) ≤ 2147483657
    · exact ⟨_, ((hI.put 6 (lo := 2147483668) (hi := 2147483668) (by omega) (by omega)).put 1 (lo := 2147483654) (hi := 2147483657) (by omega) (by omega)), e_rb36⟩
    exact ⟨_, ((hI.put 6 (lo := 2147483668) (hi := 2147483668) (by omega) (by omega)).put 1 (lo := 2147483658) (hi := 4294967295) (by omega) (by omega)), e_rb37⟩
  by_cases q39 : e_o (rho 6) ≤ 2147483673
  · exact ⟨_, (hI.put 6 (lo := 2147483669) (hi := 2147483673) (by omega) (by omega)), e_rb38⟩
  by_cases q40 : e_o (rho 6) ≤ 2147483681
  · exact ⟨_, (hI.put 6 (lo := 2147483674) (hi := 2147483681) (by omega) (by omega)), e_rb39⟩
  by_cases q41 : e_o (rho 6) ≤ 2147483682
  · by_cases q42 : e_o (rho 1) ≤ 2147483647
    · exact ⟨_, ((hI.put 6 (lo := 2147483682) (hi := 2147483682) (by omega) (by omega)).put 1 (lo := 0) (hi := 2147483647) (by omega) (by omega)), e_rb40⟩
    by_cases q43 : e_o (rho 1) ≤ 2147483648
    · by_cases q44 : e_o (rho 2) ≤ 2147483648
      · exact ⟨_, (((hI.put 6 (lo := 2147483682) (hi := 2147483682) (by omega) (by omega)).put 1 (lo := 2147483648) (hi := 2147483648) (by omega) (by omega)).put 2 (lo := 0) (hi := 2147483648) (by omega) (by omega)), e_rb41⟩
      by_cases q45 : e_o (rho 2) ≤ 2147483649
      · exact ⟨_, (((hI.put 6 (lo := 2147483682) (hi := 2147483682) (by omega) (by omega)).put 1 (lo := 2147483648) (hi := 2147483648) (by omega) (by omega)).put 2 (lo := 2147483649) (hi := 2147483649) (by omega) (by omega)), e_rb42⟩
      by_cases q46 : e_o (rho 2) ≤ 2147483650
      · exact ⟨_, (((hI.put 6 (lo := 2147483682) (hi := 2147483682) (by omega) (by omega)).put 1 (lo := 2147483648) (hi := 2147483648) (by omega) (by omega)).put 2 (lo := 2147483650) (hi := 2147483650) (by omega) (by omega)), e_rb43⟩
      by_cases q47 : e_o (rho 2) ≤ 2147483651
      · exact ⟨_, (((hI.put 6 (lo := 2147483682) (hi := 2147483682) (by omega) (by omega)).put 1 (lo := 2147483648) (hi := 2147483648) (by omega) (by omega)).put 2 (lo := 2147483651) (hi := 2147483651) (by omega) (by omega)), e_rb44⟩
      by_cases q48 : e_o (rho 2) ≤ 2147483652
      · exact ⟨_, (((hI.put 6 (lo := 2147483682) (hi := 2147483682) (by omega) (by omega)).put 1 (lo := 2147483648) (hi := 2147483648) (by omega) (by omega)).put 2 (lo := 2147483652) (hi := 2147483652) (by omega) (by omega)), e_rb45⟩
      by_cases q49 : e_o (rho 2) ≤ 2147483653
      · exact ⟨_, (((hI.put 6 (lo := 2147483682) (hi := 2147483682) (by omega) (by omega)).put 1 (lo := 2147483648) (hi := 2147483648) (by omega) (by omega)).put 2 (lo := 2147483653) (hi := 2147483653) (by omega) (by omega)), e_rb46⟩
      by_cases q50 : e_o (rho 2) ≤ 2147483654
      · exact ⟨_, (((hI.put 6 (lo := 2147483682) (hi := 2147483682) (by omega) (by omega)).put 1 (lo := 2147483648) (hi := 2147483648) (by omega) (by omega)).put 2 (lo := 2147483654) (hi := 2147483654) (by omega) (by omega)), e_rb47⟩
      by_cases q51 : e_o (rho 2) ≤ 2147483655
      · exact ⟨_, (((hI.put 6 (lo := 2147483682) (hi := 2147483682) (by omega) (by omega)).put 1 (lo := 2147483648) (hi := 2147483648) (by omega) (by omega)).put 2 (lo := 2147483655) (hi := 2147483655) (by omega) (by omega)), e_rb48⟩
      by_cases q52 : e_o (rho 2) ≤ 2147483656
      · exact ⟨_, (((hI.put 6 (lo := 2147483682) (hi := 2147483682) (by omega) (by omega)).put 1 (lo := 2147483648) (hi := 2147483648) (by omega) (by omega)).put 2 (lo := 2147483656) (hi := 2147483656) (by omega) (by omega)), e_rb49⟩
      by_cases q53 : e_o (rho 2) ≤ 2147483657
      · exact ⟨_, (((hI.put 6 (lo := 2147483682) (hi := 2147483682) (by omega) (by omega)).put 1 (lo := 2147483648) (hi := 2147483648) (by omega) (by omega)).put 2 (lo := 2147483657) (hi := 2147483657) (by omega) (by omega)), e_rb50⟩
      by_cases q54 : e_o (rho 2) ≤ 2147483658
      · exact ⟨_, (((hI.put 6 (lo := 2147483682) (hi := 2147483682) (by omega) (by omega)).put 1 (lo := 2147483648) (hi := 2147483648) (by omega) (by omega)).put 2 (lo := 2147483658) (hi := 2147483658) (by omega) (by omega)), e_rb51⟩
      by_cases q55 : e_o (rho 2) ≤ 2147483659
      · exact ⟨_, (((hI.put 6 (lo := 2147483682) (hi := 2147483682) (by omega) (by omega)).put 1 (lo := 2147483648) (hi := 2147483648) (by omega) (by omega)).put 2 (lo := 2147483659) (hi := 2147483659) (by omega) (by omega)), e_rb52⟩
      by_cases q56 : e_o (rho 2) ≤ 2147483660
      · exact ⟨_, (((hI.put 6 (lo := 2147483682) (hi := 2147483682) (by omega) (by omega)).put 1 (lo := 2147483648) (hi := 2147483648) (by omega) (by omega)).put 2 (lo := 2147483660) (hi := 2147483660) (by omega) (by omega)), e_rb53⟩
      exact ⟨_, (((hI.put 6 (lo := 2147483682) (hi := 2147483682) (by omega) (by omega)).put 1 (lo := 2147483648) (hi := 2147483648) (by omega) (by omega)).put 2 (lo := 2147483661) (hi := 4294967295) (by omega) (by omega)), e_rb54⟩
    by_cases q57 : e_o (rho 1) ≤ 2147483649
    · by_cases q58 : e_o (rho 2) ≤ 2147483648
      · exact ⟨_, (((hI.put 6 (lo := 2147483682) (hi := 2147483682) (by omega) (by omega)).put 1 (lo := 2147483649) (hi := 2147483649) (by omega) (by omega)).put 2 (lo := 0) (hi := 2147483648) (by omega) (by omega)), e_rb55⟩
      by_cases q59 : e_o (rho 2) ≤ 2147483649
      · exact ⟨_, (((hI.put 6 (lo := 2147483682) (hi := 2147483682) (by omega) (by omega)).put 1 (lo := 2147483649) (hi := 2147483649) (by omega) (by omega)).put 2 (lo := 2147483649) (hi := 2147483649) (by omega) (by omega)), e_rb56⟩
      by_cases q60 : e_o (rho 2) ≤ 2147483650
      · exact ⟨_, (((hI.put 6 (lo := 2147483682) (hi := 2147483682) (by omega) (by omega)).put 1 (lo := 2147483649) (hi := 2147483649) (by omega) (by omega)).put 2 (lo := 2147483650) (hi := 2147483650) (by omega) (by omega)), e_rb57⟩
      by_cases q61 : e_o (rho 2) ≤ 2147483651
      · exact ⟨_, (((hI.put 6 (lo := 2147483682) (hi := 2147483682) (by omega) (by omega)).put 1 (lo := 2147483649) (hi := 2147483649) (by omega) (by omega)).put 2 (lo := 2147483651) (hi := 2147483651) (by omega) (by omega)), e_rb58⟩
      by_cases q62 : e_o (rho 2) ≤ 2147483652
      · exact ⟨_, (((hI.put 6 (lo := 2147483682) (hi := 2147483682) (by omega) (by omega)).put 1 (lo := 2147483649) (hi := 2147483649) (by omega) (by omega)).put 2 (lo := 2147483652) (hi := 2147483652) (by omega) (by omega)), e_rb59⟩
      by_cases q63 : e_o (rho 2) ≤ 2147483653
      · exact ⟨_, (((hI.put 6 (lo := 2147483682) (hi := 2147483682) (by omega) (by omega)).put 1 (lo := 2147483649) (hi := 2147483649) (by omega) (by omega)).put 2 (lo := 2147483653) (hi := 2147483653) (by omega) (by omega)), e_rb60⟩
      by_cases q64 : e_o (rho 2) ≤ 2147483654
      · exact ⟨_, (((hI.put 6 (lo := 2147483682) (hi := 2147483682) (by omega) (by omega)).put 1 (lo := 2147483649) (hi := 2147483649) (by omega) (by omega)).put 2 (lo := 2147483654) (hi := 2147483654) (by omega) (by omega)), e_rb61⟩
      by_cases q65 : e_o (rho 2) ≤ 2147483655
      · exact ⟨_, (((hI.put 6 (lo := 2147483682) (hi := 2147483682) (by omega) (by omega)).put 1 (lo := 2147483649) (hi := 2147483649) (by omega) (by omega)).put 2 (lo := 2147483655) (hi := 2147483655) (by omega) (by omega)), e_rb62⟩
      by_cases q66 : e_o (rho 2) ≤ 2147483656
      · exact ⟨_, (((hI.put 6 (lo := 2147483682) (hi := 2147483682) (by omega) (by omega)).put 1 (lo := 2147483649) (hi := 2147483649) (by omega) (by omega)).put 2 (lo := 2147483656) (hi := 2147483656) (by omega) (by omega)), e_rb63⟩
      by_cases q67 : e_o (rho 2) ≤ 2147483657
      · exact ⟨_, (((hI.put 6 (lo := 2147483682) (hi := 2147483682) (by omega) (by omega)).put 1 (lo := 2147483649) (hi := 2147483649) (by omega) (by omega)).put 2 (lo := 2147483657) (hi := 2147483657) (by omega) (by omega)), e_rb64⟩
      by_cases q68 : e_o (rho 2) ≤ 2147483658
      · exact ⟨_, (((hI.put 6 (lo := 2147483682) (hi := 2147483682) (by omega) (by omega)).put 1 (lo := 2147483649) (hi := 2147483649) (by omega) (by omega)).put 2 (lo := 2147483658) (hi := 2147483658) (by omega) (by omega)), e_rb65⟩
      by_cases q69 : e_o (rho 2) ≤ 2147483659
      · exact ⟨_, (((hI.put 6 (lo := 2147483682) (hi := 2147483682) (by omega) (by omega)).put 1 (lo := 2147483649) (hi := 2147483649) (by omega) (by omega)).put 2 (lo := 2147483659) (hi := 2147483659) (by omega) (by omega)), e_rb66⟩
      by_cases q70 : e_o (rho 2) ≤ 2147483660
      · exact ⟨_, (((hI.put 6 (lo := 2147483682) (hi := 2147483682) (by omega) (by omega)).put 1 (lo := 2147483649) (hi := 2147483649) (by omega) (by omega)).put 2 (lo := 2147483660) (hi := 2147483660) (by omega) (by omega)), e_rb67⟩
      exact ⟨_, (((hI.put 6 (lo := 2147483682) (hi := 2147483682) (by omega) (by omega)).put 1 (lo := 2147483649) (hi := 2147483649) (by omega) (by omega)).put 2 (lo := 2147483661) (hi := 4294967295) (by omega) (by omega)), e_rb68⟩
    by_cases q71 : e_o (rho 1) ≤ 2147483650
    · by_cases q72 : e_o (rho 2) ≤ 2147483648
      · exact ⟨_, (((hI.put 6 (lo := 2147483682) (hi := 2147483682) (by omega) (by omega)).put 1 (lo := 2147483650) (hi := 2147483650) (by omega) (by omega)).put 2 (lo := 0) (hi := 2147483648) (by omega) (by omega)), e_rb69⟩
      by_cases q73 : e_o (rho 2) ≤ 2147483649
      · exact ⟨_, (((hI.put 6 (lo := 2147483682) (hi := 2147483682) (by omega) (by omega)).put 1 (lo := 2147483650) (hi := 2147483650) (by omega) (by omega)).put 2 (lo := 2147483649) (hi := 2147483649) (by omega) (by omega)), e_rb70⟩
      by_cases q74 : e_o (rho 2) ≤ 2147483650
      · exact ⟨_, (((hI.put 6 (lo := 2147483682) (hi := 2147483682) (by omega) (by omega)).put 1 (lo := 2147483650) (hi := 2147483650) (by omega) (by omega)).put 2 (lo := 2147483650) (hi := 2147483650) (by omega) (by omega)), e_rb71⟩
      by_cases q75 : e_o (rho 2) ≤ 2147483651
      · exact ⟨_, (((hI.put 6 (lo := 2147483682) (hi := 2147483682) (by omega) (by omega)).put 1 (lo := 2147483650) (hi := 2147483650) (by omega) (by omega)).put 2 (lo := 2147483651) (hi := 2147483651) (by omega) (by omega)), e_rb72⟩
      by_cases q76 : e_o (rho 2) ≤ 2147483652
      · exact ⟨_, (((hI.put 6 (lo := 2147483682) (hi := 2147483682) (by omega) (by omega)).put 1 (lo := 2147483650) (hi := 2147483650) (by omega) (by omega)).put 2 (lo := 2147483652) (hi := 2147483652) (by omega) (by omega)), e_rb73⟩
      by_cases q77 : e_o (rho 2) ≤ 2147483653
      · exact ⟨_, (((hI.put 6 (lo := 2147483682) (hi := 2147483682) (by omega) (by omega)).put 1 (lo := 2147483650) (hi := 2147483650) (by omega) (by omega)).put 2 (lo := 2147483653) (hi := 2147483653) (by omega) (by omega)), e_rb74⟩
      by_cases q78 : e_o (rho 2) ≤ 2147483654
      · exact ⟨_, (((hI.put 6 (lo := 2147483682) (hi := 2147483682) (by omega) (by omega)).put 1 (lo := 2147483650) (hi := 2147483650) (by omega) (by omega)).put 2 (lo := 2147483654) (hi := 2147483654) (by omega) (by omega)), e_rb75⟩
      by_cases q79 : e_o (rho 2) ≤ 2147483655
      · exact ⟨_, (((hI.put 6 (lo := 2147483682) (hi := 2147483682) (by omega) (by omega)).put 1 (lo := 2147483650) (hi := 2147483650) (by omega) (by omega)).put 2 (lo := 2147483655) (hi := 2147483655) (by omega) (by omega)), e_rb76⟩
      by_cases q80 : e_o (rho 2) ≤ 2147483656
      · exact ⟨_, (((hI.put 6 (lo := 2147483682) (hi := 2147483682) (by omega) (by omega)).put 1 (lo := 2147483650) (hi := 2147483650) (by omega) (by omega)).put 2 (lo := 2147483656) (hi := 2147483656) (by omega) (by omega)), e_rb77⟩
      by_cases q81 : e_o (rho 2) ≤ 2147483657
      · exact ⟨_, (((hI.put 6 (lo := 2147483682) (hi := 2147483682) (by omega) (by omega)).put 1 (lo := 2147483650) (hi := 2147483650) (by omega) (by omega)).put 2 (lo := 2147483657) (hi := 2147483657) (by omega) (by omega)), e_rb78⟩
      by_cases q82 : e_o (rho 2) ≤ 2147483658
      · exact ⟨_, (((hI.put 6 (lo := 2147483682) (hi := 2147483682) (by omega) (by omega)).put 1 (lo := 2147483650) (hi := 2147483650) (by omega) (by omega)).put 2 (lo := 2147483658) (hi := 2147483658) (by omega) (by omega)), e_rb79⟩
      by_cases q83 : e_o (rho 2) ≤ 2147483659
      · exact ⟨_, (((hI.put 6 (lo := 2147483682) (hi := 2147483682) (by omega) (by omega)).put 1 (lo := 2147483650) (hi := 2147483650) (by omega) (by omega)).put 2 (lo := 2147483659) (hi := 2147483659) (by omega) (by omega)), e_rb80⟩
      by_cases q84 : e_o (rho 2) ≤ 2147483660
      · exact ⟨_, (((hI.put 6 (lo := 2147483682) (hi := 2147483682) (by omega) (by omega)).put 1 (lo := 2147483650) (hi := 2147483650) (by omega) (by omega)).put 2 (lo := 2147483660) (hi := 2147483660) (by omega) (by omega)), e_rb81⟩
      exact ⟨_, (((hI.put 6 (lo := 2147483682) (hi := 2147483682) (by omega) (by omega)).put 1 (lo := 2147483650) (hi := 2147483650) (by omega) (by omega)).put 2 (lo := 2147483661) (hi := 4294967295) (by omega) (by omega)), e_rb82⟩
    by_cases q85 : e_o (rho 1) ≤ 2147483651
    · by_cases q86 : e_o (rho 2) ≤ 2147483648
      · exact ⟨_, (((hI.put 6 (lo := 2147483682) (hi := 2147483682) (by omega) (by omega)).put 1 (lo := 2147483651) (hi := 2147483651) (by omega) (by omega)).put 2 (lo := 0) (hi := 2147483648) (by omega) (by omega)), e_rb83⟩
      by_cases q87 : e_o (rho 2) ≤ 2147483649
      · exact ⟨_, (((hI.put 6 (lo := 2147483682) (hi := 2147483682) (by omega) (by omega)).put 1 (lo := 2147483651) (hi := 2147483651) (by omega) (by omega)).put 2 (lo := 2147483649) (hi := 2147483649) (by omega) (by omega)), e_rb84⟩
      by_cases q88 : e_o (rho 2) ≤ 2147483650
      · exact ⟨_, (((hI.put 6 (lo := 2147483682) (hi := 2147483682) (by omega) (by omega)).put 1 (lo := 2147483651) (hi := 2147483651) (by omega) (by omega)).put 2 (lo := 2147483650) (hi := 2147483650) (by omega) (by omega)), e_rb85⟩
      by_cases q89 : e_o (rho 2) ≤ 2147483651
      · exact ⟨_, (((hI.put 6 (lo := 2147483682) (hi := 2147483682) (by omega) (by omega)).put 1 (lo := 2147483651) (hi := 2147483651) (by omega) (by omega)).put 2 (lo := 2147483651) (hi := 2147483651) (by omega) (by omega)), e_rb86⟩
      by_cases q90 : e_o (rho 2) ≤ 2147483652
      · exact ⟨_, (((hI.put 6 (lo := 2147483682) (hi := 2147483682) (by omega) (by omega)).put 1 (lo := 2147483651) (hi := 2147483651) (by omega) (by omega)).put 2 (lo := 2147483652) (hi := 2147483652) (by omega) (by omega)), e_rb87⟩
      by_cases q91 : e_o (rho 2) ≤ 2147483653
      · exact ⟨_, (((hI.put 6 (lo := 2147483682) (hi := 2147483682) (by omega) (by omega)).put 1 (lo := 2147483651) (hi := 2147483651) (by omega) (by omega)).put 2 (lo := 2147483653) (hi := 2147483653) (by omega) (by omega)), e_rb88⟩
      by_cases q92 : e_o (rho 2) ≤ 2147483654
      · exact ⟨_, (((hI.put 6 (lo := 2147483682) (hi := 2147483682) (by omega) (by omega)).put 1 (lo := 2147483651) (hi := 2147483651) (by omega) (by omega)).put 2 (lo := 2147483654) (hi := 2147483654) (by omega) (by omega)), e_rb89⟩
      by_cases q93 : e_o (rho 2) ≤ 2147483655
      · exact ⟨_, (((hI.put 6 (lo := 2147483682) (hi := 2147483682) (by omega) (by omega)).put 1 (lo := 2147483651) (hi := 2147483651) (by omega) (by omega)).put 2 (lo := 2147483655) (hi := 2147483655) (by omega) (by omega)), e_rb90⟩
      by_cases q94 : e_o (rho 2) ≤ 2147483656
      · exact ⟨_, (((hI.put 6 (lo := 2147483682) (hi := 2147483682) (by omega) (by omega)).put 1 (lo := 2147483651) (hi := 2147483651) (by omega) (by omega)).put 2 (lo := 2147483656) (hi := 2147483656) (by omega) (by omega)), e_rb91⟩
      by_cases q95 : e_o (rho 2) ≤ 2147483657
      · exact ⟨_, (((hI.put 6 (lo := 2147483682) (hi := 2147483682) (by omega) (by omega)).put 1 (lo := 2147483651) (hi := 2147483651) (by omega) (by omega)).put 2 (lo := 2147483657) (hi := 2147483657) (by omega) (by omega)), e_rb92⟩
      by_cases q96 : e_o (rho 2) ≤ 2147483658
      · exact ⟨_, (((hI.put 6 (lo := 2147483682) (hi := 2147483682) (by omega) (by omega)).put 1 (lo := 2147483651) (hi := 2147483651) (by omega) (by omega)).put 2 (lo := 2147483658) (hi := 2147483658) (by omega) (by omega)), e_rb93⟩
      by_cases q97 : e_o (rho 2) ≤ 2147483659
      · exact ⟨_, (((hI.put 6 (lo := 2147483682) (hi := 2147483682) (by omega) (by omega)).put 1 (lo := 2147483651) (hi := 2147483651) (by omega) (by omega)).put 2 (lo := 2147483659) (hi := 2147483659) (by omega) (by omega)), e_rb94⟩
      by_cases q98 : e_o (rho 2) ≤ 2147483660
      · exact ⟨_, (((hI.put 6 (lo := 2147483682) (hi := 2147483682) (by omega) (by omega)).put 1 (lo := 2147483651) (hi := 2147483651) (by omega) (by omega)).put 2 (lo := 2147483660) (hi := 2147483660) (by omega) (by omega)), e_rb95⟩
      exact ⟨_, (((hI.put 6 (lo := 2147483682) (hi := 2147483682) (by omega) (by omega)).put 1 (lo := 2147483651) (hi := 2147483651) (by omega) (by omega)).put 2 (lo := 2147483661) (hi := 4294967295) (by omega) (by omega)), e_rb96⟩
    exact ⟨_, ((hI.put 6 (lo := 2147483682) (hi := 2147483682) (by omega) (by omega)).put 1 (lo := 2147483652) (hi := 4294967295) (by omega) (by omega)), e_rb97⟩
  by_cases q99 : e_o (rho 6) ≤ 2147483690
  · exact ⟨_, (hI.put 6 (lo := 2147483683) (hi := 2147483690) (by omega) (by omega)), e_rb98⟩
  by_cases q100 : e_o (rho 6) ≤ 2147483691
  · exact ⟨_, (hI.put 6 (lo := 2147483691) (hi := 2147483691) (by omega) (by omega)), e_rb99⟩
  exact ⟨_, (hI.put 6 (lo := 2147483692) (hi := 2147483711) (by omega) (by omega)), e_rb100⟩

noncomputable section
def e_f0 : e_N := (0, e_pg 0, 0, 0, 30)
def e_w0 : e_W := (0, e_tnew 9)
def e_i0 (lo hi : Nat) : e_I := [(0, 4294967295), (0, 4294967295), (0, 4294967295), (0, 4294967295), (0, 4294967295), (0, 4294967295), (Nat.add lo 2147483648, Nat.add hi 2147483648)]
end
set_option maxRecDepth 100000 in
theorem rr_0 : e_acc 1000000 e_f0 (e_pg 0) (e_entry 9 [(10, 6)]) [] [] e_w0 (e_i0 43 43) = true := by decide +kernel
theorem i_vc : Claimed_1_1 ∧ Claimed_1_2 := sorry

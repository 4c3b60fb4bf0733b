/-! THE UNKNOWN INTS of a script, and the law's runs for all of them. -/
def e_bt (xs : Nat → Int32) (j : Nat) : Int32 := (((xs (Nat.succ (j / 4))).toUInt32 >>> ((e_i (24 - 8 * (j % 4))).toUInt32 &&& Int32.toUInt32 31)).toInt32) &&& e_i 255
def e_sm (xs : Nat → Int32) : Nat → Int32
  | 0 => 0
  | j + 1 => e_sm xs j + (if e_bt xs j = 0 then 0 else 1)
def e_rho (xs : Nat → Int32) (k : Nat) : Int32 := if k < 6 then xs k else if k = 6 then xs 0 &&& 63 else if k < 27 then e_bt xs (k - 7) else e_sm xs (k - 27)
theorem e_o_small {n : Nat} (h : n < 2147483648) : e_o (e_i n) = 2147483648 + n := by
  rw [e_o_i, e_off_eq]
  omega
theorem e_and_small (x : Int32) {n : Nat} (h : n < 2147483648) : ∃ m, m ≤ n ∧ x &&& e_i n = e_i m := by
  refine ⟨e_u (x &&& e_i n), ?_, (e_i_u _).symm⟩
  show (x &&& e_i n).toBitVec.toNat ≤ n
  have e1 : (x &&& e_i n).toBitVec = x.toBitVec &&& (e_i n).toBitVec := rfl
  rw [e1, BitVec.toNat_and, e_i_nat, Nat.mod_eq_of_lt (by omega)]
  exact Nat.and_le_right
theorem e_sm_small (xs : Nat → Int32) : ∀ j, j ≤ 20 → ∃ m, m ≤ j ∧ e_sm xs j = e_i m
  | 0, _ => ⟨0, Nat.le_refl _, rfl⟩
  | j + 1, h => by
    obtain ⟨m, h1, h2⟩ := e_sm_small xs j (by omega)
    show ∃ m, m ≤ j + 1 ∧ e_sm xs j + (if e_bt xs j = 0 then 0 else 1) = e_i m
    by_cases q : e_bt xs j = 0
    · rw [if_pos q, Int32.add_zero]
      exact ⟨m, by omega, h2⟩
    · rw [if_neg q]
      refine ⟨m + 1, by omega, ?_⟩
      rw [e_i_succ, h2, Int32.add_comm]
theorem e_iv0_a : ∀ k, k < 7 → e_iv e_iv0 k = (0, 4294967295) := by decide +kernel
theorem e_iv0_b : ∀ j, j < 20 → e_iv e_iv0 (7 + j) = (2147483648, 2147483903) := by decide +kernel
theorem e_iv0_c : ∀ j, j < 21 → e_iv e_iv0 (27 + j) = (2147483648, 2147483648 + j) := by decide +kernel
theorem e_iv0_d (m : Nat) : e_iv e_iv0 (m + 48) = (0, 4294967295) := rfl
theorem e_rho_6 (xs : Nat → Int32) : e_rho xs 6 = xs 0 &&& 63 := rfl
theorem e_rho_b (xs : Nat → Int32) {j : Nat} (h : j < 20) : e_rho xs (7 + j) = e_bt xs j := by
  unfold e_rho
  rw [if_neg (by omega), if_neg (by omega), if_pos (by omega), show 7 + j - 7 = j by omega]
theorem e_rho_s (xs : Nat → Int32) (j : Nat) : e_rho xs (27 + j) = e_sm xs j := by
  unfold e_rho
  rw [if_neg (by omega), if_neg (by omega), if_neg (by omega), show 27 + j - 27 = j by omega]
theorem e_rho_x (xs : Nat → Int32) {j : Nat} (h : j < 6) : e_rho xs j = xs j := if_pos h
theorem e_rho_iv (xs : Nat → Int32) : e_IV (e_rho xs) e_iv0 := by
  intro k
  have hb := e_o_lt (e_rho xs k)
  by_cases h1 : k < 7
  · rw [e_iv0_a k h1]
    exact ⟨Nat.zero_le _, by omega⟩
  by_cases h2 : k < 27
  · obtain ⟨j, rfl⟩ : ∃ j, k = 7 + j := ⟨k - 7, by omega⟩
    rw [e_iv0_b j (by omega), e_rho_b xs (by omega)]
    obtain ⟨m, q1, q2⟩ := e_and_small (((xs (Nat.succ (j / 4))).toUInt32 >>> ((e_i (24 - 8 * (j % 4))).toUInt32 &&& Int32.toUInt32 31)).toInt32) (n := 255) (by omega)
    have q2 : e_bt xs j = e_i m := q2
    rw [q2, e_o_small (by omega)]
    exact ⟨by omega, by omega⟩
  by_cases h3 : k < 48
  · obtain ⟨j, rfl⟩ : ∃ j, k = 27 + j := ⟨k - 27, by omega⟩
    rw [e_iv0_c j (by omega), e_rho_s]
    obtain ⟨m, q1, q2⟩ := e_sm_small xs j (by omega)
    rw [q2, e_o_small (by omega)]
    exact ⟨by omega, by omega⟩
  · obtain ⟨m, rfl⟩ : ∃ m, k = m + 48 := ⟨k - 48, by omega⟩
    rw [e_iv0_d]
    exact ⟨Nat.zero_le _, by omega⟩
theorem e_rho_RH (xs : Nat → Int32) : e_RH (e_rho xs) := by
  refine ⟨rfl, fun j hj => ?_, e_rho_s xs 0, fun j hj => ?_, e_rho_iv xs⟩
  · rw [e_rho_b xs hj, e_rho_x xs (show Nat.succ (j / 4) < 6 by omega)]
    rfl
  · rw [e_rho_s, e_rho_s, e_rho_b xs hj]
    rfl
theorem e_rho_63 (xs : Nat → Int32) : 2147483648 ≤ e_o (e_rho xs 6) ∧ e_o (e_rho xs 6) ≤ 2147483711 := by
  obtain ⟨m, h1, h2⟩ := e_and_small (xs 0) (n := 63) (by omega)
  have h3 : e_rho xs 6 = e_i m := h2
  rw [h3, e_o_small (by omega)]
  exact ⟨by omega, by omega⟩
theorem e_IV.put {rho : Nat → Int32} {iv : e_I} (h : e_IV rho iv) (k : Nat) {lo hi : Nat} (h1 : lo ≤ e_o (rho k)) (h2 : e_o (rho k) ≤ hi) : e_IV rho (e_ivp iv k (lo, hi)) := by
  intro j
  have hb := e_o_lt (rho j)
  rw [e_iv_ivp]
  by_cases z : j = k
  · subst z
    rw [if_pos rfl]
    split
    · exact ⟨h1, h2⟩
    · exact ⟨Nat.zero_le _, by omega⟩
  · rw [if_neg z]; exact h j

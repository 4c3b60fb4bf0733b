/-! THE RUNS of the cuts. -/
noncomputable def e_kr (k : Nat) : Bool := e_acc (e_kf k) (e_kI k) (e_kc k) (e_kl k) [] (e_ks k) (e_kw k) (e_kv k)
set_option maxRecDepth 100000 in
theorem e_kr0 : v_rng e_kr 0 2 = true := by decide +kernel
set_option maxRecDepth 100000 in
theorem e_kr2 : v_rng e_kr 2 2 = true := by decide +kernel
set_option maxRecDepth 100000 in
theorem e_kr4 : v_rng e_kr 4 2 = true := by decide +kernel
set_option maxRecDepth 100000 in
theorem e_kr6 : v_rng e_kr 6 2 = true := by decide +kernel
set_option maxRecDepth 100000 in
theorem e_kr8 : v_rng e_kr 8 2 = true := by decide +kernel
set_option maxRecDepth 100000 in
theorem e_kr10 : v_rng e_kr 10 5 = true := by decide +kernel
set_option maxRecDepth 100000 in
theorem e_kr15 : v_rng e_kr 15 5 = true := by decide +kernel
set_option maxRecDepth 100000 in
theorem e_kr20 : v_rng e_kr 20 5 = true := by decide +kernel
set_option maxRecDepth 100000 in
theorem e_kr25 : v_rng e_kr 25 5 = true := by decide +kernel
set_option maxRecDepth 100000 in
theorem e_kr30 : v_rng e_kr 30 5 = true := by decide +kernel
set_option maxRecDepth 100000 in
theorem e_kr35 : v_rng e_kr 35 5 = true := by decide +kernel
set_option maxRecDepth 100000 in
theorem e_kr40 : v_rng e_kr 40 5 = true := by decide +kernel
set_option maxRecDepth 100000 in
theorem e_kr45 : v_rng e_kr 45 5 = true := by decide +kernel
set_option maxRecDepth 100000 in
theorem e_kr50 : v_rng e_kr 50 1 = true := by decide +kernel
set_option maxRecDepth 100000 in
theorem e_kr51 : v_rng e_kr 51 1 = true := by decide +kernel
set_option maxRecDepth 100000 in
theorem e_kr52 : v_rng e_kr 52 1 = true := by decide +kernel
set_option maxRecDepth 100000 in
theorem e_kr53 : v_rng e_kr 53 1 = true := by decide +kernel
theorem e_cuts : ∀ k, k < 54 → e_acc (e_kf k) (e_kI k) (e_kc k) (e_kl k) [] (e_ks k) (e_kw k) (e_kv k) = true := by
  intro k hk
  by_cases q0 : k < 2
  · exact v_rng_s _ _ e_kr0 k (by omega) (by omega)
  by_cases q2 : k < 4
  · exact v_rng_s _ _ e_kr2 k (by omega) (by omega)
  by_cases q4 : k < 6
  · exact v_rng_s _ _ e_kr4 k (by omega) (by omega)
  by_cases q6 : k < 8
  · exact v_rng_s _ _ e_kr6 k (by omega) (by omega)
  by_cases q8 : k < 10
  · exact v_rng_s _ _ e_kr8 k (by omega) (by omega)
  by_cases q10 : k < 15
  · exact v_rng_s _ _ e_kr10 k (by omega) (by omega)
  by_cases q15 : k < 20
  · exact v_rng_s _ _ e_kr15 k (by omega) (by omega)
  by_cases q20 : k < 25
  · exact v_rng_s _ _ e_kr20 k (by omega) (by omega)
  by_cases q25 : k < 30
  · exact v_rng_s _ _ e_kr25 k (by omega) (by omega)
  by_cases q30 : k < 35
  · exact v_rng_s _ _ e_kr30 k (by omega) (by omega)
  by_cases q35 : k < 40
  · exact v_rng_s _ _ e_kr35 k (by omega) (by omega)
  by_cases q40 : k < 45
  · exact v_rng_s _ _ e_kr40 k (by omega) (by omega)
  by_cases q45 : k < 50
  · exact v_rng_s _ _ e_kr45 k (by omega) (by omega)
  by_cases q50 : k < 51
  · exact v_rng_s _ _ e_kr50 k (by omega) (by omega)
  by_cases q51 : k < 52
  · exact v_rng_s _ _ e_kr51 k (by omega) (by omega)
  by_cases q52 : k < 53
  · exact v_rng_s _ _ e_kr52 k (by omega) (by omega)
  by_cases q53 : k < 54
  · exact v_rng_s _ _ e_kr53 k (by omega) (by omega)
  omega

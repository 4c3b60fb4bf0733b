/-! THE CHECKS, by the kernel. -/
noncomputable def v_all (j : Nat) : List e_E → List (List Nat) → Bool
  | [], [] => true
  | e :: tl, g :: gs => v_ent j e tl g && v_all j tl gs
  | _, _ => false
theorem v_all_s {j : Nat} : ∀ (l : List e_E) (hs : List (List Nat)), v_all j l hs = true → ∀ k e tl, l.drop k = e :: tl → ∃ gs, v_ent j e tl gs = true
  | [], _, _, k, e, tl, hk => by simp at hk
  | _ :: _, [], h, _, _, _, _ => by cases h
  | u :: t, g :: gs, h, 0, e, tl, hk => by
    obtain ⟨h1, -⟩ := e_and2 (show (v_ent j u t g && v_all j t gs) = true from h)
    have hk : u :: t = e :: tl := hk
    cases hk
    exact ⟨g, h1⟩
  | u :: t, g :: gs, h, k + 1, e, tl, hk => by
    obtain ⟨-, h2⟩ := e_and2 (show (v_ent j u t g && v_all j t gs) = true from h)
    exact v_all_s t gs h2 k e tl hk
/-- a method with its handlers and its own words -/
noncomputable def v_mt (j : Nat) : Bool := v_meth j && (v_hnd (e_own j) (e_pg j) (e_hn j) (e_hh j) (e_hv j) && (Nat.beq j 0 || e_has (e_hc j) (e_cw j)))
def v_rng (f : Nat → Bool) (a : Nat) : Nat → Bool
  | 0 => true
  | n + 1 => f a && v_rng f (a + 1) n
theorem v_rng_c {f : Nat → Bool} {a n : Nat} (h1 : f a = true) (h2 : v_rng f (a + 1) n = true) : v_rng f a (n + 1) = true := by
  show (f a && v_rng f (a + 1) n) = true
  rw [h1, h2]
  rfl
theorem v_rng_s {f : Nat → Bool} : ∀ (n a : Nat), v_rng f a n = true → ∀ j, a ≤ j → j < a + n → f j = true
  | 0, a, _, j, h1, h2 => by omega
  | n + 1, a, h, j, h1, h2 => by
    obtain ⟨k1, k2⟩ := e_and2 (show (f a && v_rng f (a + 1) n) = true from h)
    by_cases q : j = a
    · rw [q]; exact k1
    · exact v_rng_s n (a + 1) k2 j (by omega) (by omega)
noncomputable def v_seg (j : Nat) : Nat → List e_E → List (List Nat) → Bool
  | 0, _, _ => true
  | n + 1, e :: tl, g :: gs => v_ent j e tl g && v_seg j n tl gs
  | _ + 1, _, _ => false
theorem v_seg_s {j : Nat} : ∀ (n : Nat) (l : List e_E) (hs : List (List Nat)), v_seg j n l hs = true → v_all j (l.drop n) (hs.drop n) = true → v_all j l hs = true
  | 0, _, _, _, h => h
  | n + 1, [], _, h, _ => by cases h
  | n + 1, _ :: _, [], h, _ => by cases h
  | n + 1, e :: tl, g :: gs, h, h2 => by
    obtain ⟨k1, k2⟩ := e_and2 (show (v_ent j e tl g && v_seg j n tl gs) = true from h)
    show (v_ent j e tl g && v_all j tl gs) = true
    rw [k1, v_seg_s n tl gs k2 h2]
    rfl

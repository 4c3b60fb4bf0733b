/-! UNKNOWN BYTES AND SUMS, max and min: what the case of append wants. -/
def e_RH (rho : Nat → Int32) : Prop := rho 6 = rho 0 &&& 63 ∧ (∀ j, j < 20 → rho (7 + j) = (((rho (Nat.succ (j / 4))).toUInt32 >>> ((e_i (24 - 8 * (j % 4))).toUInt32 &&& Int32.toUInt32 31)).toInt32) &&& e_i 255) ∧ rho 27 = 0 ∧
  (∀ j, j < 20 → rho (27 + (j + 1)) = rho (27 + j) + (if rho (7 + j) = 0 then 0 else 1)) ∧ e_IV rho e_iv0
section
variable {rho : Nat → Int32} {ta : Nat → Nat × Nat} {b L n0 : Nat} {D : va_G} {l : Launch} {n : Nat} {e : e_E} {tl : List e_E} {I : e_N} {loc stk : List e_V} {fs : List e_F} {w : e_W} {iv : e_I} {tys : List (ClassId × FieldType)} {ws : va_W}
theorem e_kz_s {j : Nat} (hI : e_IV rho iv) (h : e_kz iv j = true) : rho (7 + j) = 0 := by
  obtain ⟨h1, h2⟩ := e_and h
  have h1 := e_ble h1
  have h2 := e_ble h2
  have h3 := hI (7 + j)
  have e1 : Nat.add 7 j = 7 + j := rfl
  rw [e1] at h1 h2
  have e2 : e_o (0 : Int32) = 2147483648 := by decide
  apply e_o_inj.mpr
  rw [e2]
  omega
theorem e_kp_s {j : Nat} (hI : e_IV rho iv) (h : e_kp iv j = true) : ¬ rho (7 + j) = 0 := by
  have h1 := e_ble h
  have h3 := hI (7 + j)
  have e1 : Nat.add 7 j = 7 + j := rfl
  rw [e1] at h1
  have e2 : e_o (0 : Int32) = 2147483648 := by decide
  intro z
  rw [z, e2] at h3
  omega
theorem e_i_succ (k : Nat) : e_i (k + 1) = 1 + e_i k := by
  have h := e_i_add 1 k
  rw [show Nat.mod (Nat.add 1 k) 4294967296 = (1 + k) % 4294967296 from rfl, e_i_mod] at h
  rw [Nat.add_comm k 1, h]
  rfl
theorem e_adv_s (hr : e_RH rho) (hI : e_IV rho iv) {kk : Nat → Bool} : ∀ (f s n : Nat), s ≤ 20 → e_adv iv f s n kk = true → ∃ t, t ≤ 20 ∧ kk t = true ∧ rho (27 + t) = rho (27 + s) + e_i n := by
  intro f
  induction f with
  | zero =>
    intro s n hs h
    obtain ⟨h1, h2⟩ := e_and (show cond (Nat.beq n 0) (kk s) false = true from h)
    have h1 := e_beq h1
    subst h1
    exact ⟨s, hs, h2, by rw [show e_i 0 = (0 : Int32) from rfl, Int32.add_zero]⟩
  | succ f ih =>
    intro s n hs h
    rcases e_ite (show cond (Nat.beq n 0) (kk s) (cond (Nat.ble 20 s) false (cond (e_kz iv s) (e_adv iv f (Nat.succ s) n kk) (cond (e_kp iv s) (e_adv iv f (Nat.succ s) (Nat.pred n) kk) false))) = true from h) with ⟨h1, h2⟩ | ⟨h1, h⟩
    · have h1 := e_beq h1
      subst h1
      exact ⟨s, hs, h2, by rw [show e_i 0 = (0 : Int32) from rfl, Int32.add_zero]⟩
    have h1 := e_bne h1
    obtain ⟨h2, h⟩ := e_nand h
    have h2 := e_nble h2
    have hs' := hr.2.2.2.1 s h2
    rcases e_ite h with ⟨h3, h⟩ | ⟨-, h⟩
    · obtain ⟨t, t1, t2, t3⟩ := ih _ _ (by omega) h
      rw [if_pos (e_kz_s hI h3), Int32.add_zero] at hs'
      refine ⟨t, t1, t2, ?_⟩
      rw [t3, show 27 + Nat.succ s = 27 + (s + 1) from rfl, hs']
    · obtain ⟨h3, h⟩ := e_and h
      obtain ⟨t, t1, t2, t3⟩ := ih _ _ (by omega) h
      rw [if_neg (e_kp_s hI h3)] at hs'
      refine ⟨t, t1, t2, ?_⟩
      obtain ⟨q, rfl⟩ : ∃ q, n = q + 1 := ⟨n - 1, by omega⟩
      rw [t3, show 27 + Nat.succ s = 27 + (s + 1) from rfl, hs', e_i_succ, show Nat.pred (q + 1) = q from rfl, Int32.add_assoc]
theorem e_cnt_s (hr : e_RH rho) (hI : e_IV rho iv) : ∀ (f s n : Nat), s + f ≤ 20 → e_cnt iv f s n = true → rho (27 + (s + f)) = rho (27 + s) + e_i n := by
  intro f
  induction f with
  | zero =>
    intro s n hs h
    have h1 := e_beq (show Nat.beq n 0 = true from h)
    subst h1
    rw [show e_i 0 = (0 : Int32) from rfl, Int32.add_zero]
    rfl
  | succ f ih =>
    intro s n hs h
    have hs' := hr.2.2.2.1 s (by omega)
    rcases e_ite (show cond (e_kz iv s) (e_cnt iv f (Nat.succ s) n) (cond (e_kp iv s) (cond (Nat.beq n 0) false (e_cnt iv f (Nat.succ s) (Nat.pred n))) false) = true from h) with ⟨h3, h⟩ | ⟨-, h⟩
    · have t3 := ih _ _ (by omega) h
      rw [if_pos (e_kz_s hI h3), Int32.add_zero] at hs'
      rw [show s + (f + 1) = Nat.succ s + f by omega, t3, show 27 + Nat.succ s = 27 + (s + 1) from rfl, hs']
    · obtain ⟨h3, h⟩ := e_and h
      obtain ⟨h1, h⟩ := e_nand h
      have h1 := e_bne h1
      have t3 := ih _ _ (by omega) h
      rw [if_neg (e_kp_s hI h3)] at hs'
      obtain ⟨q, rfl⟩ : ∃ q, n = q + 1 := ⟨n - 1, by omega⟩
      rw [show s + (f + 1) = Nat.succ s + f by omega, t3, show 27 + Nat.succ s = 27 + (s + 1) from rfl, hs', e_i_succ, show Nat.pred (q + 1) = q from rfl, Int32.add_assoc]
/-- what one value says, the other one says too -/
theorem e_le0_s (hr : e_RH rho) (hI : e_IV rho iv) {ads : List Nat} {v k : e_V} {cv : Value} (hv : e_VR rho ta b L ads v cv) (h : e_le0 iv v k = true) : e_VR rho ta b L ads k cv := by
  rcases e_ite h with ⟨q, -⟩ | ⟨-, h⟩
  · rw [← e_eqV_s q]; exact hv
  obtain ⟨q, h⟩ := e_and h
  obtain ⟨q1, q⟩ := e_and q
  obtain ⟨q2, q3⟩ := e_and q
  have q1 := e_beq q1
  have q2 := e_ble q2
  have q3 := e_ble q3
  have goal : cv = .int (rho k.2) → e_VR rho ta b L ads k cv := fun z => by unfold e_VR; rw [q1]; exact z
  refine goal ?_
  rcases e_ite h with ⟨p1, h⟩ | ⟨-, h⟩
  · obtain ⟨p2, h⟩ := e_and h
    obtain ⟨p3, h⟩ := e_and h
    have p2 := e_ble p2
    have p3 := e_ble p3
    unfold e_VR at hv
    rw [e_beq p1] at hv
    have hv : cv = .int (rho v.2) := hv
    have e1 : Nat.sub k.2 v.2 = k.2 - v.2 := rfl
    have e2 : Nat.sub v.2 27 = v.2 - 27 := rfl
    rw [e1, e2] at h
    have t := e_cnt_s hr hI _ _ _ (by omega) h
    rw [show 27 + (v.2 - 27 + (k.2 - v.2)) = k.2 by omega, show 27 + (v.2 - 27) = v.2 by omega, show e_i 0 = (0 : Int32) from rfl, Int32.add_zero] at t
    rw [t]; exact hv
  · obtain ⟨p1, h⟩ := e_and h
    unfold e_VR at hv
    rw [e_beq p1] at hv
    have hv : cv = .int (e_i v.2) := hv
    have e1 : Nat.sub k.2 27 = k.2 - 27 := rfl
    rw [e1] at h
    have t := e_cnt_s hr hI _ _ _ (by omega) h
    rw [show 27 + (0 + (k.2 - 27)) = k.2 by omega, show rho (27 + 0) = 0 from hr.2.2.1, Int32.zero_add] at t
    rw [t]; exact hv
theorem e_le0_refl (v : e_V) : e_le0 iv v v = true := by
  unfold e_le0
  rw [show e_eqV v v = true by unfold e_eqV; simp]
  rfl
theorem e_eqL_eq {α : Type} {f : α → α → Bool} (hf : ∀ x y, f x y = true → x = y) : ∀ l m : List α, e_eqL f l m = true → l = m
  | [], [], _ => rfl
  | [], _ :: _, h => by cases h
  | _ :: _, [], h => by cases h
  | x :: l, y :: m, h => by
    obtain ⟨h1, h2⟩ := e_and (show cond (f x y) (e_eqL f l m) false = true from h)
    rw [hf x y h1, e_eqL_eq hf l m h2]
theorem e_eqL_nth : ∀ l m : List e_V, e_eqL (e_le1 iv) l m = true → ∀ i, e_le1 iv (e_nth l i) (e_nth m i) = true
  | [], [], _, i => rfl
  | [], _ :: _, h, _ => by cases h
  | _ :: _, [], h, _ => by cases h
  | x :: l, y :: m, h, 0 => (e_and (show cond (e_le1 iv x y) (e_eqL (e_le1 iv) l m) false = true from h)).1
  | x :: l, y :: m, h, i + 1 => e_eqL_nth l m (e_and (show cond (e_le1 iv x y) (e_eqL (e_le1 iv) l m) false = true from h)).2 i
theorem e_eqL_get (d : e_V) : ∀ l m : List (Nat × e_V), e_eqL (fun p q => cond (Nat.beq p.1 q.1) (e_le0 iv p.2 q.2) false) l m = true → ∀ j, e_le0 iv (e_get l j d) (e_get m j d) = true
  | [], [], _, _ => e_le0_refl d
  | [], _ :: _, h, _ => by cases h
  | _ :: _, [], h, _ => by cases h
  | x :: l, y :: m, h, j => by
    obtain ⟨h1, h2⟩ := e_and (show cond (cond (Nat.beq x.1 y.1) (e_le0 iv x.2 y.2) false) (e_eqL (fun p q => cond (Nat.beq p.1 q.1) (e_le0 iv p.2 q.2) false) l m) false = true from h)
    obtain ⟨h3, h4⟩ := e_and h1
    rw [e_get_c, e_get_c, ← e_beq h3]
    cases Nat.beq x.1 j with
    | true => exact h4
    | false => exact e_eqL_get d l m h2 j
theorem e_nil_s {α : Type} {l : List α} (h : e_nil l = true) : l = [] := by
  cases l with
  | nil => rfl
  | cons _ _ => cases h
theorem e_leC_s (hr : e_RH rho) (hI : e_IV rho iv) {ads : List Nat} {c k : e_C} {x : va_E} (hc : e_CR rho ta b L ads tys c x) (h : e_leC iv c k = true) : e_CR rho ta b L ads tys k x := by
  obtain ⟨h1, h⟩ := e_and h
  obtain ⟨h2, h⟩ := e_and h
  have h1 := e_beq h1
  have h2 := e_beq h2
  obtain ⟨hl, hc⟩ := hc
  refine ⟨by rw [← h2]; exact hl, ?_⟩
  rcases e_ite h with ⟨q, h⟩ | ⟨-, h⟩
  · obtain ⟨q1, q2⟩ := e_and q
    have q1 := e_beq q1
    have q2 := e_beq q2
    have q3 := e_nil_s h
    rcases hc with ⟨z0, -⟩ | ⟨z0, cA, f, t0, hx, ht, hf⟩ | ⟨z0, -⟩ | ⟨z0, -⟩
    · omega
    · refine Or.inr (Or.inl ⟨by rw [← h1]; exact z0, cA, f, t0, by rw [← h2]; exact hx, by rw [← h1]; exact ht, fun j hj => ?_⟩)
      rw [q3]
      show e_VR rho ta b L ads k.2.2.1 _
      unfold e_VR
      rw [q2]
      exact ⟨_, rfl⟩
    · omega
    · omega
  · obtain ⟨q, h⟩ := e_and h
    have q := e_eqV_s q
    have tr : ∀ j cv, e_VR rho ta b L ads (e_get c.2.2.2 j c.2.2.1) cv → e_VR rho ta b L ads (e_get k.2.2.2 j k.2.2.1) cv := fun j cv hv => by
      rw [← q]
      exact e_le0_s hr hI hv (e_eqL_get _ _ _ h j)
    rcases hc with ⟨z0, z1, fs, z2, z3, z4⟩ | ⟨z0, cA, f, t0, hx, ht, hf⟩ | ⟨z0, cA, f, t0, hx, ht, hf⟩ | ⟨z0, cA, f, t0, hx, ht, hf⟩
    · refine Or.inl ⟨by rw [← h1]; exact z0, by rw [← h2]; exact z1, fs, by rw [← h2]; exact z2, by rw [← h2]; exact z3, fun j hj => ?_⟩
      obtain ⟨cv, y1, y2⟩ := z4 j (by rw [h2]; exact hj)
      exact ⟨cv, y1, tr _ _ y2⟩
    · exact Or.inr (Or.inl ⟨by rw [← h1]; exact z0, cA, f, t0, by rw [← h2]; exact hx, by rw [← h1]; exact ht, fun j hj => tr _ _ (hf j (by rw [h2]; exact hj))⟩)
    · exact Or.inr (Or.inr (Or.inl ⟨by rw [← h1]; exact z0, cA, f, t0, by rw [← h2]; exact hx, ht, fun j hj => tr _ _ (hf j (by rw [h2]; exact hj))⟩))
    · exact Or.inr (Or.inr (Or.inr ⟨by rw [← h1]; exact z0, cA, f, t0, by rw [← h2]; exact hx, by rw [← h1]; exact ht, fun j hj => tr _ _ (hf j (by rw [h2]; exact hj))⟩))
theorem e_leT_s : ∀ (n : Nat) (t k : e_T n), e_leT iv n t k = true → ∀ i c, i < 2 ^ n → e_tget n k i = some c → ∃ c0, e_tget n t i = some c0 ∧ e_leC iv c0 c = true := by
  intro n
  induction n with
  | zero =>
    intro t k h i c hi hk
    have hk : k = some c := hk
    subst hk
    cases t with
    | none => cases h
    | some c0 => exact ⟨c0, rfl, h⟩
  | succ n ih =>
    intro t k h i c hi hk
    obtain ⟨x, y⟩ := t
    obtain ⟨x', y'⟩ := k
    obtain ⟨h1, h2⟩ := e_and (show cond (e_leT iv n x x') (e_leT iv n y y') false = true from h)
    have hk : cond (Nat.beq (Nat.mod i 2) 0) (e_tget n x' (Nat.div i 2)) (e_tget n y' (Nat.div i 2)) = some c := hk
    show ∃ c0, cond (Nat.beq (Nat.mod i 2) 0) (e_tget n x (Nat.div i 2)) (e_tget n y (Nat.div i 2)) = some c0 ∧ _
    have hi2 : Nat.div i 2 < 2 ^ n := by
      show i / 2 < 2 ^ n
      rw [Nat.pow_succ] at hi
      omega
    cases q : Nat.beq (Nat.mod i 2) 0 with
    | true => rw [q] at hk; exact ih _ _ h1 _ _ hi2 hk
    | false => rw [q] at hk; exact ih _ _ h2 _ _ hi2 hk
theorem e_eqE_s (x y : e_E) (h : e_eqE x y = true) : x = y := by
  obtain ⟨h1, h⟩ := e_and h
  obtain ⟨h2, h⟩ := e_and h
  obtain ⟨h3, h⟩ := e_and h
  obtain ⟨h4, h5⟩ := e_and h
  exact Prod.ext (e_beq h1) (Prod.ext (e_beq h2) (Prod.ext (e_beq h3) (Prod.ext (e_beq h4) (e_beq h5))))
theorem e_eqN_s (x y : e_N) (h : e_eqN x y = true) : x = y := by
  obtain ⟨h1, h⟩ := e_and h
  obtain ⟨h2, h⟩ := e_and h
  obtain ⟨h3, h⟩ := e_and h
  obtain ⟨h4, h5⟩ := e_and h
  exact Prod.ext (e_beq h1) (Prod.ext (e_eqL_eq e_eqE_s _ _ h5) (Prod.ext (e_beq h2) (Prod.ext (e_beq h3) (e_beq h4))))
theorem e_eqF_s (x y : e_F) (h : e_eqF x y = true) : x = y := by
  obtain ⟨h1, h⟩ := e_and h
  obtain ⟨h2, h⟩ := e_and h
  obtain ⟨h3, h4⟩ := e_and h
  have hv : ∀ a c : e_V, e_eqV a c = true → a = c := fun a c => e_eqV_s
  exact Prod.ext (e_eqN_s _ _ h3) (Prod.ext (e_eqL_eq e_eqE_s _ _ h4) (Prod.ext (e_eqL_eq hv _ _ h1) (e_eqL_eq hv _ _ h2)))
theorem e_drop_len {α : Type} {l : List α} {x y : Nat} (h : (l.drop x).length = (l.drop y).length) : l.drop x = l.drop y := by
  rw [List.length_drop, List.length_drop] at h
  rcases Nat.lt_or_ge x l.length with q | q
  · rw [show x = y by omega]
  · rw [List.drop_eq_nil_of_le q, List.drop_eq_nil_of_le (by omega)]
theorem e_leI_n : ∀ l m : e_I, e_eqL (fun p q => cond (Nat.ble q.1 p.1) (Nat.ble p.2 q.2) false) l m = true → ∀ k, (e_iv m k).1 ≤ (e_iv l k).1 ∧ (e_iv l k).2 ≤ (e_iv m k).2
  | [], [], _, k => ⟨Nat.le_refl _, Nat.le_refl _⟩
  | [], _ :: _, h, _ => by cases h
  | _ :: _, [], h, _ => by cases h
  | x :: l, y :: m, h, 0 => by
    obtain ⟨h1, h2⟩ := e_and (e_and (show cond (cond (Nat.ble y.1 x.1) (Nat.ble x.2 y.2) false) (e_eqL (fun p q => cond (Nat.ble q.1 p.1) (Nat.ble p.2 q.2) false) l m) false = true from h)).1
    exact ⟨e_ble h1, e_ble h2⟩
  | x :: l, y :: m, h, k + 1 => e_leI_n l m (e_and (show cond (cond (Nat.ble y.1 x.1) (Nat.ble x.2 y.2) false) (e_eqL (fun p q => cond (Nat.ble q.1 p.1) (Nat.ble p.2 q.2) false) l m) false = true from h)).2 k
theorem e_leI_s {kv : e_I} (hI : e_IV rho iv) (h : e_eqL (fun p q => cond (Nat.ble q.1 p.1) (Nat.ble p.2 q.2) false) iv kv = true) : e_IV rho kv := by
  intro k
  have h1 := hI k
  have h2 := e_leI_n _ _ h k
  omega
/-- a cut: the rest is known to end well -/
theorem e_cut (hr : e_RH rho) (hC : ∀ k, k < 54 → e_acc (e_kf k) (e_kI k) (e_kc k) (e_kl k) [] (e_ks k) (e_kw k) (e_kv k) = true) {cod : List e_E} (IHs : ∀ n', n' ≤ n → e_P rho ta b L n0 D l n') (h : e_kn n I cod loc stk fs w iv = true) : e_GG rho ta b L n0 D l (n + 1) I cod loc stk fs w iv := by
  intro N p e' R s m args below meth c H locs ws tys cst ls ads0 hN hF hW hS hL hI hK hA
  cases cod with
  | nil => cases h
  | cons e tl =>
    obtain ⟨-, h⟩ := e_and (show cond (Nat.beq e.2.1 51) (e_kn1 (e_kx I.1 e.1 (cond (Nat.beq (e_nth loc e.2.2.1).1 0) (e_nth loc e.2.2.1).2 0) iv) n I (e :: tl) loc stk fs w iv) false = true from h)
    generalize e_kx I.1 e.1 (cond (Nat.beq (e_nth loc e.2.2.1).1 0) (e_nth loc e.2.2.1).2 0) iv = k at h
    unfold e_kn1 at h
    obtain ⟨hk, h⟩ := e_nand h
    have hk := e_nble hk
    obtain ⟨hf, h⟩ := e_and h
    have hf := e_ble hf
    obtain ⟨c1, h⟩ := e_and h
    obtain ⟨c2, h⟩ := e_and h
    obtain ⟨c3, h⟩ := e_and h
    obtain ⟨c4, h⟩ := e_and h
    obtain ⟨c5, h⟩ := e_and h
    obtain ⟨c6, h⟩ := e_and h
    obtain ⟨c7, h⟩ := e_and h
    obtain ⟨c8, h⟩ := e_and h
    obtain ⟨c9, h⟩ := e_and h
    obtain ⟨c11, c10⟩ := e_and h
    have c1 := e_beq c1
    have hpg : I.2.1 = e_pg I.1 := hF.2.2.2.2.2.2.2.2.2.1
    obtain rfl : I = e_kI k := Prod.ext c1 (Prod.ext (by rw [hpg, c1]; rfl) (Prod.ext (e_beq c2) (Prod.ext (e_beq c3) (e_beq c4))))
    obtain ⟨kd, hkd⟩ := id hK
    have hcod : e :: tl = e_kc k := by
      have e1 : e_kc k = (e_pg (e_kI k).1).drop (e_kpi k) := e_drop_eq _ _
      rw [e1]
      have hlen := e_beq c5
      rw [hkd, e1] at hlen
      rw [hkd]
      exact e_drop_len hlen
    obtain rfl : fs = e_ks k := e_eqL_eq e_eqF_s _ _ c10
    obtain rfl : stk = [] := e_nil_s c6
    obtain ⟨hK0, hP, hD, hSS, hWR⟩ := hW
    have hWR' : e_WR rho ta b L tys ws (e_kw k) := by
      refine ⟨by rw [← e_beq c8]; exact hWR.1, by rw [← e_beq c8]; exact hWR.2.1, fun i ck hi hg => ?_⟩
      rw [← e_beq c8] at hi
      obtain ⟨c0, g1, g2⟩ := e_leT_s 9 _ _ c9 i ck (by have := hWR.2.1; show i < 512; omega) hg
      obtain ⟨q, q1, q2⟩ := hWR.2.2 i c0 hi g1
      exact ⟨q, q1, e_leC_s hr hI q2 g2⟩
    have hL' : e_LR rho ta b L (e_ads ws) (e_bud (e_kI k).1).2.2 ls (e_kl k) := by
      obtain ⟨lv, l1, l2⟩ := hL
      refine ⟨lv, l1, fun i hi => ?_⟩
      have hle := e_eqL_nth _ _ c7 i
      rcases e_ite hle with ⟨q, -⟩ | ⟨-, hle⟩
      · exact absurd (e_beq q) hi
      have h99 : (e_nth loc i).1 ≠ 99 := by
        intro z
        rcases e_ite hle with ⟨q, -⟩ | ⟨-, hle⟩
        · rw [e_eqV_s q] at z; exact hi z
        obtain ⟨-, hle⟩ := e_and hle
        rcases e_ite hle with ⟨q, -⟩ | ⟨-, hle⟩
        · have := e_beq q; omega
        · obtain ⟨q, -⟩ := e_and hle
          have := e_beq q; omega
      obtain ⟨cv, y1, y2⟩ := l2 i h99
      exact ⟨cv, y1, e_le0_s hr hI y2 hle⟩
    rw [hcod] at hK ⊢
    exact IHs _ hf _ _ _ _ _ _ _ (hC k hk) N p e' R s m args below meth c H locs ws tys cst ls ads0 (by omega) hF ⟨hK0, hP, hD, hSS, hWR'⟩ hS hL' (e_leI_s hI c11) hK hA
theorem e_ib_rowI {p : Program} {e' : Env} {R : Room} {s : State} {m : MethodId} {args : Array Value} {below : List Frame} {meth : Method} {c : Code} {H : Heap} {locs : List Loc} {cells slots : Nat} {Q : State → Prop} {cc : ByteArray} {pc : Nat} {ls : Array Slot} {rest : List Value}
    (hx : p.tables.exec = Jvm.exec) (hb : c.code = cc) {k nx : Nat} {x y : Int32} (hv : v_ib (decode cc pc) k pc nx = true) (h0 : k < 10) (kk : W p l e' R s m args below meth c H locs cells slots Q (F0 m nx ls (.int (e_i ((e_ib k).2 (e_u x) (e_u y))) :: rest))) : W p l e' R s m args below meth c H locs cells slots Q (F0 m pc ls (.int y :: .int x :: rest)) := by
  have h := e_ib_row (l := l) hx hb (x := e_u x) (y := e_u y) hv (fun z => absurd z (by omega)) kk
  rw [e_i_u, e_i_u] at h
  exact h
theorem s_ibinS (hr : e_RH rho) (IH : e_P rho ta b L n0 D l n) (hv : v_ib (decode (e_byt I.1) e.1) e.2.2.1 e.1 (e_hpc tl) = true) (h : h_ibinS (e_acc n) e tl I loc stk fs w iv = true) : e_GG rho ta b L n0 D l (n + 1) I (e :: tl) loc stk fs w iv := by
  rcases e_ite h with ⟨h, -⟩ | ⟨-, h⟩
  rotate_left
  · exact s_ibin hr.1 IH hv h
  intro N p e' R s m args below meth c H locs ws tys cst ls ads0 hN hF hW hS hL hI hK hA
  obtain ⟨v, u, st, rfl, h⟩ := e_q2_s h
  obtain ⟨cv, _, rfl, hvr, cu, cst', rfl, hur, hS'⟩ := id hS
  show W p l e' R s m args below meth c H locs I.2.2.1 I.2.2.2.1 _ (F0 m e.1 ls (cv :: cu :: cst'))
  unfold e_bsp at h
  unfold e_VR at hvr hur
  rcases e_ite h with ⟨q, h⟩ | ⟨-, h⟩
  · rw [e_beq q] at hur
    have hur : cu = .int (rho u.2) := hur
    subst hur
    rcases e_ite h with ⟨q1, h⟩ | ⟨-, h⟩
    · have q1 := e_beq q1
      obtain ⟨q2, h⟩ := e_and h
      rw [e_beq q2] at hvr
      have hvr : cv = .int (e_i v.2) := hvr
      subst hvr
      obtain ⟨q3, h⟩ := e_and h
      dsimp only at h
      generalize Nat.add (Nat.mul 4 (Nat.pred u.2)) (Nat.sub 3 (Nat.div v.2 8)) = j at h
      obtain ⟨q4, h⟩ := e_and h
      obtain ⟨q5, h⟩ := e_and h
      obtain ⟨q6, h⟩ := e_and h
      have q4 := e_ble q4
      have q5 : Nat.succ (j / 4) = u.2 := e_beq q5
      have q6 : 24 - 8 * (j % 4) = v.2 := e_beq q6
      rw [q1] at hv
      refine e_ib_rowI hF.1 hF.2.1 hv (by omega) (e_k IH h (by omega) hF hW ⟨_, _, rfl, ?_, hS'⟩ hL hI (e_suf hK) hA rfl)
      show Value.int (e_i (e_u ((e_i (e_u (rho u.2))).toUInt32 >>> ((e_i (e_u (e_i v.2))).toUInt32 &&& Int32.toUInt32 31)).toInt32)) = .int _ ∧ j < 20
      rw [e_i_u, e_i_u, e_i_u, q5, q6]
      exact ⟨rfl, by omega⟩
    · obtain ⟨q1, h⟩ := e_and h
      have q1 := e_beq q1
      obtain ⟨q2, h⟩ := e_and h
      rw [e_beq q2] at hvr
      have hvr : cv = .int (e_i v.2) := hvr
      subst hvr
      obtain ⟨q3, h⟩ := e_and h
      obtain ⟨q4, h⟩ := e_and h
      have q3 := e_ble q3
      have q4 := e_ble q4
      have e2 : Nat.sub u.2 27 = u.2 - 27 := rfl
      rw [e2] at h
      obtain ⟨t, t1, t2, t3⟩ := e_adv_s hr hI 20 _ _ (by omega) h
      rw [q1] at hv
      refine e_ib_rowI hF.1 hF.2.1 hv (by omega) (e_k IH t2 (by omega) hF hW ⟨_, _, rfl, ?_, hS'⟩ hL hI (e_suf hK) hA rfl)
      show Value.int (e_i (Nat.mod (Nat.add (e_u (rho u.2)) (e_u (e_i v.2))) 4294967296)) = .int (rho (27 + t))
      rw [e_i_add, e_i_u, e_i_u, t3, show 27 + (u.2 - 27) = u.2 by omega]
  rcases e_ite h with ⟨q, h⟩ | ⟨-, h⟩
  · rw [e_beq q] at hur
    obtain ⟨rfl, hj⟩ := hur
    obtain ⟨q1, h⟩ := e_and h
    have q1 := e_beq q1
    obtain ⟨q2, h⟩ := e_and h
    have q2 := e_eqV_s q2
    subst q2
    have hvr : cv = .int (e_i 255) := hvr
    subst hvr
    rw [q1] at hv
    refine e_ib_rowI hF.1 hF.2.1 hv (by omega) (e_k IH h (by omega) hF hW ⟨_, _, rfl, ?_, hS'⟩ hL hI (e_suf hK) hA rfl)
    show Value.int (e_i (e_u (e_i (e_u _) &&& e_i (e_u _)))) = .int (rho (7 + u.2))
    rw [e_i_u, e_i_u, e_i_u, hr.2.1 _ hj]
  · obtain ⟨q, h⟩ := e_and h
    obtain ⟨q1, h⟩ := e_and h
    have q1 := e_beq q1
    obtain ⟨q2, h⟩ := e_and h
    obtain ⟨q3, h⟩ := e_and h
    have q2 := e_eqV_s q2
    rw [q2] at hur
    have hur : cu = .int (e_i 0) := hur
    have hvr0 : e_VR rho ta b L (e_ads ws) v cv := by unfold e_VR; exact hvr
    subst hur
    rw [e_beq q] at hvr
    have hvr : cv = .int (rho v.2) := hvr
    subst hvr
    rw [q1] at hv
    refine e_ib_rowI hF.1 hF.2.1 hv (by omega) (e_k IH h (by omega) hF hW ⟨_, _, rfl, ?_, hS'⟩ hL hI (e_suf hK) hA rfl)
    have e1 : (e_ib 1).2 (e_u (e_i 0)) (e_u (rho v.2)) = Nat.mod (Nat.add (e_u (e_i 0)) (e_u (rho v.2))) 4294967296 := rfl
    rw [e1, e_i_add, e_i_u, e_i_u, show e_i 0 = (0 : Int32) from rfl, Int32.zero_add]
    exact hvr0
theorem s_i2lS (IH : e_P rho ta b L n0 D l n) (hv : v_plain (decode (e_byt I.1) e.1) .i2l e.1 (e_hpc tl) = true) (h : h_i2lS (e_acc n) e tl I loc stk fs w iv = true) : e_GG rho ta b L n0 D l (n + 1) I (e :: tl) loc stk fs w iv := by
  rcases e_ite h with ⟨h, -⟩ | ⟨-, h⟩
  rotate_left
  · exact s_i2l IH hv h
  intro N p e' R s m args below meth c H locs ws tys cst ls ads0 hN hF hW hS hL hI hK hA
  obtain ⟨v, st, rfl, h⟩ := e_q1_s h
  obtain ⟨cv, cst', rfl, hvr, hS'⟩ := id hS
  obtain ⟨z1, z2⟩ := v_plain_s hv
  obtain ⟨q, h⟩ := e_and h
  obtain ⟨-, h⟩ := e_and h
  unfold e_VR at hvr
  rw [e_beq q] at hvr
  have hvr : cv = .int (rho v.2) := hvr
  subst hvr
  exact lv_i2l hF.1 hF.2.1 z1 rfl (e_k IH h (by omega) hF hW ⟨_, _, rfl, rfl, hS'⟩ hL hI (e_suf hK) hA z2)
theorem lg_cmp_self (x : Int64) : lg_cmp x x = 0 := by
  unfold lg_cmp
  rw [if_neg (fun h => Int64.lt_irrefl h), if_pos rfl]
theorem s_lcmpS (IH : e_P rho ta b L n0 D l n) (hv : v_plain (decode (e_byt I.1) e.1) .lcmp e.1 (e_hpc tl) = true) (h : h_lcmpS (e_acc n) e tl I loc stk fs w iv = true) : e_GG rho ta b L n0 D l (n + 1) I (e :: tl) loc stk fs w iv := by
  rcases e_ite h with ⟨h, -⟩ | ⟨-, h⟩
  rotate_left
  · exact s_lcmp IH hv h
  intro N p e' R s m args below meth c H locs ws tys cst ls ads0 hN hF hW hS hL hI hK hA
  obtain ⟨v, u, st, rfl, h⟩ := e_q2_s h
  obtain ⟨cv, _, rfl, hvr, cu, cst', rfl, hur, hS'⟩ := id hS
  obtain ⟨z1, z2⟩ := v_plain_s hv
  obtain ⟨q, h⟩ := e_and h
  obtain ⟨q2, h⟩ := e_and h
  rw [e_eqV_s q2] at hur
  unfold e_VR at hvr hur
  rw [e_beq q] at hvr hur
  have hvr : cv = .long (rho v.2).toInt64 := hvr
  have hur : cu = .long (rho v.2).toInt64 := hur
  subst hvr; subst hur
  exact W.lcmp hF.1 hF.2.1 z1 (e_k IH h (by omega) hF hW ⟨_, _, rfl, by show Value.int (lg_cmp _ _) = .int (e_i 0); rw [lg_cmp_self]; rfl, hS'⟩ hL hI (e_suf hK) hA z2)
theorem e_in_rng {x : Int32} {n : Nat} (h1 : 2147483648 ≤ e_o x) (h2 : e_o x < 2147483648 + n) : vp_in x n := by
  have h := e_o_int x
  intro q
  rcases q with q | q
  · rw [Int32.lt_iff_toInt_lt] at q
    have : (0 : Int32).toInt = 0 := by decide
    omega
  · have : x.toNatClampNeg = x.toInt.toNat := rfl
    omega
theorem s_astS (IH : e_P rho ta b L n0 D l n) (hv : v_ast (decode (e_byt I.1) e.1) e.2.2.1 e.1 (e_hpc tl) = true) (h : h_astS (e_acc n) e tl I loc stk fs w iv = true) : e_GG rho ta b L n0 D l (n + 1) I (e :: tl) loc stk fs w iv := by
  rcases e_ite h with ⟨h, -⟩ | ⟨-, h⟩
  rotate_left
  · exact s_ast IH hv h
  intro N p e' R s m args below meth c H locs ws tys cst ls ads0 hN hF hW hS hL hI hK hA
  obtain ⟨v, u, s2, rfl, h⟩ := e_q2_s h
  obtain ⟨z, st, rfl, h⟩ := e_q1_s (stk := s2) h
  obtain ⟨cv, _, rfl, hvr, cu, _, rfl, hur, cz, cst', rfl, hzr, hS'⟩ := id hS
  obtain ⟨hK0, hP, hD, hSS, hWR⟩ := id hW
  rcases e_ite h with ⟨q, h⟩ | ⟨-, h⟩
  · obtain ⟨q1, h⟩ := e_and h
    obtain ⟨q2, h⟩ := e_and h
    obtain ⟨c1, a, x, hlt, g1, h, rfl, g2, gl, g3⟩ := e_cell_s hWR hzr h
    obtain ⟨y1, h⟩ := e_and h
    obtain ⟨y2, h⟩ := e_and h
    obtain ⟨y3, h⟩ := e_and h
    have y1 := e_beq y1
    have y2 := e_ble y2
    have y3 : Nat.succ (e_iv iv u.2).2 ≤ 2147483648 + c1.2.1 := e_ble y3
    unfold e_VR at hur
    rw [e_beq q] at hur
    have hur : cu = .int (rho u.2) := hur
    subst hur
    have hiv := hI u.2
    have hin : vp_in (rho u.2) c1.2.1 := e_in_rng (by omega) (by omega)
    have hads : ∀ x1, e_ads (ws.set z.2 (a, x1)) = e_ads ws := fun x1 => e_ads_set g2
    obtain ⟨xx, rfl⟩ := hvr.int q1
    show W p l e' R s m args below meth c H locs I.2.2.1 I.2.2.2.1 _ (F0 m e.1 ls (.int xx :: .int (rho u.2) :: .ref a :: cst'))
    have q2 := e_beq q2
    unfold v_ast at hv
    split at hv
    · rename_i d1 d2
      rcases g3 with ⟨z0, -⟩ | ⟨z0, cA, f, t0, rfl, ht, hf⟩ | ⟨z0, -⟩ | ⟨z0, -⟩
      · omega
      · rw [show e_ety c1.1 = .int by rw [y1]; rfl] at ht
        refine va_iast hF.1 hF.2.1 hK0 hP hD hSS _ _ g2 ht hin d2 (fun H1 locs1 a1 a2 a3 => ?_)
        refine e_k IH h (by omega) hF ⟨hK0, a1, a2, a3, hWR.set g2 ⟨gl, Or.inr (Or.inl ⟨Or.inl rfl, cA, _, t0, rfl, ht, fun j hj => ⟨_, rfl⟩⟩)⟩⟩ (by rw [hads]; exact hS') (by rw [hads]; exact hL) hI (e_suf hK) (by rw [hads]; exact hA) (e_beq hv)
      · omega
      · omega
    · omega
    · omega
    · cases hv
  · obtain ⟨q, h⟩ := e_and h
    obtain ⟨q1, h⟩ := e_and h
    obtain ⟨q2, h⟩ := e_and h
    obtain ⟨c1, a, x, hlt, g1, h, rfl, g2, gl, g3⟩ := e_cell_s hWR hzr h
    obtain ⟨y1, h⟩ := e_and h
    obtain ⟨y2, h⟩ := e_and h
    have y1 := e_beq y1
    have y2 : Nat.succ u.2 ≤ c1.2.1 := e_ble y2
    have hvr0 := hvr
    unfold e_VR at hur hvr
    rw [e_beq q1] at hur
    rw [e_beq q] at hvr
    have hur : cu = .int (e_i u.2) := hur
    have hvr : cv = .long (rho v.2).toInt64 := hvr
    subst hur; subst hvr
    have hkc : (e_i u.2).toNatClampNeg = u.2 := nI_clamp (by omega)
    have hin : vp_in (e_i u.2) c1.2.1 := nI_in (by omega) (by omega)
    have hads : ∀ x1, e_ads (ws.set z.2 (a, x1)) = e_ads ws := fun x1 => e_ads_set g2
    show W p l e' R s m args below meth c H locs I.2.2.1 I.2.2.2.1 _ (F0 m e.1 ls (.long _ :: .int (e_i u.2) :: .ref a :: cst'))
    have q2 := e_beq q2
    unfold v_ast at hv
    split at hv
    · omega
    · omega
    · rename_i d1 d2
      rcases g3 with ⟨z0, -⟩ | ⟨z0, -⟩ | ⟨z0, cA, f, t0, rfl, ht, hf⟩ | ⟨z0, -⟩
      · omega
      · omega
      · refine va_last hF.1 hF.2.1 hK0 hP hD hSS _ _ g2 ht hin d2 (fun H1 locs1 a1 a2 a3 => ?_)
        refine e_k IH h (by omega) hF ⟨hK0, a1, a2, a3, hWR.put g2 g1 (fun c' f1 f2 f3 => ?_)⟩ (by rw [hads]; exact hS') (by rw [hads]; exact hL) hI (e_suf hK) (by rw [hads]; exact hA) (e_beq hv)
        refine ⟨by rw [f2]; exact gl, Or.inr (Or.inr (Or.inl ⟨by rw [f1]; exact z0, cA, _, t0, by rw [f2], ht, fun j hj => ?_⟩))⟩
        rw [f2] at hj
        rw [f3, hkc]
        by_cases y : j = u.2
        · rw [if_pos y, y]; simpa [vp_updL] using hvr0
        · rw [if_neg y]; simpa [vp_updL, y] using hf j hj
      · omega
    · cases hv
def v_mm (d : e_D) (own : String) (nm : MethodName) (cc : ByteArray) (h1 h2 h3 h4 pc nx : Nat) : Bool := match d with
  | .ok (.invokestatic i, 3) => (e_has h1 (.methodLink own i nm) && (e_has h2 (.static nm) && (e_has h3 (.initialized "java/lang/Math") && e_has h4 (.code nm cc 2 (some .int))))) && Nat.beq nx (pc + 3)
  | _ => false
theorem s_mmax (IH : e_P rho ta b L n0 D l n) {h1 h2 h3 h4 : Nat} (hv : v_mm (decode (e_byt I.1) e.1) (e_own I.1) Lib.Math.max.name Lib.Math.max.code h1 h2 h3 h4 e.1 (e_hpc tl) = true) (h : h_mmax (e_acc n) e tl I loc stk fs w iv = true) : e_GG rho ta b L n0 D l (n + 1) I (e :: tl) loc stk fs w iv := by
  intro N p e' R s m args below meth c H locs ws tys cst ls ads0 hN hF hW hS hL hI hK hA
  obtain ⟨v, u, st, rfl, h⟩ := e_q2_s h
  obtain ⟨q8, h⟩ := e_and h
  have q8 := e_ble q8
  obtain ⟨cv, _, rfl, hvr, cu, cst', rfl, hur, hS'⟩ := id hS
  have hsum := e_cs_s hS'
  obtain ⟨k1, k2, k3, k4, k5, k6, k7⟩ := hF.rooms
  have hts := hF.2.2.2.2.1
  obtain ⟨lv, hlv, -⟩ := id hL
  rcases e_con_s hI hvr h with ⟨y, rfl, h⟩ | h
  rotate_left
  · exact e_again IH (fun _ _ => h) N p e' R s m args below meth c H locs ws tys _ ls ads0 hN hF hW hS hL hI hK hA
  rcases e_con_s hI hur h with ⟨x, rfl, h⟩ | h
  rotate_left
  · exact e_again IH (fun _ _ => h) N p e' R s m args below meth c H locs ws tys _ ls ads0 hN hF hW hS hL hI hK hA
  show W p l e' R s m args below meth c H locs I.2.2.1 I.2.2.2.1 _ (F0 m e.1 ls (.int (e_i y) :: .int (e_i x) :: cst'))
  unfold v_mm at hv
  split at hv
  · rename_i idx d
    obtain ⟨z1, z2⟩ := e_and2 hv
    obtain ⟨z1, z3⟩ := e_and2 z1
    obtain ⟨z3, z4⟩ := e_and2 z3
    obtain ⟨z4, z5⟩ := e_and2 z4
    refine va_mmax hF.1 hF.2.1 (by rw [hF.2.2.1]; exact hlv.1.symm) hF.2.2.2.1 (hts _ (e_has_s z1)) (hts _ (e_has_s z3)) (hts _ (e_has_s z4)) (hts _ (e_has_s z5)) (by omega) (by rw [hsum]; omega) (by have := hF.2.2.2.2.2.2.2.2.2.2.2.2.2.2.2.1; omega) (by have := hF.2.2.2.2.2.2.2.2.2.2.2.2.2.2.2.2.1; omega) d ?_
    rcases e_ite h with ⟨q, h⟩ | ⟨q, h⟩
    · rw [if_pos (e_o_ltI.mpr (by rw [e_o_i, e_o_i]; exact e_ble q))]
      exact e_k IH h (by omega) hF hW ⟨_, _, rfl, rfl, hS'⟩ hL hI (e_suf hK) hA (e_beq z2)
    · rw [if_neg (fun z => by have h5 := e_o_ltI.mp z; rw [e_o_i, e_o_i] at h5; have := e_nble q; omega)]
      exact e_k IH h (by omega) hF hW ⟨_, _, rfl, rfl, hS'⟩ hL hI (e_suf hK) hA (e_beq z2)
  · cases hv
theorem s_mmin (IH : e_P rho ta b L n0 D l n) {h1 h2 h3 h4 : Nat} (hv : v_mm (decode (e_byt I.1) e.1) (e_own I.1) Lib.Math.min.name Lib.Math.min.code h1 h2 h3 h4 e.1 (e_hpc tl) = true) (h : h_mmin (e_acc n) e tl I loc stk fs w iv = true) : e_GG rho ta b L n0 D l (n + 1) I (e :: tl) loc stk fs w iv := by
  intro N p e' R s m args below meth c H locs ws tys cst ls ads0 hN hF hW hS hL hI hK hA
  obtain ⟨v, u, st, rfl, h⟩ := e_q2_s h
  obtain ⟨q8, h⟩ := e_and h
  have q8 := e_ble q8
  obtain ⟨cv, _, rfl, hvr, cu, cst', rfl, hur, hS'⟩ := id hS
  have hsum := e_cs_s hS'
  obtain ⟨k1, k2, k3, k4, k5, k6, k7⟩ := hF.rooms
  have hts := hF.2.2.2.2.1
  obtain ⟨lv, hlv, -⟩ := id hL
  rcases e_con_s hI hvr h with ⟨y, rfl, h⟩ | h
  rotate_left
  · exact e_again IH (fun _ _ => h) N p e' R s m args below meth c H locs ws tys _ ls ads0 hN hF hW hS hL hI hK hA
  rcases e_con_s hI hur h with ⟨x, rfl, h⟩ | h
  rotate_left
  · exact e_again IH (fun _ _ => h) N p e' R s m args below meth c H locs ws tys _ ls ads0 hN hF hW hS hL hI hK hA
  show W p l e' R s m args below meth c H locs I.2.2.1 I.2.2.2.1 _ (F0 m e.1 ls (.int (e_i y) :: .int (e_i x) :: cst'))
  unfold v_mm at hv
  split at hv
  · rename_i idx d
    obtain ⟨z1, z2⟩ := e_and2 hv
    obtain ⟨z1, z3⟩ := e_and2 z1
    obtain ⟨z3, z4⟩ := e_and2 z3
    obtain ⟨z4, z5⟩ := e_and2 z4
    refine va_mmin hF.1 hF.2.1 (by rw [hF.2.2.1]; exact hlv.1.symm) hF.2.2.2.1 (hts _ (e_has_s z1)) (hts _ (e_has_s z3)) (hts _ (e_has_s z4)) (hts _ (e_has_s z5)) (by omega) (by rw [hsum]; omega) (by have := hF.2.2.2.2.2.2.2.2.2.2.2.2.2.2.2.1; omega) (by have := hF.2.2.2.2.2.2.2.2.2.2.2.2.2.2.2.2.1; omega) d ?_
    rcases e_ite h with ⟨q, h⟩ | ⟨q, h⟩
    · rw [if_pos (e_o_ltI.mpr (by rw [e_o_i, e_o_i]; exact e_ble q))]
      exact e_k IH h (by omega) hF hW ⟨_, _, rfl, rfl, hS'⟩ hL hI (e_suf hK) hA (e_beq z2)
    · rw [if_neg (fun z => by have h5 := e_o_ltI.mp z; rw [e_o_i, e_o_i] at h5; have := e_nble q; omega)]
      exact e_k IH h (by omega) hF hW ⟨_, _, rfl, rfl, hS'⟩ hL hI (e_suf hK) hA (e_beq z2)
  · cases hv
end

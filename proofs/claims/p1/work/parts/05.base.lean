/-! WHAT THE ENGINE'S NUMBERS MEAN: values, cells, worlds, frames; and the goal of a configuration. -/
def e_gw : List Cond := lw_tbl.filter goodWord
def e_isHot (w : Cond) : Bool := match w with
  | .fieldLinkNest .. => true
  | .methodLinkNest .. => true
  | .castable .. => true
  | .declares .. => true
  | .arrayOver (.object _) => true
  | _ => false
def e_hot : List Cond := lw_tbl.filter e_isHot
def e_nf (ci : Nat) : Nat := (e_fts ci).length
def e_FT (ci : Nat) : u_T := fun k => (e_fts ci).getD k ("", "", "", false)
def e_ty (ci k : Nat) : FieldType := (parseFieldDescriptor (e_FT ci k).2.2.1).getD .int
def e_cl : List vw_C := (List.range e_nc).map (fun ci => (e_cn ci, e_FT ci, e_nf ci))
theorem e_cl_at {ci : Nat} (h : ci < e_nc) : e_cl[ci]? = some (e_cn ci, e_FT ci, e_nf ci) := by
  simp [e_cl, h]
/-- the unknown ints rho, the texts ta, the script b of L ints, the addresses ads -/
def e_VR (rho : Nat → Int32) (ta : Nat → Nat × Nat) (b L : Nat) (ads : List Nat) (v : e_V) (cv : Value) : Prop :=
  match v.1 with
  | 0 => cv = .int (e_i v.2)
  | 1 => cv = .long (e_l v.2)
  | 2 => ∃ a, ads[v.2]? = some a ∧ cv = .ref a
  | 3 => cv = .null
  | 4 => cv = .int (rho v.2)
  | 5 => cv = .null ∨ ∃ a, cv = .ref a
  | 6 => cv = .float (UInt32.ofNat v.2)
  | 7 => cv = .double (UInt64.ofNat v.2)
  | 8 => cv = .ref (ta v.2).1 ∧ v.2 < e_srs.length
  | 9 => cv = .ref (ta v.2).2 ∧ v.2 < e_srs.length
  | 10 => cv = .ref b ∧ v.2 = L
  | 11 => cv = .int (((rho (Nat.succ (v.2 / 4))).toUInt32 >>> ((e_i (24 - 8 * (v.2 % 4))).toUInt32 &&& Int32.toUInt32 31)).toInt32) ∧ v.2 < 20
  | 13 => ∃ x, cv = .int x
  | 14 => cv = .long (rho v.2).toInt64
  | _ => False
section
variable {rho : Nat → Int32} {ta : Nat → Nat × Nat} {b L : Nat} {ads ads' : List Nat} {v : e_V} {cv : Value}
theorem e_VR.mono (h : e_VR rho ta b L ads v cv) (hp : ads <+: ads') : e_VR rho ta b L ads' v cv := by
  obtain ⟨t, n⟩ := v
  unfold e_VR at *
  dsimp only at *
  split at h <;> try exact h
  obtain ⟨a, h1, h2⟩ := h
  refine ⟨a, ?_, h2⟩
  obtain ⟨r, rfl⟩ := hp
  rw [List.getElem?_append_left (List.getElem?_eq_some_iff.mp h1).1]
  exact h1
theorem e_VR.int (h : e_VR rho ta b L ads v cv) (hi : e_is 0 v.1 = true) : ∃ x, cv = .int x := by
  obtain ⟨t, n⟩ := v
  unfold e_VR at h
  unfold e_is at hi
  dsimp only at *
  split at h <;> first | exact h.elim | exact ⟨_, h⟩ | (simp at hi; done)
theorem e_VR.cat (h : e_VR rho ta b L ads v cv) : (cv.category = 2 ↔ e_cat2 v.1 = true) := by
  obtain ⟨t, n⟩ := v
  unfold e_VR at h
  dsimp only at h ⊢
  split at h <;> first | (subst h; simp [Value.category, e_cat2]; done) | (obtain ⟨x, rfl⟩ := h; simp [Value.category, e_cat2]; done) | (obtain ⟨a, h1, h2⟩ := h; subst h2; simp [Value.category, e_cat2]; done) | (rcases h with rfl | ⟨a, rfl⟩ <;> simp [Value.category, e_cat2]; done) | (obtain ⟨rfl, h2⟩ := h; simp [Value.category, e_cat2]; done) | exact h.elim
end

section
variable {rho : Nat → Int32} {ta : Nat → Nat × Nat} {b L : Nat} {ads ads' : List Nat} {v : e_V} {cv : Value}
theorem e_or {a c : Bool} (h : cond a true c = true) : a = true ∨ c = true := by
  cases a
  · exact Or.inr h
  · exact Or.inl rfl
theorem e_and {a c : Bool} (h : cond a c false = true) : a = true ∧ c = true := by
  cases a
  · cases h
  · exact ⟨rfl, h⟩
theorem e_nand {a c : Bool} (h : cond a false c = true) : a = false ∧ c = true := by
  cases a
  · exact ⟨rfl, h⟩
  · cases h
theorem e_ite {a x y : Bool} (h : cond a x y = true) : (a = true ∧ x = true) ∨ (a = false ∧ y = true) := by
  cases a
  · exact Or.inr ⟨rfl, h⟩
  · exact Or.inl ⟨rfl, h⟩
theorem e_beq {a c : Nat} (h : Nat.beq a c = true) : a = c := Nat.eq_of_beq_eq_true h
theorem e_bne {a c : Nat} (h : Nat.beq a c = false) : a ≠ c := Nat.ne_of_beq_eq_false h
theorem e_ble {a c : Nat} (h : Nat.ble a c = true) : a ≤ c := Nat.le_of_ble_eq_true h
theorem e_nble {a c : Nat} (h : Nat.ble a c = false) : c < a := by
  rcases Nat.lt_or_ge c a with q | q
  · exact q
  · rw [Nat.ble_eq_true_of_le q] at h; cases h
theorem e_is_0 {t : Nat} (h : e_is 0 t = true) : t = 0 ∨ t = 4 := by
  rcases e_or (show cond (Nat.beq t 0) true (Nat.beq t 4) = true from h) with q | q
  · exact Or.inl (e_beq q)
  · exact Or.inr (e_beq q)
theorem e_is_1 {t : Nat} (h : e_is 1 t = true) : t = 1 := e_beq h
theorem e_is_2 {t : Nat} (h : e_is 2 t = true) : t = 2 ∨ t = 3 ∨ t = 5 ∨ t = 8 ∨ t = 9 ∨ t = 10 := by
  rcases e_or (show cond (Nat.beq t 2) true (cond (Nat.beq t 3) true (cond (Nat.beq t 5) true (cond (Nat.ble t 7) false (Nat.ble t 10)))) = true from h) with q | q
  · exact Or.inl (e_beq q)
  rcases e_or q with q | q
  · exact Or.inr (Or.inl (e_beq q))
  rcases e_or q with q | q
  · exact Or.inr (Or.inr (Or.inl (e_beq q)))
  obtain ⟨q1, q2⟩ := e_nand q
  have := e_nble q1
  have := e_ble q2
  omega
theorem e_is_3 {t : Nat} (h : e_is 3 t = true) : t = 6 := e_beq h
theorem e_is_4 {t : Nat} (h : e_is 4 t = true) : t = 7 := e_beq h
theorem e_VR.long (h : e_VR rho ta b L ads v cv) (hi : v.1 = 1) : cv = .long (e_l v.2) := by
  unfold e_VR at h; rw [hi] at h; exact h
theorem e_VR.float (h : e_VR rho ta b L ads v cv) (hi : v.1 = 6) : cv = .float (UInt32.ofNat v.2) := by
  unfold e_VR at h; rw [hi] at h; exact h
theorem e_VR.double (h : e_VR rho ta b L ads v cv) (hi : v.1 = 7) : cv = .double (UInt64.ofNat v.2) := by
  unfold e_VR at h; rw [hi] at h; exact h
theorem e_VR.cell (h : e_VR rho ta b L ads v cv) (hi : v.1 = 2) : ∃ a, ads[v.2]? = some a ∧ cv = .ref a := by
  unfold e_VR at h; rw [hi] at h; exact h
theorem e_VR.null (h : e_VR rho ta b L ads v cv) (hi : v.1 = 3) : cv = .null := by
  unfold e_VR at h; rw [hi] at h; exact h
theorem e_VR.refs (h : e_VR rho ta b L ads v cv) (hi : e_is 2 v.1 = true) : (∃ a, cv = .ref a) ∨ cv = .null := by
  rcases e_is_2 hi with q | q | q | q | q | q <;> unfold e_VR at h <;> rw [q] at h
  · obtain ⟨a, -, h⟩ := h; exact Or.inl ⟨a, h⟩
  · exact Or.inr h
  · rcases h with h | h
    · exact Or.inr h
    · exact Or.inl h
  · exact Or.inl ⟨_, h.1⟩
  · exact Or.inl ⟨_, h.1⟩
  · exact Or.inl ⟨_, h.1⟩
/-- stacks -/
def e_SR (rho : Nat → Int32) (ta : Nat → Nat × Nat) (b L : Nat) (ads : List Nat) : List e_V → List Value → Prop
  | [], cs => cs = []
  | v :: st, cs => ∃ c cs', cs = c :: cs' ∧ e_VR rho ta b L ads v c ∧ e_SR rho ta b L ads st cs'
theorem e_SR.mono {st : List e_V} {cs : List Value} (hp : ads <+: ads') (h : e_SR rho ta b L ads st cs) : e_SR rho ta b L ads' st cs := by
  induction st generalizing cs with
  | nil => exact h
  | cons v st ih =>
    obtain ⟨c, cs', h1, h2, h3⟩ := h
    exact ⟨c, cs', h1, h2.mono hp, ih h3⟩
/-- local variables -/
def e_LR (rho : Nat → Int32) (ta : Nat → Nat × Nat) (b L : Nat) (ads : List Nat) (nL : Nat) (ls : Array Slot) (loc : List e_V) : Prop :=
  ∃ lv, lv_has ls nL lv ∧ ∀ i, (e_nth loc i).1 ≠ 99 → ∃ cv, (i, cv) ∈ lv ∧ e_VR rho ta b L ads (e_nth loc i) cv
theorem e_LR.mono {nL : Nat} {ls : Array Slot} {loc : List e_V} (hp : ads <+: ads') (h : e_LR rho ta b L ads nL ls loc) : e_LR rho ta b L ads' nL ls loc := by
  obtain ⟨lv, h1, h2⟩ := h
  refine ⟨lv, h1, fun i hi => ?_⟩
  obtain ⟨cv, q1, q2⟩ := h2 i hi
  exact ⟨cv, q1, q2.mono hp⟩
theorem e_LR.at {nL : Nat} {ls : Array Slot} {loc : List e_V} (h : e_LR rho ta b L ads nL ls loc) {i : Nat} (hi : (e_nth loc i).1 ≠ 99) : ∃ cv, ls[i]? = some (.val cv) ∧ e_VR rho ta b L ads (e_nth loc i) cv := by
  obtain ⟨lv, h1, h2⟩ := h
  obtain ⟨cv, q1, q2⟩ := h2 i hi
  exact ⟨cv, h1.2.2 (i, cv) q1, q2⟩
theorem e_nth_n (i : Nat) : e_nth [] i = (99, 0) := rfl
theorem e_nth_0 (u : e_V) (t : List e_V) : e_nth (u :: t) 0 = u := rfl
theorem e_nth_s (u : e_V) (t : List e_V) (i : Nat) : e_nth (u :: t) (i + 1) = e_nth t i := rfl
theorem e_put_n (i : Nat) (v : e_V) : e_put [] i v = [] := rfl
theorem e_put_0 (u : e_V) (t : List e_V) (v : e_V) : e_put (u :: t) 0 v = v :: t := rfl
theorem e_put_s (u : e_V) (t : List e_V) (i : Nat) (v : e_V) : e_put (u :: t) (i + 1) v = u :: e_put t i v := rfl
theorem e_nth_put (l : List e_V) (i j : Nat) (v : e_V) : e_nth (e_put l i v) j = if j = i then (if i < l.length then v else (99, 0)) else e_nth l j := by
  induction l generalizing i j with
  | nil => rw [e_put_n, e_nth_n]; split <;> simp
  | cons u t ih =>
    cases i with
    | zero =>
      cases j with
      | zero => rw [e_put_0, e_nth_0]; simp
      | succ j => rw [e_put_0, e_nth_s, e_nth_s]; simp
    | succ i =>
      cases j with
      | zero => rw [e_put_s, e_nth_0, e_nth_0]; simp
      | succ j =>
        rw [e_put_s, e_nth_s, e_nth_s, ih i j]
        simp
theorem e_put_len (l : List e_V) (i : Nat) (v : e_V) : (e_put l i v).length = l.length := by
  induction l generalizing i with
  | nil => rfl
  | cons u t ih =>
    cases i with
    | zero => rfl
    | succ i => rw [e_put_s]; simp [ih i]
/-- what a store leaves at each place -/
theorem e_nth_store (l : List e_V) (i j : Nat) (v : e_V) (h : (e_nth (e_store l i v) j).1 ≠ 99) : (j = i ∧ e_nth (e_store l i v) j = v) ∨ (j ≠ i ∧ e_nth (e_store l i v) j = e_nth l j ∧ ¬ (j + 1 = i ∧ e_cat2 (e_nth l j).1 = true) ∧ ¬ (e_cat2 v.1 = true ∧ j = i + 1)) := by
  have key : ∀ l2 : List e_V, l2 = cond (e_cat2 v.1) (e_put (e_put l i v) (Nat.succ i) (99, 0)) (e_put l i v) → ∀ j, (e_nth l2 j).1 ≠ 99 → (j = i ∧ e_nth l2 j = v) ∨ (j ≠ i ∧ e_nth l2 j = e_nth l j ∧ ¬ (e_cat2 v.1 = true ∧ j = i + 1)) := by
    intro l2 e j hj
    have h1 : ∀ j, (e_nth (e_put l i v) j).1 ≠ 99 → (j = i ∧ e_nth (e_put l i v) j = v) ∨ (j ≠ i ∧ e_nth (e_put l i v) j = e_nth l j) := by
      intro j hj
      rw [e_nth_put] at hj ⊢
      by_cases q : j = i
      · rw [if_pos q] at hj ⊢
        by_cases z : i < l.length
        · rw [if_pos z]; exact Or.inl ⟨q, rfl⟩
        · rw [if_neg z] at hj; exact absurd rfl hj
      · rw [if_neg q]; exact Or.inr ⟨q, rfl⟩
    cases hc : e_cat2 v.1 with
    | false =>
      rw [hc] at e
      subst e
      rcases h1 j hj with q | ⟨q1, q2⟩
      · exact Or.inl q
      · exact Or.inr ⟨q1, q2, fun z => by cases z.1⟩
    | true =>
      rw [hc] at e
      have e : l2 = e_put (e_put l i v) (Nat.succ i) (99, 0) := e
      subst e
      by_cases q : j = Nat.succ i
      · rw [e_nth_put, if_pos q] at hj
        split at hj <;> exact absurd rfl hj
      · rw [e_nth_put, if_neg q] at hj ⊢
        rcases h1 j hj with q0 | ⟨q1, q2⟩
        · exact Or.inl q0
        · exact Or.inr ⟨q1, q2, fun z => q z.2⟩
  cases i with
  | zero =>
    rcases key _ rfl j h with q | ⟨q1, q2, q3⟩
    · exact Or.inl q
    · exact Or.inr ⟨q1, q2, fun z => by omega, q3⟩
  | succ i =>
    have e : e_store l (i + 1) v = cond (e_cat2 (e_nth l i).1) (e_put (cond (e_cat2 v.1) (e_put (e_put l (i + 1) v) (Nat.succ (i + 1)) (99, 0)) (e_put l (i + 1) v)) i (99, 0)) (cond (e_cat2 v.1) (e_put (e_put l (i + 1) v) (Nat.succ (i + 1)) (99, 0)) (e_put l (i + 1) v)) := rfl
    rw [e] at h ⊢
    cases hc : e_cat2 (e_nth l i).1 with
    | false =>
      rw [hc] at h
      rcases key _ rfl j h with q | ⟨q1, q2, q3⟩
      · exact Or.inl q
      · refine Or.inr ⟨q1, q2, fun z => ?_, q3⟩
        have e3 : j = i := by omega
        subst e3
        rw [hc] at z
        cases z.2
    | true =>
      rw [hc] at h
      have h : (e_nth (e_put (cond (e_cat2 v.1) (e_put (e_put l (i + 1) v) (Nat.succ (i + 1)) (99, 0)) (e_put l (i + 1) v)) i (99, 0)) j).1 ≠ 99 := h
      show (j = i + 1 ∧ e_nth (e_put (cond (e_cat2 v.1) (e_put (e_put l (i + 1) v) (Nat.succ (i + 1)) (99, 0)) (e_put l (i + 1) v)) i (99, 0)) j = v) ∨ (j ≠ i + 1 ∧ e_nth (e_put (cond (e_cat2 v.1) (e_put (e_put l (i + 1) v) (Nat.succ (i + 1)) (99, 0)) (e_put l (i + 1) v)) i (99, 0)) j = e_nth l j ∧ _)
      by_cases q : j = i
      · rw [e_nth_put, if_pos q] at h
        split at h <;> exact absurd rfl h
      · rw [e_nth_put, if_neg q] at h ⊢
        rcases key _ rfl j h with q0 | ⟨q1, q2, q3⟩
        · exact Or.inl q0
        · exact Or.inr ⟨q1, q2, fun z => q (by omega), q3⟩
end

section
variable {rho : Nat → Int32} {ta : Nat → Nat × Nat} {b L : Nat} {ads ads' : List Nat} {v : e_V} {cv : Value}
theorem e_LR.sto1 {nL i : Nat} {ls' : Array Slot} {loc : List e_V} {lv : List (Nat × Value)} (h : ∀ i, (e_nth loc i).1 ≠ 99 → ∃ cv, (i, cv) ∈ lv ∧ e_VR rho ta b L ads (e_nth loc i) cv) (hv : e_VR rho ta b L ads v cv) (hc : e_cat2 v.1 = false)
    (h2 : lv_has ls' nL ((i, cv) :: lv.filter (fun q => !(q.1 == i) && !(q.1 + 1 == i && q.2.category == 2)))) : e_LR rho ta b L ads nL ls' (e_store loc i v) := by
  refine ⟨_, h2, fun j hj => ?_⟩
  rcases e_nth_store loc i j v hj with ⟨q1, q2⟩ | ⟨q1, q2, q3, q4⟩
  · rw [q2, q1]
    exact ⟨cv, List.mem_cons_self, hv⟩
  · rw [q2] at hj ⊢
    obtain ⟨cw, w1, w2⟩ := h j hj
    refine ⟨cw, List.mem_cons_of_mem _ (List.mem_filter.mpr ⟨w1, ?_⟩), w2⟩
    have hcat := w2.cat
    by_cases z : j + 1 = i
    · have : ¬ cw.category = 2 := fun y => q3 ⟨z, hcat.mp y⟩
      simp [q1, this]
    · simp [q1, z]
theorem e_LR.sto2 {nL i : Nat} {ls' : Array Slot} {loc : List e_V} {lv : List (Nat × Value)} (h : ∀ i, (e_nth loc i).1 ≠ 99 → ∃ cv, (i, cv) ∈ lv ∧ e_VR rho ta b L ads (e_nth loc i) cv) (hv : e_VR rho ta b L ads v cv) (hc : e_cat2 v.1 = true)
    (h2 : lv_has ls' nL ((i, cv) :: lv.filter (fun q => !(q.1 == i) && (!(q.1 == i + 1) && !(q.1 + 1 == i && q.2.category == 2))))) : e_LR rho ta b L ads nL ls' (e_store loc i v) := by
  refine ⟨_, h2, fun j hj => ?_⟩
  rcases e_nth_store loc i j v hj with ⟨q1, q2⟩ | ⟨q1, q2, q3, q4⟩
  · rw [q2, q1]
    exact ⟨cv, List.mem_cons_self, hv⟩
  · rw [q2] at hj ⊢
    obtain ⟨cw, w1, w2⟩ := h j hj
    refine ⟨cw, List.mem_cons_of_mem _ (List.mem_filter.mpr ⟨w1, ?_⟩), w2⟩
    have hcat := w2.cat
    have q5 : ¬ j = i + 1 := fun y => q4 ⟨hc, y⟩
    by_cases z : j + 1 = i
    · have : ¬ cw.category = 2 := fun y => q3 ⟨z, hcat.mp y⟩
      simp [q1, q5, this]
    · simp [q1, q5, z]
end
/-- ints in order, moved up by 2^31 -/
def e_o (x : Int32) : Nat := e_off x.toBitVec.toNat
theorem e_off_eq (n : Nat) : e_off n = (n + 2147483648) % 4294967296 := rfl
theorem e_i_nat (n : Nat) : (e_i n).toBitVec.toNat = n % 4294967296 := by
  rw [show (e_i n).toBitVec = BitVec.ofNat 32 n from rfl, BitVec.toNat_ofNat]
theorem e_i_mod (n : Nat) : e_i (n % 4294967296) = e_i n := by
  apply Int32.toBitVec_inj.mp
  apply BitVec.eq_of_toNat_eq
  rw [e_i_nat, e_i_nat]
  omega
theorem e_i_u (x : Int32) : e_i (e_u x) = x := by
  apply Int32.toBitVec_inj.mp
  apply BitVec.eq_of_toNat_eq
  rw [e_i_nat]
  exact Nat.mod_eq_of_lt x.toBitVec.isLt
theorem e_l_nat (n : Nat) : (e_l n).toBitVec.toNat = n % 18446744073709551616 := by
  rw [show (e_l n).toBitVec = BitVec.ofNat 64 n from rfl, BitVec.toNat_ofNat]
theorem e_l_u (x : Int64) : e_l (e_ul x) = x := by
  apply Int64.toBitVec_inj.mp
  apply BitVec.eq_of_toNat_eq
  rw [e_l_nat]
  exact Nat.mod_eq_of_lt x.toBitVec.isLt
theorem e_o_i (n : Nat) : e_o (e_i n) = e_off n := by
  show e_off (e_i n).toBitVec.toNat = e_off n
  rw [e_i_nat, e_off_eq, e_off_eq]
  omega
theorem e_o_lt (x : Int32) : e_o x < 4294967296 := by
  show e_off _ < _
  rw [e_off_eq]
  omega
theorem e_i_o (x : Int32) : e_i (e_off (e_o x)) = x := by
  apply Int32.toBitVec_inj.mp
  apply BitVec.eq_of_toNat_eq
  rw [e_i_nat]
  show e_off (e_off x.toBitVec.toNat) % _ = _
  rw [e_off_eq, e_off_eq]
  have := x.toBitVec.isLt
  omega
theorem e_o_inj {x y : Int32} : x = y ↔ e_o x = e_o y := by
  refine ⟨fun h => by rw [h], fun h => ?_⟩
  rw [← e_i_o x, ← e_i_o y, h]
theorem e_o_int (x : Int32) : (e_o x : Int) = x.toInt + 2147483648 := by
  show ((e_off x.toBitVec.toNat : Nat) : Int) = x.toBitVec.toInt + _
  rw [e_off_eq, BitVec.toInt_eq_toNat_cond]
  have := x.toBitVec.isLt
  split <;> omega
theorem e_o_ltI {x y : Int32} : x < y ↔ e_o x < e_o y := by
  rw [Int32.lt_iff_toInt_lt]
  have := e_o_int x
  have := e_o_int y
  omega
theorem e_o_leI {x y : Int32} : x ≤ y ↔ e_o x ≤ e_o y := by
  rw [Int32.le_iff_toInt_le]
  have := e_o_int x
  have := e_o_int y
  omega
def e_IV (rho : Nat → Int32) (iv : e_I) : Prop := ∀ k, (e_iv iv k).1 ≤ e_o (rho k) ∧ e_o (rho k) ≤ (e_iv iv k).2
theorem e_iv_ivp (l : e_I) (i j : Nat) (r : Nat × Nat) : e_iv (e_ivp l i r) j = if j = i then (if i < l.length then r else (0, 4294967295)) else e_iv l j := by
  induction l generalizing i j with
  | nil =>
    show (0, 4294967295) = if j = i then (if i < ([] : e_I).length then r else (0, 4294967295)) else (0, 4294967295)
    split <;> simp
  | cons u t ih =>
    cases i with
    | zero =>
      cases j with
      | zero => rfl
      | succ j => show e_iv t j = _; simp; rfl
    | succ i =>
      cases j with
      | zero => show u = _; simp; rfl
      | succ j =>
        show e_iv (e_ivp t i r) j = _
        rw [ih i j]
        simp
        rfl
theorem e_IV.split {rho : Nat → Int32} {iv : e_I} (h : e_IV rho iv) (k c : Nat) : e_IV rho (e_ivp iv k ((e_iv iv k).1, c)) ∨ e_IV rho (e_ivp iv k (Nat.succ c, (e_iv iv k).2)) := by
  have hh := h k
  have hb := e_o_lt (rho k)
  rcases Nat.lt_or_ge c (e_o (rho k)) with q | q
  · refine Or.inr (fun j => ?_)
    rw [e_iv_ivp]
    by_cases z : j = k
    · subst z
      rw [if_pos rfl]
      split
      · exact ⟨q, hh.2⟩
      · exact ⟨Nat.zero_le _, by omega⟩
    · rw [if_neg z]; exact h j
  · refine Or.inl (fun j => ?_)
    rw [e_iv_ivp]
    by_cases z : j = k
    · subst z
      rw [if_pos rfl]
      split
      · exact ⟨hh.1, q⟩
      · exact ⟨Nat.zero_le _, by omega⟩
    · rw [if_neg z]; exact h j

section
variable {rho : Nat → Int32} {ta : Nat → Nat × Nat} {b L : Nat} {ads ads' : List Nat} {v u : e_V} {cv : Value} {iv : e_I} {x y : Int32} {kt kf : Bool} {ks : Nat → Nat → Bool}
theorem e_con_s {kk : Nat → Bool} (hiv : e_IV rho iv) (hv : e_VR rho ta b L ads v cv) (h : e_con iv v kk ks = true) : (∃ n, cv = .int (e_i n) ∧ kk n = true) ∨ ∃ k c, ks k c = true := by
  obtain ⟨t, n⟩ := v
  rcases e_ite (show cond (Nat.beq t 0) (kk n) (cond (Nat.beq t 4) (e_conR (e_iv iv n) n kk ks) false) = true from h) with ⟨q, h⟩ | ⟨-, h⟩
  · have q := e_beq q
    subst q
    exact Or.inl ⟨n, hv, h⟩
  obtain ⟨q, h⟩ := e_and h
  have q := e_beq q
  subst q
  have hv : cv = .int (rho n) := hv
  rcases e_ite (show cond (Nat.beq (e_iv iv n).1 (e_iv iv n).2) (kk (e_off (e_iv iv n).1)) (cond (Nat.ble (e_iv iv n).2 (Nat.add (e_iv iv n).1 70)) (ks n (e_iv iv n).1) false) = true from h) with ⟨q, h⟩ | ⟨-, h⟩
  · have q := e_beq q
    have hr := hiv n
    have e1 : e_o (rho n) = (e_iv iv n).1 := by omega
    refine Or.inl ⟨_, ?_, h⟩
    rw [← e1, e_i_o]
    exact hv
  · obtain ⟨-, h⟩ := e_and h
    exact Or.inr ⟨_, _, h⟩
theorem e_rng_s (hiv : e_IV rho iv) (hi : e_is 0 v.1 = true) (hv : e_VR rho ta b L ads v (.int x)) : (e_rng iv v).1 ≤ e_o x ∧ e_o x ≤ (e_rng iv v).2 := by
  obtain ⟨t, n⟩ := v
  rcases e_is_0 hi with q | q
  · have q : t = 0 := q
    subst q
    have hv : Value.int x = .int (e_i n) := hv
    cases hv
    rw [show e_rng iv (0, n) = (e_off n, e_off n) from rfl, e_o_i]
    generalize e_off n = z
    exact ⟨Nat.le_refl _, Nat.le_refl _⟩
  · have q : t = 4 := q
    subst q
    have hv : Value.int x = .int (rho n) := hv
    cases hv
    exact hiv n
theorem e_lt_s {ra rb : Nat × Nat} (ha : ra.1 ≤ e_o x ∧ e_o x ≤ ra.2) (hb : rb.1 ≤ e_o y ∧ e_o y ≤ rb.2) (h : e_ltR ra rb v u kt kf ks = true) : (x < y ∧ kt = true) ∨ (¬ x < y ∧ kf = true) ∨ ∃ k c, ks k c = true := by
  rcases e_ite h with ⟨q, h⟩ | ⟨-, h⟩
  · have := e_ble q
    exact Or.inl ⟨e_o_ltI.mpr (by omega), h⟩
  rcases e_ite h with ⟨q, h⟩ | ⟨-, h⟩
  · have := e_ble q
    exact Or.inr (Or.inl ⟨fun z => by have := e_o_ltI.mp z; omega, h⟩)
  refine Or.inr (Or.inr ?_)
  rcases e_ite h with ⟨-, h⟩ | ⟨-, h⟩
  · rcases e_ite h with ⟨-, h⟩ | ⟨-, h⟩ <;> exact ⟨_, _, h⟩
  · exact ⟨_, _, h⟩
theorem e_eq_s {ra rb : Nat × Nat} (ha : ra.1 ≤ e_o x ∧ e_o x ≤ ra.2) (hb : rb.1 ≤ e_o y ∧ e_o y ≤ rb.2) (h : e_eqR ra rb v u kt kf ks = true) : (x = y ∧ kt = true) ∨ (¬ x = y ∧ kf = true) ∨ ∃ k c, ks k c = true := by
  rcases e_ite h with ⟨q, h⟩ | ⟨z1, h⟩
  · have := e_ble q
    exact Or.inr (Or.inl ⟨fun z => by have := e_o_inj.mp z; omega, h⟩)
  rcases e_ite h with ⟨q, h⟩ | ⟨z2, h⟩
  · have := e_ble q
    exact Or.inr (Or.inl ⟨fun z => by have := e_o_inj.mp z; omega, h⟩)
  rcases e_ite h with ⟨q1, h⟩ | ⟨-, h⟩
  · rcases e_ite h with ⟨q2, h⟩ | ⟨-, h⟩
    · have := e_nble z1
      have := e_nble z2
      have := e_beq q1
      have := e_beq q2
      exact Or.inl ⟨e_o_inj.mpr (by omega), h⟩
    · rcases e_ite h with ⟨-, h⟩ | ⟨-, h⟩ <;> exact Or.inr (Or.inr ⟨_, _, h⟩)
  · rcases e_ite h with ⟨-, h⟩ | ⟨-, h⟩ <;> exact Or.inr (Or.inr ⟨_, _, h⟩)
/-- a condition of the machine on two ints -/
def e_cc (cc : Nat) (x y : Int32) : Prop := match cc with
  | 0 => x = y
  | 1 => ¬ x = y
  | 2 => x < y
  | 3 => ¬ x < y
  | 4 => y < x
  | _ => ¬ y < x
theorem e_cmp_s {cu cw : Value} {cc : Nat} (hiv : e_IV rho iv) (hv : e_VR rho ta b L ads v cu) (hu : e_VR rho ta b L ads u cw) (h : e_cmp iv cc v u kt kf ks = true) : ∃ x y, cu = .int x ∧ cw = .int y ∧ ((e_cc cc x y ∧ kt = true) ∨ (¬ e_cc cc x y ∧ kf = true) ∨ ∃ k c, ks k c = true) := by
  obtain ⟨q, h⟩ := e_and h
  obtain ⟨i1, i2⟩ := e_and q
  obtain ⟨x, rfl⟩ := hv.int i1
  obtain ⟨y, rfl⟩ := hu.int i2
  have r1 := e_rng_s hiv i1 hv
  have r2 := e_rng_s hiv i2 hu
  refine ⟨x, y, rfl, rfl, ?_⟩
  rcases e_ite h with ⟨c1, h⟩ | ⟨c1, h⟩
  · rcases e_ite h with ⟨c2, h⟩ | ⟨c2, h⟩
    · have e1 := e_beq c2
      subst e1
      exact e_eq_s r1 r2 h
    · have e1 : cc = 1 := by have := e_ble c1; have := e_bne c2; omega
      subst e1
      rcases e_eq_s r1 r2 h with ⟨a, g⟩ | ⟨a, g⟩ | g
      · exact Or.inr (Or.inl ⟨fun z => z a, g⟩)
      · exact Or.inl ⟨a, g⟩
      · exact Or.inr (Or.inr g)
  have c1 := e_nble c1
  rcases e_ite h with ⟨c2, h⟩ | ⟨c2, h⟩
  · rcases e_ite h with ⟨c3, h⟩ | ⟨c3, h⟩
    · have e1 := e_beq c3
      subst e1
      exact e_lt_s r1 r2 h
    · have e1 : cc = 3 := by have := e_ble c2; have := e_bne c3; omega
      subst e1
      rcases e_lt_s r1 r2 h with ⟨a, g⟩ | ⟨a, g⟩ | g
      · exact Or.inr (Or.inl ⟨fun z => z a, g⟩)
      · exact Or.inl ⟨a, g⟩
      · exact Or.inr (Or.inr g)
  have c2 := e_nble c2
  rcases e_ite h with ⟨c3, h⟩ | ⟨c3, h⟩
  · have e1 := e_beq c3
    subst e1
    exact e_lt_s r2 r1 h
  · have c3 := e_bne c3
    have e2 : e_cc cc x y = ¬ y < x := by
      match cc, c1, c2, c3 with
      | 5, _, _, _ => rfl
      | n + 6, _, _, _ => rfl
      | 4, _, _, c3 => exact absurd rfl c3
    rw [e2]
    rcases e_lt_s r2 r1 h with ⟨a, g⟩ | ⟨a, g⟩ | g
    · exact Or.inr (Or.inl ⟨fun z => z a, g⟩)
    · exact Or.inl ⟨a, g⟩
    · exact Or.inr (Or.inr g)
end

/-- the tree of cells -/
theorem e_tget_set : ∀ (n : Nat) (t : e_T n) (i j : Nat) (c : Option e_C), i < 2 ^ n → j < 2 ^ n → e_tget n (e_tset n t i c) j = if j = i then c else e_tget n t j := by
  intro n
  induction n with
  | zero =>
    intro t i j c hi hj
    have e1 : i = 0 := by omega
    have e2 : j = 0 := by omega
    subst e1; subst e2
    rw [if_pos rfl]
    rfl
  | succ n ih =>
    intro t i j c hi hj
    obtain ⟨a, d⟩ := t
    have hg : ∀ (x y : e_T n) (k : Nat), e_tget (n + 1) (x, y) k = cond (Nat.beq (Nat.mod k 2) 0) (e_tget n x (Nat.div k 2)) (e_tget n y (Nat.div k 2)) := fun _ _ _ => rfl
    have hs : e_tset (n + 1) (a, d) i c = cond (Nat.beq (Nat.mod i 2) 0) (e_tset n a (Nat.div i 2) c, d) (a, e_tset n d (Nat.div i 2) c) := rfl
    have hi2 : Nat.div i 2 < 2 ^ n := by
      show i / 2 < 2 ^ n
      rw [Nat.pow_succ] at hi
      omega
    have hj2 : Nat.div j 2 < 2 ^ n := by
      show j / 2 < 2 ^ n
      rw [Nat.pow_succ] at hj
      omega
    have mi : Nat.mod i 2 = i % 2 := rfl
    have mj : Nat.mod j 2 = j % 2 := rfl
    have di : Nat.div i 2 = i / 2 := rfl
    have dj : Nat.div j 2 = j / 2 := rfl
    rw [hs]
    cases ci : Nat.beq (Nat.mod i 2) 0 with
    | true =>
      have ci := e_beq ci
      rw [show cond true (e_tset n a (Nat.div i 2) c, d) (a, e_tset n d (Nat.div i 2) c) = (e_tset n a (Nat.div i 2) c, d) from rfl, hg, show e_tget (n + 1) ((a, d) : e_T (n + 1)) j = _ from hg a d j]
      cases cj : Nat.beq (Nat.mod j 2) 0 with
      | true =>
        have cj := e_beq cj
        show e_tget n (e_tset n a (Nat.div i 2) c) (Nat.div j 2) = if j = i then c else e_tget n a (Nat.div j 2)
        rw [ih _ _ _ _ hi2 hj2]
        by_cases q : j = i
        · rw [if_pos q, if_pos (by rw [q])]
        · rw [if_neg q, if_neg (by omega)]
      | false =>
        have cj := e_bne cj
        show e_tget n d (Nat.div j 2) = if j = i then c else e_tget n d (Nat.div j 2)
        rw [if_neg (by omega)]
    | false =>
      have ci := e_bne ci
      rw [show cond false (e_tset n a (Nat.div i 2) c, d) (a, e_tset n d (Nat.div i 2) c) = (a, e_tset n d (Nat.div i 2) c) from rfl, hg, show e_tget (n + 1) ((a, d) : e_T (n + 1)) j = _ from hg a d j]
      cases cj : Nat.beq (Nat.mod j 2) 0 with
      | true =>
        have cj := e_beq cj
        show e_tget n a (Nat.div j 2) = if j = i then c else e_tget n a (Nat.div j 2)
        rw [if_neg (by omega)]
      | false =>
        have cj := e_bne cj
        show e_tget n (e_tset n d (Nat.div i 2) c) (Nat.div j 2) = if j = i then c else e_tget n d (Nat.div j 2)
        rw [ih _ _ _ _ hi2 hj2]
        by_cases q : j = i
        · rw [if_pos q, if_pos (by rw [q])]
        · rw [if_neg q, if_neg (by omega)]
theorem e_get_c (q : Nat × e_V) (t : List (Nat × e_V)) (k : Nat) (d : e_V) : e_get (q :: t) k d = cond (Nat.beq q.1 k) q.2 (e_get t k d) := rfl
theorem e_set_c (q : Nat × e_V) (t : List (Nat × e_V)) (k : Nat) (v : e_V) : e_set (q :: t) k v = cond (Nat.beq q.1 k) ((k, v) :: t) (q :: e_set t k v) := rfl
theorem e_get_set (l : List (Nat × e_V)) (i j : Nat) (v d : e_V) : e_get (e_set l i v) j d = if j = i then v else e_get l j d := by
  induction l with
  | nil =>
    show cond (Nat.beq i j) v d = if j = i then v else d
    cases q : Nat.beq i j with
    | true => have := e_beq q; rw [if_pos this.symm]; rfl
    | false => have := e_bne q; rw [if_neg (fun z => this z.symm)]; rfl
  | cons u t ih =>
    rw [e_set_c]
    cases q : Nat.beq u.1 i with
    | true =>
      have q := e_beq q
      show e_get ((i, v) :: t) j d = _
      rw [e_get_c, e_get_c]
      cases z : Nat.beq i j with
      | true => have := e_beq z; rw [if_pos this.symm]; rfl
      | false => have hz := e_bne z; rw [if_neg (fun y => hz y.symm), q, z]; rfl
    | false =>
      have q := e_bne q
      show e_get (u :: e_set t i v) j d = _
      rw [e_get_c, e_get_c, ih]
      cases z : Nat.beq u.1 j with
      | true =>
        have hz := e_beq z
        show u.2 = _
        rw [if_neg (by omega)]
        rfl
      | false => rfl
theorem e_eqV_s {a c : e_V} (h : e_eqV a c = true) : a = c := by
  obtain ⟨h1, h2⟩ := e_and h
  exact Prod.ext (e_beq h1) (e_beq h2)
/-- what a cell is -/
def e_ety (k : Nat) : FieldType := match k with
  | 1 => .int
  | 2 => .boolean
  | 3 => .long
  | k => .object (e_cn (k - 4))
def e_CR (rho : Nat → Int32) (ta : Nat → Nat × Nat) (b L : Nat) (ads : List Nat) (tys : List (ClassId × FieldType)) (c : e_C) (e : va_E) : Prop :=
  c.2.1 ≤ 16777216 ∧
  ((c.1 = 0 ∧ c.2.1 < e_nc ∧ ∃ fs, e = .inr (c.2.1, fs) ∧ fs.length = e_nf c.2.1 ∧ ∀ k, k < e_nf c.2.1 → ∃ cv, fs[k]? = some cv ∧ e_VR rho ta b L ads (e_get c.2.2.2 k c.2.2.1) cv) ∨
  ((c.1 = 1 ∨ c.1 = 2) ∧ ∃ (cA : ClassId) (f : Nat → Int32) (t0 : Nat), e = .inl (cA, c.2.1, .inl f) ∧ tys[t0]? = some (cA, e_ety c.1) ∧ ∀ k, k < c.2.1 → e_VR rho ta b L ads (e_get c.2.2.2 k c.2.2.1) (.int (f k))) ∨
  (c.1 = 3 ∧ ∃ (cA : ClassId) (f : Nat → Int64) (t0 : Nat), e = .inl (cA, c.2.1, .inr (.inl f)) ∧ tys[t0]? = some (cA, .long) ∧ ∀ k, k < c.2.1 → e_VR rho ta b L ads (e_get c.2.2.2 k c.2.2.1) (.long (f k))) ∨
  (4 ≤ c.1 ∧ ∃ (cA : ClassId) (f : Nat → Option Nat) (t0 : Nat), e = .inl (cA, c.2.1, .inr (.inr (.inr (.inr f)))) ∧ tys[t0]? = some (cA, .object (e_cn (c.1 - 4))) ∧ ∀ k, k < c.2.1 → e_VR rho ta b L ads (e_get c.2.2.2 k c.2.2.1) (va_rf (f k))))
def e_WR (rho : Nat → Int32) (ta : Nat → Nat × Nat) (b L : Nat) (tys : List (ClassId × FieldType)) (ws : va_W) (w : e_W) : Prop :=
  ws.length = w.1 ∧ w.1 ≤ 512 ∧ ∀ i c, i < w.1 → e_tget 9 w.2 i = some c → ∃ q, ws[i]? = some q ∧ e_CR rho ta b L (ws.map (·.1)) tys c q.2
theorem e_CR.mono {rho : Nat → Int32} {ta : Nat → Nat × Nat} {b L : Nat} {ads ads' : List Nat} {tys tys' : List (ClassId × FieldType)} {c : e_C} {e : va_E} (h : e_CR rho ta b L ads tys c e) (hp : ads <+: ads') (ht : tys <+: tys') : e_CR rho ta b L ads' tys' c e := by
  have tt : ∀ {t0 : Nat} {q}, tys[t0]? = some q → tys'[t0]? = some q := by
    intro t0 q hq
    obtain ⟨r, rfl⟩ := ht
    rw [List.getElem?_append_left (List.getElem?_eq_some_iff.mp hq).1]
    exact hq
  obtain ⟨hl, h⟩ := h
  refine ⟨hl, ?_⟩
  rcases h with ⟨h1, h2, fs, h3, h4, h5⟩ | ⟨h1, cA, f, t0, h3, h4, h5⟩ | ⟨h1, cA, f, t0, h3, h4, h5⟩ | ⟨h1, cA, f, t0, h3, h4, h5⟩
  · refine Or.inl ⟨h1, h2, fs, h3, h4, fun k hk => ?_⟩
    obtain ⟨cv, q1, q2⟩ := h5 k hk
    exact ⟨cv, q1, q2.mono hp⟩
  · exact Or.inr (Or.inl ⟨h1, cA, f, t0, h3, tt h4, fun k hk => (h5 k hk).mono hp⟩)
  · exact Or.inr (Or.inr (Or.inl ⟨h1, cA, f, t0, h3, tt h4, fun k hk => (h5 k hk).mono hp⟩))
  · exact Or.inr (Or.inr (Or.inr ⟨h1, cA, f, t0, h3, tt h4, fun k hk => (h5 k hk).mono hp⟩))

/-- the exceptions' statics, the hot words, the texts: what a state gives besides the good words -/
def e_GS (rho : Nat → Int32) (ta : Nat → Nat × Nat) (b L : Nat) (A : Nat → Prop) (U : State) (H : Heap) : Prop :=
  (∀ w ∈ e_hot, w.before #[] U = true) ∧ vx_Zq Bundle.tN "UNASSIGNED_STACK" Bundle.steD A U H ∧ vx_Zq Bundle.tN "SUPPRESSED_SENTINEL" Bundle.listD A U H ∧ (∀ j q, e_srs[j]? = some q → vk_R q.1 q.2.1 q.2.2 (ta j).1 U ∧ vk_S 1 [(e_tx j).length] [(e_tx j).map e_i] (fun _ => (ta j).1) (fun _ => (ta j).2) A U H) ∧ va_X b L rho U H ∧ b < H.size ∧ ¬ A b ∧ (∀ j k : Nat, j < 4 → k < 4 → j ≠ k → va_Nc (e_ex j) (e_ex k) U) ∧ va_Z "java/lang/String" "COMPACT_STRINGS" "Z" (.int 1) A U H ∧ va_Zq "jdk/internal/util/Preconditions" "SIOOBE_FORMATTER" "Ljava/util/function/BiFunction;" A U H
/-- what holds of a frame of the method I.1 -/
def e_FC (rho : Nat → Int32) (ta : Nat → Nat × Nat) (b L : Nat) (I : e_N) (n0 : Nat) (p : Program) (l : Launch) (R : Room) (s : State) (m : MethodId) (args : Array Value) (meth : Method) (c : Code) : Prop :=
  p.tables.exec = Jvm.exec ∧ c.code = e_byt I.1 ∧ c.maxLocals = (e_bud I.1).2.2 ∧ s.vm.findClass (e_own I.1) = some m.cls ∧ (∀ w ∈ e_gw, w.before args s = true) ∧ meth.locks = false ∧ meth.sig.returnType = e_ret I.1 ∧ (e_ini I.1 = true → meth.name = "<init>") ∧
  c.exceptionTable.toList = tableOf (e_hh I.1) ∧ I.2.1 = e_pg I.1 ∧ I.1 < e_nm ∧ (e_bud I.1).1 ≤ R.cells ∧ (e_bud I.1).2.1 ≤ R.slots ∧ I.2.2.2.2 + 8 ≤ R.frames ∧ 60 * I.2.2.2.2 + 400 ≤ R.locals ∧ I.2.2.1 ≤ (e_bud I.1).1 ∧ I.2.2.2.1 ≤ (e_bud I.1).2.1 ∧ n0 ≤ s.heap.size ∧ l.stackTraces = false ∧ e_GS rho ta b L (fun q => n0 ≤ q) s s.heap
/-- what holds of the heap -/
def e_WH (rho : Nat → Int32) (ta : Nat → Nat × Nat) (b L n0 : Nat) (D : va_G) (s : State) (H : Heap) (locs : List Loc) (ws : va_W) (tys : List (ClassId × FieldType)) (w : e_W) : Prop :=
  va_K D e_cl tys s ∧ va_P D e_cl ws H ∧ va_D (fun q => n0 ≤ q) ws ∧ va_S (fun q => n0 ≤ q) s.heap H locs ∧ e_WR rho ta b L tys ws w
def e_ads (ws : va_W) : List Nat := ws.map (·.1)
def e_OR (rho : Nat → Int32) (ta : Nat → Nat × Nat) (b L : Nat) (ads : List Nat) (rv : List e_V) (ov : Option Value) : Prop := (rv = [] ∧ ov = none) ∨ ∃ v cv, rv = [v] ∧ ov = some cv ∧ e_VR rho ta b L ads v cv
/-- what a method says of its end: the rest of the run, from its caller on, ends well -/
def e_Qc (rho : Nat → Int32) (ta : Nat → Nat × Nat) (b L n0 : Nat) (D : va_G) (N : Nat) (fs : List e_F) (ads0 : List Nat) : Array Value → State → Outcome → State → Prop := fun _ st o t =>
  ∃ (n' : Nat) (rv : List e_V) (w' : e_W) (iv' : e_I) (ws' : va_W) (tys' : List (ClassId × FieldType)) (ov : Option Value), n' ≤ N ∧ e_res (e_acc n') rv fs w' iv' = true ∧ e_IV rho iv' ∧ o = .returned ov ∧ e_OR rho ta b L (e_ads ws') rv ov ∧
    va_K D e_cl tys' t ∧ va_P D e_cl ws' t.heap ∧ va_D (fun q => n0 ≤ q) ws' ∧ e_WR rho ta b L tys' ws' w' ∧ ads0 <+: e_ads ws' ∧ va_F (fun q => n0 ≤ q) st t
def e_XC (rho : Nat → Int32) (ta : Nat → Nat × Nat) (b L n0 : Nat) (D : va_G) (N : Nat) (fs : List e_F) (ads0 : List Nat) : String → State → State → Prop := fun E st t =>
  ∃ (n' k : Nat) (w' : e_W) (iv' : e_I) (ws' : va_W) (tys' : List (ClassId × FieldType)), n' ≤ N ∧ E = e_ex k ∧ k < 4 ∧ e_unw (e_acc n') k fs w' iv' = true ∧ e_IV rho iv' ∧
    va_K D e_cl tys' t ∧ va_P D e_cl ws' t.heap ∧ va_D (fun q => n0 ≤ q) ws' ∧ e_WR rho ta b L tys' ws' w' ∧ ads0 <+: e_ads ws' ∧ va_F (fun q => n0 ≤ q) st t
/-- the goal of a configuration, in any frame that it describes -/
def e_GG (rho : Nat → Int32) (ta : Nat → Nat × Nat) (b L n0 : Nat) (D : va_G) (l : Launch) (n : Nat) (I : e_N) (cod : List e_E) (loc stk : List e_V) (fs : List e_F) (w : e_W) (iv : e_I) : Prop :=
  ∀ (N : Nat) (p : Program) (e : Env) (R : Room) (s : State) (m : MethodId) (args : Array Value) (below : List Frame) (meth : Method) (c : Code) (H : Heap) (locs : List Loc) (ws : va_W) (tys : List (ClassId × FieldType)) (cst : List Value) (ls : Array Slot) (ads0 : List Nat),
    n ≤ N → e_FC rho ta b L I n0 p l R s m args meth c → e_WH rho ta b L n0 D s H locs ws tys w → e_SR rho ta b L (e_ads ws) stk cst → e_LR rho ta b L (e_ads ws) (e_bud I.1).2.2 ls loc → e_IV rho iv → (∃ k, cod = (e_pg I.1).drop k) → ads0 <+: e_ads ws →
    W p l e R s m args below meth c H locs I.2.2.1 I.2.2.2.1 (vx_MQ below (e_Qc rho ta b L n0 D N fs ads0) (e_XC rho ta b L n0 D N fs ads0) args s (e_bud I.1).1 (e_bud I.1).2.1 (fun q => n0 ≤ q)) (F0 m (e_hpc cod) ls cst)
def e_P (rho : Nat → Int32) (ta : Nat → Nat × Nat) (b L n0 : Nat) (D : va_G) (l : Launch) (n : Nat) : Prop :=
  ∀ (I : e_N) (cod : List e_E) (loc stk : List e_V) (fs : List e_F) (w : e_W) (iv : e_I), e_acc n I cod loc stk fs w iv = true → e_GG rho ta b L n0 D l n I cod loc stk fs w iv

/-- what a program decides of the classes -/
def e_CO : Prop := ∀ ci, ci < e_nc → (∀ w ∈ u_ws (e_cn ci) (e_FT ci) (e_nf ci), w ∈ e_gw) ∧ (∀ k, k < e_nf ci → parseFieldDescriptor (e_FT ci k).2.2.1 = some (e_ty ci k)) ∧ (∀ a, a < e_nf ci → ∀ b, b < e_nf ci → a ≠ b → (e_FT ci a).2.1 ≠ (e_FT ci b).2.1) ∧
  Cond.instantiable (e_cn ci) (e_nf ci) ∈ e_gw ∧ Cond.initialized (e_cn ci) ∈ e_gw ∧ (∀ k, k < e_nf ci → e_get (e_fl ci) k (99, 0) = (match e_ty ci k with | .int => (0, 0) | .boolean => (0, 0) | .long => (1, 0) | _ => (3, 0)) ∧ (match e_ty ci k with | .int => true | .boolean => true | .long => true | .object _ => true | .array _ => true | _ => false) = true)
theorem e_GS.use {rho : Nat → Int32} {ta : Nat → Nat × Nat} {b L : Nat} {A : Nat → Prop} {U : State} {H : Heap} (h : e_GS rho ta b L A U H) {w : Cond} (hw : w ∈ e_hot) (args : Array Value) : w.before args U = true := by
  have g := h.1 w hw
  have hh := (List.mem_filter.mp hw).2
  unfold e_isHot at hh
  split at hh
  · exact va_tabs rfl rfl g
  · exact va_tabs rfl rfl g
  · exact va_tabs rfl rfl g
  · exact va_tabs rfl rfl g
  · exact va_AO.use g
  · cases hh
theorem e_GS.moved {rho : Nat → Int32} {ta : Nat → Nat × Nat} {b L : Nat} {A : Nat → Prop} {s U : State} {H H1 : Heap} (hW : s.WarmedH U.vm) (hq : ∀ a : Nat, a < H.size → ¬ A a → H1[a]? = H[a]?) (h : e_GS rho ta b L A s H) : e_GS rho ta b L A U H1 := by
  obtain ⟨h1, h2, h3, h4, h5, h6, h7, h8, h9, h10⟩ := h
  have hb := hq b h6 h7
  refine ⟨fun w hw => ?_, (h2.moved hW.alike).kept hq, (h3.moved hW.alike).kept hq, fun j q hj => ⟨(h4 j q hj).1.warm hW, ((h4 j q hj).2.moved hW.alike).kept hq⟩, (h5.moved hW.alike).kept hb, ?_, h7, fun j k a1 a2 a3 => (h8 j k a1 a2 a3).moved hW.alike, (h9.moved hW.alike).kept hq, (h10.moved hW.alike).kept hq⟩
  · have g := h1 w hw
    have hh := (List.mem_filter.mp hw).2
    unfold e_isHot at hh
    split at hh
    · exact va_Nw.warmF hW g
    · exact va_Nw.warmM hW g
    · exact va_Nw.warmC hW g
    · exact va_Nw.warmD hW g
    · exact va_AO.moved hW.alike g
    · cases hh
  · obtain ⟨scr, g, -⟩ := h5
    rw [← hb] at g
    exact (Array.getElem?_eq_some_iff.mp g).1

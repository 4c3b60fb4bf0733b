/-! CALLS. -/
section
variable {rho : Nat → Int32} {ta : Nat → Nat × Nat} {b L n0 : Nat} {D : va_G} {l : Launch} {n : Nat} {e : e_E} {tl : List e_E} {I : e_N} {loc stk : List e_V} {fs : List e_F} {w : e_W} {iv : e_I} {tys : List (ClassId × FieldType)} {ws : va_W}
theorem e_take_s {ads : List Nat} : ∀ (k : Nat) (stk acc : List e_V) (cst Aacc : List Value), e_SR rho ta b L ads stk cst → e_SR rho ta b L ads acc Aacc → k ≤ stk.length → ∃ As rest : List Value, As.length = k ∧ cst = As.reverse ++ rest ∧ e_SR rho ta b L ads (e_take k acc stk) (As ++ Aacc) ∧ e_SR rho ta b L ads (e_pops k stk) rest
  | 0, stk, acc, cst, Aacc, h, ha, _ => ⟨[], cst, rfl, rfl, ha, h⟩
  | k + 1, [], acc, cst, Aacc, h, ha, hk => by simp at hk
  | k + 1, v :: st, acc, cst, Aacc, h, ha, hk => by
    obtain ⟨cv, cst', rfl, hv, hS⟩ := h
    obtain ⟨As, rest, h1, rfl, h3, h4⟩ := e_take_s k st (v :: acc) cst' (cv :: Aacc) hS ⟨cv, Aacc, rfl, hv, ha⟩ (by simp at hk; omega)
    refine ⟨As ++ [cv], rest, by simp [h1], by simp, ?_, h4⟩
    rw [List.append_assoc]
    exact h3
theorem e_entry_n : ∀ (n i : Nat), e_nth (e_entry n []) i = (99, 0)
  | 0, i => rfl
  | n + 1, 0 => rfl
  | n + 1, i + 1 => e_entry_n n i
theorem e_entry_s {ads : List Nat} : ∀ (n : Nat) (vs : List e_V) (As : List Value) (j i : Nat), e_SR rho ta b L ads vs As → (e_nth (e_entry n vs) i).1 ≠ 99 → ∃ cv, (j + i, cv) ∈ lv_args j As ∧ e_VR rho ta b L ads (e_nth (e_entry n vs) i) cv
  | 0, vs, As, j, i, h, hi => by exact absurd rfl hi
  | n + 1, [], As, j, i, h, hi => by rw [e_entry_n] at hi; exact absurd rfl hi
  | n + 1, v :: t, As, j, i, h, hi => by
    obtain ⟨cv, As', rfl, hv, hS⟩ := h
    have e1 : e_entry (n + 1) (v :: t) = v :: e_entry n (cond (e_cat2 v.1) ((99, 0) :: t) t) := rfl
    have e2 : lv_args j (cv :: As') = (j, cv) :: lv_args (if cv.category = 2 then j + 2 else j + 1) As' := rfl
    rw [e1] at hi ⊢
    rw [e2]
    cases i with
    | zero => exact ⟨cv, List.mem_cons_self, hv⟩
    | succ i =>
      rw [e_nth_s] at hi ⊢
      cases q : e_cat2 v.1 with
      | false =>
        rw [q] at hi
        have hc : ¬ cv.category = 2 := fun z => by rw [hv.cat.mp z] at q; cases q
        obtain ⟨cw, w1, w2⟩ := e_entry_s n t As' (j + 1) i hS hi
        rw [if_neg hc]
        exact ⟨cw, List.mem_cons_of_mem _ (by rw [show j + (i + 1) = j + 1 + i by omega]; exact w1), w2⟩
      | true =>
        rw [q] at hi
        have hi : (e_nth (e_entry n ((99, 0) :: t)) i).1 ≠ 99 := hi
        show ∃ cw, _ ∧ e_VR rho ta b L ads (e_nth (e_entry n ((99, 0) :: t)) i) cw
        have hc : cv.category = 2 := hv.cat.mpr q
        cases n with
        | zero => exact absurd rfl hi
        | succ n =>
          have e3 : e_entry (n + 1) ((99, 0) :: t) = (99, 0) :: e_entry n t := rfl
          rw [e3] at hi ⊢
          cases i with
          | zero => exact absurd rfl hi
          | succ i =>
            rw [e_nth_s] at hi ⊢
            obtain ⟨cw, w1, w2⟩ := e_entry_s n t As' (j + 2) i hS hi
            rw [if_pos hc]
            exact ⟨cw, List.mem_cons_of_mem _ (by rw [show j + (i + 1 + 1) = j + 2 + i by omega]; exact w1), w2⟩
theorem e_sl_len {ads : List Nat} {vs : List e_V} {As : List Value} (h : e_SR rho ta b L ads vs As) : (lg_sl As).length = e_cs vs := by
  induction vs generalizing As with
  | nil => cases h; rfl
  | cons v st ih =>
    obtain ⟨cv, As', rfl, hv, hS⟩ := h
    have e1 : e_cs (v :: st) = e_cs st + cond (e_cat2 v.1) 2 1 := rfl
    have e2 : lg_sl (cv :: As') = (if cv.category = 2 then [.val cv, .second] else [.val cv]) ++ lg_sl As' := by simp [lg_sl]
    rw [e1, e2, List.length_append, ih hS]
    cases q : e_cat2 v.1 with
    | true => rw [if_pos (hv.cat.mpr q)]; show 2 + _ = _ + 2; omega
    | false => rw [if_neg (fun z => by rw [hv.cat.mp z] at q; cases q)]; show 1 + _ = _ + 1; omega
/-- the words of a method -/
def e_cw (j : Nat) : Cond := match e_hh j with
  | [] => .code (e_mth j) (e_byt j) (e_bud j).2.2 (e_ret j)
  | q :: hs => .codeWith (e_mth j) (e_byt j) (e_bud j).2.2 (e_ret j) (q :: hs)
def e_wd (j : Nat) : List Cond := e_cw j :: e_gw
def e_rmm (j d : Nat) : Room := { frames := d + 8, cells := (e_bud j).1, slots := (e_bud j).2.1, locals := 60 * d + 400 }
def e_Pc (rho : Nat → Int32) (ta : Nat → Nat × Nat) (b L n0 : Nat) (D : va_G) (tys : List (ClassId × FieldType)) (ws : va_W) (av : Array Value) : Array Value → State → Prop := fun v U => v = av ∧ va_K D e_cl tys U ∧ va_P D e_cl ws U.heap ∧ n0 ≤ U.heap.size ∧ e_GS rho ta b L (fun q => n0 ≤ q) U U.heap
theorem e_Pc_blind {av : Array Value} : FrameBlind (e_Pc rho ta b L n0 D tys ws av) := by
  intro a U g mk h
  obtain ⟨h1, h2, h3, h4, h5⟩ := h
  exact ⟨h1, va_K.moved (u := U) (U := U.calling g mk a) (Vm.Alike.refl U.vm) h2, h3, h4, h5.moved (U := U.calling g mk a) (State.WarmedH.refl U) (fun _ _ _ => rfl)⟩
/-- what is decided of each method -/
noncomputable def v_meth (j : Nat) : Bool := decide (j < e_nm) && (plainName (e_mth j).cls && (decide (e_own j = (e_mth j).cls) && ((!(e_ini j) || decide ((e_mth j).name = "<init>")) && (Nat.beq (e_hpc (e_pg j)) 0 && (Nat.ble (e_bud j).2.2 41 &&
  (decide ((e_mth j).cls ≠ "java/lang/invoke/MethodHandle" ∧ (e_mth j).cls ≠ "java/lang/invoke/VarHandle")))))))
theorem v_meth_s {j : Nat} (h : v_meth j = true) : j < e_nm ∧ plainName (e_mth j).cls = true ∧ e_own j = (e_mth j).cls ∧ (e_ini j = true → (e_mth j).name = "<init>") ∧ e_hpc (e_pg j) = 0 ∧ (e_bud j).2.2 ≤ 41 ∧ (e_mth j).cls ≠ "java/lang/invoke/MethodHandle" ∧ (e_mth j).cls ≠ "java/lang/invoke/VarHandle" := by
  obtain ⟨h1, h⟩ := e_and2 h
  obtain ⟨h2, h⟩ := e_and2 h
  obtain ⟨h3, h⟩ := e_and2 h
  obtain ⟨h4, h⟩ := e_and2 h
  obtain ⟨h5, h⟩ := e_and2 h
  obtain ⟨h6, h⟩ := e_and2 h
  obtain ⟨h7, h8⟩ := of_decide_eq_true h
  refine ⟨of_decide_eq_true h1, h2, of_decide_eq_true h3, fun q => ?_, e_beq h5, e_ble h6, h7, h8⟩
  rcases e_or2 h4 with z | z
  · rw [q] at z; cases z
  · exact of_decide_eq_true z
theorem e_met (hl : l.stackTraces = false) (IH : e_P rho ta b L n0 D l n) {j d : Nat} {vs : List e_V} {As : List Value} (hv : v_meth j = true) (h : e_acc n (j, e_pg j, 0, 0, d) (e_pg j) (e_entry (e_bud j).2.2 vs) [] fs w iv = true)
    (hI : e_IV rho iv) (hS : e_SR rho ta b L (e_ads ws) vs As) (hlen : e_cs vs ≤ (e_bud j).2.2) (hD : va_D (fun q => n0 ≤ q) ws) (hWR : e_WR rho ta b L tys ws w) :
    vx_Met l (e_mth j) (e_wd j) (e_rmm j d) (e_Pc rho ta b L n0 D tys ws As.toArray) (e_Qc rho ta b L n0 D n fs (e_ads ws)) (e_XC rho ta b L n0 D n fs (e_ads ws)) (e_bud j).1 (e_bud j).2.1 (fun q => n0 ≤ q) := by
  obtain ⟨v1, v2, v3, v4, v5, v6, v7, v8⟩ := v_meth_s hv
  have body : ∀ p e s m args below meth c s₁, BodyLoose p l (e_mth j) (headSpec (e_wd j) (e_rmm j d)) (e_byt j) (e_bud j).2.2 (e_ret j) e s m args below meth c s₁ → c.maxLocals = (e_bud j).2.2 → c.exceptionTable.toList = tableOf (e_hh j) → e_Pc rho ta b L n0 D tys ws As.toArray args s →
      W p l e (headSpec (e_wd j) (e_rmm j d)).room s m args below meth c s.heap [] 0 0 (vx_MQ below (e_Qc rho ta b L n0 D n fs (e_ads ws)) (e_XC rho ta b L n0 D n fs (e_ads ws)) args s (e_bud j).1 (e_bud j).2.1 (fun q => n0 ≤ q)) (entryFrame m args (e_bud j).2.2) := by
    intro p e s m args below meth c s₁ B hml htab hP
    obtain ⟨rfl, hK, hP, hn0, hG⟩ := hP
    have hts := atoms_spec (ws := e_wd j) B.pre
    rw [lg_entry_eq]
    have hle := lv_entry As (n := (e_bud j).2.2) (by rw [e_sl_len hS]; exact hlen)
    refine IH (j, e_pg j, 0, 0, d) (e_pg j) _ [] fs w iv h n p e (headSpec (e_wd j) (e_rmm j d)).room s m As.toArray below meth c s.heap [] ws tys [] _ (e_ads ws) (Nat.le_refl _) ?_ ⟨hK, hP, hD, va_S.rf, hWR⟩ rfl ⟨_, hle, fun i hi => ?_⟩ hI ⟨0, rfl⟩ (List.prefix_refl _) |> fun k => (by rw [v5] at k; exact k)
    · exact ⟨B.exec, B.bytes, hml, by rw [v3]; exact findClass_of_methodNamed B.named, fun w hw => hts w (List.mem_cons_of_mem _ hw), B.notSynchronized, B.returns, fun q => by rw [(name_of_methodNamed B.named B.method).1]; exact v4 q, htab, rfl, v1, Nat.le_refl _, Nat.le_refl _, Nat.le_refl _, Nat.le_refl _, Nat.zero_le _, Nat.zero_le _, hn0, hl, hG⟩
    · obtain ⟨cv, w1, w2⟩ := e_entry_s _ vs As 0 i hS hi
      rw [Nat.zero_add] at w1
      exact ⟨cv, w1, w2⟩
  cases hh : e_hh j with
  | nil =>
    refine vx_ofW (cc := e_byt j) (maxL := (e_bud j).2.2) (ret := e_ret j) (ws' := e_gw) v2 (by unfold e_wd e_cw; rw [hh]) (fun p e s m args below meth c s₁ B hml ht hP => body p e s m args below meth c s₁ B hml ?_ hP)
    rw [hh]
    cases q : c.exceptionTable.toList with
    | nil => rfl
    | cons x _ => exact (ht x (by rw [q]; exact List.mem_cons_self)).elim
  | cons q hs =>
    refine vx_ofWH (cc := e_byt j) (maxL := (e_bud j).2.2) (ret := e_ret j) (hh := q :: hs) (ws' := e_gw) v2 (by unfold e_wd e_cw; rw [hh]) (fun p e s m args below meth c s₁ B hml hP => body p e s m args below meth c s₁ B hml ?_ hP)
    rw [hh]
    exact vx_table (x := e_mth j) B (atoms_spec (ws := e_wd j) B.pre _ (by unfold e_wd e_cw; rw [hh]; exact List.mem_cons_self))
end

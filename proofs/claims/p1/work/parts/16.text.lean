/-! TEXTS and statics. -/
section
variable {rho : Nat → Int32} {ta : Nat → Nat × Nat} {b L n0 : Nat} {D : va_G} {l : Launch} {n : Nat} {e : e_E} {tl : List e_E} {I : e_N} {loc stk : List e_V} {fs : List e_F} {w : e_W} {iv : e_I}
def v_str (d : e_D) (own : String) (t j pc nx : Nat) : Bool := (match e_srs[j]? with
  | some q => (match d with
    | .ok (.ldc k, 2) => decide (q.1 = own ∧ q.2.1 = k) && Nat.beq nx (pc + 2)
    | .ok (.ldc_w k, 3) => decide (q.1 = own ∧ q.2.1 = k) && Nat.beq nx (pc + 3)
    | _ => false)
  | none => false) && Nat.beq t 8
theorem e_ldcwS {p : Program} {e : Env} {R : Room} {s : State} {m : MethodId} {args : Array Value} {below : List Frame} {meth : Method} {c : Code} {H : Heap} {locs : List Loc} {cells slots : Nat} {Q : State → Prop} {cc : ByteArray} {pc : Nat} {ls : Array Slot} {rest : List Value} (hexec : p.tables.exec = Jvm.exec) (hb : c.code = cc) {own tx : String} {index q : Nat} (hown : s.vm.findClass own = some m.cls) (hZ : vk_R own index tx q s) (hdg : decode cc pc = .ok (.ldc_w index, 3))
    (k : W p l e R s m args below meth c H locs cells slots Q (F0 m (pc + 3) ls (.ref q :: rest))) : W p l e R s m args below meth c H locs cells slots Q (F0 m pc ls rest) := by
  intro T hT X
  obtain ⟨t, a1, b1⟩ := k T hT X
  exact ⟨t, X.ldcStringW hexec hown (text := tx) (a := q) hZ.1 hZ.2 (g := F0 m pc ls rest) rfl (by rw [hb]; exact hdg) t a1, b1⟩
theorem s_str (IH : e_P rho ta b L n0 D l n) (hv : v_str (decode (e_byt I.1) e.1) (e_own I.1) e.2.2.1 e.2.2.2.1 e.1 (e_hpc tl) = true) (h : h_const (e_acc n) e tl I loc stk fs w iv = true) : e_GG rho ta b L n0 D l (n + 1) I (e :: tl) loc stk fs w iv := by
  intro N p e' R s m args below meth c H locs ws tys cst ls ads0 hN hF hW hS hL hI hK hA
  have h : e_acc n I tl loc ((e.2.2.1, e.2.2.2.1) :: stk) fs w iv = true := h
  obtain ⟨k1, k2, k3, k4, k5, k6, k7⟩ := hF.rooms
  have hown := hF.2.2.2.1
  obtain ⟨hv, h8⟩ := e_and2 hv
  have h8 := e_beq h8
  show W p l e' R s m args below meth c H locs I.2.2.1 I.2.2.2.1 _ (F0 m e.1 ls cst)
  unfold v_str at *
  split at hv
  · rename_i q hq
    have hR := (k7.2.2.2.1 _ q hq).1
    have hlt : e.2.2.2.1 < e_srs.length := (List.getElem?_eq_some_iff.mp hq).1
    split at hv
    · rename_i idx q2
      obtain ⟨z1, z2⟩ := e_and2 hv
      obtain ⟨y1, y2⟩ := of_decide_eq_true z1
      rw [y1, y2] at hR
      exact va_ldcS hF.1 hF.2.1 hown hR q2 (e_k IH h (by omega) hF hW ⟨_, _, rfl, by rw [h8]; exact ⟨rfl, hlt⟩, hS⟩ hL hI (e_suf hK) hA (e_beq z2))
    · rename_i idx q2
      obtain ⟨z1, z2⟩ := e_and2 hv
      obtain ⟨y1, y2⟩ := of_decide_eq_true z1
      rw [y1, y2] at hR
      exact e_ldcwS hF.1 hF.2.1 hown hR q2 (e_k IH h (by omega) hF hW ⟨_, _, rfl, by rw [h8]; exact ⟨rfl, hlt⟩, hS⟩ hL hI (e_suf hK) hA (e_beq z2))
    · cases hv
  · cases hv
def v_gets (d : e_D) (own : String) (t v h pc nx : Nat) : Bool := match t, d with
  | 0, .ok (.getstatic i, 3) => (Nat.beq v 1 && e_has h (.fieldLink own i "java/lang/String" "COMPACT_STRINGS" "Z")) && Nat.beq nx (pc + 3)
  | 5, .ok (.getstatic i, 3) => e_has h (.fieldLink own i "jdk/internal/util/Preconditions" "SIOOBE_FORMATTER" "Ljava/util/function/BiFunction;") && Nat.beq nx (pc + 3)
  | _, _ => false
theorem s_gets (IH : e_P rho ta b L n0 D l n) {hh : Nat} (hv : v_gets (decode (e_byt I.1) e.1) (e_own I.1) e.2.2.1 e.2.2.2.1 hh e.1 (e_hpc tl) = true) (h : h_const (e_acc n) e tl I loc stk fs w iv = true) : e_GG rho ta b L n0 D l (n + 1) I (e :: tl) loc stk fs w iv := by
  intro N p e' R s m args below meth c H locs ws tys cst ls ads0 hN hF hW hS hL hI hK hA
  have h : e_acc n I tl loc ((e.2.2.1, e.2.2.2.1) :: stk) fs w iv = true := h
  obtain ⟨k1, k2, k3, k4, k5, k6, k7⟩ := hF.rooms
  have hown := hF.2.2.2.1
  have hts := hF.2.2.2.2.1
  obtain ⟨hZ, hZq⟩ := k7.2.2.2.2.2.2.2.2
  have hSS := hW.2.2.2.1
  show W p l e' R s m args below meth c H locs I.2.2.1 I.2.2.2.1 _ (F0 m e.1 ls cst)
  unfold v_gets at hv
  split at hv
  · rename_i idx q1 q2
    obtain ⟨z1, z2⟩ := e_and2 hv
    obtain ⟨z1, z3⟩ := e_and2 z1
    have z1 := e_beq z1
    exact va_gets hF.1 hF.2.1 hZ hSS hown (hts _ (e_has_s z3)) (fun _ h9 => h9) q2 (e_k IH h (by omega) hF hW ⟨_, _, rfl, by rw [q1, z1]; exact rfl, hS⟩ hL hI (e_suf hK) hA (e_beq z2))
  · rename_i idx q1 q2
    obtain ⟨z1, z2⟩ := e_and2 hv
    rcases hZq with hZq | ⟨t, hZq⟩
    · exact va_gets hF.1 hF.2.1 hZq hSS hown (hts _ (e_has_s z1)) (fun _ h9 => h9) q2 (e_k IH h (by omega) hF hW ⟨_, _, rfl, by rw [q1]; exact Or.inl rfl, hS⟩ hL hI (e_suf hK) hA (e_beq z2))
    · exact va_gets hF.1 hF.2.1 hZq hSS hown (hts _ (e_has_s z1)) (fun _ h9 => h9) q2 (e_k IH h (by omega) hF hW ⟨_, _, rfl, by rw [q1]; exact Or.inr ⟨t, rfl⟩, hS⟩ hL hI (e_suf hK) hA (e_beq z2))
  · cases hv
def v_tget (d : e_D) (own : String) (a h pc nx : Nat) : Bool := match a, d with
  | 0, .ok (.getfield i, 3) => e_has h (.fieldLink own i "java/lang/String" "value" "[B") && Nat.beq nx (pc + 3)
  | 1, .ok (.getfield i, 3) => e_has h (.fieldLink own i "java/lang/String" "coder" "B") && Nat.beq nx (pc + 3)
  | _, _ => false
theorem s_tget (IH : e_P rho ta b L n0 D l n) {hh : Nat} (hv : v_tget (decode (e_byt I.1) e.1) (e_own I.1) e.2.2.1 hh e.1 (e_hpc tl) = true) (h : h_tget (e_acc n) e tl I loc stk fs w iv = true) : e_GG rho ta b L n0 D l (n + 1) I (e :: tl) loc stk fs w iv := by
  intro N p e' R s m args below meth c H locs ws tys cst ls ads0 hN hF hW hS hL hI hK hA
  obtain ⟨v, st, rfl, h⟩ := e_q1_s (show e_q1 stk (fun v st => cond (Nat.beq v.1 8) (e_acc n I tl loc (cond (Nat.beq e.2.2.1 0) (9, v.2) (0, 0) :: st) fs w iv) false) = true from h)
  obtain ⟨q, h⟩ := e_and h
  obtain ⟨cv, cst', rfl, hvr, hS'⟩ := id hS
  unfold e_VR at hvr
  rw [e_beq q] at hvr
  obtain ⟨rfl, hlt⟩ := hvr
  obtain ⟨k1, k2, k3, k4, k5, k6, k7⟩ := hF.rooms
  have hown := hF.2.2.2.1
  have hts := hF.2.2.2.2.1
  obtain ⟨t1, t2, t3, t4⟩ := (k7.2.2.2.1 v.2 _ (List.getElem?_eq_getElem hlt)).2.1 0 Nat.zero_lt_one
  have hSS := hW.2.2.2.1
  show W p l e' R s m args below meth c H locs I.2.2.1 I.2.2.2.1 _ (F0 m e.1 ls (.ref (ta v.2).1 :: cst'))
  unfold v_tget at hv
  split at hv
  · rename_i idx q1 q2
    obtain ⟨z1, z2⟩ := e_and2 hv
    rw [q1] at h
    exact vk_getf hF.1 hF.2.1 t3 hSS hown (hts _ (e_has_s z1)) (fun _ h9 => h9) q2 (e_k IH h (by omega) hF hW ⟨_, _, rfl, ⟨rfl, hlt⟩, hS'⟩ hL hI (e_suf hK) hA (e_beq z2))
  · rename_i idx q1 q2
    obtain ⟨z1, z2⟩ := e_and2 hv
    rw [q1] at h
    exact vk_getf hF.1 hF.2.1 t2 hSS hown (hts _ (e_has_s z1)) (fun _ h9 => h9) q2 (e_k IH h (by omega) hF hW ⟨_, _, rfl, rfl, hS'⟩ hL hI (e_suf hK) hA (e_beq z2))
  · cases hv
theorem s_tlen (IH : e_P rho ta b L n0 D l n) (hv : v_plain (decode (e_byt I.1) e.1) .arraylength e.1 (e_hpc tl) = true) (h : h_tlen (e_acc n) e tl I loc stk fs w iv = true) : e_GG rho ta b L n0 D l (n + 1) I (e :: tl) loc stk fs w iv := by
  intro N p e' R s m args below meth c H locs ws tys cst ls ads0 hN hF hW hS hL hI hK hA
  obtain ⟨v, st, rfl, h⟩ := e_q1_s (show e_q1 stk (fun v st => cond (Nat.beq v.1 9) (e_acc n I tl loc ((0, (e_tx v.2).length) :: st) fs w iv) false) = true from h)
  obtain ⟨q, h⟩ := e_and h
  obtain ⟨cv, cst', rfl, hvr, hS'⟩ := id hS
  obtain ⟨z1, z2⟩ := v_plain_s hv
  unfold e_VR at hvr
  rw [e_beq q] at hvr
  obtain ⟨rfl, hlt⟩ := hvr
  obtain ⟨k1, k2, k3, k4, k5, k6, k7⟩ := hF.rooms
  obtain ⟨t1, t2, t3, t4⟩ := (k7.2.2.2.1 v.2 _ (List.getElem?_eq_getElem hlt)).2.1 0 Nat.zero_lt_one
  exact va_tlen hF.1 hF.2.1 t4 hW.2.2.2.1 rfl z1 (e_k IH h (by omega) hF hW ⟨_, _, rfl, rfl, hS'⟩ hL hI (e_suf hK) hA z2)
theorem e_ov_s (l : List Nat) (k : Nat) (h : k < l.length) : (l.map e_i).getD k 0 = e_i (e_ov l k) := by
  induction l generalizing k with
  | nil => simp at h
  | cons a t ih =>
    cases k with
    | zero => rfl
    | succ k => exact ih k (by simpa using h)
theorem s_tald (hTx : ∀ j, (e_tx j).length ≤ 1000) (IH : e_P rho ta b L n0 D l n) (hv : v_plain (decode (e_byt I.1) e.1) .baload e.1 (e_hpc tl) = true) (h : h_tald (e_acc n) e tl I loc stk fs w iv = true) : e_GG rho ta b L n0 D l (n + 1) I (e :: tl) loc stk fs w iv := by
  intro N p e' R s m args below meth c H locs ws tys cst ls ads0 hN hF hW hS hL hI hK hA
  obtain ⟨v, u, st, rfl, h⟩ := e_q2_s (show e_q2 stk (fun v u st => e_con iv v (fun n' => cond (Nat.beq u.1 9) (cond (Nat.ble (Nat.succ n') (e_tx u.2).length) (e_acc n I tl loc ((0, e_ov (e_tx u.2) n') :: st) fs w iv) false) false) (e_sp (e_acc n) (e :: tl) I loc stk fs w iv)) = true from h)
  obtain ⟨cv, _, rfl, hvr, cu, cst', rfl, hur, hS'⟩ := id hS
  obtain ⟨z1, z2⟩ := v_plain_s hv
  rcases (e_con_s hI hvr h).symm with h | ⟨k, rfl, h⟩
  · exact e_again IH (fun _ _ => h) N p e' R s m args below meth c H locs ws tys _ ls ads0 hN hF hW hS hL hI hK hA
  obtain ⟨q, h⟩ := e_and h
  obtain ⟨y, h⟩ := e_and h
  have y := e_ble y
  unfold e_VR at hur
  rw [e_beq q] at hur
  obtain ⟨rfl, hlt⟩ := hur
  obtain ⟨k1, k2, k3, k4, k5, k6, k7⟩ := hF.rooms
  obtain ⟨t1, t2, t3, t4⟩ := (k7.2.2.2.1 u.2 _ (List.getElem?_eq_getElem hlt)).2.1 0 Nat.zero_lt_one
  have hle := hTx u.2
  have hkc : (e_i k).toNatClampNeg = k := nI_clamp (by omega)
  exact va_tb (v := .int (e_i (e_ov (e_tx u.2) k))) hF.1 hF.2.1 t4 hW.2.2.2.1 (nI_in (show k < (e_tx u.2).length by omega) (show (e_tx u.2).length < 2 ^ 31 by omega)) (by rw [hkc]; show Value.int (((e_tx u.2).map e_i).getD k 0) = _; rw [e_ov_s _ _ (by omega)]) z1 (e_k IH h (by omega) hF hW ⟨_, _, rfl, rfl, hS'⟩ hL hI (e_suf hK) hA z2)
end

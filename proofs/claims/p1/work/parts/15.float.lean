/-! FLOATS. -/
section
variable {rho : Nat → Int32} {ta : Nat → Nat × Nat} {b L n0 : Nat} {D : va_G} {l : Launch} {n : Nat} {e : e_E} {tl : List e_E} {I : e_N} {loc stk : List e_V} {fs : List e_F} {w : e_W} {iv : e_I}
theorem s_i2f (IH : e_P rho ta b L n0 D l n) (hv : v_plain (decode (e_byt I.1) e.1) .i2f e.1 (e_hpc tl) = true) (h : h_i2f (e_acc n) e tl I loc stk fs w iv = true) : e_GG rho ta b L n0 D l (n + 1) I (e :: tl) loc stk fs w iv := by
  intro N p e' R s m args below meth c H locs ws tys cst ls ads0 hN hF hW hS hL hI hK hA
  obtain ⟨v, st, rfl, h⟩ := e_q1_s (show e_q1 stk (fun v st => cond (Nat.beq v.1 0) (e_acc n I tl loc ((6, (FP.i2f (e_i v.2)).toNat) :: st) fs w iv) false) = true from h)
  obtain ⟨q, h⟩ := e_and h
  obtain ⟨cv, cst', rfl, hvr, hS'⟩ := id hS
  obtain ⟨z1, z2⟩ := v_plain_s hv
  unfold e_VR at hvr
  rw [e_beq q] at hvr
  have hvr : cv = .int (e_i v.2) := hvr
  subst hvr
  exact lv_i2f hF.1 hF.2.1 z1 (e_k IH h (by omega) hF hW ⟨_, _, rfl, by show Value.float _ = .float (UInt32.ofNat _); rw [UInt32.ofNat_toNat], hS'⟩ hL hI (e_suf hK) hA z2)
theorem s_fdiv (IH : e_P rho ta b L n0 D l n) (hv : v_plain (decode (e_byt I.1) e.1) .fdiv e.1 (e_hpc tl) = true) (h : h_fdiv (e_acc n) e tl I loc stk fs w iv = true) : e_GG rho ta b L n0 D l (n + 1) I (e :: tl) loc stk fs w iv := by
  intro N p e' R s m args below meth c H locs ws tys cst ls ads0 hN hF hW hS hL hI hK hA
  obtain ⟨v, u, st, rfl, h⟩ := e_q2_s (show e_q2 stk (fun v u st => cond (cond (Nat.beq v.1 6) (cond (Nat.beq u.1 6) (decide ((FP.fdiv (UInt32.ofNat u.2) (UInt32.ofNat v.2)) &&& 0x7fffffff ≤ 0x7f800000)) false) false) (e_acc n I tl loc ((6, (FP.fdiv (UInt32.ofNat u.2) (UInt32.ofNat v.2)).toNat) :: st) fs w iv) false) = true from h)
  obtain ⟨q, h⟩ := e_and h
  obtain ⟨q1, q⟩ := e_and q
  obtain ⟨q2, q3⟩ := e_and q
  obtain ⟨cv, _, rfl, hvr, cu, cst', rfl, hur, hS'⟩ := id hS
  obtain ⟨z1, z2⟩ := v_plain_s hv
  have := hvr.float (e_beq q1)
  subst this
  have := hur.float (e_beq q2)
  subst this
  have q4 := of_decide_eq_true q3
  exact lv_fdiv hF.1 hF.2.1 z1 q4 (e_k IH h (by omega) hF hW ⟨_, _, rfl, by show Value.float _ = .float (UInt32.ofNat _); rw [UInt32.ofNat_toNat], hS'⟩ hL hI (e_suf hK) hA z2)
theorem s_f2d (IH : e_P rho ta b L n0 D l n) (hv : v_plain (decode (e_byt I.1) e.1) .f2d e.1 (e_hpc tl) = true) (h : h_f2d (e_acc n) e tl I loc stk fs w iv = true) : e_GG rho ta b L n0 D l (n + 1) I (e :: tl) loc stk fs w iv := by
  intro N p e' R s m args below meth c H locs ws tys cst ls ads0 hN hF hW hS hL hI hK hA
  obtain ⟨v, st, rfl, h⟩ := e_q1_s (show e_q1 stk (fun v st => cond (cond (Nat.beq v.1 6) (decide ((FP.f2d (UInt32.ofNat v.2)) &&& 0x7fffffffffffffff ≤ 0x7ff0000000000000)) false) (e_acc n I tl loc ((7, (FP.f2d (UInt32.ofNat v.2)).toNat) :: st) fs w iv) false) = true from h)
  obtain ⟨q, h⟩ := e_and h
  obtain ⟨q1, q3⟩ := e_and q
  obtain ⟨cv, cst', rfl, hvr, hS'⟩ := id hS
  obtain ⟨z1, z2⟩ := v_plain_s hv
  have := hvr.float (e_beq q1)
  subst this
  have q4 := of_decide_eq_true q3
  exact lv_f2d hF.1 hF.2.1 z1 q4 (e_k IH h (by omega) hF hW ⟨_, _, rfl, by show Value.double _ = .double (UInt64.ofNat _); rw [UInt64.ofNat_toNat], hS'⟩ hL hI (e_suf hK) hA z2)
theorem s_dcmp (IH : e_P rho ta b L n0 D l n) (hv : v_plain (decode (e_byt I.1) e.1) (.dcmp .l) e.1 (e_hpc tl) = true) (h : h_dcmp (e_acc n) e tl I loc stk fs w iv = true) : e_GG rho ta b L n0 D l (n + 1) I (e :: tl) loc stk fs w iv := by
  intro N p e' R s m args below meth c H locs ws tys cst ls ads0 hN hF hW hS hL hI hK hA
  obtain ⟨v, u, st, rfl, h⟩ := e_q2_s (show e_q2 stk (fun v u st => cond (cond (Nat.beq v.1 7) (Nat.beq u.1 7) false) (e_acc n I tl loc ((0, e_u (Op.cmpValue (FP.dcmp (UInt64.ofNat u.2) (UInt64.ofNat v.2)) .l)) :: st) fs w iv) false) = true from h)
  obtain ⟨q, h⟩ := e_and h
  obtain ⟨q1, q2⟩ := e_and q
  obtain ⟨cv, _, rfl, hvr, cu, cst', rfl, hur, hS'⟩ := id hS
  obtain ⟨z1, z2⟩ := v_plain_s hv
  have := hvr.double (e_beq q1)
  subst this
  have := hur.double (e_beq q2)
  subst this
  exact lv_dcmp hF.1 hF.2.1 z1 (e_k IH h (by omega) hF hW ⟨_, _, rfl, by show Value.int _ = .int (e_i (e_u _)); rw [e_i_u], hS'⟩ hL hI (e_suf hK) hA z2)
end

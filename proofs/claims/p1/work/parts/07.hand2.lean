/-! MORE HANDLERS: what moves no heap. -/
section
variable {rho : Nat → Int32} {ta : Nat → Nat × Nat} {b L n0 : Nat} {D : va_G} {l : Launch} {n : Nat} {e : e_E} {tl : List e_E} {I : e_N} {loc stk : List e_V} {fs : List e_F} {w : e_W} {iv : e_I}
def v_plain (d : e_D) (i : Instr) (pc nx : Nat) : Bool := (match d with
  | .ok (j, 1) => decide (j = i)
  | _ => false) && Nat.beq nx (pc + 1)
theorem v_plain_s {d : e_D} {i : Instr} {pc nx : Nat} (h : v_plain d i pc nx = true) : d = .ok (i, 1) ∧ nx = pc + 1 := by
  obtain ⟨h1, h2⟩ := e_and2 h
  split at h1
  · rename_i j
    exact ⟨by rw [of_decide_eq_true h1], e_beq h2⟩
  · cases h1
def v_ifn (d : e_D) (a pc tg nx : Nat) : Bool := match a, d with
  | 0, .ok (.ifnull off, 3) => decide ((pc : Int) + off = (tg : Int)) && Nat.beq nx (pc + 3)
  | 1, .ok (.ifnonnull off, 3) => decide ((pc : Int) + off = (tg : Int)) && Nat.beq nx (pc + 3)
  | _, _ => false
theorem s_ifn (IH : e_P rho ta b L n0 D l n) (hv : v_ifn (decode (e_byt I.1) e.1) e.2.2.1 e.1 (e_hpc (e_jmp I.2.1 tl e.2.2.2.2)) (e_hpc tl) = true) (h : h_ifn (e_acc n) e tl I loc stk fs w iv = true) : e_GG rho ta b L n0 D l (n + 1) I (e :: tl) loc stk fs w iv := by
  intro N p e' R s m args below meth c H locs ws tys cst ls ads0 hN hF hW hS hL hI hK hA
  obtain ⟨v, st, rfl, h⟩ := e_q1_s (show e_q1 stk (fun v st => cond (Nat.beq v.1 3) (e_acc n I (cond (Nat.beq e.2.2.1 0) (e_jmp I.2.1 tl e.2.2.2.2) tl) loc st fs w iv) (cond (Nat.beq v.1 2) (e_acc n I (cond (Nat.beq e.2.2.1 0) tl (e_jmp I.2.1 tl e.2.2.2.2)) loc st fs w iv) false)) = true from h)
  obtain ⟨cv, cst, rfl, hvr, hS⟩ := hS
  have hpg : I.2.1 = e_pg I.1 := hF.2.2.2.2.2.2.2.2.2.1
  have hJ : ∃ k, e_jmp I.2.1 tl e.2.2.2.2 = (e_pg I.1).drop k := by rw [hpg]; exact e_sufj _ hK
  show W p l e' R s m args below meth c H locs I.2.2.1 I.2.2.2.1 _ (F0 m e.1 ls (cv :: cst))
  unfold v_ifn at hv
  rcases e_ite h with ⟨q, h⟩ | ⟨-, h⟩
  · have e1 := hvr.null (e_beq q)
    subst e1
    split at hv
    · rename_i q1 q2
      obtain ⟨z1, z2⟩ := e_and2 hv
      rw [q1] at h
      exact lv_ifnullN hF.1 hF.2.1 q2 (of_decide_eq_true z1) (e_k IH h (by omega) hF hW hS hL hI hJ hA rfl)
    · rename_i q1 q2
      obtain ⟨z1, z2⟩ := e_and2 hv
      rw [q1] at h
      exact lv_ifnonnullN hF.1 hF.2.1 q2 (e_k IH h (by omega) hF hW hS hL hI (e_suf hK) hA (e_beq z2))
    · cases hv
  · obtain ⟨q, h⟩ := e_and h
    obtain ⟨a, -, rfl⟩ := hvr.cell (e_beq q)
    split at hv
    · rename_i q1 q2
      obtain ⟨z1, z2⟩ := e_and2 hv
      rw [q1] at h
      exact lv_ifnull hF.1 hF.2.1 q2 (e_k IH h (by omega) hF hW hS hL hI (e_suf hK) hA (e_beq z2))
    · rename_i q1 q2
      obtain ⟨z1, z2⟩ := e_and2 hv
      rw [q1] at h
      exact lv_ifnonnull hF.1 hF.2.1 q2 (of_decide_eq_true z1) (e_k IH h (by omega) hF hW hS hL hI hJ hA rfl)
    · cases hv
theorem e_cat1 {ads : List Nat} {v : e_V} {cv : Value} (hv : e_VR rho ta b L ads v cv) (h : e_cat2 v.1 = false) : cv.category = 1 := by
  rcases lv_cat cv with q | q
  · exact q
  · rw [hv.cat.mp q] at h; cases h
theorem s_dup (IH : e_P rho ta b L n0 D l n) (hv : v_plain (decode (e_byt I.1) e.1) .dup e.1 (e_hpc tl) = true) (h : h_dup (e_acc n) e tl I loc stk fs w iv = true) : e_GG rho ta b L n0 D l (n + 1) I (e :: tl) loc stk fs w iv := by
  intro N p e' R s m args below meth c H locs ws tys cst ls ads0 hN hF hW hS hL hI hK hA
  obtain ⟨v, st, rfl, h⟩ := e_q1_s (show e_q1 stk (fun v _ => cond (e_cat2 v.1) false (e_acc n I tl loc (v :: stk) fs w iv)) = true from h)
  obtain ⟨q, h⟩ := e_nand h
  obtain ⟨cv, cst, rfl, hvr, hS⟩ := hS
  obtain ⟨z1, z2⟩ := v_plain_s hv
  exact lv_dup hF.1 hF.2.1 z1 (e_cat1 hvr q) (e_k IH h (by omega) hF hW ⟨_, _, rfl, hvr, _, _, rfl, hvr, hS⟩ hL hI (e_suf hK) hA z2)
theorem s_pop (IH : e_P rho ta b L n0 D l n) (hv : v_plain (decode (e_byt I.1) e.1) .pop e.1 (e_hpc tl) = true) (h : h_pop (e_acc n) e tl I loc stk fs w iv = true) : e_GG rho ta b L n0 D l (n + 1) I (e :: tl) loc stk fs w iv := by
  intro N p e' R s m args below meth c H locs ws tys cst ls ads0 hN hF hW hS hL hI hK hA
  obtain ⟨v, st, rfl, h⟩ := e_q1_s (show e_q1 stk (fun v st => cond (e_cat2 v.1) false (e_acc n I tl loc st fs w iv)) = true from h)
  obtain ⟨q, h⟩ := e_nand h
  obtain ⟨cv, cst, rfl, hvr, hS⟩ := hS
  obtain ⟨z1, z2⟩ := v_plain_s hv
  exact lv_pop hF.1 hF.2.1 z1 (e_cat1 hvr q) (e_k IH h (by omega) hF hW hS hL hI (e_suf hK) hA z2)
theorem s_dup2 (IH : e_P rho ta b L n0 D l n) (hv : v_plain (decode (e_byt I.1) e.1) .dup2 e.1 (e_hpc tl) = true) (h : h_dup2 (e_acc n) e tl I loc stk fs w iv = true) : e_GG rho ta b L n0 D l (n + 1) I (e :: tl) loc stk fs w iv := by
  intro N p e' R s m args below meth c H locs ws tys cst ls ads0 hN hF hW hS hL hI hK hA
  obtain ⟨v, u, st, rfl, h⟩ := e_q2_s (show e_q2 stk (fun v u _ => cond (cond (e_cat2 v.1) true (e_cat2 u.1)) false (e_acc n I tl loc (v :: u :: stk) fs w iv)) = true from h)
  obtain ⟨q, h⟩ := e_nand h
  have q1 : e_cat2 v.1 = false ∧ e_cat2 u.1 = false := by
    cases z : e_cat2 v.1 with
    | true => rw [z] at q; cases q
    | false => rw [z] at q; exact ⟨rfl, q⟩
  obtain ⟨cv, _, rfl, hvr, cu, cst, rfl, hur, hS⟩ := hS
  obtain ⟨z1, z2⟩ := v_plain_s hv
  exact lv_dup2_11 hF.1 hF.2.1 z1 (e_cat1 hvr q1.1) (e_cat1 hur q1.2) (e_k IH h (by omega) hF hW ⟨_, _, rfl, hvr, _, _, rfl, hur, _, _, rfl, hvr, _, _, rfl, hur, hS⟩ hL hI (e_suf hK) hA z2)
def v_ib (d : e_D) (k pc nx : Nat) : Bool := (match k, d with
  | 1, .ok (.iadd, 1) => true
  | 2, .ok (.isub, 1) => true
  | 3, .ok (.imul, 1) => true
  | 4, .ok (.iand, 1) => true
  | 5, .ok (.ior, 1) => true
  | 6, .ok (.ixor, 1) => true
  | 7, .ok (.ishl, 1) => true
  | 8, .ok (.ishr, 1) => true
  | 9, .ok (.iushr, 1) => true
  | 10, .ok (.idiv, 1) => true
  | 11, .ok (.irem, 1) => true
  | _, _ => false) && Nat.beq nx (pc + 1)
theorem e_i_mul (x y : Nat) : e_i (Nat.mod (Nat.mul x y) 4294967296) = e_i x * e_i y := by
  show e_i ((x * y) % 4294967296) = _
  rw [e_i_mod]
  exact (pk_mul x y).symm
section
variable {p : Program} {e' : Env} {R : Room} {s : State} {m : MethodId} {args : Array Value} {below : List Frame} {meth : Method} {c : Code} {H : Heap} {locs : List Loc} {cells slots : Nat} {Q : State → Prop} {cc : ByteArray} {pc : Nat} {ls : Array Slot} {rest : List Value}
theorem e_ib_row (hx : p.tables.exec = Jvm.exec) (hb : c.code = cc) {k nx x y : Nat} (hv : v_ib (decode cc pc) k pc nx = true) (h0 : 10 ≤ k → ¬ e_i y = 0) (kk : W p l e' R s m args below meth c H locs cells slots Q (F0 m nx ls (.int (e_i ((e_ib k).2 x y)) :: rest))) : W p l e' R s m args below meth c H locs cells slots Q (F0 m pc ls (.int (e_i y) :: .int (e_i x) :: rest)) := by
  obtain ⟨z1, z2⟩ := e_and2 hv
  have z2 := e_beq z2
  subst z2
  split at z1
  · rename_i q; exact lv_iadd hx hb q (by rw [← e_i_add]; exact kk)
  · rename_i q; exact lv_isub hx hb q (by rw [← e_i_u (e_i x - e_i y)]; exact kk)
  · rename_i q; exact lv_imul hx hb q (by rw [← e_i_mul]; exact kk)
  · rename_i q; exact lv_iand hx hb q (by rw [← e_i_u (e_i x &&& e_i y)]; exact kk)
  · rename_i q; exact lv_ior hx hb q (by rw [← e_i_u (e_i x ||| e_i y)]; exact kk)
  · rename_i q; exact lv_ixor hx hb q (by rw [← e_i_u (e_i x ^^^ e_i y)]; exact kk)
  · rename_i q; exact lv_ishl hx hb q (by rw [← e_i_u (e_i x <<< (e_i y &&& 31))]; exact kk)
  · rename_i q; exact lv_ishr hx hb q (by rw [← e_i_u (e_i x >>> (e_i y &&& 31))]; exact kk)
  · rename_i q; exact lv_iushr hx hb q rfl (by rw [← e_i_u ((e_i x).toUInt32 >>> ((e_i y).toUInt32 &&& Int32.toUInt32 31)).toInt32]; exact kk)
  · rename_i q; exact lv_idiv hx hb q (h0 (by omega)) (by rw [← e_i_u (e_i x / e_i y)]; exact kk)
  · rename_i q; exact lv_irem hx hb q (h0 (by omega)) (by rw [← e_i_u (e_i x - e_i x / e_i y * e_i y)]; exact kk)
  · cases z1
end
end

section
variable {rho : Nat → Int32} {ta : Nat → Nat × Nat} {b L n0 : Nat} {D : va_G} {l : Launch} {n : Nat} {e : e_E} {tl : List e_E} {I : e_N} {loc stk : List e_V} {fs : List e_F} {w : e_W} {iv : e_I}
theorem s_ibin (hr : rho 6 = rho 0 &&& 63) (IH : e_P rho ta b L n0 D l n) (hv : v_ib (decode (e_byt I.1) e.1) e.2.2.1 e.1 (e_hpc tl) = true) (h : h_ibin (e_acc n) e tl I loc stk fs w iv = true) : e_GG rho ta b L n0 D l (n + 1) I (e :: tl) loc stk fs w iv := by
  intro N p e' R s m args below meth c H locs ws tys cst ls ads0 hN hF hW hS hL hI hK hA
  obtain ⟨v, u, st, rfl, h⟩ := e_q2_s (show e_q2 stk (fun v u st => cond (cond (Nat.beq u.1 4) (cond (Nat.beq e.2.2.1 4) (cond (e_eqV u (4, 0)) (e_eqV v (0, 63)) false) false) false) (e_acc n I tl loc ((4, 6) :: st) fs w iv)
    (e_con iv v (fun n' => e_con iv u (fun m => cond (cond (Nat.ble 10 e.2.2.1) (Nat.beq (Nat.mod n' 4294967296) 0) false) false (e_acc n I tl loc ((0, (e_ib e.2.2.1).2 m n') :: st) fs w iv)) (e_sp (e_acc n) (e :: tl) I loc stk fs w iv)) (e_sp (e_acc n) (e :: tl) I loc stk fs w iv))) = true from h)
  obtain ⟨cv, _, rfl, hvr, cu, cst', rfl, hur, hS'⟩ := id hS
  show W p l e' R s m args below meth c H locs I.2.2.1 I.2.2.2.1 _ (F0 m e.1 ls (cv :: cu :: cst'))
  rcases e_ite h with ⟨q, g⟩ | ⟨-, h⟩
  · clear h
    obtain ⟨-, q⟩ := e_and q
    obtain ⟨q1, q⟩ := e_and q
    obtain ⟨q2, q3⟩ := e_and q
    have q2 := e_eqV_s q2
    have q3 := e_eqV_s q3
    subst q2; subst q3
    have hvr : cv = .int (e_i 63) := hvr
    have hur : cu = .int (rho 0) := hur
    subst hvr; subst hur
    have q1 := e_beq q1
    rw [q1] at hv
    obtain ⟨z1, z2⟩ := e_and2 hv
    split at z1 <;> first | (cases z1; done) | skip
    all_goals first | (rename_i g1 g2; cases g1; done) | skip
    rename_i g1 g2
    refine lv_iand hF.1 hF.2.1 g2 (e_k IH g (by omega) hF hW ⟨_, _, rfl, ?_, hS'⟩ hL hI (e_suf hK) hA (e_beq z2))
    show Value.int (rho 0 &&& e_i 63) = .int (rho 6)
    rw [hr]
    rfl
  · rcases e_con_s hI hvr h with ⟨k1, rfl, h⟩ | h
    · rcases e_con_s hI hur h with ⟨k2, rfl, h⟩ | h
      · obtain ⟨q, h⟩ := e_nand h
        refine e_ib_row hF.1 hF.2.1 hv (fun hk => ?_) (e_k IH h (by omega) hF hW ⟨_, _, rfl, rfl, hS'⟩ hL hI (e_suf hK) hA rfl)
        rw [Nat.ble_eq_true_of_le hk] at q
        have q := e_bne (show Nat.beq (Nat.mod k1 4294967296) 0 = false from q)
        intro z
        have z2 : (e_i k1).toBitVec.toNat = 0 := by rw [z]; rfl
        rw [e_i_nat] at z2
        exact q z2
      · exact e_again IH (fun _ _ => h) N p e' R s m args below meth c H locs ws tys _ ls ads0 hN hF hW hS hL hI hK hA
    · exact e_again IH (fun _ _ => h) N p e' R s m args below meth c H locs ws tys _ ls ads0 hN hF hW hS hL hI hK hA
theorem s_i2l (IH : e_P rho ta b L n0 D l n) (hv : v_plain (decode (e_byt I.1) e.1) .i2l e.1 (e_hpc tl) = true) (h : h_i2l (e_acc n) e tl I loc stk fs w iv = true) : e_GG rho ta b L n0 D l (n + 1) I (e :: tl) loc stk fs w iv := by
  intro N p e' R s m args below meth c H locs ws tys cst ls ads0 hN hF hW hS hL hI hK hA
  obtain ⟨v, st, rfl, h⟩ := e_q1_s (show e_q1 stk (fun v st => e_con iv v (fun n' => e_acc n I tl loc ((1, e_ul (e_i n').toInt64) :: st) fs w iv) (e_sp (e_acc n) (e :: tl) I loc stk fs w iv)) = true from h)
  obtain ⟨cv, cst', rfl, hvr, hS'⟩ := id hS
  obtain ⟨z1, z2⟩ := v_plain_s hv
  rcases e_con_s hI hvr h with ⟨k, rfl, h⟩ | h
  · exact lv_i2l hF.1 hF.2.1 z1 rfl (e_k IH h (by omega) hF hW ⟨_, _, rfl, by show Value.long _ = .long (e_l (e_ul _)); rw [e_l_u], hS'⟩ hL hI (e_suf hK) hA z2)
  · exact e_again IH (fun _ _ => h) N p e' R s m args below meth c H locs ws tys _ ls ads0 hN hF hW hS hL hI hK hA
theorem s_i2c (IH : e_P rho ta b L n0 D l n) (hv : v_plain (decode (e_byt I.1) e.1) .i2c e.1 (e_hpc tl) = true) (h : h_i2c (e_acc n) e tl I loc stk fs w iv = true) : e_GG rho ta b L n0 D l (n + 1) I (e :: tl) loc stk fs w iv := by
  intro N p e' R s m args below meth c H locs ws tys cst ls ads0 hN hF hW hS hL hI hK hA
  obtain ⟨v, st, rfl, h⟩ := e_q1_s (show e_q1 stk (fun v st => e_con iv v (fun n' => e_acc n I tl loc ((0, e_u ((e_i n').toUInt32 % 65536).toInt32) :: st) fs w iv) (e_sp (e_acc n) (e :: tl) I loc stk fs w iv)) = true from h)
  obtain ⟨cv, cst', rfl, hvr, hS'⟩ := id hS
  obtain ⟨z1, z2⟩ := v_plain_s hv
  rcases e_con_s hI hvr h with ⟨k, rfl, h⟩ | h
  · exact lv_i2c hF.1 hF.2.1 z1 rfl (e_k IH h (by omega) hF hW ⟨_, _, rfl, by show Value.int _ = .int (e_i (e_u _)); rw [e_i_u], hS'⟩ hL hI (e_suf hK) hA z2)
  · exact e_again IH (fun _ _ => h) N p e' R s m args below meth c H locs ws tys _ ls ads0 hN hF hW hS hL hI hK hA
theorem s_l2i (IH : e_P rho ta b L n0 D l n) (hv : v_plain (decode (e_byt I.1) e.1) .l2i e.1 (e_hpc tl) = true) (h : h_l2i (e_acc n) e tl I loc stk fs w iv = true) : e_GG rho ta b L n0 D l (n + 1) I (e :: tl) loc stk fs w iv := by
  intro N p e' R s m args below meth c H locs ws tys cst ls ads0 hN hF hW hS hL hI hK hA
  obtain ⟨v, st, rfl, h⟩ := e_q1_s (show e_q1 stk (fun v st => cond (Nat.beq v.1 1) (e_acc n I tl loc ((0, e_u (e_l v.2).toInt32) :: st) fs w iv) false) = true from h)
  obtain ⟨q, h⟩ := e_and h
  obtain ⟨cv, cst', rfl, hvr, hS'⟩ := id hS
  obtain ⟨z1, z2⟩ := v_plain_s hv
  have e1 := hvr.long (e_beq q)
  subst e1
  exact lv_l2i hF.1 hF.2.1 z1 rfl (e_k IH h (by omega) hF hW ⟨_, _, rfl, by show Value.int _ = .int (e_i (e_u _)); rw [e_i_u], hS'⟩ hL hI (e_suf hK) hA z2)
def v_lb (d : e_D) (k pc nx : Nat) : Bool := (match k, d with
  | 1, .ok (.ladd, 1) => true
  | 3, .ok (.lmul, 1) => true
  | 4, .ok (.land, 1) => true
  | 5, .ok (.lor, 1) => true
  | 6, .ok (.lxor, 1) => true
  | _, _ => false) && Nat.beq nx (pc + 1)
theorem s_lbin (IH : e_P rho ta b L n0 D l n) (hv : v_lb (decode (e_byt I.1) e.1) e.2.2.1 e.1 (e_hpc tl) = true) (h : h_lbin (e_acc n) e tl I loc stk fs w iv = true) : e_GG rho ta b L n0 D l (n + 1) I (e :: tl) loc stk fs w iv := by
  intro N p e' R s m args below meth c H locs ws tys cst ls ads0 hN hF hW hS hL hI hK hA
  obtain ⟨v, u, st, rfl, h⟩ := e_q2_s (show e_q2 stk (fun v u st => cond (cond (Nat.beq v.1 1) (Nat.beq u.1 1) false) (e_acc n I tl loc ((1, (e_lb e.2.2.1).2 u.2 v.2) :: st) fs w iv) false) = true from h)
  obtain ⟨q, h⟩ := e_and h
  obtain ⟨q1, q2⟩ := e_and q
  obtain ⟨cv, _, rfl, hvr, cu, cst', rfl, hur, hS'⟩ := id hS
  have e1 := hvr.long (e_beq q1)
  have e2 := hur.long (e_beq q2)
  subst e1; subst e2
  have kk : ∀ z, e_l ((e_lb e.2.2.1).2 u.2 v.2) = z → W p l e' R s m args below meth c H locs I.2.2.1 I.2.2.2.1 (vx_MQ below (e_Qc rho ta b L n0 D N fs ads0) (e_XC rho ta b L n0 D N fs ads0) args s (e_bud I.1).1 (e_bud I.1).2.1 (fun q => n0 ≤ q)) (F0 m (e_hpc tl) ls (.long z :: cst')) := fun z hz => by
    subst hz
    exact e_k IH h (by omega) hF hW ⟨_, _, rfl, rfl, hS'⟩ hL hI (e_suf hK) hA rfl
  show W p l e' R s m args below meth c H locs I.2.2.1 I.2.2.2.1 _ (F0 m e.1 ls (.long (e_l v.2) :: .long (e_l u.2) :: cst'))
  obtain ⟨z1, z2⟩ := e_and2 hv
  rw [e_beq z2] at kk
  generalize e.2.2.1 = k at z1 kk
  split at z1
  · rename_i g; exact lv_ladd hF.1 hF.2.1 g (kk _ (e_l_u _))
  · rename_i g; exact lv_lmul hF.1 hF.2.1 g (kk _ (e_l_u _))
  · rename_i g; exact lv_land hF.1 hF.2.1 g (kk _ (e_l_u _))
  · rename_i g; exact lv_lor hF.1 hF.2.1 g (kk _ (e_l_u _))
  · rename_i g; exact lv_lxor hF.1 hF.2.1 g (kk _ (e_l_u _))
  · cases z1
def v_ls (d : e_D) (k pc nx : Nat) : Bool := (match k, d with
  | 7, .ok (.lshl, 1) => true
  | 8, .ok (.lshr, 1) => true
  | 9, .ok (.lushr, 1) => true
  | _, _ => false) && Nat.beq nx (pc + 1)
theorem s_lsh (IH : e_P rho ta b L n0 D l n) (hv : v_ls (decode (e_byt I.1) e.1) e.2.2.1 e.1 (e_hpc tl) = true) (h : h_lsh (e_acc n) e tl I loc stk fs w iv = true) : e_GG rho ta b L n0 D l (n + 1) I (e :: tl) loc stk fs w iv := by
  intro N p e' R s m args below meth c H locs ws tys cst ls ads0 hN hF hW hS hL hI hK hA
  obtain ⟨v, u, st, rfl, h⟩ := e_q2_s (show e_q2 stk (fun v u st => e_con iv v (fun n' => cond (Nat.beq u.1 1) (e_acc n I tl loc ((1, (e_ls e.2.2.1).2 u.2 n') :: st) fs w iv) false) (e_sp (e_acc n) (e :: tl) I loc stk fs w iv)) = true from h)
  obtain ⟨cv, _, rfl, hvr, cu, cst', rfl, hur, hS'⟩ := id hS
  rcases e_con_s hI hvr h with ⟨k1, rfl, h⟩ | h
  · obtain ⟨q2, h⟩ := e_and h
    have e2 := hur.long (e_beq q2)
    subst e2
    have kk : ∀ z, e_l ((e_ls e.2.2.1).2 u.2 k1) = z → W p l e' R s m args below meth c H locs I.2.2.1 I.2.2.2.1 (vx_MQ below (e_Qc rho ta b L n0 D N fs ads0) (e_XC rho ta b L n0 D N fs ads0) args s (e_bud I.1).1 (e_bud I.1).2.1 (fun q => n0 ≤ q)) (F0 m (e_hpc tl) ls (.long z :: cst')) := fun z hz => by
      subst hz
      exact e_k IH h (by omega) hF hW ⟨_, _, rfl, rfl, hS'⟩ hL hI (e_suf hK) hA rfl
    show W p l e' R s m args below meth c H locs I.2.2.1 I.2.2.2.1 _ (F0 m e.1 ls (.int (e_i k1) :: .long (e_l u.2) :: cst'))
    obtain ⟨z1, z2⟩ := e_and2 hv
    rw [e_beq z2] at kk
    generalize e.2.2.1 = k at z1 kk
    split at z1
    · rename_i g; exact lv_lshl hF.1 hF.2.1 g rfl (kk _ (e_l_u _))
    · rename_i g; exact lv_lshr hF.1 hF.2.1 g rfl (kk _ (e_l_u _))
    · rename_i g; exact lv_lushr hF.1 hF.2.1 g rfl (kk _ (e_l_u _))
    · cases z1
  · exact e_again IH (fun _ _ => h) N p e' R s m args below meth c H locs ws tys _ ls ads0 hN hF hW hS hL hI hK hA
theorem s_lcmp (IH : e_P rho ta b L n0 D l n) (hv : v_plain (decode (e_byt I.1) e.1) .lcmp e.1 (e_hpc tl) = true) (h : h_lcmp (e_acc n) e tl I loc stk fs w iv = true) : e_GG rho ta b L n0 D l (n + 1) I (e :: tl) loc stk fs w iv := by
  intro N p e' R s m args below meth c H locs ws tys cst ls ads0 hN hF hW hS hL hI hK hA
  obtain ⟨v, u, st, rfl, h⟩ := e_q2_s (show e_q2 stk (fun v u st => cond (cond (Nat.beq v.1 1) (Nat.beq u.1 1) false) (e_acc n I tl loc ((0, e_u (lg_cmp (e_l u.2) (e_l v.2))) :: st) fs w iv) false) = true from h)
  obtain ⟨q, h⟩ := e_and h
  obtain ⟨q1, q2⟩ := e_and q
  obtain ⟨cv, _, rfl, hvr, cu, cst', rfl, hur, hS'⟩ := id hS
  have e1 := hvr.long (e_beq q1)
  have e2 := hur.long (e_beq q2)
  subst e1; subst e2
  obtain ⟨z1, z2⟩ := v_plain_s hv
  exact W.lcmp hF.1 hF.2.1 z1 (e_k IH h (by omega) hF hW ⟨_, _, rfl, by show Value.int _ = .int (e_i (e_u _)); rw [e_i_u], hS'⟩ hL hI (e_suf hK) hA z2)
def v_acmp (d : e_D) (pc tg nx : Nat) : Bool := match d with
  | .ok (.if_acmp .ne off, 3) => decide ((pc : Int) + off = (tg : Int)) && Nat.beq nx (pc + 3)
  | _ => false
theorem s_acmp (IH : e_P rho ta b L n0 D l n) (hv : v_acmp (decode (e_byt I.1) e.1) e.1 (e_hpc (e_jmp I.2.1 tl e.2.2.2.2)) (e_hpc tl) = true) (h : h_acmp (e_acc n) e tl I loc stk fs w iv = true) : e_GG rho ta b L n0 D l (n + 1) I (e :: tl) loc stk fs w iv := by
  intro N p e' R s m args below meth c H locs ws tys cst ls ads0 hN hF hW hS hL hI hK hA
  obtain ⟨v, u, st, rfl, h⟩ := e_q2_s (show e_q2 stk (fun v u st => cond (cond (Nat.beq v.1 2) (cond (Nat.beq u.1 2) true (Nat.beq u.1 3)) (cond (Nat.beq v.1 3) (cond (Nat.beq u.1 2) true (Nat.beq u.1 3)) false))
    (e_acc n I (cond (cond (Nat.beq u.1 v.1) (cond (Nat.beq v.1 3) true (Nat.beq u.2 v.2)) false) tl (e_jmp I.2.1 tl e.2.2.2.2)) loc st fs w iv) false) = true from h)
  obtain ⟨q, h⟩ := e_and h
  obtain ⟨cv, _, rfl, hvr, cu, cst', rfl, hur, hS'⟩ := id hS
  have hpg : I.2.1 = e_pg I.1 := hF.2.2.2.2.2.2.2.2.2.1
  have hJ : ∃ k, e_jmp I.2.1 tl e.2.2.2.2 = (e_pg I.1).drop k := by rw [hpg]; exact e_sufj _ hK
  have inj : ∀ (i j a : Nat), (e_ads ws)[i]? = some a → (e_ads ws)[j]? = some a → i = j := by
    intro i j a h1 h2
    unfold e_ads at h1 h2
    rw [List.getElem?_map] at h1 h2
    cases g1 : ws[i]? with
    | none => rw [g1] at h1; cases h1
    | some x =>
      cases g2 : ws[j]? with
      | none => rw [g2] at h2; cases h2
      | some y =>
        rw [g1] at h1; rw [g2] at h2
        have h1 : some x.1 = some a := h1
        have h2 : some y.1 = some a := h2
        exact hW.2.2.1.1 i j x y g1 g2 (by rw [Option.some.inj h1, Option.some.inj h2])
  show W p l e' R s m args below meth c H locs I.2.2.1 I.2.2.2.1 _ (F0 m e.1 ls (cv :: cu :: cst'))
  unfold v_acmp at hv
  split at hv
  · rename_i off g
    obtain ⟨z1, z2⟩ := e_and2 hv
    have hc : ∃ rx ry : Option Nat, cv = va_rf ry ∧ cu = va_rf rx ∧ (rx = ry ↔ cond (Nat.beq u.1 v.1) (cond (Nat.beq v.1 3) true (Nat.beq u.2 v.2)) false = true) := by
      rcases e_ite q with ⟨a1, a2⟩ | ⟨-, q⟩
      · obtain ⟨av, b1, rfl⟩ := hvr.cell (e_beq a1)
        rcases e_or a2 with a2 | a2
        · obtain ⟨au, b2, rfl⟩ := hur.cell (e_beq a2)
          refine ⟨some au, some av, rfl, rfl, ?_⟩
          rw [e_beq a1, e_beq a2]
          show some au = some av ↔ Nat.beq u.2 v.2 = true
          constructor
          · intro z
            cases z
            rw [inj _ _ _ b2 b1]
            exact Nat.beq_refl _
          · intro z
            have z := e_beq z
            rw [z] at b2
            rw [b1] at b2
            exact b2.symm
        · have := hur.null (e_beq a2)
          subst this
          refine ⟨none, some av, rfl, rfl, ?_⟩
          rw [e_beq a1, e_beq a2]
          exact ⟨fun z => (by cases z), fun z => (by cases z)⟩
      · obtain ⟨a1, a2⟩ := e_and q
        have := hvr.null (e_beq a1)
        subst this
        rcases e_or a2 with a2 | a2
        · obtain ⟨au, b2, rfl⟩ := hur.cell (e_beq a2)
          refine ⟨some au, none, rfl, rfl, ?_⟩
          rw [e_beq a1, e_beq a2]
          exact ⟨fun z => (by cases z), fun z => (by cases z)⟩
        · have := hur.null (e_beq a2)
          subst this
          refine ⟨none, none, rfl, rfl, ?_⟩
          rw [e_beq a1, e_beq a2]
          exact ⟨fun _ => rfl, fun _ => rfl⟩
    obtain ⟨rx, ry, rfl, rfl, hi⟩ := hc
    refine lv_acmp_ne hF.1 hF.2.1 g (of_decide_eq_true z1) (fun z => ?_) (fun z => ?_)
    · have z3 : cond (Nat.beq u.1 v.1) (cond (Nat.beq v.1 3) true (Nat.beq u.2 v.2)) false = false := by
        cases y : cond (Nat.beq u.1 v.1) (cond (Nat.beq v.1 3) true (Nat.beq u.2 v.2)) false with
        | true => exact absurd (hi.mpr y) z
        | false => rfl
      rw [z3] at h
      exact e_k IH h (by omega) hF hW hS' hL hI hJ hA rfl
    · rw [hi.mp z] at h
      exact e_k IH h (by omega) hF hW hS' hL hI (e_suf hK) hA (e_beq z2)
  · cases hv
/-- a switch: the default's place first -/
def v_tsw (d : e_D) (a k pc : Nat) (tg : Nat → Nat) : Bool := match d with
  | .ok (.tableswitch df lo hi offs, _) => decide (lo = (a : Int) ∧ hi = (a : Int) + (k : Int) ∧ a + k < 2147483648 ∧ (pc : Int) + df = (tg 0 : Int)) && (List.range (k + 1)).all (fun j => decide ((offs[j]?).map (fun o => (pc : Int) + o) = some (tg (j + 1) : Int)))
  | _ => false
theorem e_i_int {k : Nat} (h : k < 2147483648) : (e_i k).toInt = (k : Int) := nI_toInt (by omega)
theorem s_tsw (IH : e_P rho ta b L n0 D l n) (hv : v_tsw (decode (e_byt I.1) e.1) e.2.2.1 e.2.2.2.1 e.1 (fun j => e_hpc (e_jmp I.2.1 tl (e_ov (e_ovr e.2.2.2.2) j))) = true) (h : h_tsw (e_acc n) e tl I loc stk fs w iv = true) : e_GG rho ta b L n0 D l (n + 1) I (e :: tl) loc stk fs w iv := by
  intro N p e' R s m args below meth c H locs ws tys cst ls ads0 hN hF hW hS hL hI hK hA
  obtain ⟨v, st, rfl, h⟩ := e_q1_s (show e_q1 stk (fun v st => cond (e_is 0 v.1) (e_ltR (e_rng iv v) (e_rng iv (0, e.2.2.1)) v (0, e.2.2.1) (e_acc n I (e_jmp I.2.1 tl (e_ov (e_ovr e.2.2.2.2) 0)) loc st fs w iv)
    (e_ltR (e_rng iv (0, Nat.add e.2.2.1 e.2.2.2.1)) (e_rng iv v) (0, Nat.add e.2.2.1 e.2.2.2.1) v (e_acc n I (e_jmp I.2.1 tl (e_ov (e_ovr e.2.2.2.2) 0)) loc st fs w iv)
      (e_con iv v (fun n' => cond (cond (Nat.ble e.2.2.1 n') (Nat.ble n' (Nat.add e.2.2.1 e.2.2.2.1)) false) (e_acc n I (e_jmp I.2.1 tl (e_ov (e_ovr e.2.2.2.2) (Nat.succ (Nat.sub n' e.2.2.1)))) loc st fs w iv) false) (e_sp (e_acc n) (e :: tl) I loc stk fs w iv)) (e_sp (e_acc n) (e :: tl) I loc stk fs w iv)) (e_sp (e_acc n) (e :: tl) I loc stk fs w iv)) false) = true from h)
  obtain ⟨hi, h⟩ := e_and h
  obtain ⟨cv, cst', rfl, hvr, hS'⟩ := id hS
  obtain ⟨x, rfl⟩ := hvr.int hi
  have hpg : I.2.1 = e_pg I.1 := hF.2.2.2.2.2.2.2.2.2.1
  have hJ : ∀ x, ∃ k, e_jmp I.2.1 tl x = (e_pg I.1).drop k := fun x => by rw [hpg]; exact e_sufj _ hK
  have hag : (∃ k c, e_sp (e_acc n) (e :: tl) I loc (v :: st) fs w iv k c = true) → W p l e' R s m args below meth c H locs I.2.2.1 I.2.2.2.1 (vx_MQ below (e_Qc rho ta b L n0 D N fs ads0) (e_XC rho ta b L n0 D N fs ads0) args s (e_bud I.1).1 (e_bud I.1).2.1 (fun q => n0 ≤ q)) (F0 m e.1 ls (.int x :: cst')) :=
    fun h => e_again IH (fun _ _ => h) N p e' R s m args below meth c H locs ws tys _ ls ads0 hN hF hW hS hL hI hK hA
  have r1 := e_rng_s hI hi hvr
  show W p l e' R s m args below meth c H locs I.2.2.1 I.2.2.2.1 _ (F0 m e.1 ls (.int x :: cst'))
  unfold v_tsw at hv
  split at hv
  · rename_i df lo hiv offs len g
    obtain ⟨z1, z2⟩ := e_and2 hv
    obtain ⟨y1, y2, y3, y4⟩ := of_decide_eq_true z1
    have ra : ∀ k, (e_rng iv (0, k)).1 ≤ e_o (e_i k) ∧ e_o (e_i k) ≤ (e_rng iv (0, k)).2 := fun k => e_rng_s (v := (0, k)) (ta := ta) (b := b) (L := L) (ads := []) hI rfl rfl
    rcases e_lt_s r1 (ra e.2.2.1) h with ⟨c1, h⟩ | ⟨c1, h⟩ | h
    · have c1 := Int32.lt_iff_toInt_lt.mp c1
      rw [e_i_int (by omega)] at c1
      exact lv_tableOut hF.1 hF.2.1 g (Or.inl (by rw [y1]; exact c1)) y4 (e_k IH h (by omega) hF hW hS' hL hI (hJ _) hA rfl)
    · rcases e_lt_s (ra (Nat.add e.2.2.1 e.2.2.2.1)) r1 h with ⟨c2, h⟩ | ⟨c2, h⟩ | h
      · have c2 := Int32.lt_iff_toInt_lt.mp c2
        rw [e_i_int (show Nat.add e.2.2.1 e.2.2.2.1 < _ from y3)] at c2
        exact lv_tableOut hF.1 hF.2.1 g (Or.inr (by rw [y2]; exact c2)) y4 (e_k IH h (by omega) hF hW hS' hL hI (hJ _) hA rfl)
      · rcases e_con_s hI hvr h with ⟨k, ek, h⟩ | h
        · obtain ⟨q, h⟩ := e_and h
          obtain ⟨q1, q2⟩ := e_and q
          have q1 := e_ble q1
          have q2 : k ≤ e.2.2.1 + e.2.2.2.1 := e_ble q2
          cases ek
          have hk := e_i_int (k := k) (by omega)
          have z3 := List.all_eq_true.mp z2 (k - e.2.2.1) (List.mem_range.mpr (by omega))
          have z3 := of_decide_eq_true z3
          cases ho : offs[k - e.2.2.1]? with
          | none => rw [ho] at z3; cases z3
          | some o =>
            rw [ho] at z3
            have z3 : some ((e.1 : Int) + o) = _ := z3
            exact lv_tableIn hF.1 hF.2.1 g (by rw [hk, y1]; omega) (by rw [hk, y2]; omega) (off := o) (by rw [hk, y1, show ((k : Int) - (e.2.2.1 : Int)).toNat = k - e.2.2.1 by omega]; exact ho) (Option.some.inj z3) (e_k IH h (by omega) hF hW hS' hL hI (hJ _) hA rfl)
        · exact hag h
      · exact hag h
    · exact hag h
  · cases hv
end

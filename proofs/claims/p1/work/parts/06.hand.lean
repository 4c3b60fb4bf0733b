/-! THE HANDLERS, each over the kit's row. -/
theorem e_suf {e : e_E} {tl all : List e_E} (h : ∃ k, e :: tl = all.drop k) : ∃ k, tl = all.drop k := by
  obtain ⟨k, h⟩ := h
  refine ⟨k + 1, ?_⟩
  rw [← List.drop_drop, ← h]
  rfl
theorem e_drop_eq (k : Nat) (l : List e_E) : e_drop k l = l.drop k := by
  induction k generalizing l with
  | zero => rfl
  | succ k ih =>
    cases l with
    | nil => rfl
    | cons a t => exact ih t
theorem e_sufj {e : e_E} {tl all : List e_E} (x : Nat) (h : ∃ k, e :: tl = all.drop k) : ∃ k, e_jmp all tl x = all.drop k := by
  unfold e_jmp
  cases Nat.beq (Nat.mod x 2) 0 with
  | true =>
    obtain ⟨k, h⟩ := e_suf h
    exact ⟨k + Nat.div x 2, by show e_drop _ tl = _; rw [e_drop_eq, h, List.drop_drop]⟩
  | false => exact ⟨Nat.div x 2, by show e_drop _ all = _; rw [e_drop_eq]⟩
abbrev e_D : Type := Except DecodeError (Instr × Nat)
def v_load (d : e_D) (k a pc nx : Nat) : Bool := match k, d with
  | 0, .ok (.iload_n j, 1) => decide (j.val = a) && Nat.beq nx (pc + 1)
  | 0, .ok (.iload j, 2) => decide (j = a) && Nat.beq nx (pc + 2)
  | 1, .ok (.lload_n j, 1) => decide (j.val = a) && Nat.beq nx (pc + 1)
  | 1, .ok (.lload j, 2) => decide (j = a) && Nat.beq nx (pc + 2)
  | 2, .ok (.aload_n j, 1) => decide (j.val = a) && Nat.beq nx (pc + 1)
  | 2, .ok (.aload j, 2) => decide (j = a) && Nat.beq nx (pc + 2)
  | 4, .ok (.dload_n j, 1) => decide (j.val = a) && Nat.beq nx (pc + 1)
  | 4, .ok (.dload j, 2) => decide (j = a) && Nat.beq nx (pc + 2)
  | _, _ => false
section
variable {rho : Nat → Int32} {ta : Nat → Nat × Nat} {b L n0 : Nat} {D : va_G} {l : Launch} {n : Nat} {e : e_E} {tl : List e_E} {I : e_N} {loc stk : List e_V} {fs : List e_F} {w : e_W} {iv : e_I}
theorem e_and2 {x y : Bool} (h : (x && y) = true) : x = true ∧ y = true := by
  cases x <;> cases y <;> simp_all
theorem s_load (IH : e_P rho ta b L n0 D l n) (hv : v_load (decode (e_byt I.1) e.1) e.2.2.2.1 e.2.2.1 e.1 (e_hpc tl) = true) (h : h_load (e_acc n) e tl I loc stk fs w iv = true) : e_GG rho ta b L n0 D l (n + 1) I (e :: tl) loc stk fs w iv := by
  intro N p e' R s m args below meth c H locs ws tys cst ls ads0 hN hF hW hS hL hI hK hA
  obtain ⟨t, pp, he⟩ : ∃ t pp, e_nth loc e.2.2.1 = (t, pp) := ⟨_, _, rfl⟩
  have h : cond (e_is e.2.2.2.1 t) (e_acc n I tl loc ((t, pp) :: stk) fs w iv) false = true := by
    unfold h_load at h
    rw [he] at h
    exact h
  obtain ⟨hi, h⟩ := e_and h
  have hne : (e_nth loc e.2.2.1).1 ≠ 99 := by
    rw [he]
    intro z
    have z : t = 99 := z
    subst z
    unfold v_load at hv
    split at hv <;> first | (rename_i q _; rw [q] at hi; cases hi; done) | (cases hv; done)
  obtain ⟨cv, hcl, hvr⟩ := hL.at hne
  rw [he] at hvr
  have kk : ∀ q, e_hpc tl = q → W p l e' R s m args below meth c H locs I.2.2.1 I.2.2.2.1 (vx_MQ below (e_Qc rho ta b L n0 D N fs ads0) (e_XC rho ta b L n0 D N fs ads0) args s (e_bud I.1).1 (e_bud I.1).2.1 (fun q => n0 ≤ q)) (F0 m q ls (cv :: cst)) := fun q hq => by
    subst hq
    exact IH I tl loc _ fs w iv h N p e' R s m args below meth c H locs ws tys _ ls ads0 (by omega) hF hW ⟨cv, cst, rfl, hvr, hS⟩ hL hI (e_suf hK) hA
  have hx := hF.1
  have hb := hF.2.1
  show W p l e' R s m args below meth c H locs I.2.2.1 I.2.2.2.1 _ (F0 m e.1 ls cst)
  unfold v_load at hv
  split at hv
  · rename_i q1 q2
    rw [q1] at hi
    obtain ⟨x, rfl⟩ := hvr.int hi
    obtain ⟨z1, z2⟩ := e_and2 hv
    exact lv_iload_n hx hb q2 (of_decide_eq_true z1) hcl (kk _ (e_beq z2))
  · rename_i q1 q2
    rw [q1] at hi
    obtain ⟨x, rfl⟩ := hvr.int hi
    obtain ⟨z1, z2⟩ := e_and2 hv
    have z1 := of_decide_eq_true z1
    subst z1
    exact lv_iload hx hb q2 hcl (kk _ (e_beq z2))
  · rename_i q1 q2
    rw [q1] at hi
    have hvr := hvr.long (e_is_1 hi)
    subst hvr
    obtain ⟨z1, z2⟩ := e_and2 hv
    exact lv_lload_n hx hb q2 (of_decide_eq_true z1) hcl (kk _ (e_beq z2))
  · rename_i q1 q2
    rw [q1] at hi
    have hvr := hvr.long (e_is_1 hi)
    subst hvr
    obtain ⟨z1, z2⟩ := e_and2 hv
    have z1 := of_decide_eq_true z1
    subst z1
    exact lv_lload hx hb q2 hcl (kk _ (e_beq z2))
  · rename_i q1 q2
    rw [q1] at hi
    obtain ⟨z1, z2⟩ := e_and2 hv
    rcases hvr.refs hi with ⟨x, rfl⟩ | rfl
    · exact lv_aload_n hx hb q2 (of_decide_eq_true z1) hcl (kk _ (e_beq z2))
    · exact lv_aload_nN hx hb q2 (of_decide_eq_true z1) hcl (kk _ (e_beq z2))
  · rename_i q1 q2
    rw [q1] at hi
    obtain ⟨z1, z2⟩ := e_and2 hv
    have z1 := of_decide_eq_true z1
    subst z1
    rcases hvr.refs hi with ⟨x, rfl⟩ | rfl
    · exact lv_aload hx hb q2 hcl (kk _ (e_beq z2))
    · exact lv_aloadN hx hb q2 hcl (kk _ (e_beq z2))
  · rename_i q1 q2
    rw [q1] at hi
    have hvr := hvr.double (e_is_4 hi)
    subst hvr
    obtain ⟨z1, z2⟩ := e_and2 hv
    exact lv_dload_n hx hb q2 (of_decide_eq_true z1) hcl (kk _ (e_beq z2))
  · rename_i q1 q2
    rw [q1] at hi
    have hvr := hvr.double (e_is_4 hi)
    subst hvr
    obtain ⟨z1, z2⟩ := e_and2 hv
    have z1 := of_decide_eq_true z1
    subst z1
    exact lv_dload hx hb q2 hcl (kk _ (e_beq z2))
  · cases hv
end

section
variable {rho : Nat → Int32} {ta : Nat → Nat × Nat} {b L n0 : Nat} {D : va_G} {l : Launch} {n : Nat} {e : e_E} {tl : List e_E} {I : e_N} {loc stk : List e_V} {fs : List e_F} {w : e_W} {iv : e_I}
/-- on with the next configuration -/
theorem e_k {cod : List e_E} {N : Nat} {p : Program} {e' : Env} {R : Room} {s : State} {m : MethodId} {args : Array Value} {below : List Frame} {meth : Method} {c : Code} {H : Heap} {locs : List Loc} {ws : va_W} {tys : List (ClassId × FieldType)} {cst : List Value} {ls : Array Slot} {ads0 : List Nat}
    (IH : e_P rho ta b L n0 D l n) (h : e_acc n I cod loc stk fs w iv = true) (hN : n ≤ N) (hF : e_FC rho ta b L I n0 p l R s m args meth c) (hW : e_WH rho ta b L n0 D s H locs ws tys w) (hS : e_SR rho ta b L (e_ads ws) stk cst) (hL : e_LR rho ta b L (e_ads ws) (e_bud I.1).2.2 ls loc) (hI : e_IV rho iv) (hK : ∃ k, cod = (e_pg I.1).drop k) (hA : ads0 <+: e_ads ws) {q : Nat} (hq : e_hpc cod = q) :
    W p l e' R s m args below meth c H locs I.2.2.1 I.2.2.2.1 (vx_MQ below (e_Qc rho ta b L n0 D N fs ads0) (e_XC rho ta b L n0 D N fs ads0) args s (e_bud I.1).1 (e_bud I.1).2.1 (fun q => n0 ≤ q)) (F0 m q ls cst) := by
  subst hq
  exact IH I cod loc stk fs w iv h N p e' R s m args below meth c H locs ws tys cst ls ads0 hN hF hW hS hL hI hK hA
/-- a split unknown -/
theorem e_spl {cod : List e_E} {k c : Nat} (hI : e_IV rho iv) (h : e_sp (e_acc n) cod I loc stk fs w iv k c = true) : ∃ iv', e_IV rho iv' ∧ e_acc n I cod loc stk fs w iv' = true := by
  obtain ⟨h1, h2⟩ := e_and h
  rcases hI.split k c with q | q
  · exact ⟨_, q, h1⟩
  · exact ⟨_, q, h2⟩
theorem e_again (IH : e_P rho ta b L n0 D l n) {cod : List e_E} (h : ∀ rho', rho' = rho → ∃ k c, e_sp (e_acc n) cod I loc stk fs w iv k c = true) : e_GG rho ta b L n0 D l (n + 1) I cod loc stk fs w iv := by
  intro N p e' R s m args below meth c H locs ws tys cst ls ads0 hN hF hW hS hL hI hK hA
  obtain ⟨k, c, h⟩ := h rho rfl
  obtain ⟨iv', h1, h2⟩ := e_spl hI h
  exact IH _ _ _ _ _ _ _ h2 N p e' R s m args below meth _ H locs ws tys cst ls ads0 (by omega) hF hW hS hL h1 hK hA
def e_at (k : Nat) (w : Cond) : Bool := match (e_ch (Nat.div k 4096))[Nat.mod k 4096]? with | some x => decide (x = w) | none => false
theorem e_at_s {k : Nat} {w : Cond} (h : e_at k w = true) : w ∈ lw_tbl := by
  unfold e_at at h
  split at h
  · rename_i x hx
    have h1 := of_decide_eq_true h
    subst h1
    exact e_ch_in (List.mem_of_getElem? hx)
  · cases h
def e_has (k : Nat) (w : Cond) : Bool := e_at k w && goodWord w
def e_hasH (k : Nat) (w : Cond) : Bool := e_at k w && e_isHot w
theorem e_has_s {k : Nat} {w : Cond} (h : e_has k w = true) : w ∈ e_gw := by
  obtain ⟨h1, h2⟩ := e_and2 h
  exact List.mem_filter.mpr ⟨e_at_s h1, h2⟩
theorem e_hasH_s {k : Nat} {w : Cond} (h : e_hasH k w = true) : w ∈ e_hot := by
  obtain ⟨h1, h2⟩ := e_and2 h
  exact List.mem_filter.mpr ⟨e_at_s h1, h2⟩
theorem e_ldcwF0 {p : Program} {l : Launch} {e : Env} {R : Room} {s : State} {m : MethodId} {args : Array Value} {below : List Frame} {meth : Method} {c : Code} {T : State} {locs : List Loc} {cells slots : Nat} (X : Stand p l e R s m args below meth c T locs cells slots) (hexec : p.tables.exec = Jvm.exec) {own : String} {index : Nat} {v : UInt32} (hown : s.vm.findClass own = some m.cls)
    (hconst : (Cond.constantFloat own index v).before args s = true) {g : JFrame} (hg : g.method = m) (hdg : decode c.code g.pc = .ok (.ldc_w index, 3)) :
    ∀ target, Steps p.tables e below (T.setTop { g with pc := g.pc + 3, stack := .float v :: g.stack }) target → Steps p.tables e below (T.setTop g) target := by
  obtain ⟨k, cf, hk, hcf, hcp⟩ := Cond.constantFloat_spec hown hconst
  obtain ⟨k', hk', he⟩ := X.warmed.alike.2.2 _ _ hk
  intro target hrest
  subst hg
  jvm_step X.here [hexec, hdg, ldc_w.wp_float (s := T) (f := g) X.here.top hk' (by rw [he]; exact hcf) hcp]
  exact hrest
theorem e_ldcwF {p : Program} {l : Launch} {e : Env} {R : Room} {s : State} {m : MethodId} {args : Array Value} {below : List Frame} {meth : Method} {c : Code} {H : Heap} {locs : List Loc} {cells slots : Nat} {Q : State → Prop} {cc : ByteArray} {pc : Nat} {ls : Array Slot} {rest : List Value} (hexec : p.tables.exec = Jvm.exec) (hb : c.code = cc) {own : String} {index : Nat} {v : UInt32} (hown : s.vm.findClass own = some m.cls) (hconst : (Cond.constantFloat own index v).before args s = true) (hdg : decode cc pc = .ok (.ldc_w index, 3))
    (k : W p l e R s m args below meth c H locs cells slots Q (F0 m (pc + 3) ls (.float v :: rest))) : W p l e R s m args below meth c H locs cells slots Q (F0 m pc ls rest) := by
  intro T hT X
  obtain ⟨t, a, b⟩ := k T hT X
  exact ⟨t, e_ldcwF0 X hexec hown hconst (g := F0 m pc ls rest) rfl (by rw [hb]; exact hdg) t a, b⟩
def v_const (d : e_D) (own : String) (t v h pc nx : Nat) : Bool := match t, d with
  | 0, .ok (.iconst k, 1) => decide (Int32.ofInt k = e_i v) && Nat.beq nx (pc + 1)
  | 0, .ok (.bipush k, 2) => decide ((Int8.ofInt k).toInt32 = e_i v) && Nat.beq nx (pc + 2)
  | 0, .ok (.sipush k, 3) => decide ((Int16.ofInt k).toInt32 = e_i v) && Nat.beq nx (pc + 3)
  | 1, .ok (.lconst k, 1) => decide (Int64.ofNat k.val = e_l v) && Nat.beq nx (pc + 1)
  | 7, .ok (.dconst 0, 1) => decide (UInt64.ofNat v = FP.dconst0) && Nat.beq nx (pc + 1)
  | 3, .ok (.aconst_null, 1) => Nat.beq nx (pc + 1)
  | 0, .ok (.ldc k, 2) => e_has h (.constant own k (e_i v)) && Nat.beq nx (pc + 2)
  | 0, .ok (.ldc_w k, 3) => e_has h (.constant own k (e_i v)) && Nat.beq nx (pc + 3)
  | 1, .ok (.ldc2_w k, 3) => e_has h (.constantLong own k (e_l v)) && Nat.beq nx (pc + 3)
  | 6, .ok (.ldc_w k, 3) => e_has h (.constantFloat own k (UInt32.ofNat v)) && Nat.beq nx (pc + 3)
  | _, _ => false
theorem s_const (IH : e_P rho ta b L n0 D l n) {hh : Nat} (hv : v_const (decode (e_byt I.1) e.1) (e_own I.1) e.2.2.1 e.2.2.2.1 hh e.1 (e_hpc tl) = true) (h : h_const (e_acc n) e tl I loc stk fs w iv = true) : e_GG rho ta b L n0 D l (n + 1) I (e :: tl) loc stk fs w iv := by
  intro N p e' R s m args below meth c H locs ws tys cst ls ads0 hN hF hW hS hL hI hK hA
  have h : e_acc n I tl loc ((e.2.2.1, e.2.2.2.1) :: stk) fs w iv = true := h
  have hx := hF.1
  have hb := hF.2.1
  have hown := hF.2.2.2.1
  have hts := hF.2.2.2.2.1
  show W p l e' R s m args below meth c H locs I.2.2.1 I.2.2.2.1 _ (F0 m e.1 ls cst)
  unfold v_const at hv
  split at hv
  · rename_i q1 q2
    obtain ⟨z1, z2⟩ := e_and2 hv
    exact lv_iconst hx hb q2 (of_decide_eq_true z1) (e_k IH h (by omega) hF hW ⟨_, _, rfl, by rw [q1]; exact rfl, hS⟩ hL hI (e_suf hK) hA (e_beq z2))
  · rename_i q1 q2
    obtain ⟨z1, z2⟩ := e_and2 hv
    exact lv_bipush hx hb q2 (of_decide_eq_true z1) (e_k IH h (by omega) hF hW ⟨_, _, rfl, by rw [q1]; exact rfl, hS⟩ hL hI (e_suf hK) hA (e_beq z2))
  · rename_i q1 q2
    obtain ⟨z1, z2⟩ := e_and2 hv
    exact lv_sipush hx hb q2 (of_decide_eq_true z1) (e_k IH h (by omega) hF hW ⟨_, _, rfl, by rw [q1]; exact rfl, hS⟩ hL hI (e_suf hK) hA (e_beq z2))
  · rename_i q1 q2
    obtain ⟨z1, z2⟩ := e_and2 hv
    exact lv_lconst hx hb q2 (of_decide_eq_true z1) (e_k IH h (by omega) hF hW ⟨_, _, rfl, by rw [q1]; exact rfl, hS⟩ hL hI (e_suf hK) hA (e_beq z2))
  · rename_i q1 q2
    obtain ⟨z1, z2⟩ := e_and2 hv
    have z1 := of_decide_eq_true z1
    exact lv_dconst0 hx hb q2 (e_k IH h (by omega) hF hW ⟨_, _, rfl, by rw [q1, ← z1]; exact rfl, hS⟩ hL hI (e_suf hK) hA (e_beq z2))
  · rename_i q1 q2
    exact lv_null hx hb q2 (e_k IH h (by omega) hF hW ⟨_, _, rfl, by rw [q1]; exact rfl, hS⟩ hL hI (e_suf hK) hA (e_beq hv))
  · rename_i q1 q2
    obtain ⟨z1, z2⟩ := e_and2 hv
    exact lv_ldc hx hb hown (hts _ (e_has_s z1)) q2 (e_k IH h (by omega) hF hW ⟨_, _, rfl, by rw [q1]; exact rfl, hS⟩ hL hI (e_suf hK) hA (e_beq z2))
  · rename_i q1 q2
    obtain ⟨z1, z2⟩ := e_and2 hv
    exact lv_ldcw hx hb hown (hts _ (e_has_s z1)) q2 (e_k IH h (by omega) hF hW ⟨_, _, rfl, by rw [q1]; exact rfl, hS⟩ hL hI (e_suf hK) hA (e_beq z2))
  · rename_i q1 q2
    obtain ⟨z1, z2⟩ := e_and2 hv
    exact lv_ldc2 hx hb hown (hts _ (e_has_s z1)) q2 (e_k IH h (by omega) hF hW ⟨_, _, rfl, by rw [q1]; exact rfl, hS⟩ hL hI (e_suf hK) hA (e_beq z2))
  · rename_i q1 q2
    obtain ⟨z1, z2⟩ := e_and2 hv
    exact e_ldcwF hx hb hown (hts _ (e_has_s z1)) q2 (e_k IH h (by omega) hF hW ⟨_, _, rfl, by rw [q1]; exact rfl, hS⟩ hL hI (e_suf hK) hA (e_beq z2))
  · cases hv
def v_goto (d : e_D) (pc tg : Nat) : Bool := match d with
  | .ok (.goto off, 3) => decide ((pc : Int) + off = (tg : Int))
  | _ => false
theorem s_goto (IH : e_P rho ta b L n0 D l n) (hv : v_goto (decode (e_byt I.1) e.1) e.1 (e_hpc (e_jmp I.2.1 tl e.2.2.2.2)) = true) (h : h_goto (e_acc n) e tl I loc stk fs w iv = true) : e_GG rho ta b L n0 D l (n + 1) I (e :: tl) loc stk fs w iv := by
  intro N p e' R s m args below meth c H locs ws tys cst ls ads0 hN hF hW hS hL hI hK hA
  have h : e_acc n I (e_jmp I.2.1 tl e.2.2.2.2) loc stk fs w iv = true := h
  have hpg : I.2.1 = e_pg I.1 := hF.2.2.2.2.2.2.2.2.2.1
  show W p l e' R s m args below meth c H locs I.2.2.1 I.2.2.2.1 _ (F0 m e.1 ls cst)
  unfold v_goto at hv
  split at hv
  · rename_i q2
    exact lv_goto hF.1 hF.2.1 q2 (of_decide_eq_true hv) (e_k IH h (by omega) hF hW hS hL hI (by rw [hpg]; exact e_sufj _ hK) hA rfl)
  · cases hv
def v_iinc (d : e_D) (nL a k pc nx : Nat) : Bool := match d with
  | .ok (.iinc i z, 3) => decide (i = a ∧ Int32.ofInt z = e_i k ∧ a < nL) && Nat.beq nx (pc + 3)
  | _ => false
theorem e_i_add (x y : Nat) : e_i (Nat.mod (Nat.add x y) 4294967296) = e_i x + e_i y := by
  show e_i ((x + y) % 4294967296) = _
  rw [e_i_mod]
  exact (nI_add x y).symm
theorem s_iinc (IH : e_P rho ta b L n0 D l n) (hv : v_iinc (decode (e_byt I.1) e.1) (e_bud I.1).2.2 e.2.2.1 e.2.2.2.1 e.1 (e_hpc tl) = true) (h : h_iinc (e_acc n) e tl I loc stk fs w iv = true) : e_GG rho ta b L n0 D l (n + 1) I (e :: tl) loc stk fs w iv := by
  intro N p e' R s m args below meth c H locs ws tys cst ls ads0 hN hF hW hS hL hI hK hA
  have h : e_con iv (e_nth loc e.2.2.1) (fun n' => e_acc n I tl (e_store loc e.2.2.1 (0, Nat.mod (Nat.add n' e.2.2.2.1) 4294967296)) stk fs w iv) (e_sp (e_acc n) (e :: tl) I loc stk fs w iv) = true := h
  have hne : (e_nth loc e.2.2.1).1 ≠ 99 := by
    intro z
    obtain ⟨t, k⟩ : e_V := e_nth loc e.2.2.1
    unfold e_con at h
    rw [z] at h
    cases h
  obtain ⟨lv, hlv, hlr⟩ := id hL
  obtain ⟨cv, hm, hvr⟩ := hlr _ hne
  rcases e_con_s hI hvr h with ⟨k, rfl, h⟩ | h
  · show W p l e' R s m args below meth c H locs I.2.2.1 I.2.2.2.1 _ (F0 m e.1 ls cst)
    unfold v_iinc at hv
    split at hv
    · rename_i q2
      obtain ⟨z1, z2⟩ := e_and2 hv
      obtain ⟨y1, y2, y3⟩ := of_decide_eq_true z1
      subst y1
      obtain ⟨j, hj⟩ := List.getElem?_of_mem hm
      refine lv_iinc (v := e_i (Nat.mod (Nat.add k e.2.2.2.1) 4294967296)) hF.1 hF.2.1 q2 hlv hj (by rw [y2, e_i_add]) y3 rfl (fun ls' hl' => ?_)
      exact e_k IH h (by omega) hF hW hS (e_LR.sto1 hlr rfl rfl hl') hI (e_suf hK) hA (e_beq z2)
    · cases hv
  · exact e_again IH (fun _ _ => h) N p e' R s m args below meth c H locs ws tys cst ls ads0 hN hF hW hS hL hI hK hA
end

section
variable {rho : Nat → Int32} {ta : Nat → Nat × Nat} {b L n0 : Nat} {D : va_G} {l : Launch} {n : Nat} {e : e_E} {tl : List e_E} {I : e_N} {loc stk : List e_V} {fs : List e_F} {w : e_W} {iv : e_I}
theorem e_q1_s {kk : e_V → List e_V → Bool} (h : e_q1 stk kk = true) : ∃ v st, stk = v :: st ∧ kk v st = true := by
  cases stk with
  | nil => cases h
  | cons v st => exact ⟨v, st, rfl, h⟩
theorem e_q2_s {kk : e_V → e_V → List e_V → Bool} (h : e_q2 stk kk = true) : ∃ v u st, stk = v :: u :: st ∧ kk v u st = true := by
  obtain ⟨v, st, rfl, h⟩ := e_q1_s h
  obtain ⟨u, s2, rfl, h⟩ := e_q1_s (show e_q1 st (fun u s2 => kk v u s2) = true from h)
  exact ⟨v, u, s2, rfl, h⟩
def v_store (d : e_D) (k a nL pc nx : Nat) : Bool := match k, d with
  | 0, .ok (.istore_n j, 1) => decide (j.val = a ∧ a < nL) && Nat.beq nx (pc + 1)
  | 0, .ok (.istore j, 2) => decide (j = a ∧ a < nL) && Nat.beq nx (pc + 2)
  | 1, .ok (.lstore_n j, 1) => decide (j.val = a ∧ a + 1 < nL) && Nat.beq nx (pc + 1)
  | 1, .ok (.lstore j, 2) => decide (j = a ∧ a + 1 < nL) && Nat.beq nx (pc + 2)
  | 2, .ok (.astore_n j, 1) => decide (j.val = a ∧ a < nL) && Nat.beq nx (pc + 1)
  | 2, .ok (.astore j, 2) => decide (j = a ∧ a < nL) && Nat.beq nx (pc + 2)
  | 4, .ok (.dstore j, 2) => decide (j = a ∧ a + 1 < nL) && Nat.beq nx (pc + 2)
  | _, _ => false
theorem e_cat2_0 {t : Nat} (h : e_is 0 t = true) : e_cat2 t = false := by
  rcases e_is_0 h with rfl | rfl <;> rfl
theorem e_cat2_2 {t : Nat} (h : e_is 2 t = true) : e_cat2 t = false := by
  rcases e_is_2 h with rfl | rfl | rfl | rfl | rfl | rfl <;> rfl
theorem s_store (IH : e_P rho ta b L n0 D l n) (hv : v_store (decode (e_byt I.1) e.1) e.2.2.2.1 e.2.2.1 (e_bud I.1).2.2 e.1 (e_hpc tl) = true) (h : h_store (e_acc n) e tl I loc stk fs w iv = true) : e_GG rho ta b L n0 D l (n + 1) I (e :: tl) loc stk fs w iv := by
  intro N p e' R s m args below meth c H locs ws tys cst ls ads0 hN hF hW hS hL hI hK hA
  obtain ⟨v, st, rfl, h⟩ := e_q1_s (show e_q1 stk (fun v st => cond (e_is e.2.2.2.1 v.1) (e_acc n I tl (e_store loc e.2.2.1 v) st fs w iv) false) = true from h)
  obtain ⟨hi, h⟩ := e_and h
  obtain ⟨cv, cst, rfl, hvr, hS⟩ := hS
  obtain ⟨lv, hlv, hlr⟩ := id hL
  have hx := hF.1
  have hb := hF.2.1
  show W p l e' R s m args below meth c H locs I.2.2.1 I.2.2.2.1 _ (F0 m e.1 ls (cv :: cst))
  unfold v_store at hv
  split at hv
  · rename_i q1 q2
    rw [q1] at hi
    obtain ⟨x, rfl⟩ := hvr.int hi
    obtain ⟨z1, z2⟩ := e_and2 hv
    obtain ⟨y1, y2⟩ := of_decide_eq_true z1
    exact lv_istore_n hx hb q2 y1 hlv y2 rfl (fun ls' hl' => e_k IH h (by omega) hF hW hS (e_LR.sto1 hlr hvr (e_cat2_0 hi) hl') hI (e_suf hK) hA (e_beq z2))
  · rename_i q1 q2
    rw [q1] at hi
    obtain ⟨x, rfl⟩ := hvr.int hi
    obtain ⟨z1, z2⟩ := e_and2 hv
    obtain ⟨y1, y2⟩ := of_decide_eq_true z1
    subst y1
    exact lv_istore hx hb q2 hlv y2 rfl (fun ls' hl' => e_k IH h (by omega) hF hW hS (e_LR.sto1 hlr hvr (e_cat2_0 hi) hl') hI (e_suf hK) hA (e_beq z2))
  · rename_i q1 q2
    rw [q1] at hi
    have e1 := hvr.long (e_is_1 hi)
    subst e1
    obtain ⟨z1, z2⟩ := e_and2 hv
    obtain ⟨y1, y2⟩ := of_decide_eq_true z1
    exact lv_lstore_n hx hb q2 y1 hlv y2 rfl (fun ls' hl' => e_k IH h (by omega) hF hW hS (e_LR.sto2 hlr hvr (by rw [e_is_1 hi]; rfl) hl') hI (e_suf hK) hA (e_beq z2))
  · rename_i q1 q2
    rw [q1] at hi
    have e1 := hvr.long (e_is_1 hi)
    subst e1
    obtain ⟨z1, z2⟩ := e_and2 hv
    obtain ⟨y1, y2⟩ := of_decide_eq_true z1
    subst y1
    exact lv_lstore hx hb q2 hlv y2 rfl (fun ls' hl' => e_k IH h (by omega) hF hW hS (e_LR.sto2 hlr hvr (by rw [e_is_1 hi]; rfl) hl') hI (e_suf hK) hA (e_beq z2))
  · rename_i q1 q2
    rw [q1] at hi
    obtain ⟨z1, z2⟩ := e_and2 hv
    obtain ⟨y1, y2⟩ := of_decide_eq_true z1
    rcases hvr.refs hi with ⟨x, rfl⟩ | rfl
    · exact lv_astore_n hx hb q2 y1 hlv y2 rfl (fun ls' hl' => e_k IH h (by omega) hF hW hS (e_LR.sto1 hlr hvr (e_cat2_2 hi) hl') hI (e_suf hK) hA (e_beq z2))
    · exact lv_astore_nN hx hb q2 y1 hlv y2 rfl (fun ls' hl' => e_k IH h (by omega) hF hW hS (e_LR.sto1 hlr hvr (e_cat2_2 hi) hl') hI (e_suf hK) hA (e_beq z2))
  · rename_i q1 q2
    rw [q1] at hi
    obtain ⟨z1, z2⟩ := e_and2 hv
    obtain ⟨y1, y2⟩ := of_decide_eq_true z1
    subst y1
    rcases hvr.refs hi with ⟨x, rfl⟩ | rfl
    · exact lv_astore hx hb q2 hlv y2 rfl (fun ls' hl' => e_k IH h (by omega) hF hW hS (e_LR.sto1 hlr hvr (e_cat2_2 hi) hl') hI (e_suf hK) hA (e_beq z2))
    · exact lv_astoreN hx hb q2 hlv y2 rfl (fun ls' hl' => e_k IH h (by omega) hF hW hS (e_LR.sto1 hlr hvr (e_cat2_2 hi) hl') hI (e_suf hK) hA (e_beq z2))
  · rename_i q1 q2
    rw [q1] at hi
    have e1 := hvr.double (e_is_4 hi)
    subst e1
    obtain ⟨z1, z2⟩ := e_and2 hv
    obtain ⟨y1, y2⟩ := of_decide_eq_true z1
    subst y1
    exact lv_dstore hx hb q2 hlv y2 rfl (fun ls' hl' => e_k IH h (by omega) hF hW hS (e_LR.sto2 hlr hvr (by rw [e_is_4 hi]; rfl) hl') hI (e_suf hK) hA (e_beq z2))
  · cases hv
def e_ic (cc : Nat) (k : Jvm.ClassFile.Cond) : Bool := match cc, k with
  | 0, .eq => true
  | 1, .ne => true
  | 2, .lt => true
  | 3, .ge => true
  | 4, .gt => true
  | 5, .le => true
  | _, _ => false
def v_if (d : e_D) (cc pc tg nx : Nat) : Bool := match d with
  | .ok (.ifCond k off, 3) => e_ic cc k && (decide ((pc : Int) + off = (tg : Int)) && Nat.beq nx (pc + 3))
  | _ => false
def v_icmp (d : e_D) (cc pc tg nx : Nat) : Bool := match d with
  | .ok (.if_icmp k off, 3) => e_ic cc k && (decide ((pc : Int) + off = (tg : Int)) && Nat.beq nx (pc + 3))
  | _ => false
theorem e_nlt {x y : Int32} : ¬ x < y ↔ y ≤ x := Int32.not_lt
section
variable {p : Program} {e' : Env} {R : Room} {s : State} {m : MethodId} {args : Array Value} {below : List Frame} {meth : Method} {c : Code} {H : Heap} {locs : List Loc} {cells slots : Nat} {Q : State → Prop} {cc : ByteArray} {pc : Nat} {ls : Array Slot} {rest : List Value}
/-- the six comparisons as one -/
theorem e_icmp_row (hx : p.tables.exec = Jvm.exec) (hb : c.code = cc) {k : Nat} {kc : Jvm.ClassFile.Cond} {x y : Int32} {off : Int} {tgt : Nat} (hk : e_ic k kc = true) (hdg : decode cc pc = .ok (.if_icmp kc off, 3)) (ht : (pc : Int) + off = (tgt : Int)) (kt : e_cc k x y → W p l e' R s m args below meth c H locs cells slots Q (F0 m tgt ls rest)) (kf : ¬ e_cc k x y → W p l e' R s m args below meth c H locs cells slots Q (F0 m (pc + 3) ls rest)) : W p l e' R s m args below meth c H locs cells slots Q (F0 m pc ls (.int y :: .int x :: rest)) := by
  unfold e_ic at hk
  split at hk
  · exact lv_icmp_eq hx hb hdg ht kt kf
  · exact lv_icmp_ne hx hb hdg ht kt (fun h => kf (fun z => z h))
  · exact lv_icmp_lt hx hb hdg ht kt kf
  · exact lv_icmp_ge hx hb hdg ht (fun h => kt (e_nlt.mpr h)) (fun h => kf (fun z => h (e_nlt.mp z)))
  · exact lv_icmp_gt hx hb hdg ht kt kf
  · exact lv_icmp_le hx hb hdg ht (fun h => kt (e_nlt.mpr h)) (fun h => kf (fun z => h (e_nlt.mp z)))
  · cases hk
theorem e_if_row (hx : p.tables.exec = Jvm.exec) (hb : c.code = cc) {k : Nat} {kc : Jvm.ClassFile.Cond} {x : Int32} {off : Int} {tgt : Nat} (hk : e_ic k kc = true) (hdg : decode cc pc = .ok (.ifCond kc off, 3)) (ht : (pc : Int) + off = (tgt : Int)) (kt : e_cc k x 0 → W p l e' R s m args below meth c H locs cells slots Q (F0 m tgt ls rest)) (kf : ¬ e_cc k x 0 → W p l e' R s m args below meth c H locs cells slots Q (F0 m (pc + 3) ls rest)) : W p l e' R s m args below meth c H locs cells slots Q (F0 m pc ls (.int x :: rest)) := by
  unfold e_ic at hk
  split at hk
  · exact lv_if_eq hx hb hdg ht kt kf
  · exact lv_if_ne hx hb hdg ht kt (fun h => kf (fun z => z h))
  · exact lv_if_lt hx hb hdg ht kt kf
  · exact lv_if_ge hx hb hdg ht (fun h => kt (e_nlt.mpr h)) (fun h => kf (fun z => h (e_nlt.mp z)))
  · exact lv_if_gt hx hb hdg ht kt kf
  · exact lv_if_le hx hb hdg ht (fun h => kt (e_nlt.mpr h)) (fun h => kf (fun z => h (e_nlt.mp z)))
  · cases hk
end
theorem s_if (IH : e_P rho ta b L n0 D l n) (hv : v_if (decode (e_byt I.1) e.1) e.2.2.1 e.1 (e_hpc (e_jmp I.2.1 tl e.2.2.2.2)) (e_hpc tl) = true) (h : h_if (e_acc n) e tl I loc stk fs w iv = true) : e_GG rho ta b L n0 D l (n + 1) I (e :: tl) loc stk fs w iv := by
  intro N p e' R s m args below meth c H locs ws tys cst ls ads0 hN hF hW hS hL hI hK hA
  obtain ⟨v, st, rfl, h⟩ := e_q1_s (show e_q1 stk (fun v st => e_cmp iv e.2.2.1 v (0, 0) (e_acc n I (e_jmp I.2.1 tl e.2.2.2.2) loc st fs w iv) (e_acc n I tl loc st fs w iv) (e_sp (e_acc n) (e :: tl) I loc stk fs w iv)) = true from h)
  obtain ⟨cv, cst', rfl, hvr, hS'⟩ := id hS
  have hpg : I.2.1 = e_pg I.1 := hF.2.2.2.2.2.2.2.2.2.1
  obtain ⟨x, y, rfl, hy, hh⟩ := e_cmp_s hI hvr (u := (0, 0)) (cw := .int 0) (show e_VR rho ta b L (e_ads ws) (0, 0) (.int 0) from rfl) h
  cases hy
  show W p l e' R s m args below meth c H locs I.2.2.1 I.2.2.2.1 _ (F0 m e.1 ls (.int x :: cst'))
  unfold v_if at hv
  split at hv
  · rename_i q2
    obtain ⟨z1, z2⟩ := e_and2 hv
    obtain ⟨z2, z3⟩ := e_and2 z2
    rcases hh with ⟨hc, h⟩ | ⟨hc, h⟩ | ⟨k, c', h⟩
    · exact e_if_row hF.1 hF.2.1 z1 q2 (of_decide_eq_true z2) (fun _ => e_k IH h (by omega) hF hW hS' hL hI (by rw [hpg]; exact e_sufj _ hK) hA rfl) (fun z => absurd hc z)
    · exact e_if_row hF.1 hF.2.1 z1 q2 (of_decide_eq_true z2) (fun z => absurd z hc) (fun _ => e_k IH h (by omega) hF hW hS' hL hI (e_suf hK) hA (e_beq z3))
    · exact e_again IH (fun _ _ => ⟨k, c', h⟩) N p e' R s m args below meth c H locs ws tys _ ls ads0 hN hF hW hS hL hI hK hA
  · cases hv
theorem s_icmp (IH : e_P rho ta b L n0 D l n) (hv : v_icmp (decode (e_byt I.1) e.1) e.2.2.1 e.1 (e_hpc (e_jmp I.2.1 tl e.2.2.2.2)) (e_hpc tl) = true) (h : h_icmp (e_acc n) e tl I loc stk fs w iv = true) : e_GG rho ta b L n0 D l (n + 1) I (e :: tl) loc stk fs w iv := by
  intro N p e' R s m args below meth c H locs ws tys cst ls ads0 hN hF hW hS hL hI hK hA
  obtain ⟨v, u, st, rfl, h⟩ := e_q2_s (show e_q2 stk (fun v u st => e_cmp iv e.2.2.1 u v (e_acc n I (e_jmp I.2.1 tl e.2.2.2.2) loc st fs w iv) (e_acc n I tl loc st fs w iv) (e_sp (e_acc n) (e :: tl) I loc stk fs w iv)) = true from h)
  obtain ⟨cv, _, rfl, hvr, cu, cst', rfl, hur, hS'⟩ := id hS
  have hpg : I.2.1 = e_pg I.1 := hF.2.2.2.2.2.2.2.2.2.1
  obtain ⟨x, y, rfl, rfl, hh⟩ := e_cmp_s hI hur hvr h
  show W p l e' R s m args below meth c H locs I.2.2.1 I.2.2.2.1 _ (F0 m e.1 ls (.int y :: .int x :: cst'))
  unfold v_icmp at hv
  split at hv
  · rename_i q2
    obtain ⟨z1, z2⟩ := e_and2 hv
    obtain ⟨z2, z3⟩ := e_and2 z2
    rcases hh with ⟨hc, h⟩ | ⟨hc, h⟩ | ⟨k, c', h⟩
    · exact e_icmp_row hF.1 hF.2.1 z1 q2 (of_decide_eq_true z2) (fun _ => e_k IH h (by omega) hF hW hS' hL hI (by rw [hpg]; exact e_sufj _ hK) hA rfl) (fun z => absurd hc z)
    · exact e_icmp_row hF.1 hF.2.1 z1 q2 (of_decide_eq_true z2) (fun z => absurd z hc) (fun _ => e_k IH h (by omega) hF hW hS' hL hI (e_suf hK) hA (e_beq z3))
    · exact e_again IH (fun _ _ => ⟨k, c', h⟩) N p e' R s m args below meth c H locs ws tys _ ls ads0 hN hF hW hS hL hI hK hA
  · cases hv
end

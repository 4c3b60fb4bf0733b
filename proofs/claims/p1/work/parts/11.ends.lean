/-! ENDS OF METHODS: returns and throws. -/
section
variable {rho : Nat → Int32} {ta : Nat → Nat × Nat} {b L n0 : Nat} {D : va_G} {l : Launch} {n : Nat} {e : e_E} {tl : List e_E} {I : e_N} {loc stk : List e_V} {fs : List e_F} {w : e_W} {iv : e_I} {tys : List (ClassId × FieldType)} {ws : va_W}
theorem e_ret_s {N : Nat} {rv : List e_V} {ov : Option Value} {s t : State} {H : Heap} {locs : List Loc} {ads0 : List Nat} {args : Array Value} (hn : n ≤ N) (h : e_res (e_acc n) rv fs w iv = true) (hI : e_IV rho iv) (hW : e_WH rho ta b L n0 D s H locs ws tys w) (ho : e_OR rho ta b L (e_ads ws) rv ov) (hA : ads0 <+: e_ads ws) (ht : t.heap = H) (hal : s.WarmedH t.vm) : e_Qc rho ta b L n0 D N fs ads0 args s (.returned ov) t := by
  obtain ⟨hK, hP, hD, hS, hR⟩ := hW
  exact ⟨n, rv, w, iv, ws, tys, ov, hn, h, hI, rfl, ho, hK.moved hal.alike, by rw [ht]; exact hP, hD, hR, hA, hS.F ht⟩
def v_retv (d : e_D) (ret : Option FieldType) : Bool := match d, ret with
  | .ok (.return_, 1), none => true
  | _, _ => false
theorem s_retv (hv : v_retv (decode (e_byt I.1) e.1) (e_ret I.1) = true) (h : h_retv (e_acc n) e tl I loc stk fs w iv = true) : e_GG rho ta b L n0 D l (n + 1) I (e :: tl) loc stk fs w iv := by
  intro N p e' R s m args below meth c H locs ws tys cst ls ads0 hN hF hW hS hL hI hK hA
  show W p l e' R s m args below meth c H locs I.2.2.1 I.2.2.2.1 _ (F0 m e.1 ls cst)
  cases stk with
  | cons v st => cases h
  | nil =>
    have h : e_res (e_acc n) [] fs w iv = true := h
    cases hS
    obtain ⟨a1, a2, a3, a4, a5, hlk, a7, a8, a9, a10, a11, a12, a13, a14, a15, a16, a17, a18⟩ := hF
    unfold v_retv at hv
    split at hv
    · rename_i q1 q2
      exact vx_ret (W.widen a16 a17 (W.vret a1 a2 (by rw [a7]; exact q2) (fun t ht hal => e_ret_s (by omega) h hI hW (Or.inl ⟨rfl, rfl⟩) hA ht hal) hW.2.2.2.1.2.2 q1 hlk))
    · cases hv
def v_ret (d : e_D) (k z : Nat) (ret : Option FieldType) : Bool := match k, d, ret with
  | 0, .ok (.ireturn, 1), some .int => true
  | 0, .ok (.ireturn, 1), some .boolean => Nat.beq z 1
  | 0, .ok (.ireturn, 1), some .byte => Nat.beq z 1
  | 0, .ok (.ireturn, 1), some .char => Nat.beq z 2
  | 1, .ok (.lreturn, 1), some .long => true
  | 2, .ok (.areturn, 1), some (.object _) => true
  | 2, .ok (.areturn, 1), some (.array _) => true
  | 3, .ok (.freturn, 1), some .float => true
  | 4, .ok (.dreturn, 1), some .double => true
  | _, _, _ => false
theorem e_nr_s {z : Nat} {v : e_V} {cv : Value} {ads : List Nat} (hz : z ≠ 0) (hv : e_VR rho ta b L ads v cv) (h : e_nr z v = true) : ∃ k, cv = .int (e_i k) ∧ k ≤ (if z = 1 then 1 else 65535) := by
  have h : cond (Nat.beq z 0) true (cond (Nat.beq v.1 0) (Nat.ble v.2 (cond (Nat.beq z 1) 1 65535)) false) = true := h
  rcases e_ite h with ⟨q, -⟩ | ⟨-, h⟩
  · exact absurd (e_beq q) hz
  obtain ⟨q, h⟩ := e_and h
  unfold e_VR at hv
  rw [e_beq q] at hv
  refine ⟨v.2, hv, ?_⟩
  have h := e_ble h
  cases q1 : Nat.beq z 1 with
  | true => rw [q1] at h; rw [if_pos (e_beq q1)]; exact h
  | false => rw [q1] at h; rw [if_neg (e_bne q1)]; exact h
theorem e_nchar {k : Nat} (h : k ≤ 65535) : narrow .char (.int (e_i k)) = .int (e_i k) := by
  show Value.int (vp_nar .char (e_i k)) = _
  rw [vp_nar_char]
  congr 1
  apply Int32.toBitVec_inj.mp
  apply BitVec.eq_of_toNat_eq
  show ((e_i k).toBitVec.toNat % 65536) = _
  rw [e_i_nat]
  omega
theorem s_ret (hv : v_ret (decode (e_byt I.1) e.1) e.2.2.1 e.2.2.2.1 (e_ret I.1) = true) (h : h_ret (e_acc n) e tl I loc stk fs w iv = true) : e_GG rho ta b L n0 D l (n + 1) I (e :: tl) loc stk fs w iv := by
  intro N p e' R s m args below meth c H locs ws tys cst ls ads0 hN hF hW hS hL hI hK hA
  obtain ⟨v, st, rfl, h⟩ := e_q1_s (show e_q1 stk (fun v st => cond (cond (e_is e.2.2.1 v.1) (e_nr e.2.2.2.1 v) false) (List.rec (motive := fun _ => Bool) (e_res (e_acc n) [v] fs w iv) (fun _ _ _ => false) st) false) = true from h)
  obtain ⟨cv, cst', rfl, hvr, hS⟩ := hS
  obtain ⟨q, h⟩ := e_and h
  obtain ⟨y1, y2⟩ := e_and q
  cases st with
  | cons _ _ => cases h
  | nil =>
    have h : e_res (e_acc n) [v] fs w iv = true := h
    cases hS
    show W p l e' R s m args below meth c H locs I.2.2.1 I.2.2.2.1 _ (F0 m e.1 ls [cv])
    obtain ⟨a1, a2, a3, a4, a5, hlk, a7, a8, a9, a10, a11, a12, a13, a14, a15, a16, a17, a18⟩ := hF
    have fin : ∀ t : State, t.heap = H → s.WarmedH t.vm → e_Qc rho ta b L n0 D N fs ads0 args s (.returned (some cv)) t := fun t ht hal => e_ret_s (by omega) h hI hW (Or.inr ⟨v, cv, rfl, rfl, hvr⟩) hA ht hal
    have hf : ∀ q ∈ locs, n0 ≤ q.base := hW.2.2.2.1.2.2
    refine vx_ret (W.widen a16 a17 ?_)
    unfold v_ret at hv
    split at hv
    · rename_i q1 q2 q3
      rw [q1] at y1
      obtain ⟨x, rfl⟩ := hvr.int y1
      exact W.iret a1 a2 (by rw [a7]; exact q3) fin hf q2 hlk
    · rename_i q1 q2 q3
      have hz := e_beq hv
      obtain ⟨k, rfl, hk⟩ := e_nr_s (by omega) hvr y2
      rw [if_pos hz] at hk
      have hk : k = 0 ∨ k = 1 := by omega
      exact W.zret (ty := .boolean) a1 a2 (by rw [a7]; exact q3) (by rcases hk with rfl | rfl <;> decide) fin hf q2 hlk
    · rename_i q1 q2 q3
      have hz := e_beq hv
      obtain ⟨k, rfl, hk⟩ := e_nr_s (by omega) hvr y2
      rw [if_pos hz] at hk
      have hk : k = 0 ∨ k = 1 := by omega
      exact W.zret (ty := .byte) a1 a2 (by rw [a7]; exact q3) (by rcases hk with rfl | rfl <;> decide) fin hf q2 hlk
    · rename_i q1 q2 q3
      have hz := e_beq hv
      obtain ⟨k, rfl, hk⟩ := e_nr_s (by omega) hvr y2
      rw [if_neg (by omega)] at hk
      exact W.zret (ty := .char) a1 a2 (by rw [a7]; exact q3) (e_nchar hk) fin hf q2 hlk
    · rename_i q1 q2 q3
      rw [q1] at y1
      have := hvr.long (e_is_1 y1)
      subst this
      exact W.lret a1 a2 (by rw [a7]; exact q3) fin hf q2 hlk
    · rename_i q1 q2 q3
      rw [q1] at y1
      exact W.aret a1 a2 (by rw [a7]; exact q3) (Or.inl ⟨_, rfl⟩) (hvr.refs y1).symm fin hf q2 hlk
    · rename_i q1 q2 q3
      rw [q1] at y1
      exact W.aret a1 a2 (by rw [a7]; exact q3) (Or.inr ⟨_, rfl⟩) (hvr.refs y1).symm fin hf q2 hlk
    · rename_i q1 q2 q3
      rw [q1] at y1
      have := hvr.float (e_is_3 y1)
      subst this
      exact W.fret a1 a2 (by rw [a7]; exact q3) fin hf q2 hlk
    · rename_i q1 q2 q3
      rw [q1] at y1
      have := hvr.double (e_is_4 y1)
      subst this
      exact W.dret a1 a2 (by rw [a7]; exact q3) fin hf q2 hlk
    · cases hv
def e_sup : List String := ["java/lang/RuntimeException", "java/lang/Exception"]
def e_hasL : List Nat → List Cond → Bool
  | _, [] => true
  | h :: hs, w :: ws => (e_has h w || e_hasH h w) && e_hasL hs ws
  | [], _ :: _ => false
theorem e_hasL_s : ∀ (ws : List Cond) (hs : List Nat), e_hasL hs ws = true → ∀ w ∈ ws, w ∈ e_gw ∨ w ∈ e_hot
  | [], _, _, w, hw => by cases hw
  | u :: us, [], h, _, _ => by cases h
  | u :: us, k :: ks, h, w, hw => by
    obtain ⟨h1, h2⟩ := e_and2 (show ((e_has k u || e_hasH k u) && e_hasL ks us) = true from h)
    rcases List.mem_cons.mp hw with rfl | hw
    · rcases e_or2 h1 with q | q
      · exact Or.inl (e_has_s q)
      · exact Or.inr (e_hasH_s q)
    · exact e_hasL_s us ks h2 w hw
def v_throwC (own : String) (hh : List (Nat × Nat × Nat × Nat)) (k ik is ic pa : Nat) (h1 h2 h3 : Nat) (hs : List Nat) : Bool :=
  decide (k < 4) && (e_has h1 (.classLink own ik (e_ex k)) && (e_has h2 (.initialized (e_ex k)) && (e_hasL hs (vx_atS own ic (e_ex k) e_sup) && ((tableOf hh).all (fun x => !covers x pa) &&
    ((match e_srs[h3]? with | some q => decide (q.1 = own ∧ q.2.1 = is) | none => false) && (Bundle.fit (e_ex k) && (Cond.classLink own ik (e_ex k) :: Cond.initialized (e_ex k) :: vx_atS own ic (e_ex k) e_sup).all vx_ot))))))
def v_throw (bs : ByteArray) (own : String) (hh : List (Nat × Nat × Nat × Nat)) (k pc : Nat) (h1 h2 h3 : Nat) (hs : List Nat) : Bool := match decode bs pc, decode bs (pc + 3), decode bs (pc + 4) with
  | .ok (.new ik, 3), .ok (.dup, 1), .ok (.ldc is, 2) => (match decode bs (pc + 6), decode bs (pc + 9) with
    | .ok (.invokespecial ic, 3), .ok (.athrow, 1) => v_throwC own hh k ik is ic (pc + 9) h1 h2 h3 hs
    | _, _ => false)
  | .ok (.new ik, 3), .ok (.dup, 1), .ok (.ldc_w is, 3) => (match decode bs (pc + 7), decode bs (pc + 10) with
    | .ok (.invokespecial ic, 3), .ok (.athrow, 1) => v_throwC own hh k ik is ic (pc + 10) h1 h2 h3 hs
    | _, _ => false)
  | _, _, _ => false
theorem s_throw {h1 h2 h3 : Nat} {hs : List Nat} (hv : v_throw (e_byt I.1) (e_own I.1) (e_hh I.1) e.2.2.1 e.1 h1 h2 h3 hs = true) (h : h_throw (e_acc n) e tl I loc stk fs w iv = true) : e_GG rho ta b L n0 D l (n + 1) I (e :: tl) loc stk fs w iv := by
  intro N p e' R s m args below meth c H locs ws tys cst ls ads0 hN hF hW hS hL hI hK hA
  obtain ⟨q8, h⟩ := e_and (show cond (Nat.ble (e_cs stk) 8) (e_rm I 6 (fun _ => e_unw (e_acc n) e.2.2.1 fs w iv)) false = true from h)
  have q8 := e_ble q8
  obtain ⟨r1, r2, h⟩ := e_rm_s h
  have hsum := e_cs_s hS
  obtain ⟨lv, hlv, -⟩ := id hL
  obtain ⟨hK0, hP, hD, hSS, hWR⟩ := id hW
  obtain ⟨k1, k2, k3, k4, k5, k6, k7⟩ := hF.rooms
  obtain ⟨a1, a2, a3, a4, a5, hlk, a7, a8, a9, a10, a11, a12, a13, a14, a15, a16, a17, a18⟩ := id hF
  show W p l e' R s m args below meth c H locs I.2.2.1 I.2.2.2.1 _ (F0 m e.1 ls cst)
  have hx : e.2.2.1 < 4 → ∀ t : State, s.vm.Alike t.vm → H.size ≤ t.heap.size → (∀ q : Nat, q < H.size → t.heap[q]? = H[q]?) → e_XC rho ta b L n0 D N fs ads0 (e_ex e.2.2.1) s t := by
    intro hk t hal hsz hq
    refine ⟨n, e.2.2.1, w, iv, ws, tys, by omega, rfl, hk, h, hI, hK0.moved hal, hP.kept (fun k q hk => hq _ (vx_lt hP hk)), hD, hWR, hA, ⟨Nat.le_trans hSS.1 hsz, fun q h1 h2 => ?_⟩⟩
    rw [hq q (Nat.lt_of_lt_of_le h1 hSS.1)]
    exact hSS.2.1 q h1 h2
  have hC : ∀ ik is ic pa, v_throwC (e_own I.1) (e_hh I.1) e.2.2.1 ik is ic pa h1 h2 h3 hs = true → e.2.2.1 < 4 ∧ (Cond.classLink (e_own I.1) ik (e_ex e.2.2.1)).before args s = true ∧ (Cond.initialized (e_ex e.2.2.1)).before args s = true ∧ (∀ w ∈ vx_atS (e_own I.1) ic (e_ex e.2.2.1) e_sup, w.before args s = true) ∧ (∀ x ∈ c.exceptionTable.toList, covers x pa = false) ∧
      (∃ q sa, vk_R (e_own I.1) is q sa s) ∧ Bundle.fit (e_ex e.2.2.1) = true ∧ (∀ w ∈ Cond.classLink (e_own I.1) ik (e_ex e.2.2.1) :: Cond.initialized (e_ex e.2.2.1) :: vx_atS (e_own I.1) ic (e_ex e.2.2.1) e_sup, vx_ot w = true) := by
    intro ik is ic pa hv
    obtain ⟨z1, hv⟩ := e_and2 hv
    obtain ⟨z2, hv⟩ := e_and2 hv
    obtain ⟨z3, hv⟩ := e_and2 hv
    obtain ⟨z4, hv⟩ := e_and2 hv
    obtain ⟨z5, hv⟩ := e_and2 hv
    obtain ⟨z6, hv⟩ := e_and2 hv
    obtain ⟨z7, z8⟩ := e_and2 hv
    refine ⟨of_decide_eq_true z1, a5 _ (e_has_s z2), a5 _ (e_has_s z3), fun w hw => ?_, fun x hx => ?_, ?_, z7, fun w hw => List.all_eq_true.mp z8 w hw⟩
    · rcases e_hasL_s _ _ z4 w hw with q | q
      · exact a5 _ q
      · exact k7.use q args
    · rw [a9] at hx
      have := List.all_eq_true.mp z5 x hx
      cases q : covers x pa with
      | true => rw [q] at this; cases this
      | false => rfl
    · split at z6
      · rename_i q hq
        obtain ⟨e1, e2⟩ := of_decide_eq_true z6
        have hsa := (k7.2.2.2.1 _ q hq).1
        rw [e1, e2] at hsa
        exact ⟨_, _, hsa⟩
      · cases z6
  have hnm : ∀ n ∈ e_sup, Bundle.fit n = true := by decide +kernel
  unfold v_throw at hv
  split at hv
  · rename_i d0 d3 d4
    split at hv
    · rename_i d6 d9
      obtain ⟨c1, c2, c3, c4, c5, ⟨q, sa, c6⟩, c7, c8⟩ := hC _ _ _ _ hv
      exact vx_throwS a1 a2 k6 a4 c7 hnm c2 c3 c6 c4 c8 k7.2.1 k7.2.2.1 hSS (by rw [a3]; exact hlv.1) d0 d3 d4 d6 d9 c5 (by show 2 + 3 < R.frames; omega) (by rw [hsum]; show _ + (13 * (2 + 1) + 43) ≤ _; omega) (by omega) (by omega) hlk (hx c1) hSS.2.2 r1 r2
    · cases hv
  · rename_i d0 d3 d4
    split at hv
    · rename_i d6 d9
      obtain ⟨c1, c2, c3, c4, c5, ⟨q, sa, c6⟩, c7, c8⟩ := hC _ _ _ _ hv
      exact vx_throwSW a1 a2 k6 a4 c7 hnm c2 c3 c6 c4 c8 k7.2.1 k7.2.2.1 hSS (by rw [a3]; exact hlv.1) d0 d3 d4 d6 d9 c5 (by show 2 + 3 < R.frames; omega) (by rw [hsum]; show _ + (13 * (2 + 1) + 43) ≤ _; omega) (by omega) (by omega) hlk (hx c1) hSS.2.2 r1 r2
    · cases hv
  · cases hv
end

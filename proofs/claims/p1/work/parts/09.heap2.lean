/-! NEW CELLS, rows of numbers. -/
section
variable {rho : Nat → Int32} {ta : Nat → Nat × Nat} {b L n0 : Nat} {D : va_G} {l : Launch} {n : Nat} {e : e_E} {tl : List e_E} {I : e_N} {loc stk : List e_V} {fs : List e_F} {w : e_W} {iv : e_I} {tys : List (ClassId × FieldType)} {ws : va_W}
theorem e_rm_s {k : Nat} {kk : e_N → Bool} (h : e_rm I k kk = true) : I.2.2.1 + 1 ≤ (e_bud I.1).1 ∧ I.2.2.2.1 + k ≤ (e_bud I.1).2.1 ∧ kk (I.1, I.2.1, Nat.succ I.2.2.1, Nat.add I.2.2.2.1 k, I.2.2.2.2) = true := by
  obtain ⟨h1, h⟩ := e_and h
  obtain ⟨h2, h⟩ := e_and h
  exact ⟨e_ble h1, e_ble h2, h⟩
theorem e_FC.room {p : Program} {R : Room} {s : State} {m : MethodId} {args : Array Value} {meth : Method} {c : Code} {k j : Nat} (h : e_FC rho ta b L I n0 p l R s m args meth c) (h1 : k ≤ (e_bud I.1).1) (h2 : j ≤ (e_bud I.1).2.1) : e_FC rho ta b L (I.1, I.2.1, k, j, I.2.2.2.2) n0 p l R s m args meth c := by
  obtain ⟨a1, a2, a3, a4, a5, a6, a7, a8, a9, a10, a11, a12, a13, a14, a15, a16, a17, a18⟩ := h
  exact ⟨a1, a2, a3, a4, a5, a6, a7, a8, a9, a10, a11, a12, a13, a14, a15, h1, h2, a18⟩
theorem e_FC.rooms {p : Program} {R : Room} {s : State} {m : MethodId} {args : Array Value} {meth : Method} {c : Code} (h : e_FC rho ta b L I n0 p l R s m args meth c) : (e_bud I.1).1 ≤ R.cells ∧ (e_bud I.1).2.1 ≤ R.slots ∧ I.2.2.2.2 + 8 ≤ R.frames ∧ 60 * I.2.2.2.2 + 400 ≤ R.locals ∧ n0 ≤ s.heap.size ∧ l.stackTraces = false ∧ e_GS rho ta b L (fun q => n0 ≤ q) s s.heap := by
  obtain ⟨a1, a2, a3, a4, a5, a6, a7, a8, a9, a10, a11, a12, a13, a14, a15, a16, a17, a18, a19, a20⟩ := h
  exact ⟨a12, a13, a14, a15, a18, a19, a20⟩
def v_new (d : e_D) (own : String) (ci k h pc nx : Nat) : Bool := match d with
  | .ok (.new i, 3) => decide (ci < e_nc ∧ k = e_nf ci) && (e_has h (.classLink own i (e_cn ci)) && Nat.beq nx (pc + 3))
  | _ => false
theorem s_new (hCO : e_CO) (IH : e_P rho ta b L n0 D l n) {hh : Nat} (hv : v_new (decode (e_byt I.1) e.1) (e_own I.1) e.2.2.1 e.2.2.2.1 hh e.1 (e_hpc tl) = true) (h : h_new (e_acc n) e tl I loc stk fs w iv = true) : e_GG rho ta b L n0 D l (n + 1) I (e :: tl) loc stk fs w iv := by
  intro N p e' R s m args below meth c H locs ws tys cst ls ads0 hN hF hW hS hL hI hK hA
  obtain ⟨r1, r2, h⟩ := e_rm_s h
  obtain ⟨r3, h⟩ := e_and h
  have r3 := e_ble r3
  obtain ⟨hK0, hP, hD, hSS, hWR⟩ := id hW
  obtain ⟨k1, k2, k3, k4, k5, k6, k7⟩ := hF.rooms
  have hts := hF.2.2.2.2.1
  have hown := hF.2.2.2.1
  show W p l e' R s m args below meth c H locs I.2.2.1 I.2.2.2.1 _ (F0 m e.1 ls cst)
  unfold v_new at hv
  split at hv
  · rename_i idx g
    obtain ⟨z1, z2⟩ := e_and2 hv
    obtain ⟨z2, z3⟩ := e_and2 z2
    obtain ⟨y1, y2⟩ := of_decide_eq_true z1
    obtain ⟨co, co2, co3, co4, co5, co6⟩ := hCO _ y1
    refine va_new (ci := e.2.2.1) (fs := (List.range (e_nf e.2.2.1)).map (fun k => defaultValue (e_ty e.2.2.1 k))) hF.1 hF.2.1 hts co (e_ty e.2.2.1) co2 hown (hts _ (e_has_s z2)) (hts _ co4) (hts _ co5) hK0 hP hD hSS (fun q hq => Nat.le_trans k5 hq) (e_cl_at y1) (fun j hj => ?_) (by omega) (by omega) g (fun q H1 hP1 hD1 hS1 => ?_)
    · show _ = ((List.range (e_nf e.2.2.1)).map (fun k => defaultValue (e_ty e.2.2.1 k))).getD j .null
      simp [hj]
    · have hWR2 : e_WR rho ta b L tys (ws ++ [(q, .inr (e.2.2.1, (List.range (e_nf e.2.2.1)).map (fun k => defaultValue (e_ty e.2.2.1 k))))]) (Nat.succ w.1, e_tset 9 w.2 w.1 (some (0, e.2.2.1, (99, 0), e_fl e.2.2.1))) := by
        refine hWR.push r3 (List.prefix_refl _) ⟨?_, Or.inl ⟨rfl, y1, _, rfl, by simp, fun k hk => ?_⟩⟩
        · have : e_nc ≤ 16777216 := Nat.le_of_ble_eq_true rfl
          show e.2.2.1 ≤ _
          omega
        · have hk : k < e_nf e.2.2.1 := hk
          refine ⟨defaultValue (e_ty e.2.2.1 k), by simp [hk], ?_⟩
          obtain ⟨f1, f2⟩ := co6 k hk
          show e_VR rho ta b L _ (e_get (e_fl e.2.2.1) k (99, 0)) _
          rw [f1]
          cases hty : e_ty e.2.2.1 k <;> first | exact rfl | (rw [hty] at f2; cases f2)
      have hp := e_ads_push (ws := ws) (a := q) (x := .inr (e.2.2.1, (List.range (e_nf e.2.2.1)).map (fun k => defaultValue (e_ty e.2.2.1 k))))
      have hF2 := hF.room (k := Nat.succ I.2.2.1) (j := Nat.add I.2.2.2.1 e.2.2.2.1) r1 r2
      have kk := e_k IH h (N := N) (e' := e') (below := below) (by omega) hF2 (cst := .ref q :: cst) ⟨hK0, hP1, hD1, hS1, hWR2⟩ ⟨_, _, rfl, ⟨q, by
        unfold e_ads
        rw [List.getElem?_map, List.getElem?_append_right (by rw [hWR.1]; exact Nat.le_refl _), hWR.1]
        show Option.map _ ([_][w.1 - w.1]?) = _
        rw [Nat.sub_self]
        rfl, rfl⟩, hS.mono hp⟩ (hL.mono hp) hI (e_suf hK) (hA.trans hp) (e_beq z3)
      rw [y2] at kk
      exact kk
  · cases hv
def v_newa (d : e_D) (own : String) (k h g pc nx : Nat) : Bool := match k, d with
  | 1, .ok (.newarray .int, 2) => e_has h (.arrayClass .int) && Nat.beq nx (pc + 2)
  | 2, .ok (.newarray .boolean, 2) => e_has h (.arrayClass .boolean) && Nat.beq nx (pc + 2)
  | 3, .ok (.newarray .long, 2) => e_has h (.arrayClass .long) && Nat.beq nx (pc + 2)
  | k + 4, .ok (.anewarray i, 3) => (e_has h (.classLink own i (e_cn k)) && e_hasH g (.arrayOver (.object (e_cn k)))) && Nat.beq nx (pc + 3)
  | _, _ => false
theorem e_top {q : Nat} {x : va_E} (hWR : e_WR rho ta b L tys ws w) : e_VR rho ta b L (e_ads (ws ++ [(q, x)])) (2, w.1) (.ref q) := by
  refine ⟨q, ?_, rfl⟩
  unfold e_ads
  rw [List.getElem?_map, List.getElem?_append_right (by rw [hWR.1]; exact Nat.le_refl _), hWR.1]
  show Option.map _ ([_][w.1 - w.1]?) = _
  rw [Nat.sub_self]
  rfl
theorem s_newa (IH : e_P rho ta b L n0 D l n) {hh gg : Nat} (hv : v_newa (decode (e_byt I.1) e.1) (e_own I.1) e.2.2.1 hh gg e.1 (e_hpc tl) = true) (h : h_newa (e_acc n) e tl I loc stk fs w iv = true) : e_GG rho ta b L n0 D l (n + 1) I (e :: tl) loc stk fs w iv := by
  intro N p e' R s m args below meth c H locs ws tys cst ls ads0 hN hF hW hS hL hI hK hA
  obtain ⟨v, st, rfl, h⟩ := e_q1_s (show e_q1 stk (fun v st => e_con iv v (fun n' => cond (Nat.ble n' 16777216) (e_rm I n' (fun I' => cond (Nat.ble w.1 511) (e_acc n I' tl loc ((2, w.1) :: st) fs (Nat.succ w.1, e_tset 9 w.2 w.1 (some (e.2.2.1, n', e_zero e.2.2.1, []))) iv) false)) false) (e_sp (e_acc n) (e :: tl) I loc stk fs w iv)) = true from h)
  obtain ⟨cv, cst', rfl, hvr, hS'⟩ := id hS
  rcases (e_con_s hI hvr h).symm with h | ⟨k, rfl, h⟩
  · exact e_again IH (fun _ _ => h) N p e' R s m args below meth c H locs ws tys _ ls ads0 hN hF hW hS hL hI hK hA
  obtain ⟨hk, h⟩ := e_and h
  have hk := e_ble hk
  obtain ⟨r1, r2, h⟩ := e_rm_s h
  obtain ⟨r3, h⟩ := e_and h
  have r3 := e_ble r3
  obtain ⟨hK0, hP, hD, hSS, hWR⟩ := id hW
  obtain ⟨k1, k2, k3, k4, k5, k6, k7⟩ := hF.rooms
  have hts := hF.2.2.2.2.1
  have hown := hF.2.2.2.1
  have hkn : ¬ e_i k < 0 := nI_pos (by omega)
  have hkc : (e_i k).toNatClampNeg = k := nI_clamp (by omega)
  have kk : ∀ (q : Nat) (cA : ClassId) (H1 : Heap) (ty : FieldType) (x : vp_A) (nx : Nat), e_hpc tl = nx → (∀ ads : List Nat, e_CR rho ta b L ads (tys ++ [(cA, ty)]) (e.2.2.1, k, e_zero e.2.2.1, []) (.inl (cA, x))) → va_K D e_cl (tys ++ [(cA, ty)]) s → va_P D e_cl (ws ++ [(q, .inl (cA, x))]) H1 → va_D (fun q => n0 ≤ q) (ws ++ [(q, .inl (cA, x))]) → va_S (fun q => n0 ≤ q) s.heap H1 locs →
      W p l e' R s m args below meth c H1 locs (I.2.2.1 + 1) (I.2.2.2.1 + k) (vx_MQ below (e_Qc rho ta b L n0 D N fs ads0) (e_XC rho ta b L n0 D N fs ads0) args s (e_bud I.1).1 (e_bud I.1).2.1 (fun q => n0 ≤ q)) (F0 m nx ls (.ref q :: cst')) := by
    intro q cA H1 ty x nx hnx hcr a1 a2 a3 a4
    have hp := e_ads_push (ws := ws) (a := q) (x := .inl (cA, x))
    have hF2 := hF.room (k := Nat.succ I.2.2.1) (j := Nat.add I.2.2.2.1 k) r1 r2
    exact e_k IH h (N := N) (e' := e') (below := below) (by omega) hF2 (cst := .ref q :: cst') ⟨a1, a2, a3, a4, hWR.push r3 ⟨_, rfl⟩ (hcr _)⟩ ⟨_, _, rfl, e_top hWR, hS'.mono hp⟩ (hL.mono hp) hI (e_suf hK) (hA.trans hp) hnx
  have ht : ∀ (q : ClassId × FieldType), (tys ++ [q])[tys.length]? = some q := fun q => by rw [List.getElem?_append_right (Nat.le_refl _), Nat.sub_self]; rfl
  show W p l e' R s m args below meth c H locs I.2.2.1 I.2.2.2.1 _ (F0 m e.1 ls (.int (e_i k) :: cst'))
  unfold v_newa at hv
  split at hv
  · rename_i q1 q2
    obtain ⟨z1, z2⟩ := e_and2 hv
    refine va_newa (N' := k) (ty := .int) (a0 := (k, .inl (fun _ => 0))) hF.1 hF.2.1 (hts _ (e_has_s z1)) rfl hK0 hP hD hSS (fun q hq => Nat.le_trans k5 hq) (fun _ => rfl) hkn hkc (by show k * 4 ≤ _; omega) (by omega) (by omega) q2 (fun q cA H1 a1 a2 a3 a4 => kk q cA H1 _ _ _ (e_beq z2) (fun ads => ?_) a1 a2 a3 a4)
    rw [q1]
    exact ⟨hk, Or.inr (Or.inl ⟨Or.inl rfl, cA, _, tys.length, rfl, ht _, fun j hj => rfl⟩)⟩
  · rename_i q1 q2
    obtain ⟨z1, z2⟩ := e_and2 hv
    refine va_newa (N' := k) (ty := .boolean) (a0 := (k, .inl (fun _ => 0))) hF.1 hF.2.1 (hts _ (e_has_s z1)) rfl hK0 hP hD hSS (fun q hq => Nat.le_trans k5 hq) (fun _ => rfl) hkn hkc (by show k * 1 ≤ _; omega) (by omega) (by omega) q2 (fun q cA H1 a1 a2 a3 a4 => kk q cA H1 _ _ _ (e_beq z2) (fun ads => ?_) a1 a2 a3 a4)
    rw [q1]
    exact ⟨hk, Or.inr (Or.inl ⟨Or.inr rfl, cA, _, tys.length, rfl, ht _, fun j hj => rfl⟩)⟩
  · rename_i q1 q2
    obtain ⟨z1, z2⟩ := e_and2 hv
    refine va_newa (N' := k) (ty := .long) (a0 := (k, .inr (.inl (fun _ => 0)))) hF.1 hF.2.1 (hts _ (e_has_s z1)) rfl hK0 hP hD hSS (fun q hq => Nat.le_trans k5 hq) (fun _ => rfl) hkn hkc (by show k * 8 ≤ _; omega) (by omega) (by omega) q2 (fun q cA H1 a1 a2 a3 a4 => kk q cA H1 _ _ _ (e_beq z2) (fun ads => ?_) a1 a2 a3 a4)
    rw [q1]
    exact ⟨hk, Or.inr (Or.inr (Or.inl ⟨rfl, cA, _, tys.length, rfl, ht _, fun j hj => rfl⟩))⟩
  · rename_i ci idx q1 q2
    obtain ⟨z1, z2⟩ := e_and2 hv
    obtain ⟨z1, z3⟩ := e_and2 z1
    refine va_newq (N' := k) (C := e_cn ci) hF.1 hF.2.1 hown (hts _ (e_has_s z1)) (k7.1 _ (e_hasH_s z3)) hK0 hP hD hSS (fun q hq => Nat.le_trans k5 hq) hkn hkc (by omega) (by omega) (by omega) q2 (fun q cA H1 a1 a2 a3 a4 => kk q cA H1 _ _ _ (e_beq z2) (fun ads => ?_) a1 a2 a3 a4)
    rw [q1]
    exact ⟨hk, Or.inr (Or.inr (Or.inr ⟨Nat.le_add_left 4 ci, cA, _, tys.length, rfl, ht _, fun j hj => rfl⟩))⟩
  · cases hv
theorem s_alen (IH : e_P rho ta b L n0 D l n) (hv : v_plain (decode (e_byt I.1) e.1) .arraylength e.1 (e_hpc tl) = true) (h : h_alen (e_acc n) e tl I loc stk fs w iv = true) : e_GG rho ta b L n0 D l (n + 1) I (e :: tl) loc stk fs w iv := by
  intro N p e' R s m args below meth c H locs ws tys cst ls ads0 hN hF hW hS hL hI hK hA
  obtain ⟨v, st, rfl, h⟩ := e_q1_s (show e_q1 stk (fun v st => cond (Nat.beq v.1 10) (e_acc n I tl loc ((0, v.2) :: st) fs w iv) (e_cell w v (fun c => cond (Nat.beq c.1 0) false (e_acc n I tl loc ((0, c.2.1) :: st) fs w iv)))) = true from h)
  obtain ⟨cv, cst', rfl, hvr, hS'⟩ := id hS
  obtain ⟨z1, z2⟩ := v_plain_s hv
  obtain ⟨hK0, hP, hD, hSS, hWR⟩ := id hW
  obtain ⟨k1, k2, k3, k4, k5, k6, k7⟩ := hF.rooms
  show W p l e' R s m args below meth c H locs I.2.2.1 I.2.2.2.1 _ (F0 m e.1 ls (cv :: cst'))
  rcases e_ite h with ⟨q, h⟩ | ⟨-, h⟩
  · have q := e_beq q
    unfold e_VR at hvr
    rw [q] at hvr
    obtain ⟨rfl, hl⟩ := hvr
    obtain ⟨-, -, -, -, gX, gb, gA, -⟩ := k7
    exact va_slen hF.1 hF.2.1 gX gb gA hSS z1 (e_k IH h (by omega) hF hW ⟨_, _, rfl, by rw [hl]; exact rfl, hS'⟩ hL hI (e_suf hK) hA z2)
  · obtain ⟨c1, a, x, hlt, g1, h, rfl, g2, g3⟩ := e_cell_s hWR hvr h
    obtain ⟨q, h⟩ := e_nand h
    have q := e_bne q
    have kk := e_k IH h (N := N) (e' := e') (below := below) (by omega) hF hW (cst := .int (Int32.ofNat c1.2.1) :: cst') ⟨_, _, rfl, rfl, hS'⟩ hL hI (e_suf hK) hA z2
    rcases g3 with ⟨-, ⟨q1, -⟩ | ⟨-, cA, f, t0, rfl, ht, -⟩ | ⟨-, cA, f, t0, rfl, ht, -⟩ | ⟨-, cA, f, t0, rfl, ht, -⟩⟩
    · exact absurd q1 q
    · exact va_alen hF.1 hF.2.1 hK0 hP _ _ g2 ht rfl z1 kk
    · exact va_alen hF.1 hF.2.1 hK0 hP _ _ g2 ht rfl z1 kk
    · exact va_alen hF.1 hF.2.1 hK0 hP _ _ g2 ht rfl z1 kk
def v_ald (d : e_D) (k pc nx : Nat) : Bool := match k, d with
  | 1, .ok (.iaload, 1) => Nat.beq nx (pc + 1)
  | 2, .ok (.baload, 1) => Nat.beq nx (pc + 1)
  | 3, .ok (.laload, 1) => Nat.beq nx (pc + 1)
  | _ + 4, .ok (.aaload, 1) => Nat.beq nx (pc + 1)
  | _, _ => false
theorem s_ald (hL6 : L ≤ 6) (IH : e_P rho ta b L n0 D l n) (hv : v_ald (decode (e_byt I.1) e.1) e.2.2.1 e.1 (e_hpc tl) = true) (h : h_ald (e_acc n) e tl I loc stk fs w iv = true) : e_GG rho ta b L n0 D l (n + 1) I (e :: tl) loc stk fs w iv := by
  intro N p e' R s m args below meth c H locs ws tys cst ls ads0 hN hF hW hS hL hI hK hA
  obtain ⟨v, u, st, rfl, h⟩ := e_q2_s (show e_q2 stk (fun v u st => e_con iv v (fun n' => cond (Nat.beq u.1 10) (cond (cond (Nat.beq e.2.2.1 1) (Nat.ble (Nat.succ n') u.2) false) (e_acc n I tl loc ((4, n') :: st) fs w iv) false)
    (e_cell w u (fun c => cond (Nat.beq c.1 e.2.2.1) (cond (Nat.ble (Nat.succ n') c.2.1) (Prod.rec (motive := fun _ => Bool) (fun t p => e_acc n I tl loc ((t, p) :: st) fs w iv) (e_get c.2.2.2 n' c.2.2.1)) false) false))) (e_sp (e_acc n) (e :: tl) I loc stk fs w iv)) = true from h)
  obtain ⟨cv, _, rfl, hvr, cu, cst', rfl, hur, hS'⟩ := id hS
  rcases (e_con_s hI hvr h).symm with h | ⟨k, rfl, h⟩
  · exact e_again IH (fun _ _ => h) N p e' R s m args below meth c H locs ws tys _ ls ads0 hN hF hW hS hL hI hK hA
  obtain ⟨hK0, hP, hD, hSS, hWR⟩ := id hW
  obtain ⟨k1, k2, k3, k4, k5, k6, k7⟩ := hF.rooms
  show W p l e' R s m args below meth c H locs I.2.2.1 I.2.2.2.1 _ (F0 m e.1 ls (.int (e_i k) :: cu :: cst'))
  rcases e_ite h with ⟨q, h⟩ | ⟨-, h⟩
  · have q := e_beq q
    obtain ⟨y, h⟩ := e_and h
    obtain ⟨y1, y2⟩ := e_and y
    have y1 := e_beq y1
    have y2 := e_ble y2
    unfold e_VR at hur
    rw [q] at hur
    obtain ⟨rfl, hl⟩ := hur
    obtain ⟨-, -, -, -, gX, gb, gA, -⟩ := k7
    have hkc : (e_i k).toNatClampNeg = k := nI_clamp (by omega)
    unfold v_ald at hv
    rw [y1] at hv
    split at hv
    · rename_i q1 q2
      refine va_sld hF.1 hF.2.1 gX gb gA hSS (nI_in (by omega) (by omega)) q2 (e_k IH h (by omega) hF hW ⟨_, _, rfl, ?_, hS'⟩ hL hI (e_suf hK) hA (e_beq hv))
      rw [hkc]
      exact rfl
    all_goals first | (rename_i q1 _; cases q1; done) | (rename_i q1 _ _; cases q1; done) | (rename_i q1; cases q1; done) | cases hv
  · obtain ⟨c1, a, x, hlt, g1, h, rfl, g2, g3⟩ := e_cell_s hWR hur h
    obtain ⟨y1, h⟩ := e_and h
    obtain ⟨y2, h⟩ := e_and h
    have y1 := e_beq y1
    have y2 := e_ble y2
    have h : e_acc n I tl loc (e_get c1.2.2.2 k c1.2.2.1 :: st) fs w iv = true := h
    obtain ⟨hl, g3⟩ := g3
    have hkc : (e_i k).toNatClampNeg = k := nI_clamp (by omega)
    have hin : vp_in (e_i k) c1.2.1 := nI_in (by omega) (by omega)
    have kk : ∀ cx, e_VR rho ta b L (e_ads ws) (e_get c1.2.2.2 k c1.2.2.1) cx → ∀ q, e_hpc tl = q → W p l e' R s m args below meth c H locs I.2.2.1 I.2.2.2.1 (vx_MQ below (e_Qc rho ta b L n0 D N fs ads0) (e_XC rho ta b L n0 D N fs ads0) args s (e_bud I.1).1 (e_bud I.1).2.1 (fun q => n0 ≤ q)) (F0 m q ls (cx :: cst')) := fun cx hx q hq =>
      e_k IH h (N := N) (e' := e') (below := below) (by omega) hF hW ⟨_, _, rfl, hx, hS'⟩ hL hI (e_suf hK) hA hq
    unfold v_ald at hv
    split at hv
    · rename_i q1 q2
      rcases g3 with ⟨z, -⟩ | ⟨z, cA, f, t0, rfl, ht, hf⟩ | ⟨z, -⟩ | ⟨z, -⟩
      · omega
      · rw [show e_ety c1.1 = .int by rw [y1, q1]; rfl] at ht
        exact va_iald hF.1 hF.2.1 hK0 hP _ _ g2 ht hin q2 (kk _ (by rw [hkc]; exact hf _ y2) _ (e_beq hv))
      · omega
      · omega
    · rename_i q1 q2
      rcases g3 with ⟨z, -⟩ | ⟨z, cA, f, t0, rfl, ht, hf⟩ | ⟨z, -⟩ | ⟨z, -⟩
      · omega
      · rw [show e_ety c1.1 = .boolean by rw [y1, q1]; rfl] at ht
        exact va_zald hF.1 hF.2.1 hK0 hP _ _ g2 ht hin q2 (kk _ (by rw [hkc]; exact hf _ y2) _ (e_beq hv))
      · omega
      · omega
    · rename_i q1 q2
      rcases g3 with ⟨z, -⟩ | ⟨z, -⟩ | ⟨z, cA, f, t0, rfl, ht, hf⟩ | ⟨z, -⟩
      · omega
      · omega
      · exact va_lald hF.1 hF.2.1 hK0 hP _ _ g2 ht hin q2 (kk _ (by rw [hkc]; exact hf _ y2) _ (e_beq hv))
      · omega
    · rename_i q1 q2
      rcases g3 with ⟨z, -⟩ | ⟨z, -⟩ | ⟨z, -⟩ | ⟨z, cA, f, t0, rfl, ht, hf⟩
      · omega
      · omega
      · omega
      · exact va_aldq hF.1 hF.2.1 hK0 hP _ _ g2 ht hin q2 (kk _ (by rw [hkc]; exact hf _ y2) _ (e_beq hv))
    · cases hv
end

/-! STORES INTO ROWS, copies, the empty constructor. -/
section
variable {rho : Nat → Int32} {ta : Nat → Nat × Nat} {b L n0 : Nat} {D : va_G} {l : Launch} {n : Nat} {e : e_E} {tl : List e_E} {I : e_N} {loc stk : List e_V} {fs : List e_F} {w : e_W} {iv : e_I} {tys : List (ClassId × FieldType)} {ws : va_W}
theorem e_WR.put {i a kx : Nat} {x0 x1 : va_E} {c : e_C} {v : e_V} (hw : e_WR rho ta b L tys ws w) (h : ws[i]? = some (a, x0)) (hg : e_tget 9 w.2 i = some c)
    (hc : ∀ c' : e_C, c'.1 = c.1 → c'.2.1 = c.2.1 → (∀ k, e_get c'.2.2.2 k c'.2.2.1 = if k = kx then v else e_get c.2.2.2 k c.2.2.1) → e_CR rho ta b L (e_ads ws) tys c' x1) :
    e_WR rho ta b L tys (ws.set i (a, x1)) (cond (e_eqV (e_get c.2.2.2 kx c.2.2.1) v) w (w.1, e_tset 9 w.2 i (some (c.1, c.2.1, c.2.2.1, e_set c.2.2.2 kx v)))) := by
  cases q : e_eqV (e_get c.2.2.2 kx c.2.2.1) v with
  | false => exact hw.set h (hc _ rfl rfl (fun k => e_get_set _ _ _ _ _))
  | true =>
    have q := e_eqV_s q
    refine ⟨by rw [List.length_set]; exact hw.1, hw.2.1, fun j c' hj hg' => ?_⟩
    show ∃ q, (ws.set i (a, x1))[j]? = some q ∧ e_CR rho ta b L (e_ads (ws.set i (a, x1))) tys c' q.2
    rw [e_ads_set h]
    have hj2 : j < w.1 := hj
    have hg2 : e_tget 9 w.2 j = some c' := hg'
    have hl : i < ws.length := (List.getElem?_eq_some_iff.mp h).1
    by_cases z : j = i
    · subst z
      rw [hg] at hg2
      cases hg2
      refine ⟨_, List.getElem?_set_self hl, hc _ rfl rfl (fun k => ?_)⟩
      by_cases y : k = kx
      · rw [if_pos y, y]; exact q
      · rw [if_neg y]
    · obtain ⟨y, y1, y2⟩ := hw.2.2 j c' hj2 hg2
      exact ⟨y, by rw [List.getElem?_set_ne (fun q => z q.symm)]; exact y1, y2⟩
def v_ast (d : e_D) (k pc nx : Nat) : Bool := match k, d with
  | 1, .ok (.iastore, 1) => Nat.beq nx (pc + 1)
  | 2, .ok (.bastore, 1) => Nat.beq nx (pc + 1)
  | 3, .ok (.lastore, 1) => Nat.beq nx (pc + 1)
  | _, _ => false
theorem e_nar01 {x : Int32} (h : Value.int x = .int 0 ∨ Value.int x = .int 1) : vp_nar .boolean x = x := by
  rcases h with h | h <;> (cases h; decide)
theorem s_ast (IH : e_P rho ta b L n0 D l n) (hv : v_ast (decode (e_byt I.1) e.1) e.2.2.1 e.1 (e_hpc tl) = true) (h : h_ast (e_acc n) e tl I loc stk fs w iv = true) : e_GG rho ta b L n0 D l (n + 1) I (e :: tl) loc stk fs w iv := by
  intro N p e' R s m args below meth c H locs ws tys cst ls ads0 hN hF hW hS hL hI hK hA
  obtain ⟨v, u, s2, rfl, h⟩ := e_q2_s (show e_q2 stk (fun v u s2 => e_q1 s2 (fun z st => e_con iv u (fun n' => e_cell w z (fun c => cond (Nat.beq c.1 e.2.2.1) (cond (Nat.ble (Nat.succ n') c.2.1) (cond (cond (Nat.beq e.2.2.1 1) (e_is 0 v.1) (cond (Nat.beq e.2.2.1 2) (cond (Nat.beq v.1 0) (Nat.ble v.2 1) false) (cond (Nat.beq e.2.2.1 3) (Nat.beq v.1 1) false)))
    (e_acc n I tl loc st fs (cond (e_eqV (e_get c.2.2.2 n' c.2.2.1) v) w (w.1, e_tset 9 w.2 z.2 (some (c.1, c.2.1, c.2.2.1, e_set c.2.2.2 n' v)))) iv) false) false) false)) (e_sp (e_acc n) (e :: tl) I loc stk fs w iv))) = true from h)
  obtain ⟨z, st, rfl, h⟩ := e_q1_s h
  obtain ⟨cv, _, rfl, hvr, cu, _, rfl, hur, cz, cst', rfl, hzr, hS'⟩ := id hS
  rcases (e_con_s hI hur h).symm with h | ⟨k, rfl, h⟩
  · exact e_again IH (fun _ _ => h) N p e' R s m args below meth c H locs ws tys _ ls ads0 hN hF hW hS hL hI hK hA
  obtain ⟨hK0, hP, hD, hSS, hWR⟩ := id hW
  obtain ⟨c1, a, x, hlt, g1, h, rfl, g2, gl, g3⟩ := e_cell_s hWR hzr h
  obtain ⟨y1, h⟩ := e_and h
  obtain ⟨y2, h⟩ := e_and h
  obtain ⟨y3, h⟩ := e_and h
  have y1 := e_beq y1
  have y2 := e_ble y2
  have hkc : (e_i k).toNatClampNeg = k := nI_clamp (by omega)
  have hin : vp_in (e_i k) c1.2.1 := nI_in (by omega) (by omega)
  have hads : ∀ x1, e_ads (ws.set z.2 (a, x1)) = e_ads ws := fun x1 => e_ads_set g2
  have kk : ∀ x1 q, e_hpc tl = q → (∀ c' : e_C, c'.1 = c1.1 → c'.2.1 = c1.2.1 → (∀ j, e_get c'.2.2.2 j c'.2.2.1 = if j = k then v else e_get c1.2.2.2 j c1.2.2.1) → e_CR rho ta b L (e_ads ws) tys c' x1) → ∀ (H1 : Heap) (locs1 : List Loc), va_P D e_cl (ws.set z.2 (a, x1)) H1 → va_D (fun q => n0 ≤ q) (ws.set z.2 (a, x1)) → va_S (fun q => n0 ≤ q) s.heap H1 locs1 →
      W p l e' R s m args below meth c H1 locs1 I.2.2.1 I.2.2.2.1 (vx_MQ below (e_Qc rho ta b L n0 D N fs ads0) (e_XC rho ta b L n0 D N fs ads0) args s (e_bud I.1).1 (e_bud I.1).2.1 (fun q => n0 ≤ q)) (F0 m q ls cst') := by
    intro x1 q hq hc H1 locs1 a1 a2 a3
    exact e_k IH h (by omega) hF ⟨hK0, a1, a2, a3, hWR.put g2 g1 hc⟩ (by rw [hads]; exact hS') (by rw [hads]; exact hL) hI (e_suf hK) (by rw [hads]; exact hA) hq
  show W p l e' R s m args below meth c H locs I.2.2.1 I.2.2.2.1 _ (F0 m e.1 ls (cv :: .int (e_i k) :: .ref a :: cst'))
  unfold v_ast at hv
  split at hv
  · rename_i q1 q2
    rw [q1] at y3 y1
    rcases g3 with ⟨z0, -⟩ | ⟨z0, cA, f, t0, rfl, ht, hf⟩ | ⟨z0, -⟩ | ⟨z0, -⟩
    · omega
    · obtain ⟨xx, rfl⟩ := hvr.int (show e_is 0 v.1 = true from y3)
      rw [show e_ety c1.1 = .int by rw [y1]; rfl] at ht
      refine va_iast hF.1 hF.2.1 hK0 hP hD hSS _ _ g2 ht hin q2 (kk _ _ (e_beq hv) (fun c' f1 f2 f3 => ?_))
      refine ⟨by rw [f2]; exact gl, Or.inr (Or.inl ⟨by rw [f1]; exact z0, cA, _, t0, by rw [f2], by rw [f1, y1]; exact ht, fun j hj => ?_⟩)⟩
      rw [f2] at hj
      rw [f3, hkc]
      by_cases y : j = k
      · rw [if_pos y, y]; simpa [upd] using hvr
      · rw [if_neg y]; simpa [upd, y] using hf j hj
    · omega
    · omega
  · rename_i q1 q2
    rw [q1] at y3 y1
    rcases g3 with ⟨z0, -⟩ | ⟨z0, cA, f, t0, rfl, ht, hf⟩ | ⟨z0, -⟩ | ⟨z0, -⟩
    · omega
    · have h01 := e_b01 hvr (show cond (Nat.beq v.1 0) (Nat.ble v.2 1) false = true from y3)
      obtain ⟨xx, rfl⟩ : ∃ xx, cv = .int xx := by rcases h01 with q | q <;> exact ⟨_, q⟩
      have hnar := e_nar01 h01
      rw [show e_ety c1.1 = .boolean by rw [y1]; rfl] at ht
      refine va_zast hF.1 hF.2.1 hK0 hP hD hSS _ _ g2 ht hin q2 (kk _ _ (e_beq hv) (fun c' f1 f2 f3 => ?_))
      refine ⟨by rw [f2]; exact gl, Or.inr (Or.inl ⟨by rw [f1]; exact z0, cA, _, t0, by rw [f2], by rw [f1, y1]; exact ht, fun j hj => ?_⟩)⟩
      rw [f2] at hj
      rw [f3, hkc, hnar]
      by_cases y : j = k
      · rw [if_pos y, y]; simpa [upd] using hvr
      · rw [if_neg y]; simpa [upd, y] using hf j hj
    · omega
    · omega
  · rename_i q1 q2
    rw [q1] at y3 y1
    rcases g3 with ⟨z0, -⟩ | ⟨z0, -⟩ | ⟨z0, cA, f, t0, rfl, ht, hf⟩ | ⟨z0, -⟩
    · omega
    · omega
    · have := hvr.long (e_beq (show Nat.beq v.1 1 = true from y3))
      subst this
      refine va_last hF.1 hF.2.1 hK0 hP hD hSS _ _ g2 ht hin q2 (kk _ _ (e_beq hv) (fun c' f1 f2 f3 => ?_))
      refine ⟨by rw [f2]; exact gl, Or.inr (Or.inr (Or.inl ⟨by rw [f1]; exact z0, cA, _, t0, by rw [f2], ht, fun j hj => ?_⟩))⟩
      rw [f2] at hj
      rw [f3, hkc]
      by_cases y : j = k
      · rw [if_pos y, y]; simpa [vp_updL] using hvr
      · rw [if_neg y]; simpa [vp_updL, y] using hf j hj
    · omega
  · cases hv
def v_astq (d : e_D) (k pc nx : Nat) : Bool := match d with
  | .ok (.aastore, 1) => Nat.ble 4 k && Nat.beq nx (pc + 1)
  | _ => false
theorem s_astq (IH : e_P rho ta b L n0 D l n) (hv : v_astq (decode (e_byt I.1) e.1) e.2.2.1 e.1 (e_hpc tl) = true) (h : h_astq (e_acc n) e tl I loc stk fs w iv = true) : e_GG rho ta b L n0 D l (n + 1) I (e :: tl) loc stk fs w iv := by
  intro N p e' R s m args below meth c H locs ws tys cst ls ads0 hN hF hW hS hL hI hK hA
  obtain ⟨v, u, s2, rfl, h⟩ := e_q2_s (show e_q2 stk (fun v u s2 => e_q1 s2 (fun z st => e_con iv u (fun n' => e_cell w z (fun c => cond (Nat.beq c.1 e.2.2.1) (cond (Nat.ble (Nat.succ n') c.2.1)
    (cond (cond (Nat.beq v.1 3) true (cond (Nat.beq v.1 2) (Option.rec (motive := fun _ => Bool) false (fun cv => cond (Nat.beq cv.1 0) (Nat.beq (Nat.add 4 cv.2.1) e.2.2.1) false) (e_tget 9 w.2 v.2)) false))
    (e_acc n I tl loc st fs (cond (e_eqV (e_get c.2.2.2 n' c.2.2.1) v) w (w.1, e_tset 9 w.2 z.2 (some (c.1, c.2.1, c.2.2.1, e_set c.2.2.2 n' v)))) iv) false) false) false)) (e_sp (e_acc n) (e :: tl) I loc stk fs w iv))) = true from h)
  obtain ⟨z, st, rfl, h⟩ := e_q1_s h
  obtain ⟨cv, _, rfl, hvr, cu, _, rfl, hur, cz, cst', rfl, hzr, hS'⟩ := id hS
  rcases (e_con_s hI hur h).symm with h | ⟨k, rfl, h⟩
  · exact e_again IH (fun _ _ => h) N p e' R s m args below meth c H locs ws tys _ ls ads0 hN hF hW hS hL hI hK hA
  obtain ⟨hK0, hP, hD, hSS, hWR⟩ := id hW
  obtain ⟨c1, a, x, hlt, g1, h, rfl, g2, gl, g3⟩ := e_cell_s hWR hzr h
  obtain ⟨y1, h⟩ := e_and h
  obtain ⟨y2, h⟩ := e_and h
  obtain ⟨y3, h⟩ := e_and h
  have y1 := e_beq y1
  have y2 := e_ble y2
  have hkc : (e_i k).toNatClampNeg = k := nI_clamp (by omega)
  have hin : vp_in (e_i k) c1.2.1 := nI_in (by omega) (by omega)
  have hads : ∀ x1, e_ads (ws.set z.2 (a, x1)) = e_ads ws := fun x1 => e_ads_set g2
  have kk : ∀ x1 q, e_hpc tl = q → (∀ c' : e_C, c'.1 = c1.1 → c'.2.1 = c1.2.1 → (∀ j, e_get c'.2.2.2 j c'.2.2.1 = if j = k then v else e_get c1.2.2.2 j c1.2.2.1) → e_CR rho ta b L (e_ads ws) tys c' x1) → ∀ (H1 : Heap) (locs1 : List Loc), va_P D e_cl (ws.set z.2 (a, x1)) H1 → va_D (fun q => n0 ≤ q) (ws.set z.2 (a, x1)) → va_S (fun q => n0 ≤ q) s.heap H1 locs1 →
      W p l e' R s m args below meth c H1 locs1 I.2.2.1 I.2.2.2.1 (vx_MQ below (e_Qc rho ta b L n0 D N fs ads0) (e_XC rho ta b L n0 D N fs ads0) args s (e_bud I.1).1 (e_bud I.1).2.1 (fun q => n0 ≤ q)) (F0 m q ls cst') := by
    intro x1 q hq hc H1 locs1 a1 a2 a3
    exact e_k IH h (by omega) hF ⟨hK0, a1, a2, a3, hWR.put g2 g1 hc⟩ (by rw [hads]; exact hS') (by rw [hads]; exact hL) hI (e_suf hK) (by rw [hads]; exact hA) hq
  show W p l e' R s m args below meth c H locs I.2.2.1 I.2.2.2.1 _ (F0 m e.1 ls (cv :: .int (e_i k) :: .ref a :: cst'))
  unfold v_astq at hv
  split at hv
  · rename_i q2
    obtain ⟨v1, v2⟩ := e_and2 hv
    have v1 := e_ble v1
    rcases g3 with ⟨z0, -⟩ | ⟨z0, -⟩ | ⟨z0, -⟩ | ⟨z0, cA, f, t0, rfl, ht, hf⟩
    · omega
    · omega
    · omega
    · have fin : ∀ o : Option Nat, va_rf o = cv → ∀ c' : e_C, c'.1 = c1.1 → c'.2.1 = c1.2.1 → (∀ j, e_get c'.2.2.2 j c'.2.2.1 = if j = k then v else e_get c1.2.2.2 j c1.2.2.1) → e_CR rho ta b L (e_ads ws) tys c' (.inl (cA, c1.2.1, .inr (.inr (.inr (.inr (va_up f (e_i k).toNatClampNeg o)))))) := by
        intro o ho c' f1 f2 f3
        refine ⟨by rw [f2]; exact gl, Or.inr (Or.inr (Or.inr ⟨by rw [f1]; exact z0, cA, _, t0, by rw [f2], by rw [f1]; exact ht, fun j hj => ?_⟩))⟩
        rw [f2] at hj
        rw [f3, hkc]
        by_cases y : j = k
        · rw [if_pos y, y, va_up_self, ho]; exact hvr
        · rw [if_neg y, va_up_ne _ _ y]; exact hf j hj
      rcases e_or y3 with q | q
      · have e1 := hvr.null (e_beq q)
        subst e1
        exact va_astqN hF.1 hF.2.1 hK0 hP hD hSS _ _ g2 ht hin q2 (kk _ _ (e_beq v2) (fin none rfl))
      · obtain ⟨q, y4⟩ := e_and q
        have q := e_beq q
        cases g4 : e_tget 9 w.2 v.2 with
        | none => rw [g4] at y4; cases y4
        | some cc =>
          rw [g4] at y4
          obtain ⟨y4, y5⟩ := e_and (show cond (Nat.beq cc.1 0) (Nat.beq (Nat.add 4 cc.2.1) e.2.2.1) false = true from y4)
          have y4 := e_beq y4
          have y5 : 4 + cc.2.1 = e.2.2.1 := e_beq y5
          obtain ⟨aa, xx, yy, -, g7, g6, rfl, g8, -, g9⟩ := e_cell_s (kk := fun cc' => Nat.beq 0 0) (v := v) hWR hvr (by unfold e_cell; rw [q, g4]; rfl)
          rw [g4] at g7
          cases g7
          rcases g9 with ⟨-, hci, fs', rfl, -, -⟩ | ⟨z1, -⟩ | ⟨z1, -⟩ | ⟨z1, -⟩
          · refine va_astq hF.1 hF.2.1 hK0 hP hD hSS _ t0 _ _ g2 (r := (e_cn cc.2.1, e_FT cc.2.1, e_nf cc.2.1)) ?_ g8 (e_cl_at hci) hin q2 (kk _ _ (e_beq v2) (fin (some xx) rfl))
            rw [ht, y1, ← y5, Nat.add_sub_cancel_left]
          · omega
          · omega
          · omega
  · cases hv
theorem e_cs_s {st : List e_V} {cst : List Value} {ads : List Nat} (h : e_SR rho ta b L ads st cst) : (cst.map fun v => v.category).sum = e_cs st := by
  induction st generalizing cst with
  | nil => cases h; rfl
  | cons v st ih =>
    obtain ⟨cv, cst', rfl, hv, hS⟩ := h
    have e1 : e_cs (v :: st) = e_cs st + cond (e_cat2 v.1) 2 1 := rfl
    rw [e1, List.map_cons, List.sum_cons, ih hS]
    cases q : e_cat2 v.1 with
    | true => rw [hv.cat.mpr q]; show 2 + _ = _ + 2; omega
    | false => rw [e_cat1 hv q]; show 1 + _ = _ + 1; omega
def v_objinit (d : e_D) (own : String) (h1 h2 h3 pc nx : Nat) : Bool := match d with
  | .ok (.invokespecial i, 3) => (e_has h1 (.methodLink own i objectInit) && (e_has h2 (.instanceMethod objectInit) && e_has h3 (.code objectInit ⟨#[0xb1]⟩ 1 none))) && Nat.beq nx (pc + 3)
  | _ => false
theorem s_objinit (IH : e_P rho ta b L n0 D l n) {h1 h2 h3 : Nat} (hv : v_objinit (decode (e_byt I.1) e.1) (e_own I.1) h1 h2 h3 e.1 (e_hpc tl) = true) (h : h_objinit (e_acc n) e tl I loc stk fs w iv = true) : e_GG rho ta b L n0 D l (n + 1) I (e :: tl) loc stk fs w iv := by
  intro N p e' R s m args below meth c H locs ws tys cst ls ads0 hN hF hW hS hL hI hK hA
  obtain ⟨v, st, rfl, h⟩ := e_q1_s (show e_q1 stk (fun v st => cond (Nat.beq v.1 2) (cond (Nat.ble (e_cs st) 8) (e_acc n I tl loc st fs w iv) false) false) = true from h)
  obtain ⟨cv, cst', rfl, hvr, hS'⟩ := id hS
  obtain ⟨q, h⟩ := e_and h
  obtain ⟨q8, h⟩ := e_and h
  have q8 := e_ble q8
  obtain ⟨a, -, rfl⟩ := hvr.cell (e_beq q)
  obtain ⟨k1, k2, k3, k4, k5, k6, k7⟩ := hF.rooms
  have hts := hF.2.2.2.2.1
  have hown := hF.2.2.2.1
  have hml := hF.2.2.1
  obtain ⟨lv, hlv, -⟩ := id hL
  show W p l e' R s m args below meth c H locs I.2.2.1 I.2.2.2.1 _ (F0 m e.1 ls (.ref a :: cst'))
  unfold v_objinit at hv
  split at hv
  · rename_i idx q2
    obtain ⟨z1, z2⟩ := e_and2 hv
    obtain ⟨z1, z3⟩ := e_and2 z1
    obtain ⟨z3, z4⟩ := e_and2 z3
    have hsum := e_cs_s hS'
    refine W.objInit hF.1 hF.2.1 hown (hts _ (e_has_s z1)) (hts _ (e_has_s z3)) (hts _ (e_has_s z4)) rfl (by rw [hml]; exact hlv.1) rfl q2 (by omega) ?_ (e_k IH h (by omega) hF hW hS' hL hI (e_suf hK) hA (e_beq z2))
    show 2 * 0 + (cst'.map fun v => v.category).sum + 12 ≤ R.locals
    rw [hsum]
    omega
  · cases hv
theorem e_cpy_s (src mp : List (Nat × e_V)) (sd dd : e_V) (sp dp n k : Nat) : e_get (e_cpy src sd sp dp dd mp n) k dd = if dp ≤ k ∧ k < dp + n then e_get src (sp + (k - dp)) sd else e_get mp k dd := by
  induction n with
  | zero =>
    show e_get mp k dd = _
    rw [if_neg (by omega)]
  | succ j ih =>
    have e1 : e_cpy src sd sp dp dd mp (j + 1) = cond (e_eqV (e_get (e_cpy src sd sp dp dd mp j) (Nat.add dp j) dd) (e_get src (Nat.add sp j) sd)) (e_cpy src sd sp dp dd mp j) (e_set (e_cpy src sd sp dp dd mp j) (Nat.add dp j) (e_get src (Nat.add sp j) sd)) := rfl
    rw [e1]
    have e2 : ∀ X, e_get X k dd = (if k = dp + j then e_get src (sp + j) sd else e_get (e_cpy src sd sp dp dd mp j) k dd) → e_get X k dd = if dp ≤ k ∧ k < dp + (j + 1) then e_get src (sp + (k - dp)) sd else e_get mp k dd := by
      intro X hX
      rw [hX]
      by_cases y : k = dp + j
      · rw [if_pos y, if_pos (by omega), show k - dp = j by omega]
      · rw [if_neg y, ih]
        by_cases z : dp ≤ k ∧ k < dp + j
        · rw [if_pos z, if_pos (by omega)]
        · rw [if_neg z, if_neg (by omega)]
    cases q : e_eqV (e_get (e_cpy src sd sp dp dd mp j) (Nat.add dp j) dd) (e_get src (Nat.add sp j) sd) with
    | false => exact e2 _ (e_get_set _ _ _ _ _)
    | true =>
      have q := e_eqV_s q
      refine e2 _ ?_
      show e_get (e_cpy src sd sp dp dd mp j) k dd = _
      by_cases y : k = dp + j
      · rw [if_pos y, y]; exact q
      · rw [if_neg y]
def v_acopy (d : e_D) (own : String) (h1 h2 h3 h4 pc nx : Nat) : Bool := match d with
  | .ok (.invokestatic i, 3) => (e_has h1 (.methodLink own i arraycopyName) && (e_has h2 (.native arraycopyName) && (e_has h3 (.static arraycopyName) && e_has h4 (.initialized "java/lang/System")))) && Nat.beq nx (pc + 3)
  | _ => false
theorem s_acopy (IH : e_P rho ta b L n0 D l n) {h1 h2 h3 h4 : Nat} (hv : v_acopy (decode (e_byt I.1) e.1) (e_own I.1) h1 h2 h3 h4 e.1 (e_hpc tl) = true) (h : h_acopy (e_acc n) e tl I loc stk fs w iv = true) : e_GG rho ta b L n0 D l (n + 1) I (e :: tl) loc stk fs w iv := by
  intro N p e' R s m args below meth c H locs ws tys cst ls ads0 hN hF hW hS hL hI hK hA
  obtain ⟨vn, vdp, s2, rfl, h⟩ := e_q2_s (show e_q2 stk (fun vn vdp s2 => e_q2 s2 (fun vd vsp s3 => e_q1 s3 (fun vs st => cond (cond (Nat.ble (e_cs st) 8) (cond (Nat.beq vn.1 0) (cond (Nat.beq vdp.1 0) (Nat.beq vsp.1 0) false) false) false)
    (e_cell w vs (fun cs => e_cell w vd (fun cd => cond (cond (Nat.beq cs.1 1) (cond (Nat.beq cd.1 1) (cond (Nat.ble (Nat.add vsp.2 vn.2) cs.2.1) (cond (Nat.ble (Nat.add vdp.2 vn.2) cd.2.1) (cond (Nat.ble cs.2.1 16777216) (Nat.ble cd.2.1 16777216) false) false) false) false) false)
      (e_acc n I tl loc st fs (w.1, e_tset 9 w.2 vd.2 (some (1, cd.2.1, cd.2.2.1, e_cpy cs.2.2.2 cs.2.2.1 vsp.2 vdp.2 cd.2.2.1 cd.2.2.2 vn.2))) iv) false))) false))) = true from h)
  obtain ⟨vd, vsp, s3, rfl, h⟩ := e_q2_s (stk := s2) h
  obtain ⟨vs, st, rfl, h⟩ := e_q1_s (stk := s3) h
  obtain ⟨cn, _, rfl, hnr, cdp, _, rfl, hdpr, cd, _, rfl, hdr, csp, _, rfl, hspr, csv, cst', rfl, hsr, hS'⟩ := id hS
  obtain ⟨q, h⟩ := e_and h
  obtain ⟨q8, q⟩ := e_and q
  have q8 := e_ble q8
  obtain ⟨t1, q⟩ := e_and q
  obtain ⟨t2, t3⟩ := e_and q
  obtain ⟨hK0, hP, hD, hSS, hWR⟩ := id hW
  obtain ⟨c0, a0, x0, hlt0, g10, h, rfl, g20, gl0, g30⟩ := e_cell_s hWR hsr h
  obtain ⟨c1, a, x, hlt, g1, h, rfl, g2, gl, g3⟩ := e_cell_s hWR hdr h
  obtain ⟨q, h⟩ := e_and h
  obtain ⟨y1, q⟩ := e_and q
  obtain ⟨y2, q⟩ := e_and q
  obtain ⟨y3, q⟩ := e_and q
  obtain ⟨y4, q⟩ := e_and q
  have y1 := e_beq y1
  have y2 := e_beq y2
  have y3 : vsp.2 + vn.2 ≤ c0.2.1 := e_ble y3
  have y4 : vdp.2 + vn.2 ≤ c1.2.1 := e_ble y4
  unfold e_VR at hnr hdpr hspr
  rw [e_beq t1] at hnr
  rw [e_beq t2] at hdpr
  rw [e_beq t3] at hspr
  have hnr : cn = .int (e_i vn.2) := hnr
  have hdpr : cdp = .int (e_i vdp.2) := hdpr
  have hspr : csp = .int (e_i vsp.2) := hspr
  subst hnr; subst hdpr; subst hspr
  obtain ⟨k1, k2, k3, k4, k5, k6, k7⟩ := hF.rooms
  have hts := hF.2.2.2.2.1
  have hown := hF.2.2.2.1
  have hml := hF.2.2.1
  obtain ⟨lv, hlv, -⟩ := id hL
  have hsum := e_cs_s hS'
  have c1' : (e_i vn.2).toNatClampNeg = vn.2 := nI_clamp (by omega)
  have c2' : (e_i vdp.2).toNatClampNeg = vdp.2 := nI_clamp (by omega)
  have c3' : (e_i vsp.2).toNatClampNeg = vsp.2 := nI_clamp (by omega)
  show W p l e' R s m args below meth c H locs I.2.2.1 I.2.2.2.1 _ (F0 m e.1 ls (.int (e_i vn.2) :: .int (e_i vdp.2) :: .ref a :: .int (e_i vsp.2) :: .ref a0 :: cst'))
  unfold v_acopy at hv
  split at hv
  · rename_i idx q2
    obtain ⟨z1, z2⟩ := e_and2 hv
    obtain ⟨z1, z3⟩ := e_and2 z1
    obtain ⟨z3, z4⟩ := e_and2 z3
    obtain ⟨z4, z5⟩ := e_and2 z4
    rcases g30 with ⟨z0, -⟩ | ⟨-, cA0, f, t0, rfl, ht0, hf⟩ | ⟨z0, -⟩ | ⟨z0, -⟩
    · omega
    · rcases g3 with ⟨z0, -⟩ | ⟨-, cA1, g, t1', rfl, ht1, hg⟩ | ⟨z0, -⟩ | ⟨z0, -⟩
      · omega
      · rw [show e_ety c0.1 = .int by rw [y1]; rfl] at ht0
        rw [show e_ety c1.1 = .int by rw [y2]; rfl] at ht1
        have hads : ∀ x1, e_ads (ws.set vd.2 (a, x1)) = e_ads ws := fun x1 => e_ads_set g2
        refine va_copyi hF.1 hF.2.1 (by rw [hml]; exact hlv.1.symm) hown (hts _ (e_has_s z1)) (hts _ (e_has_s z3)) (hts _ (e_has_s z4)) (hts _ (e_has_s z5)) hK0 hP hD hSS _ _ _ _ g20 g2 ht0 ht1 rfl (nI_pos (by omega)) (nI_pos (by omega)) (nI_pos (by omega)) (by rw [c3', c1']; exact y3) (by rw [c2', c1']; exact y4) (fun _ _ => rfl) (by omega) ?_ q2 (fun H1 locs1 a1 a2 a3 => ?_)
        · have : nativeFrameWords "java/lang/System" "arraycopy" 5 = 7 := by decide
          rw [hsum, this]
          omega
        · refine e_k IH h (by omega) hF ⟨hK0, a1, a2, a3, hWR.set g2 ⟨gl, Or.inr (Or.inl ⟨Or.inl rfl, cA1, _, t1', rfl, ht1, fun j hj => ?_⟩)⟩⟩ (by rw [hads]; exact hS') (by rw [hads]; exact hL) hI (e_suf hK) (by rw [hads]; exact hA) (e_beq z2)
          have hj : j < c1.2.1 := hj
          show e_VR rho ta b L (e_ads ws) (e_get (e_cpy c0.2.2.2 c0.2.2.1 vsp.2 vdp.2 c1.2.2.1 c1.2.2.2 vn.2) j c1.2.2.1) _
          rw [e_cpy_s, c1', c2', c3']
          unfold va_cpy
          by_cases y : vdp.2 ≤ j ∧ j < vdp.2 + vn.2
          · rw [if_pos y, if_pos y]; exact hf _ (by omega)
          · rw [if_neg y, if_neg y]; exact hg _ hj
      · omega
      · omega
    · omega
    · omega
  · cases hv
end

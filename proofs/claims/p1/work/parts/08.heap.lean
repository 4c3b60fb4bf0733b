/-! THE HANDLERS that look at the heap. -/
section
variable {rho : Nat → Int32} {ta : Nat → Nat × Nat} {b L n0 : Nat} {D : va_G} {l : Launch} {n : Nat} {e : e_E} {tl : List e_E} {I : e_N} {loc stk : List e_V} {fs : List e_F} {w : e_W} {iv : e_I} {tys : List (ClassId × FieldType)} {ws : va_W}
/-- a cell that a value names -/
theorem e_cell_s {kk : e_C → Bool} {v : e_V} {cv : Value} (hw : e_WR rho ta b L tys ws w) (hv : e_VR rho ta b L (e_ads ws) v cv) (h : e_cell w v kk = true) : ∃ (c : e_C) (a : Nat) (x : va_E), v.2 < w.1 ∧ e_tget 9 w.2 v.2 = some c ∧ kk c = true ∧ cv = .ref a ∧ ws[v.2]? = some (a, x) ∧ e_CR rho ta b L (e_ads ws) tys c x := by
  obtain ⟨q, h⟩ := e_and h
  obtain ⟨a, h1, rfl⟩ := hv.cell (e_beq q)
  unfold e_ads at h1
  rw [List.getElem?_map] at h1
  cases g1 : ws[v.2]? with
  | none => rw [g1] at h1; cases h1
  | some x =>
    rw [g1] at h1
    have h1 : some x.1 = some a := h1
    have hlt : v.2 < w.1 := by rw [← hw.1]; exact (List.getElem?_eq_some_iff.mp g1).1
    cases g2 : e_tget 9 w.2 v.2 with
    | none => rw [g2] at h; cases h
    | some c =>
      rw [g2] at h
      obtain ⟨y, y1, y2⟩ := hw.2.2 _ _ hlt g2
      rw [g1] at y1
      cases y1
      exact ⟨c, a, x.2, hlt, rfl, h, rfl, by rw [← Option.some.inj h1], y2⟩
theorem e_ads_set {i a : Nat} {x0 x1 : va_E} (h : ws[i]? = some (a, x0)) : e_ads (ws.set i (a, x1)) = e_ads ws := by
  unfold e_ads
  rw [List.map_set]
  have hl := (List.getElem?_eq_some_iff.mp h)
  obtain ⟨hl, he⟩ := hl
  apply List.ext_getElem?
  intro j
  by_cases q : i = j
  · subst q
    rw [List.getElem?_set_self (by simpa using hl), List.getElem?_map, h]
    rfl
  · rw [List.getElem?_set_ne q]
theorem e_WR.set {i a : Nat} {x0 x1 : va_E} {c : e_C} (hw : e_WR rho ta b L tys ws w) (h : ws[i]? = some (a, x0)) (hc : e_CR rho ta b L (e_ads ws) tys c x1) : e_WR rho ta b L tys (ws.set i (a, x1)) (w.1, e_tset 9 w.2 i (some c)) := by
  have hl : i < w.1 := by rw [← hw.1]; exact (List.getElem?_eq_some_iff.mp h).1
  refine ⟨by rw [List.length_set]; exact hw.1, hw.2.1, fun j c' hj hg => ?_⟩
  show ∃ q, (ws.set i (a, x1))[j]? = some q ∧ e_CR rho ta b L (e_ads (ws.set i (a, x1))) tys c' q.2
  rw [e_ads_set h]
  have h512 : w.1 ≤ 512 := hw.2.1
  have hj : j < w.1 := hj
  have hg : e_tget 9 (e_tset 9 w.2 i (some c)) j = some c' := hg
  rw [e_tget_set 9 _ _ _ _ (by show i < 512; omega) (by show j < 512; omega)] at hg
  by_cases q : j = i
  · rw [if_pos q] at hg
    cases hg
    subst q
    exact ⟨_, List.getElem?_set_self (by rw [hw.1]; exact hl), hc⟩
  · rw [if_neg q] at hg
    obtain ⟨y, y1, y2⟩ := hw.2.2 _ _ hj hg
    exact ⟨y, by rw [List.getElem?_set_ne (fun z => q z.symm)]; exact y1, y2⟩
theorem e_WR.push {a : Nat} {x : va_E} {c : e_C} {tys' : List (ClassId × FieldType)} (hw : e_WR rho ta b L tys ws w) (h5 : w.1 ≤ 511) (ht : tys <+: tys') (hc : e_CR rho ta b L (e_ads (ws ++ [(a, x)])) tys' c x) : e_WR rho ta b L tys' (ws ++ [(a, x)]) (Nat.succ w.1, e_tset 9 w.2 w.1 (some c)) := by
  refine ⟨by simp [hw.1], by show w.1 + 1 ≤ 512; omega, fun j c' hj hg => ?_⟩
  have hj : j < w.1 + 1 := hj
  have hg : e_tget 9 (e_tset 9 w.2 w.1 (some c)) j = some c' := hg
  rw [e_tget_set 9 _ _ _ _ (by show w.1 < 512; omega) (by show j < 512; omega)] at hg
  by_cases q : j = w.1
  · rw [if_pos q] at hg
    cases hg
    subst q
    refine ⟨(a, x), ?_, hc⟩
    rw [List.getElem?_append_right (by rw [hw.1]; exact Nat.le_refl _), hw.1, Nat.sub_self]
    rfl
  · rw [if_neg q] at hg
    obtain ⟨y, y1, y2⟩ := hw.2.2 _ _ (by omega) hg
    refine ⟨y, ?_, y2.mono ?_ ht⟩
    · rw [List.getElem?_append_left (List.getElem?_eq_some_iff.mp y1).1]
      exact y1
    · exact ⟨[a], by simp⟩
theorem e_ads_push {a : Nat} {x : va_E} : e_ads ws <+: e_ads (ws ++ [(a, x)]) := ⟨[a], by simp [e_ads]⟩
def v_get (d : e_D) (own host : String) (ci k h pc nx : Nat) : Bool := match d with
  | .ok (.getfield i, 3) => decide (ci < e_nc ∧ k < e_nf ci) && ((e_has h (.fieldLink own i (e_FT ci k).1 (e_FT ci k).2.1 (e_FT ci k).2.2.1) || e_hasH h (.fieldLinkNest own i (e_FT ci k).1 (e_FT ci k).2.1 (e_FT ci k).2.2.1 host)) && Nat.beq nx (pc + 3))
  | _ => false
theorem e_or2 {x y : Bool} (h : (x || y) = true) : x = true ∨ y = true := by
  cases x <;> cases y <;> simp_all
theorem s_get (hCO : e_CO) (IH : e_P rho ta b L n0 D l n) {hh : Nat} (hv : v_get (decode (e_byt I.1) e.1) (e_own I.1) (e_host I.1) e.2.2.1 e.2.2.2.1 hh e.1 (e_hpc tl) = true) (h : h_get (e_acc n) e tl I loc stk fs w iv = true) : e_GG rho ta b L n0 D l (n + 1) I (e :: tl) loc stk fs w iv := by
  intro N p e' R s m args below meth c H locs ws tys cst ls ads0 hN hF hW hS hL hI hK hA
  obtain ⟨v, st, rfl, h⟩ := e_q1_s (show e_q1 stk (fun v st => e_cell w v (fun c => cond (Nat.beq c.1 0) (cond (Nat.beq c.2.1 e.2.2.1) (Prod.rec (motive := fun _ => Bool) (fun t p => e_acc n I tl loc ((t, p) :: st) fs w iv) (e_get c.2.2.2 e.2.2.2.1 c.2.2.1)) false) false)) = true from h)
  obtain ⟨cv, cst, rfl, hvr, hS⟩ := hS
  obtain ⟨hK0, hP, hD, hSS, hWR⟩ := id hW
  obtain ⟨c1, a, x, hlt, g1, h, rfl, g2, g3⟩ := e_cell_s hWR hvr h
  obtain ⟨r1, h⟩ := e_and h
  obtain ⟨r2, h⟩ := e_and h
  have r1 := e_beq r1
  have r2 := e_beq r2
  have hts := hF.2.2.2.2.1
  have hown := hF.2.2.2.1
  have hGS := hF.2.2.2.2.2.2.2.2.2.2.2.2.2.2.2.2.2.2.2
  show W p l e' R s m args below meth c H locs I.2.2.1 I.2.2.2.1 _ (F0 m e.1 ls (.ref a :: cst))
  unfold v_get at hv
  split at hv
  · rename_i idx g
    obtain ⟨z1, z2⟩ := e_and2 hv
    obtain ⟨z2, z3⟩ := e_and2 z2
    obtain ⟨y1, y2⟩ := of_decide_eq_true z1
    rcases g3 with ⟨-, ⟨-, hci, fs', rfl, hlen, hfs⟩ | ⟨q, -⟩ | ⟨q, -⟩ | ⟨q, -⟩⟩
    · rw [r2] at hlen hfs g2
      obtain ⟨cv, f1, f2⟩ := hfs _ y2
      have hh : e_acc n I tl loc (e_get c1.2.2.2 e.2.2.2.1 c1.2.2.1 :: st) fs w iv = true := h
      have kk := e_k IH hh (N := N) (e' := e') (below := below) (by omega) hF hW (cst := cv :: cst) ⟨_, _, rfl, f2, hS⟩ hL hI (e_suf hK) hA (e_beq z3)
      obtain ⟨co, -⟩ := hCO _ y1
      rcases e_or2 z2 with z2 | z2
      · exact va_get hF.1 hF.2.1 hts co hown hK0 hP _ g2 (e_cl_at y1) _ y2 (hts _ (e_has_s z2)) (fun _ h9 => h9) f1 g kk
      · exact va_getN hF.1 hF.2.1 hts co hown hK0 hP _ g2 (e_cl_at y1) _ y2 (hGS.use (e_hasH_s z2) args) (fun _ h9 => h9) f1 g kk
    · omega
    · omega
    · omega
  · cases hv
def v_fk (k : Nat) (ty : FieldType) : Bool := match k, ty with
  | 0, .int => true
  | 1, .boolean => true
  | 2, .long => true
  | 3, .object _ => true
  | 3, .array _ => true
  | _, _ => false
theorem e_b01 {v : e_V} {cv : Value} {ads : List Nat} (hv : e_VR rho ta b L ads v cv) (h : cond (Nat.beq v.1 0) (Nat.ble v.2 1) false = true) : cv = .int 0 ∨ cv = .int 1 := by
  obtain ⟨h1, h2⟩ := e_and h
  have h1 := e_beq h1
  have h2 := e_ble h2
  unfold e_VR at hv
  rw [h1] at hv
  have hv : cv = .int (e_i v.2) := hv
  rcases (show v.2 = 0 ∨ v.2 = 1 by omega) with q | q
  · left; rw [hv, q]; rfl
  · right; rw [hv, q]; rfl
theorem e_fk_s {k : Nat} {ty : FieldType} {v : e_V} {cv : Value} {ads : List Nat} (hv : e_VR rho ta b L ads v cv) (h : e_fk k v = true) (ht : v_fk k ty = true) : narrow ty cv = cv ∧ fits ty cv = true := by
  unfold v_fk at ht
  split at ht
  · obtain ⟨x, rfl⟩ := hv.int (show e_is 0 v.1 = true from h)
    exact ⟨rfl, rfl⟩
  · rcases e_b01 hv (show cond (Nat.beq v.1 0) (Nat.ble v.2 1) false = true from h) with rfl | rfl <;> exact ⟨by decide, by decide⟩
  · have := hv.long (e_beq (show Nat.beq v.1 1 = true from h))
    subst this
    exact ⟨rfl, rfl⟩
  · rcases hv.refs (show e_is 2 v.1 = true from h) with ⟨a, rfl⟩ | rfl <;> exact ⟨rfl, rfl⟩
  · rcases hv.refs (show e_is 2 v.1 = true from h) with ⟨a, rfl⟩ | rfl <;> exact ⟨rfl, rfl⟩
  · cases ht
def v_put (d : e_D) (own host : String) (ini : Bool) (ci k x h pc nx : Nat) : Bool := match d with
  | .ok (.putfield i, 3) => decide (ci < e_nc ∧ k < e_nf ci) && (v_fk x (e_ty ci k) && ((if (e_FT ci k).2.2.2 = true then (e_has h (.fieldLink own i (e_FT ci k).1 (e_FT ci k).2.1 (e_FT ci k).2.2.1) && (ini && decide ((e_FT ci k).1 = own))) else (e_has h (.fieldLink own i (e_FT ci k).1 (e_FT ci k).2.1 (e_FT ci k).2.2.1) || e_hasH h (.fieldLinkNest own i (e_FT ci k).1 (e_FT ci k).2.1 (e_FT ci k).2.2.1 host))) && Nat.beq nx (pc + 3)))
  | _ => false
theorem s_put (hCO : e_CO) (IH : e_P rho ta b L n0 D l n) {hh : Nat} (hv : v_put (decode (e_byt I.1) e.1) (e_own I.1) (e_host I.1) (e_ini I.1) e.2.2.1 e.2.2.2.1 e.2.2.2.2 hh e.1 (e_hpc tl) = true) (h : h_putf (e_acc n) e tl I loc stk fs w iv = true) : e_GG rho ta b L n0 D l (n + 1) I (e :: tl) loc stk fs w iv := by
  intro N p e' R s m args below meth c H locs ws tys cst ls ads0 hN hF hW hS hL hI hK hA
  obtain ⟨v, u, st, rfl, h⟩ := e_q2_s (show e_q2 stk (fun v u st => e_cell w u (fun c => cond (Nat.beq c.1 0) (cond (Nat.beq c.2.1 e.2.2.1) (cond (e_fk e.2.2.2.2 v) (e_acc n I tl loc st fs (w.1, e_tset 9 w.2 u.2 (some (0, c.2.1, c.2.2.1, e_set c.2.2.2 e.2.2.2.1 v))) iv) false) false) false)) = true from h)
  obtain ⟨cv, _, rfl, hvr, cu, cst, rfl, hur, hS⟩ := hS
  obtain ⟨hK0, hP, hD, hSS, hWR⟩ := id hW
  obtain ⟨c1, a, x, hlt, g1, h, rfl, g2, g3⟩ := e_cell_s hWR hur h
  obtain ⟨r1, h⟩ := e_and h
  obtain ⟨r2, h⟩ := e_and h
  obtain ⟨r3, h⟩ := e_and h
  have r1 := e_beq r1
  have r2 := e_beq r2
  have hts := hF.2.2.2.2.1
  have hown := hF.2.2.2.1
  have hmn := hF.2.2.2.2.2.2.2.1
  have hGS := hF.2.2.2.2.2.2.2.2.2.2.2.2.2.2.2.2.2.2.2
  show W p l e' R s m args below meth c H locs I.2.2.1 I.2.2.2.1 _ (F0 m e.1 ls (cv :: .ref a :: cst))
  unfold v_put at hv
  split at hv
  · rename_i idx g
    obtain ⟨z1, z2⟩ := e_and2 hv
    obtain ⟨zf, z2⟩ := e_and2 z2
    obtain ⟨z2, z3⟩ := e_and2 z2
    obtain ⟨y1, y2⟩ := of_decide_eq_true z1
    obtain ⟨w1, w2⟩ := e_fk_s hvr r3 zf
    rcases g3 with ⟨gl, ⟨-, hci, fs', rfl, hlen, hfs⟩ | ⟨q, -⟩ | ⟨q, -⟩ | ⟨q, -⟩⟩
    · obtain ⟨co, co2, co3, -⟩ := hCO _ y1
      have hWR2 : e_WR rho ta b L tys (ws.set u.2 (a, .inr (c1.2.1, fs'.set e.2.2.2.1 cv))) (w.1, e_tset 9 w.2 u.2 (some (0, c1.2.1, c1.2.2.1, e_set c1.2.2.2 e.2.2.2.1 v))) := by
        refine hWR.set g2 ⟨gl, Or.inl ⟨rfl, hci, _, rfl, by rw [List.length_set]; exact hlen, fun k hk => ?_⟩⟩
        have hk : k < e_nf c1.2.1 := hk
        by_cases q : k = e.2.2.2.1
        · subst q
          refine ⟨cv, by rw [List.getElem?_set_self (by rw [hlen]; exact hk)], ?_⟩
          show e_VR rho ta b L (e_ads ws) (e_get (e_set c1.2.2.2 e.2.2.2.1 v) e.2.2.2.1 c1.2.2.1) cv
          rw [e_get_set, if_pos rfl]
          exact hvr
        · obtain ⟨cw, f1, f2⟩ := hfs k hk
          refine ⟨cw, by rw [List.getElem?_set_ne (fun z => q z.symm)]; exact f1, ?_⟩
          show e_VR rho ta b L (e_ads ws) (e_get (e_set c1.2.2.2 e.2.2.2.1 v) k c1.2.2.1) cw
          rw [e_get_set, if_neg q]
          exact f2
      have hads : e_ads (ws.set u.2 (a, .inr (c1.2.1, fs'.set e.2.2.2.1 cv))) = e_ads ws := e_ads_set g2
      have kk : ∀ (H1 : Heap) (locs1 : List Loc), va_P D e_cl (ws.set u.2 (a, .inr (e.2.2.1, fs'.set e.2.2.2.1 cv))) H1 → va_D (fun q => n0 ≤ q) (ws.set u.2 (a, .inr (e.2.2.1, fs'.set e.2.2.2.1 cv))) → va_S (fun q => n0 ≤ q) s.heap H1 locs1 → W p l e' R s m args below meth c H1 locs1 I.2.2.1 I.2.2.2.1 (vx_MQ below (e_Qc rho ta b L n0 D N fs ads0) (e_XC rho ta b L n0 D N fs ads0) args s (e_bud I.1).1 (e_bud I.1).2.1 (fun q => n0 ≤ q)) (F0 m (e.1 + 3) ls cst) := by
        intro H1 locs1 hP1 hD1 hS1
        rw [← r2] at hP1 hD1
        exact e_k IH h (by omega) hF ⟨hK0, hP1, hD1, hS1, hWR2⟩ (by rw [hads]; exact hS) (by rw [hads]; exact hL) hI (e_suf hK) (by rw [hads]; exact hA) (e_beq z3)
      rw [r2] at g2 hlen
      by_cases hfin : (e_FT e.2.2.1 e.2.2.2.1).2.2.2 = true
      · rw [if_pos hfin] at z2
        obtain ⟨z2, z4⟩ := e_and2 z2
        obtain ⟨z4, z5⟩ := e_and2 z4
        exact va_putF hF.1 hF.2.1 hts co (e_ty e.2.2.1) co2 co3 hown hK0 hP hD hSS _ g2 (e_cl_at y1) _ y2 (hts _ (e_has_s z2)) (fun _ h9 => h9) hfin (hmn z4) (of_decide_eq_true z5) (co2 _ y2) w1 w2 (by rw [hlen]; exact y2) g kk
      · rw [if_neg hfin] at z2
        have hfin2 : (e_FT e.2.2.1 e.2.2.2.1).2.2.2 = false := by
          cases y : (e_FT e.2.2.1 e.2.2.2.1).2.2.2 with
          | true => exact absurd y hfin
          | false => rfl
        rcases e_or2 z2 with z2 | z2
        · exact va_put hF.1 hF.2.1 hts co (e_ty e.2.2.1) co2 co3 hown hK0 hP hD hSS _ g2 (e_cl_at y1) _ y2 (hts _ (e_has_s z2)) (fun _ h9 => h9) hfin2 (co2 _ y2) w1 w2 (by rw [hlen]; exact y2) g kk
        · exact va_putN hF.1 hF.2.1 hts co (e_ty e.2.2.1) co2 co3 hown hK0 hP hD hSS _ g2 (e_cl_at y1) _ y2 (hGS.use (e_hasH_s z2) args) (fun _ h9 => h9) hfin2 (co2 _ y2) w1 w2 (by rw [hlen]; exact y2) g kk
    · omega
    · omega
    · omega
  · cases hv
end
